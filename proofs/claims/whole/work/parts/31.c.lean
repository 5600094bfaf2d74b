def f_M_shown_15 (u : ms_St) (p1 : Int32) (y0 : Int64) : Int64 := (if p1 = 256 then (let v2 : Int64 := u.2.1 (768 : Int32).toNatClampNeg; let v4 : Int64 := f_M_statusSeen u 0; let v5 : Int64 := v2 &&& v4; let v6 : Int64 := v5 ||| (8589934592 : Int64); let v7 : Int64 := v6 ||| y0; v7) else (if p1 = 260 then (let v9 : Int64 := u.2.1 (772 : Int32).toNatClampNeg; let v10 : Int64 := u.2.1 (771 : Int32).toNatClampNeg; let v11 : Int64 := v9 &&& v10; v11) else (if p1 = 324 then (let v13 : Int64 := u.2.1 (836 : Int32).toNatClampNeg; let v15 : Int64 := f_M_lineBits u; let v16 : Int64 := v13 ||| v15; let v17 : Int64 := u.2.1 (771 : Int32).toNatClampNeg; let v18 : Int64 := v16 &&& v17; v18) else (if p1 = 768 then (let v20 : Int64 := u.2.1 (768 : Int32).toNatClampNeg; let v21 : Int64 := v20 ||| (42949672960 : Int64); let v22 : Int64 := v21 ||| y0; v22) else (if p1 = 769 then (-9223372036853460691) else (if p1 = 836 then (let v25 : Int64 := u.2.1 (836 : Int32).toNatClampNeg; let v27 : Int64 := f_M_lineBits u; let v28 : Int64 := v25 ||| v27; v28) else (if p1 = 3072 then (let v30 : Int64 := u.2.1 (2816 : Int32).toNatClampNeg; v30) else (if p1 = 3073 then (let v32 : Int64 := u.2.2.2 0; v32) else (if p1 = 3074 then (let v34 : Int64 := u.2.1 (2818 : Int32).toNatClampNeg; v34) else (if p1 = 3860 then (let v36 : Int32 := u.1 1; let v37 : Int64 := v36.toInt64; v37) else (let v39 : Int32 := f_M_isThere u p1; (if v39 = 0 then 0 else (let v42 : Int32 := f_M_isElsewhere u p1; (if v42 = 0 then (let v44 : Int64 := u.2.1 p1.toNatClampNeg; v44) else 0))))))))))))))
def f_M_shown (u : ms_St) (p1 : Int32) : Int64 := (let v46 : Int32 := f_M_floating u; (if v46 = 3 then (f_M_shown_15 u p1 (-9223372036854775808)) else (f_M_shown_15 u p1 0)))
set_option maxHeartbeats 4000000 in
set_option maxRecDepth 100000 in
theorem c_M_shown (l : Launch) (D : va_G) (m0 hd ln : Nat) (cH cZ : ClassId) (u : ms_St) (p1 : Int32) (g1 : vp_in p1 4096) : ck_Ml l D [(cH, .long), (cZ, .boolean)] (wm m0 hd ln cH cZ) yn_M_shown w_M_shown rm_M_shown 0 0 [.ref m0, .int p1] u (f_M_shown u p1) u := by
  refine ck_entl (cc := bc_M_shown) (maxL := 4) (ret := (some .long)) (by decide) rfl (Nat.le_of_ble_eq_true rfl) ?_
  intro p e s m below meth c A ls C hnm hP hD hS hl
  have C : ck_C p s m meth c bc_M_shown (some .long) 4 #[.ref m0, .int p1] "ControlDeskModel" A D [(cH, .long), (cZ, .boolean)] := C
  have hl : lv_has ls 4 [(0, .ref m0), (1, .int p1)] := hl
  have hx := C.1
  have hb := C.2.1
  have hown := C.2.2.2.2.1
  have hT := C.2.2.2.2.2.1
  have hK := C.2.2.2.2.2.2.2.1
  have hN := C.2.2.2.2.2.2.2.2.2.2.2.1
  have k15 : ∀ (y0 : Int64) (H : Heap) (locs : List Loc) (ls : Array Slot), va_P D xw_Cl ((wm m0 hd ln cH cZ) u) H → va_D A ((wm m0 hd ln cH cZ) u) → va_S A s.heap H locs → lv_has ls 4 [(0, .ref m0), (1, .int p1)] → f_M_shown u p1 = f_M_shown_15 u p1 y0 → W p l e rm_M_shown s m #[.ref m0, .int p1] below meth c H locs 0 0 (MQ below (va_Ql (fun r2 u2 => r2 = (f_M_shown u p1) ∧ u2 = u) (ck_B D (wm m0 hd ln cH cZ) A) A) #[.ref m0, .int p1] s 0 0 A) (F0 m 15 ls [.long y0]) := by
    intro y0 H locs ls hP hD hS hl hq 
    refine lv_lstore_n (lv' := [(2, .long y0), (0, .ref m0), (1, .int p1)]) hx hb dc_M_shown_15 rfl hl (by decide) rfl (fun ls hl => ?_)
    refine lv_iload_n hx hb dc_M_shown_16 rfl (lv_at hl 2 rfl) ?_
    by_cases c1 : p1 = 256
    · refine lv_lookup (tgt := 123) hx hb dc_M_shown_17 (by decide +kernel) (off := 106) (by rw [c1]; decide +kernel) (by decide) ?_
      refine lv_aload_n hx hb dc_M_shown_123 rfl (lv_at hl 1 rfl) ?_
      refine gm_held C hP dc_M_shown_124 ?_
      refine lv_sipush (v := 768) hx hb dc_M_shown_127 (by decide) ?_
      refine rm_lald C hP (by unfold vp_in; decide) dc_M_shown_130 (fun v2 e2 => ?_)
      refine lv_iconst (v := 0) hx hb dc_M_shown_131 (by decide) ?_
      refine ck_gpl (rest := [.long v2]) C kt_M hP hD hS (ck_runS C kt_M hK (c_M_statusSeen l D m0 hd ln cH cZ u 0  _) (cw_M_51 hT ⟨Nat.le_of_ble_eq_true rfl, Nat.le_of_ble_eq_true rfl⟩) hP hD hS rfl hl.1 rfl (Nat.le_of_ble_eq_true rfl) dc_M_shown_132 ⟨Nat.zero_le _, Nat.zero_le _⟩) (fun v4 H locs e4 hP hD hS => ?_)
      refine xr_land hx hb dc_M_shown_135 (fun v5 e5 => ?_)
      refine lv_ldc2 (v := 8589934592) hx hb hown (hT _ mw_37) dc_M_shown_136 ?_
      refine xr_lor hx hb dc_M_shown_139 (fun v6 e6 => ?_)
      refine lv_lload_n hx hb dc_M_shown_140 rfl (lv_at hl 0 rfl) ?_
      refine xr_lor hx hb dc_M_shown_141 (fun v7 e7 => ?_)
      exact ck_lret (v := v7) C hP hD hS ⟨by subst e2 e4 e5 e6 e7; exact (hq.trans ((if_pos c1))).symm, rfl⟩ dc_M_shown_142
    by_cases c8 : p1 = 260
    · refine lv_lookup (tgt := 147) hx hb dc_M_shown_17 (by decide +kernel) (off := 130) (by rw [c8]; decide +kernel) (by decide) ?_
      refine lv_aload_n hx hb dc_M_shown_147 rfl (lv_at hl 1 rfl) ?_
      refine gm_held C hP dc_M_shown_148 ?_
      refine lv_sipush (v := 772) hx hb dc_M_shown_151 (by decide) ?_
      refine rm_lald C hP (by unfold vp_in; decide) dc_M_shown_154 (fun v9 e9 => ?_)
      refine lv_aload_n hx hb dc_M_shown_155 rfl (lv_at hl 1 rfl) ?_
      refine gm_held C hP dc_M_shown_156 ?_
      refine lv_sipush (v := 771) hx hb dc_M_shown_159 (by decide) ?_
      refine rm_lald C hP (by unfold vp_in; decide) dc_M_shown_162 (fun v10 e10 => ?_)
      refine xr_land hx hb dc_M_shown_163 (fun v11 e11 => ?_)
      exact ck_lret (v := v11) C hP hD hS ⟨by subst e9 e10 e11; exact (hq.trans ((if_neg c1).trans ((if_pos c8)))).symm, rfl⟩ dc_M_shown_164
    by_cases c12 : p1 = 324
    · refine lv_lookup (tgt := 179) hx hb dc_M_shown_17 (by decide +kernel) (off := 162) (by rw [c12]; decide +kernel) (by decide) ?_
      refine lv_aload_n hx hb dc_M_shown_179 rfl (lv_at hl 1 rfl) ?_
      refine gm_held C hP dc_M_shown_180 ?_
      refine lv_sipush (v := 836) hx hb dc_M_shown_183 (by decide) ?_
      refine rm_lald C hP (by unfold vp_in; decide) dc_M_shown_186 (fun v13 e13 => ?_)
      refine lv_aload_n hx hb dc_M_shown_187 rfl (lv_at hl 1 rfl) ?_
      refine ck_gpl (rest := [.long v13]) C kt_M hP hD hS (ck_runV (q0 := 0) C kt_M hK (c_M_lineBits l D m0 hd ln cH cZ u   _) (cw_M_59 hT ⟨Nat.le_of_ble_eq_true rfl, Nat.le_of_ble_eq_true rfl⟩) rfl rfl hP hD hS rfl hl.1 rfl (Nat.le_of_ble_eq_true rfl) dc_M_shown_188 ⟨Nat.zero_le _, Nat.zero_le _⟩) (fun v15 H locs e15 hP hD hS => ?_)
      refine xr_lor hx hb dc_M_shown_191 (fun v16 e16 => ?_)
      refine lv_aload_n hx hb dc_M_shown_192 rfl (lv_at hl 1 rfl) ?_
      refine gm_held C hP dc_M_shown_193 ?_
      refine lv_sipush (v := 771) hx hb dc_M_shown_196 (by decide) ?_
      refine rm_lald C hP (by unfold vp_in; decide) dc_M_shown_199 (fun v17 e17 => ?_)
      refine xr_land hx hb dc_M_shown_200 (fun v18 e18 => ?_)
      exact ck_lret (v := v18) C hP hD hS ⟨by subst e13 e15 e16 e17 e18; exact (hq.trans ((if_neg c1).trans ((if_neg c8).trans ((if_pos c12))))).symm, rfl⟩ dc_M_shown_201
    by_cases c19 : p1 = 768
    · refine lv_lookup (tgt := 108) hx hb dc_M_shown_17 (by decide +kernel) (off := 91) (by rw [c19]; decide +kernel) (by decide) ?_
      refine lv_aload_n hx hb dc_M_shown_108 rfl (lv_at hl 1 rfl) ?_
      refine gm_held C hP dc_M_shown_109 ?_
      refine lv_sipush (v := 768) hx hb dc_M_shown_112 (by decide) ?_
      refine rm_lald C hP (by unfold vp_in; decide) dc_M_shown_115 (fun v20 e20 => ?_)
      refine lv_ldc2 (v := 42949672960) hx hb hown (hT _ mw_38) dc_M_shown_116 ?_
      refine xr_lor hx hb dc_M_shown_119 (fun v21 e21 => ?_)
      refine lv_lload_n hx hb dc_M_shown_120 rfl (lv_at hl 0 rfl) ?_
      refine xr_lor hx hb dc_M_shown_121 (fun v22 e22 => ?_)
      exact ck_lret (v := v22) C hP hD hS ⟨by subst e20 e21 e22; exact (hq.trans ((if_neg c1).trans ((if_neg c8).trans ((if_neg c12).trans ((if_pos c19)))))).symm, rfl⟩ dc_M_shown_122
    by_cases c23 : p1 = 769
    · refine lv_lookup (tgt := 143) hx hb dc_M_shown_17 (by decide +kernel) (off := 126) (by rw [c23]; decide +kernel) (by decide) ?_
      refine lv_ldc2 (v := (-9223372036853460691)) hx hb hown (hT _ mw_39) dc_M_shown_143 ?_
      exact ck_lret (v := (-9223372036853460691)) C hP hD hS ⟨by exact (hq.trans ((if_neg c1).trans ((if_neg c8).trans ((if_neg c12).trans ((if_neg c19).trans ((if_pos c23))))))).symm, rfl⟩ dc_M_shown_146
    by_cases c24 : p1 = 836
    · refine lv_lookup (tgt := 165) hx hb dc_M_shown_17 (by decide +kernel) (off := 148) (by rw [c24]; decide +kernel) (by decide) ?_
      refine lv_aload_n hx hb dc_M_shown_165 rfl (lv_at hl 1 rfl) ?_
      refine gm_held C hP dc_M_shown_166 ?_
      refine lv_sipush (v := 836) hx hb dc_M_shown_169 (by decide) ?_
      refine rm_lald C hP (by unfold vp_in; decide) dc_M_shown_172 (fun v25 e25 => ?_)
      refine lv_aload_n hx hb dc_M_shown_173 rfl (lv_at hl 1 rfl) ?_
      refine ck_gpl (rest := [.long v25]) C kt_M hP hD hS (ck_runV (q0 := 0) C kt_M hK (c_M_lineBits l D m0 hd ln cH cZ u   _) (cw_M_59 hT ⟨Nat.le_of_ble_eq_true rfl, Nat.le_of_ble_eq_true rfl⟩) rfl rfl hP hD hS rfl hl.1 rfl (Nat.le_of_ble_eq_true rfl) dc_M_shown_174 ⟨Nat.zero_le _, Nat.zero_le _⟩) (fun v27 H locs e27 hP hD hS => ?_)
      refine xr_lor hx hb dc_M_shown_177 (fun v28 e28 => ?_)
      exact ck_lret (v := v28) C hP hD hS ⟨by subst e25 e27 e28; exact (hq.trans ((if_neg c1).trans ((if_neg c8).trans ((if_neg c12).trans ((if_neg c19).trans ((if_neg c23).trans ((if_pos c24)))))))).symm, rfl⟩ dc_M_shown_178
    by_cases c29 : p1 = 3072
    · refine lv_lookup (tgt := 208) hx hb dc_M_shown_17 (by decide +kernel) (off := 191) (by rw [c29]; decide +kernel) (by decide) ?_
      refine lv_aload_n hx hb dc_M_shown_208 rfl (lv_at hl 1 rfl) ?_
      refine gm_held C hP dc_M_shown_209 ?_
      refine lv_sipush (v := 2816) hx hb dc_M_shown_212 (by decide) ?_
      refine rm_lald C hP (by unfold vp_in; decide) dc_M_shown_215 (fun v30 e30 => ?_)
      exact ck_lret (v := v30) C hP hD hS ⟨by subst e30; exact (hq.trans ((if_neg c1).trans ((if_neg c8).trans ((if_neg c12).trans ((if_neg c19).trans ((if_neg c23).trans ((if_neg c24).trans ((if_pos c29))))))))).symm, rfl⟩ dc_M_shown_216
    by_cases c31 : p1 = 3073
    · refine lv_lookup (tgt := 217) hx hb dc_M_shown_17 (by decide +kernel) (off := 200) (by rw [c31]; decide +kernel) (by decide) ?_
      refine lv_aload_n hx hb dc_M_shown_217 rfl (lv_at hl 1 rfl) ?_
      refine gm_time C hP dc_M_shown_218 (fun v32 e32 => ?_)
      exact ck_lret (v := v32) C hP hD hS ⟨by subst e32; exact (hq.trans ((if_neg c1).trans ((if_neg c8).trans ((if_neg c12).trans ((if_neg c19).trans ((if_neg c23).trans ((if_neg c24).trans ((if_neg c29).trans ((if_pos c31)))))))))).symm, rfl⟩ dc_M_shown_221
    by_cases c33 : p1 = 3074
    · refine lv_lookup (tgt := 222) hx hb dc_M_shown_17 (by decide +kernel) (off := 205) (by rw [c33]; decide +kernel) (by decide) ?_
      refine lv_aload_n hx hb dc_M_shown_222 rfl (lv_at hl 1 rfl) ?_
      refine gm_held C hP dc_M_shown_223 ?_
      refine lv_sipush (v := 2818) hx hb dc_M_shown_226 (by decide) ?_
      refine rm_lald C hP (by unfold vp_in; decide) dc_M_shown_229 (fun v34 e34 => ?_)
      exact ck_lret (v := v34) C hP hD hS ⟨by subst e34; exact (hq.trans ((if_neg c1).trans ((if_neg c8).trans ((if_neg c12).trans ((if_neg c19).trans ((if_neg c23).trans ((if_neg c24).trans ((if_neg c29).trans ((if_neg c31).trans ((if_pos c33))))))))))).symm, rfl⟩ dc_M_shown_230
    by_cases c35 : p1 = 3860
    · refine lv_lookup (tgt := 202) hx hb dc_M_shown_17 (by decide +kernel) (off := 185) (by rw [c35]; decide +kernel) (by decide) ?_
      refine lv_aload_n hx hb dc_M_shown_202 rfl (lv_at hl 1 rfl) ?_
      refine gm_processor C hP dc_M_shown_203 (fun v36 e36 => ?_)
      refine xr_i2l hx hb dc_M_shown_206 (fun v37 e37 => ?_)
      exact ck_lret (v := v37) C hP hD hS ⟨by subst e36 e37; exact (hq.trans ((if_neg c1).trans ((if_neg c8).trans ((if_neg c12).trans ((if_neg c19).trans ((if_neg c23).trans ((if_neg c24).trans ((if_neg c29).trans ((if_neg c31).trans ((if_neg c33).trans ((if_pos c35)))))))))))).symm, rfl⟩ dc_M_shown_207
    refine lv_lookup (tgt := 231) hx hb dc_M_shown_17 (by decide +kernel) (off := 214) ((lv_osw (a := 256) c1 (by decide)).trans ((lv_osw (a := 260) c8 (by decide)).trans ((lv_osw (a := 324) c12 (by decide)).trans ((lv_osw (a := 768) c19 (by decide)).trans ((lv_osw (a := 769) c23 (by decide)).trans ((lv_osw (a := 836) c24 (by decide)).trans ((lv_osw (a := 3072) c29 (by decide)).trans ((lv_osw (a := 3073) c31 (by decide)).trans ((lv_osw (a := 3074) c33 (by decide)).trans ((lv_osw (a := 3860) c35 (by decide)).trans (rfl))))))))))) (by decide) ?_
    refine lv_iload_n hx hb dc_M_shown_231 rfl (lv_at hl 2 rfl) ?_
    refine ck_gpi (rest := []) C kt_M hP hD hS (ck_runS C kt_M hK (c_M_isThere l D m0 hd ln cH cZ u p1  _) (cw_M_67 hT ⟨Nat.le_of_ble_eq_true rfl, Nat.le_of_ble_eq_true rfl⟩) hP hD hS rfl hl.1 rfl (Nat.le_of_ble_eq_true rfl) dc_M_shown_232 ⟨Nat.zero_le _, Nat.zero_le _⟩) (fun v39 H locs e39 hP hD hS => ?_)
    refine lv_if_eq (tgt := 254) hx hb dc_M_shown_235 (by decide) (fun c40 => ?_) (fun c40 => ?_)
    · refine lv_lconst (v := 0) hx hb dc_M_shown_254 (by decide) ?_
      exact ck_lret (v := 0) C hP hD hS ⟨by subst e39; exact (hq.trans ((if_neg c1).trans ((if_neg c8).trans ((if_neg c12).trans ((if_neg c19).trans ((if_neg c23).trans ((if_neg c24).trans ((if_neg c29).trans ((if_neg c31).trans ((if_neg c33).trans ((if_neg c35).trans ((if_pos c40))))))))))))).symm, rfl⟩ dc_M_shown_255
    · refine lv_iload_n hx hb dc_M_shown_238 rfl (lv_at hl 2 rfl) ?_
      refine ck_gpi (rest := []) C kt_M hP hD hS (ck_runS C kt_M hK (c_M_isElsewhere l D m0 hd ln cH cZ u p1  _) (cw_M_41 hT ⟨Nat.le_of_ble_eq_true rfl, Nat.le_of_ble_eq_true rfl⟩) hP hD hS rfl hl.1 rfl (Nat.le_of_ble_eq_true rfl) dc_M_shown_239 ⟨Nat.zero_le _, Nat.zero_le _⟩) (fun v42 H locs e42 hP hD hS => ?_)
      refine lv_if_ne (tgt := 254) hx hb dc_M_shown_242 (by decide) (fun c43 => ?_) (fun c43 => ?_)
      · refine lv_lconst (v := 0) hx hb dc_M_shown_254 (by decide) ?_
        exact ck_lret (v := 0) C hP hD hS ⟨by subst e39 e42; exact (hq.trans ((if_neg c1).trans ((if_neg c8).trans ((if_neg c12).trans ((if_neg c19).trans ((if_neg c23).trans ((if_neg c24).trans ((if_neg c29).trans ((if_neg c31).trans ((if_neg c33).trans ((if_neg c35).trans ((if_neg c40).trans ((if_neg c43)))))))))))))).symm, rfl⟩ dc_M_shown_255
      · refine lv_aload_n hx hb dc_M_shown_245 rfl (lv_at hl 1 rfl) ?_
        refine gm_held C hP dc_M_shown_246 ?_
        refine lv_iload_n hx hb dc_M_shown_249 rfl (lv_at hl 2 rfl) ?_
        refine rm_lald C hP (g1) dc_M_shown_250 (fun v44 e44 => ?_)
        refine lv_goto (tgt := 255) hx hb dc_M_shown_251 (by decide) ?_
        exact ck_lret (v := v44) C hP hD hS ⟨by subst e39 e42 e44; exact (hq.trans ((if_neg c1).trans ((if_neg c8).trans ((if_neg c12).trans ((if_neg c19).trans ((if_neg c23).trans ((if_neg c24).trans ((if_neg c29).trans ((if_neg c31).trans ((if_neg c33).trans ((if_neg c35).trans ((if_neg c40).trans ((if_pos c43)))))))))))))).symm, rfl⟩ dc_M_shown_255
  -- from the entry
  refine lv_aload_n hx hb dc_M_shown_0 rfl (lv_at hl 0 rfl) ?_
  refine ck_gpi (rest := []) C kt_M hP hD hS (ck_runV (q0 := 0) C kt_M hK (c_M_floating l D m0 hd ln cH cZ u   _) (cw_M_44 hT ⟨Nat.le_of_ble_eq_true rfl, Nat.le_of_ble_eq_true rfl⟩) rfl rfl hP hD hS rfl hl.1 rfl (Nat.le_of_ble_eq_true rfl) dc_M_shown_1 ⟨Nat.zero_le _, Nat.zero_le _⟩) (fun v46 H locs e46 hP hD hS => ?_)
  refine lv_iconst (v := 3) hx hb dc_M_shown_4 (by decide) ?_
  refine lv_icmp_ne (tgt := 14) hx hb dc_M_shown_5 (by decide) (fun c47 => ?_) (fun c47 => ?_)
  · refine lv_lconst (v := 0) hx hb dc_M_shown_14 (by decide) ?_
    exact k15 0 _ _ _ hP hD hS (lv_sub hl [0, 1] rfl) (by subst e46; exact (if_neg c47))
  · refine lv_ldc2 (v := (-9223372036854775808)) hx hb hown (hT _ mw_40) dc_M_shown_8 ?_
    refine lv_goto (tgt := 15) hx hb dc_M_shown_11 (by decide) ?_
    exact k15 (-9223372036854775808) _ _ _ hP hD hS (lv_sub hl [0, 1] rfl) (by subst e46; exact (if_pos c47))
def f_M_peek (u0 : ms_St) (p1 : Int32) : Int64 × ms_St := (let w1 : ms_St := (upd u0.1 0 0, u0.2); (if p1 < 0 then (0, w1) else (if p1 ≤ 4095 then (let v5 : Int64 := f_M_shown w1 p1; (v5, w1)) else (0, w1))))
set_option maxHeartbeats 4000000 in
set_option maxRecDepth 100000 in
theorem c_M_peek (l : Launch) (D : va_G) (m0 hd ln : Nat) (cH cZ : ClassId) (u0 : ms_St) (p1 : Int32)  : ck_Ml l D [(cH, .long), (cZ, .boolean)] (wm m0 hd ln cH cZ) yn_M_peek w_M_peek rm_M_peek 0 0 [.ref m0, .int p1] u0 (f_M_peek u0 p1).1 (f_M_peek u0 p1).2 := by
  refine ck_entl (cc := bc_M_peek) (maxL := 2) (ret := (some .long)) (by decide) rfl (Nat.le_of_ble_eq_true rfl) ?_
  intro p e s m below meth c A ls C hnm hP hD hS hl
  have C : ck_C p s m meth c bc_M_peek (some .long) 2 #[.ref m0, .int p1] "ControlDeskModel" A D [(cH, .long), (cZ, .boolean)] := C
  have hl : lv_has ls 2 [(0, .ref m0), (1, .int p1)] := hl
  have hx := C.1
  have hb := C.2.1
  have hown := C.2.2.2.2.1
  have hT := C.2.2.2.2.2.1
  have hK := C.2.2.2.2.2.2.2.1
  have hN := C.2.2.2.2.2.2.2.2.2.2.2.1
  -- from the entry
  refine lv_aload_n hx hb dc_M_peek_0 rfl (lv_at hl 0 rfl) ?_
  refine lv_iconst (v := 0) hx hb dc_M_peek_1 (by decide) ?_
  refine pm_thrown C hP hD hS dc_M_peek_2 (fun w1 H locs ew1 hP hD hS => ?_)
  refine lv_iload_n hx hb dc_M_peek_5 rfl (lv_at hl 1 rfl) ?_
  refine lv_if_lt (tgt := 16) hx hb dc_M_peek_6 (by decide) (fun c2 => ?_) (fun c2 => ?_)
  · refine lv_lconst (v := 0) hx hb dc_M_peek_16 (by decide) ?_
    refine lv_goto (tgt := 25) hx hb dc_M_peek_17 (by decide) ?_
    exact ck_lret (v := 0) C hP hD hS (by subst ew1; exact ck_pair ((if_pos c2))) dc_M_peek_25
  · refine lv_iload_n hx hb dc_M_peek_9 rfl (lv_at hl 1 rfl) ?_
    refine lv_sipush (v := 4095) hx hb dc_M_peek_10 (by decide) ?_
    refine lv_icmp_le (tgt := 20) hx hb dc_M_peek_13 (by decide) (fun c3 => ?_) (fun c3 => ?_)
    · refine lv_aload_n hx hb dc_M_peek_20 rfl (lv_at hl 0 rfl) ?_
      refine lv_iload_n hx hb dc_M_peek_21 rfl (lv_at hl 1 rfl) ?_
      refine ck_gpl (rest := []) C kt_M hP hD hS (ck_runV (q0 := 0) C kt_M hK (c_M_shown l D m0 hd ln cH cZ w1 p1 (lp_rng c2 c3) _) (cw_M_70 hT ⟨Nat.le_of_ble_eq_true rfl, Nat.le_of_ble_eq_true rfl⟩) rfl rfl hP hD hS rfl hl.1 rfl (Nat.le_of_ble_eq_true rfl) dc_M_peek_22 ⟨Nat.zero_le _, Nat.zero_le _⟩) (fun v5 H locs e5 hP hD hS => ?_)
      exact ck_lret (v := v5) C hP hD hS (by subst ew1 e5; exact ck_pair ((if_neg c2).trans ((if_pos c3)))) dc_M_peek_25
    · refine lv_lconst (v := 0) hx hb dc_M_peek_16 (by decide) ?_
      refine lv_goto (tgt := 25) hx hb dc_M_peek_17 (by decide) ?_
      exact ck_lret (v := 0) C hP hD hS (by subst ew1; exact ck_pair ((if_neg c2).trans ((if_neg c3)))) dc_M_peek_25
def f_M_through (u0 : ms_St) (p1 : Int32) (p2 : Int64) (p3 : Int64) : ms_St := (let v1 : Int64 := u0.2.1 p1.toNatClampNeg; let v2 : Int64 := p2 ^^^ (-1 : Int64); let v3 : Int64 := v1 &&& v2; let v4 : Int64 := p3 &&& p2; let v5 : Int64 := v3 ||| v4; let w6 : ms_St := (u0.1, vp_updL u0.2.1 p1.toNatClampNeg v5, u0.2.2); w6)
set_option maxHeartbeats 4000000 in
set_option maxRecDepth 100000 in
theorem c_M_through (l : Launch) (D : va_G) (m0 hd ln : Nat) (cH cZ : ClassId) (u0 : ms_St) (p1 : Int32) (p2 : Int64) (p3 : Int64) (g1 : vp_in p1 4096) : ck_Mv l D [(cH, .long), (cZ, .boolean)] (wm m0 hd ln cH cZ) yn_M_through w_M_through rm_M_through 0 0 [.ref m0, .int p1, .long p2, .long p3] u0 (f_M_through u0 p1 p2 p3) := by
  refine ck_entv (cc := bc_M_through) (maxL := 6) (ret := none) (by decide) rfl (Nat.le_of_ble_eq_true rfl) ?_
  intro p e s m below meth c A ls C hnm hP hD hS hl
  have C : ck_C p s m meth c bc_M_through none 6 #[.ref m0, .int p1, .long p2, .long p3] "ControlDeskModel" A D [(cH, .long), (cZ, .boolean)] := C
  have hl : lv_has ls 6 [(0, .ref m0), (1, .int p1), (2, .long p2), (4, .long p3)] := hl
  have hx := C.1
  have hb := C.2.1
  have hown := C.2.2.2.2.1
  have hT := C.2.2.2.2.2.1
  have hK := C.2.2.2.2.2.2.2.1
  have hN := C.2.2.2.2.2.2.2.2.2.2.2.1
  -- from the entry
  refine lv_aload_n hx hb dc_M_through_0 rfl (lv_at hl 0 rfl) ?_
  refine gm_held C hP dc_M_through_1 ?_
  refine lv_iload_n hx hb dc_M_through_4 rfl (lv_at hl 1 rfl) ?_
  refine lv_aload_n hx hb dc_M_through_5 rfl (lv_at hl 0 rfl) ?_
  refine gm_held C hP dc_M_through_6 ?_
  refine lv_iload_n hx hb dc_M_through_9 rfl (lv_at hl 1 rfl) ?_
  refine rm_lald C hP (g1) dc_M_through_10 (fun v1 e1 => ?_)
  refine lv_lload_n hx hb dc_M_through_11 rfl (lv_at hl 2 rfl) ?_
  refine lv_ldc2 (v := (-1)) hx hb hown (hT _ mw_36) dc_M_through_12 ?_
  refine xr_lxor hx hb dc_M_through_15 (fun v2 e2 => ?_)
  refine xr_land hx hb dc_M_through_16 (fun v3 e3 => ?_)
  refine lv_lload hx hb dc_M_through_17 (lv_at hl 3 rfl) ?_
  refine lv_lload_n hx hb dc_M_through_19 rfl (lv_at hl 2 rfl) ?_
  refine xr_land hx hb dc_M_through_20 (fun v4 e4 => ?_)
  refine xr_lor hx hb dc_M_through_21 (fun v5 e5 => ?_)
  refine rm_last C hP hD hS (g1) dc_M_through_22 (fun w6 H locs ew6 hP hD hS => ?_)
  exact ck_vret C hP hD hS (by subst e1 e2 e3 e4 e5 ew6; exact (rfl).symm) dc_M_through_23
def f_M_writeStatus (u0 : ms_St) (p1 : Int64) (p2 : Int64) : ms_St := (let v2 : Int32 := f_M_below u0; let w3 : ms_St := f_M_through u0 768 p1 p2; let v5 : Int32 := f_M_below w3; (if v5 = 2 then (let v7 : Int32 := v2 - v2 / (2 : Int32) * (2 : Int32); let w8 : ms_St := f_M_put w3 11 v7; let v9 : Int32 := v2 / (2 : Int32); let w10 : ms_St := f_M_put w8 12 v9; w10) else w3))
set_option maxHeartbeats 4000000 in
set_option maxRecDepth 100000 in
theorem c_M_writeStatus (l : Launch) (D : va_G) (m0 hd ln : Nat) (cH cZ : ClassId) (u0 : ms_St) (p1 : Int64) (p2 : Int64)  : ck_Mv l D [(cH, .long), (cZ, .boolean)] (wm m0 hd ln cH cZ) yn_M_writeStatus w_M_writeStatus rm_M_writeStatus 0 0 [.ref m0, .long p1, .long p2] u0 (f_M_writeStatus u0 p1 p2) := by
  refine ck_entv (cc := bc_M_writeStatus) (maxL := 6) (ret := none) (by decide) rfl (Nat.le_of_ble_eq_true rfl) ?_
  intro p e s m below meth c A ls C hnm hP hD hS hl
  have C : ck_C p s m meth c bc_M_writeStatus none 6 #[.ref m0, .long p1, .long p2] "ControlDeskModel" A D [(cH, .long), (cZ, .boolean)] := C
  have hl : lv_has ls 6 [(0, .ref m0), (1, .long p1), (3, .long p2)] := hl
  have hx := C.1
  have hb := C.2.1
  have hown := C.2.2.2.2.1
  have hT := C.2.2.2.2.2.1
  have hK := C.2.2.2.2.2.2.2.1
  have hN := C.2.2.2.2.2.2.2.2.2.2.2.1
  -- from the entry
  refine lv_aload_n hx hb dc_M_writeStatus_0 rfl (lv_at hl 0 rfl) ?_
  refine ck_gpi (rest := []) C kt_M hP hD hS (ck_runV (q0 := 0) C kt_M hK (c_M_below l D m0 hd ln cH cZ u0   _) (cw_M_33 hT ⟨Nat.le_of_ble_eq_true rfl, Nat.le_of_ble_eq_true rfl⟩) rfl rfl hP hD hS rfl hl.1 rfl (Nat.le_of_ble_eq_true rfl) dc_M_writeStatus_1 ⟨Nat.zero_le _, Nat.zero_le _⟩) (fun v2 H locs e2 hP hD hS => ?_)
  refine lv_istore (lv' := [(5, .int v2), (0, .ref m0), (1, .long p1), (3, .long p2)]) hx hb dc_M_writeStatus_4 hl (by decide) rfl (fun ls hl => ?_)
  refine lv_aload_n hx hb dc_M_writeStatus_6 rfl (lv_at hl 1 rfl) ?_
  refine lv_sipush (v := 768) hx hb dc_M_writeStatus_7 (by decide) ?_
  refine lv_lload_n hx hb dc_M_writeStatus_10 rfl (lv_at hl 2 rfl) ?_
  refine lv_lload_n hx hb dc_M_writeStatus_11 rfl (lv_at hl 3 rfl) ?_
  refine ck_gov (rest := []) C kt_M hP hD hS (ck_runV (q0 := 0) C kt_M hK (c_M_through l D m0 hd ln cH cZ u0 768 p1 p2 (by unfold vp_in; decide) _) (cw_M_74 hT ⟨Nat.le_of_ble_eq_true rfl, Nat.le_of_ble_eq_true rfl⟩) rfl rfl hP hD hS rfl hl.1 rfl (Nat.le_of_ble_eq_true rfl) dc_M_writeStatus_12 ⟨Nat.zero_le _, Nat.zero_le _⟩) (fun w3 H locs ew3 hP hD hS => ?_)
  refine lv_aload_n hx hb dc_M_writeStatus_15 rfl (lv_at hl 1 rfl) ?_
  refine ck_gpi (rest := []) C kt_M hP hD hS (ck_runV (q0 := 0) C kt_M hK (c_M_below l D m0 hd ln cH cZ w3   _) (cw_M_33 hT ⟨Nat.le_of_ble_eq_true rfl, Nat.le_of_ble_eq_true rfl⟩) rfl rfl hP hD hS rfl hl.1 rfl (Nat.le_of_ble_eq_true rfl) dc_M_writeStatus_16 ⟨Nat.zero_le _, Nat.zero_le _⟩) (fun v5 H locs e5 hP hD hS => ?_)
  refine lv_iconst (v := 2) hx hb dc_M_writeStatus_19 (by decide) ?_
  refine lv_icmp_ne (tgt := 43) hx hb dc_M_writeStatus_20 (by decide) (fun c6 => ?_) (fun c6 => ?_)
  · exact ck_vret C hP hD hS (by subst e2 ew3 e5; exact ((if_neg c6)).symm) dc_M_writeStatus_43
  · refine lv_aload_n hx hb dc_M_writeStatus_23 rfl (lv_at hl 1 rfl) ?_
    refine lv_bipush (v := 11) hx hb dc_M_writeStatus_24 (by decide) ?_
    refine lv_iload hx hb dc_M_writeStatus_26 (lv_at hl 0 rfl) ?_
    refine lv_iconst (v := 2) hx hb dc_M_writeStatus_28 (by decide) ?_
    refine xr_irem hx hb dc_M_writeStatus_29 (by decide) (fun v7 e7 => ?_)
    refine ck_gov (rest := []) C kt_M hP hD hS (ck_runV (q0 := 0) C kt_M hK (c_M_put l D m0 hd ln cH cZ w3 11 v7  _) (cw_M_78 hT ⟨Nat.le_of_ble_eq_true rfl, Nat.le_of_ble_eq_true rfl⟩) rfl rfl hP hD hS rfl hl.1 rfl (Nat.le_of_ble_eq_true rfl) dc_M_writeStatus_30 ⟨Nat.zero_le _, Nat.zero_le _⟩) (fun w8 H locs ew8 hP hD hS => ?_)
    refine lv_aload_n hx hb dc_M_writeStatus_33 rfl (lv_at hl 1 rfl) ?_
    refine lv_bipush (v := 12) hx hb dc_M_writeStatus_34 (by decide) ?_
    refine lv_iload hx hb dc_M_writeStatus_36 (lv_at hl 0 rfl) ?_
    refine lv_iconst (v := 2) hx hb dc_M_writeStatus_38 (by decide) ?_
    refine xr_idiv hx hb dc_M_writeStatus_39 (by decide) (fun v9 e9 => ?_)
    refine ck_gov (rest := []) C kt_M hP hD hS (ck_runV (q0 := 0) C kt_M hK (c_M_put l D m0 hd ln cH cZ w8 12 v9  _) (cw_M_78 hT ⟨Nat.le_of_ble_eq_true rfl, Nat.le_of_ble_eq_true rfl⟩) rfl rfl hP hD hS rfl hl.1 rfl (Nat.le_of_ble_eq_true rfl) dc_M_writeStatus_40 ⟨Nat.zero_le _, Nat.zero_le _⟩) (fun w10 H locs ew10 hP hD hS => ?_)
    exact ck_vret C hP hD hS (by subst e2 ew3 e5 e7 ew8 e9 ew10; exact ((if_pos c6)).symm) dc_M_writeStatus_43
def f_M_write_342 (u : ms_St) (p1 : Int32) (p2 : Int64) (y2 : Int64) : ms_St := (let w1 : ms_St := f_M_through u p1 y2 p2; w1)
def f_M_write (u0 : ms_St) (p1 : Int32) (p2 : Int64) : ms_St := (if p1 = 256 then (let v4 : Int64 := f_M_statusSeen u0 0; let w5 : ms_St := f_M_writeStatus u0 v4 p2; w5) else (if p1 = 260 then (let v7 : Int64 := u0.2.1 (771 : Int32).toNatClampNeg; let w8 : ms_St := f_M_through u0 772 v7 p2; w8) else (if p1 = 261 then (let w10 : ms_St := f_M_through u0 p1 (-3) p2; w10) else (if p1 = 262 then (let w12 : ms_St := f_M_through u0 p1 7 p2; w12) else (if p1 = 321 then (let w14 : ms_St := f_M_through u0 p1 (-2) p2; w14) else (if p1 = 324 then (let v16 : Int64 := u0.2.1 (771 : Int32).toNatClampNeg; let v17 : Int64 := v16 &&& (2 : Int64); let w18 : ms_St := f_M_through u0 836 v17 p2; w18) else (if p1 = 384 then (let v20 : Int64 := p2 >>> ((60 : Int32).toInt64 &&& 63); let v21 : Int64 := v20 &&& (15 : Int64); let v22 : Int32 := lg_cmp v21 (0 : Int64); (if v22 = 0 then (f_M_write_342 u0 p1 p2 (-1)) else (let v24 : Int32 := lg_cmp v21 (8 : Int64); (if v24 = 0 then (f_M_write_342 u0 p1 p2 (-1)) else (let v26 : Int32 := lg_cmp v21 (9 : Int64); (if v26 = 0 then (f_M_write_342 u0 p1 p2 (-1)) else (f_M_write_342 u0 p1 p2 0))))))) else (if p1 = 768 then (let v30 : Int64 := f_M_statusSeen u0 1; let w31 : ms_St := f_M_writeStatus u0 v30 p2; w31) else (if p1 = 769 then u0 else (if p1 = 770 then (let w34 : ms_St := f_M_through u0 770 46079 p2; w34) else (if p1 = 771 then (let w36 : ms_St := f_M_through u0 771 546 p2; w36) else (if p1 = 772 then (let w38 : ms_St := f_M_through u0 772 2730 p2; w38) else (if p1 = 773 then (let w40 : ms_St := f_M_through u0 p1 (-3) p2; w40) else (if p1 = 774 then (let w42 : ms_St := f_M_through u0 p1 7 p2; w42) else (if p1 = 833 then (let w44 : ms_St := f_M_through u0 p1 (-2) p2; w44) else (if p1 = 836 then (let w46 : ms_St := f_M_through u0 836 546 p2; w46) else (let w47 : ms_St := (u0.1, vp_updL u0.2.1 p1.toNatClampNeg p2, u0.2.2); w47)))))))))))))))))
set_option maxHeartbeats 4000000 in
set_option maxRecDepth 100000 in
theorem c_M_write (l : Launch) (D : va_G) (m0 hd ln : Nat) (cH cZ : ClassId) (u0 : ms_St) (p1 : Int32) (p2 : Int64) (g1 : vp_in p1 4096) : ck_Mv l D [(cH, .long), (cZ, .boolean)] (wm m0 hd ln cH cZ) yn_M_write w_M_write rm_M_write 0 0 [.ref m0, .int p1, .long p2] u0 (f_M_write u0 p1 p2) := by
  refine ck_entv (cc := bc_M_write) (maxL := 6) (ret := none) (by decide) rfl (Nat.le_of_ble_eq_true rfl) ?_
  intro p e s m below meth c A ls C hnm hP hD hS hl
  have C : ck_C p s m meth c bc_M_write none 6 #[.ref m0, .int p1, .long p2] "ControlDeskModel" A D [(cH, .long), (cZ, .boolean)] := C
  have hl : lv_has ls 6 [(0, .ref m0), (1, .int p1), (2, .long p2)] := hl
  have hx := C.1
  have hb := C.2.1
  have hown := C.2.2.2.2.1
  have hT := C.2.2.2.2.2.1
  have hK := C.2.2.2.2.2.2.2.1
  have hN := C.2.2.2.2.2.2.2.2.2.2.2.1
  have k342 : ∀ (u : ms_St) (y2 : Int64) (H : Heap) (locs : List Loc) (ls : Array Slot), va_P D xw_Cl ((wm m0 hd ln cH cZ) u) H → va_D A ((wm m0 hd ln cH cZ) u) → va_S A s.heap H locs → lv_has ls 6 [(2, .long p2)] → f_M_write u0 p1 p2 = f_M_write_342 u p1 p2 y2 → W p l e rm_M_write s m #[.ref m0, .int p1, .long p2] below meth c H locs 0 0 (MQ below (va_Qv (fun u2 => u2 = (f_M_write u0 p1 p2)) (ck_B D (wm m0 hd ln cH cZ) A) A) #[.ref m0, .int p1, .long p2] s 0 0 A) (F0 m 342 ls [.long y2, .int p1, .ref m0]) := by
    intro u y2 H locs ls hP hD hS hl hq 
    refine lv_lload_n hx hb dc_M_write_342 rfl (lv_at hl 0 rfl) ?_
    refine ck_gov (rest := []) C kt_M hP hD hS (ck_runV (q0 := 0) C kt_M hK (c_M_through l D m0 hd ln cH cZ u p1 y2 p2 g1 _) (cw_M_74 hT ⟨Nat.le_of_ble_eq_true rfl, Nat.le_of_ble_eq_true rfl⟩) rfl rfl hP hD hS rfl hl.1 rfl (Nat.le_of_ble_eq_true rfl) dc_M_write_343 ⟨Nat.zero_le _, Nat.zero_le _⟩) (fun w1 H locs ew1 hP hD hS => ?_)
    refine lv_goto (tgt := 359) hx hb dc_M_write_346 (by decide) ?_
    exact ck_vret C hP hD hS (by subst ew1; exact (hq.trans (rfl)).symm) dc_M_write_359
  -- from the entry
  refine lv_iload_n hx hb dc_M_write_0 rfl (lv_at hl 1 rfl) ?_
  by_cases c2 : p1 = 256
  · refine lv_lookup (tgt := 152) hx hb dc_M_write_1 (by decide +kernel) (off := 151) (by rw [c2]; decide +kernel) (by decide) ?_
    refine lv_aload_n hx hb dc_M_write_152 rfl (lv_at hl 0 rfl) ?_
    refine lv_iconst (v := 0) hx hb dc_M_write_153 (by decide) ?_
    refine ck_gpl (rest := [.ref m0]) C kt_M hP hD hS (ck_runS C kt_M hK (c_M_statusSeen l D m0 hd ln cH cZ u0 0  _) (cw_M_51 hT ⟨Nat.le_of_ble_eq_true rfl, Nat.le_of_ble_eq_true rfl⟩) hP hD hS rfl hl.1 rfl (Nat.le_of_ble_eq_true rfl) dc_M_write_154 ⟨Nat.zero_le _, Nat.zero_le _⟩) (fun v4 H locs e4 hP hD hS => ?_)
    refine lv_lload_n hx hb dc_M_write_157 rfl (lv_at hl 2 rfl) ?_
    refine ck_gov (rest := []) C kt_M hP hD hS (ck_runV (q0 := 0) C kt_M hK (c_M_writeStatus l D m0 hd ln cH cZ u0 v4 p2  _) (cw_M_82 hT ⟨Nat.le_of_ble_eq_true rfl, Nat.le_of_ble_eq_true rfl⟩) rfl rfl hP hD hS rfl hl.1 rfl (Nat.le_of_ble_eq_true rfl) dc_M_write_158 ⟨Nat.zero_le _, Nat.zero_le _⟩) (fun w5 H locs ew5 hP hD hS => ?_)
    refine lv_goto (tgt := 359) hx hb dc_M_write_161 (by decide) ?_
    exact ck_vret C hP hD hS (by subst e4 ew5; exact ((if_pos c2)).symm) dc_M_write_359
  by_cases c6 : p1 = 260
  · refine lv_lookup (tgt := 206) hx hb dc_M_write_1 (by decide +kernel) (off := 205) (by rw [c6]; decide +kernel) (by decide) ?_
    refine lv_aload_n hx hb dc_M_write_206 rfl (lv_at hl 0 rfl) ?_
    refine lv_sipush (v := 772) hx hb dc_M_write_207 (by decide) ?_
    refine lv_aload_n hx hb dc_M_write_210 rfl (lv_at hl 0 rfl) ?_
    refine gm_held C hP dc_M_write_211 ?_
    refine lv_sipush (v := 771) hx hb dc_M_write_214 (by decide) ?_
    refine rm_lald C hP (by unfold vp_in; decide) dc_M_write_217 (fun v7 e7 => ?_)
    refine lv_lload_n hx hb dc_M_write_218 rfl (lv_at hl 2 rfl) ?_
    refine ck_gov (rest := []) C kt_M hP hD hS (ck_runV (q0 := 0) C kt_M hK (c_M_through l D m0 hd ln cH cZ u0 772 v7 p2 (by unfold vp_in; decide) _) (cw_M_74 hT ⟨Nat.le_of_ble_eq_true rfl, Nat.le_of_ble_eq_true rfl⟩) rfl rfl hP hD hS rfl hl.1 rfl (Nat.le_of_ble_eq_true rfl) dc_M_write_219 ⟨Nat.zero_le _, Nat.zero_le _⟩) (fun w8 H locs ew8 hP hD hS => ?_)
    refine lv_goto (tgt := 359) hx hb dc_M_write_222 (by decide) ?_
    exact ck_vret C hP hD hS (by subst e7 ew8; exact ((if_neg c2).trans ((if_pos c6))).symm) dc_M_write_359
  by_cases c9 : p1 = 261
  · refine lv_lookup (tgt := 262) hx hb dc_M_write_1 (by decide +kernel) (off := 261) (by rw [c9]; decide +kernel) (by decide) ?_
    refine lv_aload_n hx hb dc_M_write_262 rfl (lv_at hl 0 rfl) ?_
    refine lv_iload_n hx hb dc_M_write_263 rfl (lv_at hl 1 rfl) ?_
    refine lv_ldc2 (v := (-3)) hx hb hown (hT _ mw_41) dc_M_write_264 ?_
    refine lv_lload_n hx hb dc_M_write_267 rfl (lv_at hl 2 rfl) ?_
    refine ck_gov (rest := []) C kt_M hP hD hS (ck_runV (q0 := 0) C kt_M hK (c_M_through l D m0 hd ln cH cZ u0 p1 (-3) p2 g1 _) (cw_M_74 hT ⟨Nat.le_of_ble_eq_true rfl, Nat.le_of_ble_eq_true rfl⟩) rfl rfl hP hD hS rfl hl.1 rfl (Nat.le_of_ble_eq_true rfl) dc_M_write_268 ⟨Nat.zero_le _, Nat.zero_le _⟩) (fun w10 H locs ew10 hP hD hS => ?_)
    refine lv_goto (tgt := 359) hx hb dc_M_write_271 (by decide) ?_
    exact ck_vret C hP hD hS (by subst ew10; exact ((if_neg c2).trans ((if_neg c6).trans ((if_pos c9)))).symm) dc_M_write_359
  by_cases c11 : p1 = 262
  · refine lv_lookup (tgt := 286) hx hb dc_M_write_1 (by decide +kernel) (off := 285) (by rw [c11]; decide +kernel) (by decide) ?_
    refine lv_aload_n hx hb dc_M_write_286 rfl (lv_at hl 0 rfl) ?_
    refine lv_iload_n hx hb dc_M_write_287 rfl (lv_at hl 1 rfl) ?_
    refine lv_ldc2 (v := 7) hx hb hown (hT _ mw_42) dc_M_write_288 ?_
    refine lv_lload_n hx hb dc_M_write_291 rfl (lv_at hl 2 rfl) ?_
    refine ck_gov (rest := []) C kt_M hP hD hS (ck_runV (q0 := 0) C kt_M hK (c_M_through l D m0 hd ln cH cZ u0 p1 7 p2 g1 _) (cw_M_74 hT ⟨Nat.le_of_ble_eq_true rfl, Nat.le_of_ble_eq_true rfl⟩) rfl rfl hP hD hS rfl hl.1 rfl (Nat.le_of_ble_eq_true rfl) dc_M_write_292 ⟨Nat.zero_le _, Nat.zero_le _⟩) (fun w12 H locs ew12 hP hD hS => ?_)
    refine lv_goto (tgt := 359) hx hb dc_M_write_295 (by decide) ?_
    exact ck_vret C hP hD hS (by subst ew12; exact ((if_neg c2).trans ((if_neg c6).trans ((if_neg c9).trans ((if_pos c11))))).symm) dc_M_write_359
  by_cases c13 : p1 = 321
  · refine lv_lookup (tgt := 274) hx hb dc_M_write_1 (by decide +kernel) (off := 273) (by rw [c13]; decide +kernel) (by decide) ?_
    refine lv_aload_n hx hb dc_M_write_274 rfl (lv_at hl 0 rfl) ?_
    refine lv_iload_n hx hb dc_M_write_275 rfl (lv_at hl 1 rfl) ?_
    refine lv_ldc2 (v := (-2)) hx hb hown (hT _ mw_43) dc_M_write_276 ?_
    refine lv_lload_n hx hb dc_M_write_279 rfl (lv_at hl 2 rfl) ?_
    refine ck_gov (rest := []) C kt_M hP hD hS (ck_runV (q0 := 0) C kt_M hK (c_M_through l D m0 hd ln cH cZ u0 p1 (-2) p2 g1 _) (cw_M_74 hT ⟨Nat.le_of_ble_eq_true rfl, Nat.le_of_ble_eq_true rfl⟩) rfl rfl hP hD hS rfl hl.1 rfl (Nat.le_of_ble_eq_true rfl) dc_M_write_280 ⟨Nat.zero_le _, Nat.zero_le _⟩) (fun w14 H locs ew14 hP hD hS => ?_)
    refine lv_goto (tgt := 359) hx hb dc_M_write_283 (by decide) ?_
    exact ck_vret C hP hD hS (by subst ew14; exact ((if_neg c2).trans ((if_neg c6).trans ((if_neg c9).trans ((if_neg c11).trans ((if_pos c13)))))).symm) dc_M_write_359
  by_cases c15 : p1 = 324
  · refine lv_lookup (tgt := 239) hx hb dc_M_write_1 (by decide +kernel) (off := 238) (by rw [c15]; decide +kernel) (by decide) ?_
    refine lv_aload_n hx hb dc_M_write_239 rfl (lv_at hl 0 rfl) ?_
    refine lv_sipush (v := 836) hx hb dc_M_write_240 (by decide) ?_
    refine lv_aload_n hx hb dc_M_write_243 rfl (lv_at hl 0 rfl) ?_
    refine gm_held C hP dc_M_write_244 ?_
    refine lv_sipush (v := 771) hx hb dc_M_write_247 (by decide) ?_
    refine rm_lald C hP (by unfold vp_in; decide) dc_M_write_250 (fun v16 e16 => ?_)
    refine lv_ldc2 (v := 2) hx hb hown (hT _ mw_44) dc_M_write_251 ?_
    refine xr_land hx hb dc_M_write_254 (fun v17 e17 => ?_)
    refine lv_lload_n hx hb dc_M_write_255 rfl (lv_at hl 2 rfl) ?_
    refine ck_gov (rest := []) C kt_M hP hD hS (ck_runV (q0 := 0) C kt_M hK (c_M_through l D m0 hd ln cH cZ u0 836 v17 p2 (by unfold vp_in; decide) _) (cw_M_74 hT ⟨Nat.le_of_ble_eq_true rfl, Nat.le_of_ble_eq_true rfl⟩) rfl rfl hP hD hS rfl hl.1 rfl (Nat.le_of_ble_eq_true rfl) dc_M_write_256 ⟨Nat.zero_le _, Nat.zero_le _⟩) (fun w18 H locs ew18 hP hD hS => ?_)
    refine lv_goto (tgt := 359) hx hb dc_M_write_259 (by decide) ?_
    exact ck_vret C hP hD hS (by subst e16 e17 ew18; exact ((if_neg c2).trans ((if_neg c6).trans ((if_neg c9).trans ((if_neg c11).trans ((if_neg c13).trans ((if_pos c15))))))).symm) dc_M_write_359
  by_cases c19 : p1 = 384
  · refine lv_lookup (tgt := 298) hx hb dc_M_write_1 (by decide +kernel) (off := 297) (by rw [c19]; decide +kernel) (by decide) ?_
    refine lv_lload_n hx hb dc_M_write_298 rfl (lv_at hl 2 rfl) ?_
    refine lv_bipush (v := 60) hx hb dc_M_write_299 (by decide) ?_
    refine xr_lshr hx hb dc_M_write_301 (fun v20 e20 => ?_)
    refine lv_ldc2 (v := 15) hx hb hown (hT _ mw_45) dc_M_write_302 ?_
    refine xr_land hx hb dc_M_write_305 (fun v21 e21 => ?_)
    refine lv_lstore (lv' := [(4, .long v21), (0, .ref m0), (1, .int p1), (2, .long p2)]) hx hb dc_M_write_306 hl (by decide) rfl (fun ls hl => ?_)
    refine lv_aload_n hx hb dc_M_write_308 rfl (lv_at hl 1 rfl) ?_
    refine lv_iload_n hx hb dc_M_write_309 rfl (lv_at hl 2 rfl) ?_
    refine lv_lload hx hb dc_M_write_310 (lv_at hl 0 rfl) ?_
    refine lv_lconst (v := 0) hx hb dc_M_write_312 (by decide) ?_
    refine xr_lcmp hx hb dc_M_write_313 (fun v22 e22 => ?_)
    refine lv_if_eq (tgt := 335) hx hb dc_M_write_314 (by decide) (fun c23 => ?_) (fun c23 => ?_)
    · refine lv_ldc2 (v := (-1)) hx hb hown (hT _ mw_36) dc_M_write_335 ?_
      refine lv_goto (tgt := 342) hx hb dc_M_write_338 (by decide) ?_
      exact k342 u0 (-1) _ _ _ hP hD hS (lv_sub hl [3] rfl) (by subst e20 e21 e22; exact (if_neg c2).trans ((if_neg c6).trans ((if_neg c9).trans ((if_neg c11).trans ((if_neg c13).trans ((if_neg c15).trans ((if_pos c19).trans ((if_pos c23)))))))))
    · refine lv_lload hx hb dc_M_write_317 (lv_at hl 0 rfl) ?_
      refine lv_ldc2 (v := 8) hx hb hown (hT _ mw_46) dc_M_write_319 ?_
      refine xr_lcmp hx hb dc_M_write_322 (fun v24 e24 => ?_)
      refine lv_if_eq (tgt := 335) hx hb dc_M_write_323 (by decide) (fun c25 => ?_) (fun c25 => ?_)
      · refine lv_ldc2 (v := (-1)) hx hb hown (hT _ mw_36) dc_M_write_335 ?_
        refine lv_goto (tgt := 342) hx hb dc_M_write_338 (by decide) ?_
        exact k342 u0 (-1) _ _ _ hP hD hS (lv_sub hl [3] rfl) (by subst e20 e21 e22 e24; exact (if_neg c2).trans ((if_neg c6).trans ((if_neg c9).trans ((if_neg c11).trans ((if_neg c13).trans ((if_neg c15).trans ((if_pos c19).trans ((if_neg c23).trans ((if_pos c25))))))))))
      · refine lv_lload hx hb dc_M_write_326 (lv_at hl 0 rfl) ?_
        refine lv_ldc2 (v := 9) hx hb hown (hT _ mw_47) dc_M_write_328 ?_
        refine xr_lcmp hx hb dc_M_write_331 (fun v26 e26 => ?_)
        refine lv_if_ne (tgt := 341) hx hb dc_M_write_332 (by decide) (fun c27 => ?_) (fun c27 => ?_)
        · refine lv_lconst (v := 0) hx hb dc_M_write_341 (by decide) ?_
          exact k342 u0 0 _ _ _ hP hD hS (lv_sub hl [3] rfl) (by subst e20 e21 e22 e24 e26; exact (if_neg c2).trans ((if_neg c6).trans ((if_neg c9).trans ((if_neg c11).trans ((if_neg c13).trans ((if_neg c15).trans ((if_pos c19).trans ((if_neg c23).trans ((if_neg c25).trans ((if_neg c27)))))))))))
        · refine lv_ldc2 (v := (-1)) hx hb hown (hT _ mw_36) dc_M_write_335 ?_
          refine lv_goto (tgt := 342) hx hb dc_M_write_338 (by decide) ?_
          exact k342 u0 (-1) _ _ _ hP hD hS (lv_sub hl [3] rfl) (by subst e20 e21 e22 e24 e26; exact (if_neg c2).trans ((if_neg c6).trans ((if_neg c9).trans ((if_neg c11).trans ((if_neg c13).trans ((if_neg c15).trans ((if_pos c19).trans ((if_neg c23).trans ((if_neg c25).trans ((if_pos c27)))))))))))
  by_cases c28 : p1 = 768
  · refine lv_lookup (tgt := 140) hx hb dc_M_write_1 (by decide +kernel) (off := 139) (by rw [c28]; decide +kernel) (by decide) ?_
    refine lv_aload_n hx hb dc_M_write_140 rfl (lv_at hl 0 rfl) ?_
    refine lv_iconst (v := 1) hx hb dc_M_write_141 (by decide) ?_
    refine ck_gpl (rest := [.ref m0]) C kt_M hP hD hS (ck_runS C kt_M hK (c_M_statusSeen l D m0 hd ln cH cZ u0 1  _) (cw_M_51 hT ⟨Nat.le_of_ble_eq_true rfl, Nat.le_of_ble_eq_true rfl⟩) hP hD hS rfl hl.1 rfl (Nat.le_of_ble_eq_true rfl) dc_M_write_142 ⟨Nat.zero_le _, Nat.zero_le _⟩) (fun v30 H locs e30 hP hD hS => ?_)
    refine lv_lload_n hx hb dc_M_write_145 rfl (lv_at hl 2 rfl) ?_
    refine ck_gov (rest := []) C kt_M hP hD hS (ck_runV (q0 := 0) C kt_M hK (c_M_writeStatus l D m0 hd ln cH cZ u0 v30 p2  _) (cw_M_82 hT ⟨Nat.le_of_ble_eq_true rfl, Nat.le_of_ble_eq_true rfl⟩) rfl rfl hP hD hS rfl hl.1 rfl (Nat.le_of_ble_eq_true rfl) dc_M_write_146 ⟨Nat.zero_le _, Nat.zero_le _⟩) (fun w31 H locs ew31 hP hD hS => ?_)
    refine lv_goto (tgt := 359) hx hb dc_M_write_149 (by decide) ?_
    exact ck_vret C hP hD hS (by subst e30 ew31; exact ((if_neg c2).trans ((if_neg c6).trans ((if_neg c9).trans ((if_neg c11).trans ((if_neg c13).trans ((if_neg c15).trans ((if_neg c19).trans ((if_pos c28))))))))).symm) dc_M_write_359
  by_cases c32 : p1 = 769
  · refine lv_lookup (tgt := 349) hx hb dc_M_write_1 (by decide +kernel) (off := 348) (by rw [c32]; decide +kernel) (by decide) ?_
    refine lv_goto (tgt := 359) hx hb dc_M_write_349 (by decide) ?_
    exact ck_vret C hP hD hS (by exact ((if_neg c2).trans ((if_neg c6).trans ((if_neg c9).trans ((if_neg c11).trans ((if_neg c13).trans ((if_neg c15).trans ((if_neg c19).trans ((if_neg c28).trans ((if_pos c32)))))))))).symm) dc_M_write_359
  by_cases c33 : p1 = 770
  · refine lv_lookup (tgt := 164) hx hb dc_M_write_1 (by decide +kernel) (off := 163) (by rw [c33]; decide +kernel) (by decide) ?_
    refine lv_aload_n hx hb dc_M_write_164 rfl (lv_at hl 0 rfl) ?_
    refine lv_sipush (v := 770) hx hb dc_M_write_165 (by decide) ?_
    refine lv_ldc2 (v := 46079) hx hb hown (hT _ mw_48) dc_M_write_168 ?_
    refine lv_lload_n hx hb dc_M_write_171 rfl (lv_at hl 2 rfl) ?_
    refine ck_gov (rest := []) C kt_M hP hD hS (ck_runV (q0 := 0) C kt_M hK (c_M_through l D m0 hd ln cH cZ u0 770 46079 p2 (by unfold vp_in; decide) _) (cw_M_74 hT ⟨Nat.le_of_ble_eq_true rfl, Nat.le_of_ble_eq_true rfl⟩) rfl rfl hP hD hS rfl hl.1 rfl (Nat.le_of_ble_eq_true rfl) dc_M_write_172 ⟨Nat.zero_le _, Nat.zero_le _⟩) (fun w34 H locs ew34 hP hD hS => ?_)
    refine lv_goto (tgt := 359) hx hb dc_M_write_175 (by decide) ?_
    exact ck_vret C hP hD hS (by subst ew34; exact ((if_neg c2).trans ((if_neg c6).trans ((if_neg c9).trans ((if_neg c11).trans ((if_neg c13).trans ((if_neg c15).trans ((if_neg c19).trans ((if_neg c28).trans ((if_neg c32).trans ((if_pos c33))))))))))).symm) dc_M_write_359
  by_cases c35 : p1 = 771
  · refine lv_lookup (tgt := 178) hx hb dc_M_write_1 (by decide +kernel) (off := 177) (by rw [c35]; decide +kernel) (by decide) ?_
    refine lv_aload_n hx hb dc_M_write_178 rfl (lv_at hl 0 rfl) ?_
    refine lv_sipush (v := 771) hx hb dc_M_write_179 (by decide) ?_
    refine lv_ldc2 (v := 546) hx hb hown (hT _ mw_49) dc_M_write_182 ?_
    refine lv_lload_n hx hb dc_M_write_185 rfl (lv_at hl 2 rfl) ?_
    refine ck_gov (rest := []) C kt_M hP hD hS (ck_runV (q0 := 0) C kt_M hK (c_M_through l D m0 hd ln cH cZ u0 771 546 p2 (by unfold vp_in; decide) _) (cw_M_74 hT ⟨Nat.le_of_ble_eq_true rfl, Nat.le_of_ble_eq_true rfl⟩) rfl rfl hP hD hS rfl hl.1 rfl (Nat.le_of_ble_eq_true rfl) dc_M_write_186 ⟨Nat.zero_le _, Nat.zero_le _⟩) (fun w36 H locs ew36 hP hD hS => ?_)
    refine lv_goto (tgt := 359) hx hb dc_M_write_189 (by decide) ?_
    exact ck_vret C hP hD hS (by subst ew36; exact ((if_neg c2).trans ((if_neg c6).trans ((if_neg c9).trans ((if_neg c11).trans ((if_neg c13).trans ((if_neg c15).trans ((if_neg c19).trans ((if_neg c28).trans ((if_neg c32).trans ((if_neg c33).trans ((if_pos c35)))))))))))).symm) dc_M_write_359
  by_cases c37 : p1 = 772
  · refine lv_lookup (tgt := 192) hx hb dc_M_write_1 (by decide +kernel) (off := 191) (by rw [c37]; decide +kernel) (by decide) ?_
    refine lv_aload_n hx hb dc_M_write_192 rfl (lv_at hl 0 rfl) ?_
    refine lv_sipush (v := 772) hx hb dc_M_write_193 (by decide) ?_
    refine lv_ldc2 (v := 2730) hx hb hown (hT _ mw_50) dc_M_write_196 ?_
    refine lv_lload_n hx hb dc_M_write_199 rfl (lv_at hl 2 rfl) ?_
    refine ck_gov (rest := []) C kt_M hP hD hS (ck_runV (q0 := 0) C kt_M hK (c_M_through l D m0 hd ln cH cZ u0 772 2730 p2 (by unfold vp_in; decide) _) (cw_M_74 hT ⟨Nat.le_of_ble_eq_true rfl, Nat.le_of_ble_eq_true rfl⟩) rfl rfl hP hD hS rfl hl.1 rfl (Nat.le_of_ble_eq_true rfl) dc_M_write_200 ⟨Nat.zero_le _, Nat.zero_le _⟩) (fun w38 H locs ew38 hP hD hS => ?_)
    refine lv_goto (tgt := 359) hx hb dc_M_write_203 (by decide) ?_
    exact ck_vret C hP hD hS (by subst ew38; exact ((if_neg c2).trans ((if_neg c6).trans ((if_neg c9).trans ((if_neg c11).trans ((if_neg c13).trans ((if_neg c15).trans ((if_neg c19).trans ((if_neg c28).trans ((if_neg c32).trans ((if_neg c33).trans ((if_neg c35).trans ((if_pos c37))))))))))))).symm) dc_M_write_359
  by_cases c39 : p1 = 773
  · refine lv_lookup (tgt := 262) hx hb dc_M_write_1 (by decide +kernel) (off := 261) (by rw [c39]; decide +kernel) (by decide) ?_
    refine lv_aload_n hx hb dc_M_write_262 rfl (lv_at hl 0 rfl) ?_
    refine lv_iload_n hx hb dc_M_write_263 rfl (lv_at hl 1 rfl) ?_
    refine lv_ldc2 (v := (-3)) hx hb hown (hT _ mw_41) dc_M_write_264 ?_
    refine lv_lload_n hx hb dc_M_write_267 rfl (lv_at hl 2 rfl) ?_
    refine ck_gov (rest := []) C kt_M hP hD hS (ck_runV (q0 := 0) C kt_M hK (c_M_through l D m0 hd ln cH cZ u0 p1 (-3) p2 g1 _) (cw_M_74 hT ⟨Nat.le_of_ble_eq_true rfl, Nat.le_of_ble_eq_true rfl⟩) rfl rfl hP hD hS rfl hl.1 rfl (Nat.le_of_ble_eq_true rfl) dc_M_write_268 ⟨Nat.zero_le _, Nat.zero_le _⟩) (fun w40 H locs ew40 hP hD hS => ?_)
    refine lv_goto (tgt := 359) hx hb dc_M_write_271 (by decide) ?_
    exact ck_vret C hP hD hS (by subst ew40; exact ((if_neg c2).trans ((if_neg c6).trans ((if_neg c9).trans ((if_neg c11).trans ((if_neg c13).trans ((if_neg c15).trans ((if_neg c19).trans ((if_neg c28).trans ((if_neg c32).trans ((if_neg c33).trans ((if_neg c35).trans ((if_neg c37).trans ((if_pos c39)))))))))))))).symm) dc_M_write_359
  by_cases c41 : p1 = 774
  · refine lv_lookup (tgt := 286) hx hb dc_M_write_1 (by decide +kernel) (off := 285) (by rw [c41]; decide +kernel) (by decide) ?_
    refine lv_aload_n hx hb dc_M_write_286 rfl (lv_at hl 0 rfl) ?_
    refine lv_iload_n hx hb dc_M_write_287 rfl (lv_at hl 1 rfl) ?_
    refine lv_ldc2 (v := 7) hx hb hown (hT _ mw_42) dc_M_write_288 ?_
    refine lv_lload_n hx hb dc_M_write_291 rfl (lv_at hl 2 rfl) ?_
    refine ck_gov (rest := []) C kt_M hP hD hS (ck_runV (q0 := 0) C kt_M hK (c_M_through l D m0 hd ln cH cZ u0 p1 7 p2 g1 _) (cw_M_74 hT ⟨Nat.le_of_ble_eq_true rfl, Nat.le_of_ble_eq_true rfl⟩) rfl rfl hP hD hS rfl hl.1 rfl (Nat.le_of_ble_eq_true rfl) dc_M_write_292 ⟨Nat.zero_le _, Nat.zero_le _⟩) (fun w42 H locs ew42 hP hD hS => ?_)
    refine lv_goto (tgt := 359) hx hb dc_M_write_295 (by decide) ?_
    exact ck_vret C hP hD hS (by subst ew42; exact ((if_neg c2).trans ((if_neg c6).trans ((if_neg c9).trans ((if_neg c11).trans ((if_neg c13).trans ((if_neg c15).trans ((if_neg c19).trans ((if_neg c28).trans ((if_neg c32).trans ((if_neg c33).trans ((if_neg c35).trans ((if_neg c37).trans ((if_neg c39).trans ((if_pos c41))))))))))))))).symm) dc_M_write_359
  by_cases c43 : p1 = 833
  · refine lv_lookup (tgt := 274) hx hb dc_M_write_1 (by decide +kernel) (off := 273) (by rw [c43]; decide +kernel) (by decide) ?_
    refine lv_aload_n hx hb dc_M_write_274 rfl (lv_at hl 0 rfl) ?_
    refine lv_iload_n hx hb dc_M_write_275 rfl (lv_at hl 1 rfl) ?_
    refine lv_ldc2 (v := (-2)) hx hb hown (hT _ mw_43) dc_M_write_276 ?_
    refine lv_lload_n hx hb dc_M_write_279 rfl (lv_at hl 2 rfl) ?_
    refine ck_gov (rest := []) C kt_M hP hD hS (ck_runV (q0 := 0) C kt_M hK (c_M_through l D m0 hd ln cH cZ u0 p1 (-2) p2 g1 _) (cw_M_74 hT ⟨Nat.le_of_ble_eq_true rfl, Nat.le_of_ble_eq_true rfl⟩) rfl rfl hP hD hS rfl hl.1 rfl (Nat.le_of_ble_eq_true rfl) dc_M_write_280 ⟨Nat.zero_le _, Nat.zero_le _⟩) (fun w44 H locs ew44 hP hD hS => ?_)
    refine lv_goto (tgt := 359) hx hb dc_M_write_283 (by decide) ?_
    exact ck_vret C hP hD hS (by subst ew44; exact ((if_neg c2).trans ((if_neg c6).trans ((if_neg c9).trans ((if_neg c11).trans ((if_neg c13).trans ((if_neg c15).trans ((if_neg c19).trans ((if_neg c28).trans ((if_neg c32).trans ((if_neg c33).trans ((if_neg c35).trans ((if_neg c37).trans ((if_neg c39).trans ((if_neg c41).trans ((if_pos c43)))))))))))))))).symm) dc_M_write_359
  by_cases c45 : p1 = 836
  · refine lv_lookup (tgt := 225) hx hb dc_M_write_1 (by decide +kernel) (off := 224) (by rw [c45]; decide +kernel) (by decide) ?_
    refine lv_aload_n hx hb dc_M_write_225 rfl (lv_at hl 0 rfl) ?_
    refine lv_sipush (v := 836) hx hb dc_M_write_226 (by decide) ?_
    refine lv_ldc2 (v := 546) hx hb hown (hT _ mw_49) dc_M_write_229 ?_
    refine lv_lload_n hx hb dc_M_write_232 rfl (lv_at hl 2 rfl) ?_
    refine ck_gov (rest := []) C kt_M hP hD hS (ck_runV (q0 := 0) C kt_M hK (c_M_through l D m0 hd ln cH cZ u0 836 546 p2 (by unfold vp_in; decide) _) (cw_M_74 hT ⟨Nat.le_of_ble_eq_true rfl, Nat.le_of_ble_eq_true rfl⟩) rfl rfl hP hD hS rfl hl.1 rfl (Nat.le_of_ble_eq_true rfl) dc_M_write_233 ⟨Nat.zero_le _, Nat.zero_le _⟩) (fun w46 H locs ew46 hP hD hS => ?_)
    refine lv_goto (tgt := 359) hx hb dc_M_write_236 (by decide) ?_
    exact ck_vret C hP hD hS (by subst ew46; exact ((if_neg c2).trans ((if_neg c6).trans ((if_neg c9).trans ((if_neg c11).trans ((if_neg c13).trans ((if_neg c15).trans ((if_neg c19).trans ((if_neg c28).trans ((if_neg c32).trans ((if_neg c33).trans ((if_neg c35).trans ((if_neg c37).trans ((if_neg c39).trans ((if_neg c41).trans ((if_neg c43).trans ((if_pos c45))))))))))))))))).symm) dc_M_write_359
  refine lv_lookup (tgt := 352) hx hb dc_M_write_1 (by decide +kernel) (off := 351) ((lv_osw (a := 256) c2 (by decide)).trans ((lv_osw (a := 260) c6 (by decide)).trans ((lv_osw (a := 261) c9 (by decide)).trans ((lv_osw (a := 262) c11 (by decide)).trans ((lv_osw (a := 321) c13 (by decide)).trans ((lv_osw (a := 324) c15 (by decide)).trans ((lv_osw (a := 384) c19 (by decide)).trans ((lv_osw (a := 768) c28 (by decide)).trans ((lv_osw (a := 769) c32 (by decide)).trans ((lv_osw (a := 770) c33 (by decide)).trans ((lv_osw (a := 771) c35 (by decide)).trans ((lv_osw (a := 772) c37 (by decide)).trans ((lv_osw (a := 773) c39 (by decide)).trans ((lv_osw (a := 774) c41 (by decide)).trans ((lv_osw (a := 833) c43 (by decide)).trans ((lv_osw (a := 836) c45 (by decide)).trans (rfl))))))))))))))))) (by decide) ?_
  refine lv_aload_n hx hb dc_M_write_352 rfl (lv_at hl 0 rfl) ?_
  refine gm_held C hP dc_M_write_353 ?_
  refine lv_iload_n hx hb dc_M_write_356 rfl (lv_at hl 1 rfl) ?_
  refine lv_lload_n hx hb dc_M_write_357 rfl (lv_at hl 2 rfl) ?_
  refine rm_last C hP hD hS (g1) dc_M_write_358 (fun w47 H locs ew47 hP hD hS => ?_)
  exact ck_vret C hP hD hS (by subst ew47; exact ((if_neg c2).trans ((if_neg c6).trans ((if_neg c9).trans ((if_neg c11).trans ((if_neg c13).trans ((if_neg c15).trans ((if_neg c19).trans ((if_neg c28).trans ((if_neg c32).trans ((if_neg c33).trans ((if_neg c35).trans ((if_neg c37).trans ((if_neg c39).trans ((if_neg c41).trans ((if_neg c43).trans ((if_neg c45))))))))))))))))).symm) dc_M_write_359
