def f_M_isIllegal_163 (u : ms_St) (p1 : Int32) (p2 : Int32) (x3 : Int32) (x4 : Int32) : Int32 := (if x3 = 0 then (if x4 = 0 then 0 else 1) else 1)
def f_M_isIllegal_133 (u : ms_St) (p1 : Int32) (p2 : Int32) (x3 : Int32) (x5 : Int64) : Int32 := (let v3 : Int32 := u.1 2; (if v3 = 0 then (let v5 : Int64 := u.2.1 (262 : Int32).toNatClampNeg; let v6 : Int64 := v5 &&& x5; let v7 : Int32 := lg_cmp v6 (0 : Int64); (if v7 = 0 then (f_M_isIllegal_163 u p1 p2 x3 1) else (f_M_isIllegal_163 u p1 p2 x3 0))) else (f_M_isIllegal_163 u p1 p2 x3 0)))
def f_M_isIllegal_86 (u : ms_St) (p1 : Int32) (p2 : Int32) (x3 : Int32) (y0 : Int32) : Int32 := (let v10 : Int32 := f_M_isCount u p1; (if v10 = 0 then (f_M_isIllegal_163 u p1 p2 x3 y0) else (let v12 : Int32 := p1 - (3072 : Int32); let v13 : Int64 := (1 : Int64) <<< (v12.toInt64 &&& 63); (if y0 = 0 then (let v15 : Int32 := u.1 2; (if 3 ≤ v15 then (f_M_isIllegal_133 u p1 p2 x3 v13) else (let v17 : Int64 := u.2.1 (774 : Int32).toNatClampNeg; let v18 : Int64 := v17 &&& v13; let v19 : Int32 := lg_cmp v18 (0 : Int64); (if v19 = 0 then (f_M_isIllegal_163 u p1 p2 x3 1) else (f_M_isIllegal_133 u p1 p2 x3 v13))))) else (f_M_isIllegal_163 u p1 p2 x3 1)))))
def f_M_isIllegal_65 (u : ms_St) (p1 : Int32) (p2 : Int32) (x3 : Int32) : Int32 := (if p1 ≤ 0 then (f_M_isIllegal_86 u p1 p2 x3 0) else (if 4 ≤ p1 then (f_M_isIllegal_86 u p1 p2 x3 0) else (let v24 : Int32 := f_M_floating u; (if v24 = 0 then (f_M_isIllegal_86 u p1 p2 x3 1) else (f_M_isIllegal_86 u p1 p2 x3 0)))))
def f_M_isIllegal_39 (u : ms_St) (p1 : Int32) (p2 : Int32) (y0 : Int32) : Int32 := (if p1 = 384 then (let v27 : Int32 := u.1 2; (if v27 = 1 then (let v30 : Int32 := f_M_status u 20; (if v30 = 1 then (f_M_isIllegal_86 u p1 p2 y0 1) else (f_M_isIllegal_65 u p1 p2 y0))) else (f_M_isIllegal_65 u p1 p2 y0))) else (f_M_isIllegal_65 u p1 p2 y0))
def f_M_isIllegal (u : ms_St) (p1 : Int32) (p2 : Int32) : Int32 := (let v33 : Int32 := f_M_isThere u p1; (if v33 = 0 then (f_M_isIllegal_39 u p1 p2 1) else (let v35 : Int32 := p1 >>> ((8 : Int32) &&& 31); let v36 : Int32 := v35 &&& (3 : Int32); let v37 : Int32 := u.1 2; (if v37 < v36 then (f_M_isIllegal_39 u p1 p2 1) else (if p2 = 0 then (f_M_isIllegal_39 u p1 p2 0) else (let v40 : Int32 := p1 >>> ((10 : Int32) &&& 31); let v41 : Int32 := v40 &&& (3 : Int32); (if v41 = 3 then (f_M_isIllegal_39 u p1 p2 1) else (f_M_isIllegal_39 u p1 p2 0))))))))
set_option maxHeartbeats 4000000 in
set_option maxRecDepth 100000 in
theorem c_M_isIllegal (l : Launch) (D : va_G) (m0 hd ln : Nat) (cH cZ : ClassId) (u : ms_St) (p1 : Int32) (p2 : Int32)  : ck_Mi l D [(cH, .long), (cZ, .boolean)] (wm m0 hd ln cH cZ) yn_M_isIllegal w_M_isIllegal rm_M_isIllegal 0 0 [.ref m0, .int p1, .int p2] u (f_M_isIllegal u p1 p2) u := by
  refine ck_enti (cc := bc_M_isIllegal) (maxL := 7) (ret := (some .boolean)) (by decide) rfl (Nat.le_of_ble_eq_true rfl) ?_
  intro p e s m below meth c A ls C hnm hP hD hS hl
  have C : ck_C p s m meth c bc_M_isIllegal (some .boolean) 7 #[.ref m0, .int p1, .int p2] "ControlDeskModel" A D [(cH, .long), (cZ, .boolean)] := C
  have hl : lv_has ls 7 [(0, .ref m0), (1, .int p1), (2, .int p2)] := hl
  have hx := C.1
  have hb := C.2.1
  have hown := C.2.2.2.2.1
  have hT := C.2.2.2.2.2.1
  have hK := C.2.2.2.2.2.2.2.1
  have hN := C.2.2.2.2.2.2.2.2.2.2.2.1
  have k163 : ∀ (x3 : Int32) (x4 : Int32) (H : Heap) (locs : List Loc) (ls : Array Slot), va_P D xw_Cl ((wm m0 hd ln cH cZ) u) H → va_D A ((wm m0 hd ln cH cZ) u) → va_S A s.heap H locs → lv_has ls 7 [(3, .int x3), (4, .int x4)] → f_M_isIllegal u p1 p2 = f_M_isIllegal_163 u p1 p2 x3 x4 → W p l e rm_M_isIllegal s m #[.ref m0, .int p1, .int p2] below meth c H locs 0 0 (MQ below (va_Qi (fun r2 u2 => r2 = (f_M_isIllegal u p1 p2) ∧ u2 = u) (ck_B D (wm m0 hd ln cH cZ) A) A) #[.ref m0, .int p1, .int p2] s 0 0 A) (F0 m 163 ls []) := by
    intro x3 x4 H locs ls hP hD hS hl hq 
    refine lv_iload_n hx hb dc_M_isIllegal_163 rfl (lv_at hl 0 rfl) ?_
    refine lv_if_ne (tgt := 172) hx hb dc_M_isIllegal_164 (by decide) (fun c1 => ?_) (fun c1 => ?_)
    · refine lv_iconst (v := 1) hx hb dc_M_isIllegal_172 (by decide) ?_
      refine lv_goto (tgt := 177) hx hb dc_M_isIllegal_173 (by decide) ?_
      exact ck_zret (v := 1) C hP hD hS rfl ⟨by exact (hq.trans ((if_neg c1))).symm, rfl⟩ dc_M_isIllegal_177
    · refine lv_iload hx hb dc_M_isIllegal_167 (lv_at hl 1 rfl) ?_
      refine lv_if_eq (tgt := 176) hx hb dc_M_isIllegal_169 (by decide) (fun c2 => ?_) (fun c2 => ?_)
      · refine lv_iconst (v := 0) hx hb dc_M_isIllegal_176 (by decide) ?_
        exact ck_zret (v := 0) C hP hD hS rfl ⟨by exact (hq.trans ((if_pos c1).trans ((if_pos c2)))).symm, rfl⟩ dc_M_isIllegal_177
      · refine lv_iconst (v := 1) hx hb dc_M_isIllegal_172 (by decide) ?_
        refine lv_goto (tgt := 177) hx hb dc_M_isIllegal_173 (by decide) ?_
        exact ck_zret (v := 1) C hP hD hS rfl ⟨by exact (hq.trans ((if_pos c1).trans ((if_neg c2)))).symm, rfl⟩ dc_M_isIllegal_177
  have k133 : ∀ (x3 : Int32) (x5 : Int64) (H : Heap) (locs : List Loc) (ls : Array Slot), va_P D xw_Cl ((wm m0 hd ln cH cZ) u) H → va_D A ((wm m0 hd ln cH cZ) u) → va_S A s.heap H locs → lv_has ls 7 [(0, .ref m0), (3, .int x3), (5, .long x5)] → f_M_isIllegal u p1 p2 = f_M_isIllegal_133 u p1 p2 x3 x5 → W p l e rm_M_isIllegal s m #[.ref m0, .int p1, .int p2] below meth c H locs 0 0 (MQ below (va_Qi (fun r2 u2 => r2 = (f_M_isIllegal u p1 p2) ∧ u2 = u) (ck_B D (wm m0 hd ln cH cZ) A) A) #[.ref m0, .int p1, .int p2] s 0 0 A) (F0 m 133 ls []) := by
    intro x3 x5 H locs ls hP hD hS hl hq 
    refine lv_aload_n hx hb dc_M_isIllegal_133 rfl (lv_at hl 0 rfl) ?_
    refine gm_mode C hP dc_M_isIllegal_134 (fun v3 e3 => ?_)
    refine lv_if_ne (tgt := 160) hx hb dc_M_isIllegal_137 (by decide) (fun c4 => ?_) (fun c4 => ?_)
    · refine lv_iconst (v := 0) hx hb dc_M_isIllegal_160 (by decide) ?_
      refine lv_istore (lv' := [(4, .int 0), (0, .ref m0), (3, .int x3), (5, .long x5)]) hx hb dc_M_isIllegal_161 hl (by decide) rfl (fun ls hl => ?_)
      exact k163 x3 0 _ _ _ hP hD hS (lv_sub hl [2, 0] rfl) (by subst e3; exact hq.trans ((if_neg c4)))
    · refine lv_aload_n hx hb dc_M_isIllegal_140 rfl (lv_at hl 0 rfl) ?_
      refine gm_held C hP dc_M_isIllegal_141 ?_
      refine lv_sipush (v := 262) hx hb dc_M_isIllegal_144 (by decide) ?_
      refine rm_lald C hP (by unfold vp_in; decide) dc_M_isIllegal_147 (fun v5 e5 => ?_)
      refine lv_lload hx hb dc_M_isIllegal_148 (lv_at hl 2 rfl) ?_
      refine xr_land hx hb dc_M_isIllegal_150 (fun v6 e6 => ?_)
      refine lv_lconst (v := 0) hx hb dc_M_isIllegal_151 (by decide) ?_
      refine xr_lcmp hx hb dc_M_isIllegal_152 (fun v7 e7 => ?_)
      refine lv_if_ne (tgt := 160) hx hb dc_M_isIllegal_153 (by decide) (fun c8 => ?_) (fun c8 => ?_)
      · refine lv_iconst (v := 0) hx hb dc_M_isIllegal_160 (by decide) ?_
        refine lv_istore (lv' := [(4, .int 0), (0, .ref m0), (3, .int x3), (5, .long x5)]) hx hb dc_M_isIllegal_161 hl (by decide) rfl (fun ls hl => ?_)
        exact k163 x3 0 _ _ _ hP hD hS (lv_sub hl [2, 0] rfl) (by subst e3 e5 e6 e7; exact hq.trans ((if_pos c4).trans ((if_neg c8))))
      · refine lv_iconst (v := 1) hx hb dc_M_isIllegal_156 (by decide) ?_
        refine lv_goto (tgt := 161) hx hb dc_M_isIllegal_157 (by decide) ?_
        refine lv_istore (lv' := [(4, .int 1), (0, .ref m0), (3, .int x3), (5, .long x5)]) hx hb dc_M_isIllegal_161 hl (by decide) rfl (fun ls hl => ?_)
        exact k163 x3 1 _ _ _ hP hD hS (lv_sub hl [2, 0] rfl) (by subst e3 e5 e6 e7; exact hq.trans ((if_pos c4).trans ((if_pos c8))))
  have k86 : ∀ (x3 : Int32) (y0 : Int32) (H : Heap) (locs : List Loc) (ls : Array Slot), va_P D xw_Cl ((wm m0 hd ln cH cZ) u) H → va_D A ((wm m0 hd ln cH cZ) u) → va_S A s.heap H locs → lv_has ls 7 [(0, .ref m0), (1, .int p1), (3, .int x3)] → f_M_isIllegal u p1 p2 = f_M_isIllegal_86 u p1 p2 x3 y0 → W p l e rm_M_isIllegal s m #[.ref m0, .int p1, .int p2] below meth c H locs 0 0 (MQ below (va_Qi (fun r2 u2 => r2 = (f_M_isIllegal u p1 p2) ∧ u2 = u) (ck_B D (wm m0 hd ln cH cZ) A) A) #[.ref m0, .int p1, .int p2] s 0 0 A) (F0 m 86 ls [.int y0]) := by
    intro x3 y0 H locs ls hP hD hS hl hq 
    refine lv_istore (lv' := [(4, .int y0), (0, .ref m0), (1, .int p1), (3, .int x3)]) hx hb dc_M_isIllegal_86 hl (by decide) rfl (fun ls hl => ?_)
    refine lv_iload_n hx hb dc_M_isIllegal_88 rfl (lv_at hl 2 rfl) ?_
    refine ck_gpi (rest := []) C kt_M hP hD hS (ck_runS C kt_M hK (c_M_isCount l D m0 hd ln cH cZ u p1  _) (cw_M_37 hT ⟨Nat.le_of_ble_eq_true rfl, Nat.le_of_ble_eq_true rfl⟩) hP hD hS rfl hl.1 rfl (Nat.le_of_ble_eq_true rfl) dc_M_isIllegal_89 ⟨Nat.zero_le _, Nat.zero_le _⟩) (fun v10 H locs e10 hP hD hS => ?_)
    refine lv_if_eq (tgt := 163) hx hb dc_M_isIllegal_92 (by decide) (fun c11 => ?_) (fun c11 => ?_)
    · exact k163 x3 y0 _ _ _ hP hD hS (lv_sub hl [3, 0] rfl) (by subst e10; exact hq.trans ((if_pos c11)))
    · refine lv_lconst (v := 1) hx hb dc_M_isIllegal_95 (by decide) ?_
      refine lv_iload_n hx hb dc_M_isIllegal_96 rfl (lv_at hl 2 rfl) ?_
      refine lv_sipush (v := 3072) hx hb dc_M_isIllegal_97 (by decide) ?_
      refine xr_isub hx hb dc_M_isIllegal_100 (fun v12 e12 => ?_)
      refine xr_lshl hx hb dc_M_isIllegal_101 (fun v13 e13 => ?_)
      refine lv_lstore (lv' := [(5, .long v13), (4, .int y0), (0, .ref m0), (1, .int p1), (3, .int x3)]) hx hb dc_M_isIllegal_102 hl (by decide) rfl (fun ls hl => ?_)
      refine lv_iload hx hb dc_M_isIllegal_104 (lv_at hl 1 rfl) ?_
      refine lv_if_ne (tgt := 156) hx hb dc_M_isIllegal_106 (by decide) (fun c14 => ?_) (fun c14 => ?_)
      · refine lv_iconst (v := 1) hx hb dc_M_isIllegal_156 (by decide) ?_
        refine lv_goto (tgt := 161) hx hb dc_M_isIllegal_157 (by decide) ?_
        refine lv_istore (lv' := [(4, .int 1), (5, .long v13), (0, .ref m0), (1, .int p1), (3, .int x3)]) hx hb dc_M_isIllegal_161 hl (by decide) rfl (fun ls hl => ?_)
        exact k163 x3 1 _ _ _ hP hD hS (lv_sub hl [4, 0] rfl) (by subst e10 e12 e13; exact hq.trans ((if_neg c11).trans ((if_neg c14))))
      · refine lv_aload_n hx hb dc_M_isIllegal_109 rfl (lv_at hl 2 rfl) ?_
        refine gm_mode C hP dc_M_isIllegal_110 (fun v15 e15 => ?_)
        refine lv_iconst (v := 3) hx hb dc_M_isIllegal_113 (by decide) ?_
        refine lv_icmp_ge (tgt := 133) hx hb dc_M_isIllegal_114 (by decide) (fun c16 => ?_) (fun c16 => ?_)
        · exact k133 x3 v13 _ _ _ hP hD hS (lv_sub hl [2, 4, 0] rfl) (by subst e10 e12 e13 e15; exact hq.trans ((if_neg c11).trans ((if_pos c14).trans ((if_pos c16)))))
        · refine lv_aload_n hx hb dc_M_isIllegal_117 rfl (lv_at hl 2 rfl) ?_
          refine gm_held C hP dc_M_isIllegal_118 ?_
          refine lv_sipush (v := 774) hx hb dc_M_isIllegal_121 (by decide) ?_
          refine rm_lald C hP (by unfold vp_in; decide) dc_M_isIllegal_124 (fun v17 e17 => ?_)
          refine lv_lload hx hb dc_M_isIllegal_125 (lv_at hl 0 rfl) ?_
          refine xr_land hx hb dc_M_isIllegal_127 (fun v18 e18 => ?_)
          refine lv_lconst (v := 0) hx hb dc_M_isIllegal_128 (by decide) ?_
          refine xr_lcmp hx hb dc_M_isIllegal_129 (fun v19 e19 => ?_)
          refine lv_if_eq (tgt := 156) hx hb dc_M_isIllegal_130 (by decide) (fun c20 => ?_) (fun c20 => ?_)
          · refine lv_iconst (v := 1) hx hb dc_M_isIllegal_156 (by decide) ?_
            refine lv_goto (tgt := 161) hx hb dc_M_isIllegal_157 (by decide) ?_
            refine lv_istore (lv' := [(4, .int 1), (5, .long v13), (0, .ref m0), (1, .int p1), (3, .int x3)]) hx hb dc_M_isIllegal_161 hl (by decide) rfl (fun ls hl => ?_)
            exact k163 x3 1 _ _ _ hP hD hS (lv_sub hl [4, 0] rfl) (by subst e10 e12 e13 e15 e17 e18 e19; exact hq.trans ((if_neg c11).trans ((if_pos c14).trans ((if_neg c16).trans ((if_pos c20))))))
          · exact k133 x3 v13 _ _ _ hP hD hS (lv_sub hl [2, 4, 0] rfl) (by subst e10 e12 e13 e15 e17 e18 e19; exact hq.trans ((if_neg c11).trans ((if_pos c14).trans ((if_neg c16).trans ((if_neg c20))))))
  have k65 : ∀ (x3 : Int32) (H : Heap) (locs : List Loc) (ls : Array Slot), va_P D xw_Cl ((wm m0 hd ln cH cZ) u) H → va_D A ((wm m0 hd ln cH cZ) u) → va_S A s.heap H locs → lv_has ls 7 [(0, .ref m0), (1, .int p1), (3, .int x3)] → f_M_isIllegal u p1 p2 = f_M_isIllegal_65 u p1 p2 x3 → W p l e rm_M_isIllegal s m #[.ref m0, .int p1, .int p2] below meth c H locs 0 0 (MQ below (va_Qi (fun r2 u2 => r2 = (f_M_isIllegal u p1 p2) ∧ u2 = u) (ck_B D (wm m0 hd ln cH cZ) A) A) #[.ref m0, .int p1, .int p2] s 0 0 A) (F0 m 65 ls []) := by
    intro x3 H locs ls hP hD hS hl hq 
    refine lv_iload_n hx hb dc_M_isIllegal_65 rfl (lv_at hl 1 rfl) ?_
    refine lv_if_le (tgt := 85) hx hb dc_M_isIllegal_66 (by decide) (fun c21 => ?_) (fun c21 => ?_)
    · refine lv_iconst (v := 0) hx hb dc_M_isIllegal_85 (by decide) ?_
      exact k86 x3 0 _ _ _ hP hD hS (lv_sub hl [0, 1, 2] rfl) (by exact hq.trans ((if_pos c21)))
    · refine lv_iload_n hx hb dc_M_isIllegal_69 rfl (lv_at hl 1 rfl) ?_
      refine lv_iconst (v := 4) hx hb dc_M_isIllegal_70 (by decide) ?_
      refine lv_icmp_ge (tgt := 85) hx hb dc_M_isIllegal_71 (by decide) (fun c22 => ?_) (fun c22 => ?_)
      · refine lv_iconst (v := 0) hx hb dc_M_isIllegal_85 (by decide) ?_
        exact k86 x3 0 _ _ _ hP hD hS (lv_sub hl [0, 1, 2] rfl) (by exact hq.trans ((if_neg c21).trans ((if_pos c22))))
      · refine lv_aload_n hx hb dc_M_isIllegal_74 rfl (lv_at hl 0 rfl) ?_
        refine ck_gpi (rest := []) C kt_M hP hD hS (ck_runV (q0 := 0) C kt_M hK (c_M_floating l D m0 hd ln cH cZ u   _) (cw_M_44 hT ⟨Nat.le_of_ble_eq_true rfl, Nat.le_of_ble_eq_true rfl⟩) rfl rfl hP hD hS rfl hl.1 rfl (Nat.le_of_ble_eq_true rfl) dc_M_isIllegal_75 ⟨Nat.zero_le _, Nat.zero_le _⟩) (fun v24 H locs e24 hP hD hS => ?_)
        refine lv_if_ne (tgt := 85) hx hb dc_M_isIllegal_78 (by decide) (fun c25 => ?_) (fun c25 => ?_)
        · refine lv_iconst (v := 0) hx hb dc_M_isIllegal_85 (by decide) ?_
          exact k86 x3 0 _ _ _ hP hD hS (lv_sub hl [0, 1, 2] rfl) (by subst e24; exact hq.trans ((if_neg c21).trans ((if_neg c22).trans ((if_neg c25)))))
        · refine lv_iconst (v := 1) hx hb dc_M_isIllegal_81 (by decide) ?_
          refine lv_goto (tgt := 86) hx hb dc_M_isIllegal_82 (by decide) ?_
          exact k86 x3 1 _ _ _ hP hD hS (lv_sub hl [0, 1, 2] rfl) (by subst e24; exact hq.trans ((if_neg c21).trans ((if_neg c22).trans ((if_pos c25)))))
  have k39 : ∀ (y0 : Int32) (H : Heap) (locs : List Loc) (ls : Array Slot), va_P D xw_Cl ((wm m0 hd ln cH cZ) u) H → va_D A ((wm m0 hd ln cH cZ) u) → va_S A s.heap H locs → lv_has ls 7 [(0, .ref m0), (1, .int p1)] → f_M_isIllegal u p1 p2 = f_M_isIllegal_39 u p1 p2 y0 → W p l e rm_M_isIllegal s m #[.ref m0, .int p1, .int p2] below meth c H locs 0 0 (MQ below (va_Qi (fun r2 u2 => r2 = (f_M_isIllegal u p1 p2) ∧ u2 = u) (ck_B D (wm m0 hd ln cH cZ) A) A) #[.ref m0, .int p1, .int p2] s 0 0 A) (F0 m 39 ls [.int y0]) := by
    intro y0 H locs ls hP hD hS hl hq 
    refine lv_istore_n (lv' := [(3, .int y0), (0, .ref m0), (1, .int p1)]) hx hb dc_M_isIllegal_39 rfl hl (by decide) rfl (fun ls hl => ?_)
    refine lv_iload_n hx hb dc_M_isIllegal_40 rfl (lv_at hl 2 rfl) ?_
    refine lv_sipush (v := 384) hx hb dc_M_isIllegal_41 (by decide) ?_
    refine lv_icmp_ne (tgt := 65) hx hb dc_M_isIllegal_44 (by decide) (fun c26 => ?_) (fun c26 => ?_)
    · exact k65 y0 _ _ _ hP hD hS (lv_sub hl [1, 2, 0] rfl) (by exact hq.trans ((if_neg c26)))
    · refine lv_aload_n hx hb dc_M_isIllegal_47 rfl (lv_at hl 1 rfl) ?_
      refine gm_mode C hP dc_M_isIllegal_48 (fun v27 e27 => ?_)
      refine lv_iconst (v := 1) hx hb dc_M_isIllegal_51 (by decide) ?_
      refine lv_icmp_ne (tgt := 65) hx hb dc_M_isIllegal_52 (by decide) (fun c28 => ?_) (fun c28 => ?_)
      · exact k65 y0 _ _ _ hP hD hS (lv_sub hl [1, 2, 0] rfl) (by subst e27; exact hq.trans ((if_pos c26).trans ((if_neg c28))))
      · refine lv_aload_n hx hb dc_M_isIllegal_55 rfl (lv_at hl 1 rfl) ?_
        refine lv_bipush (v := 20) hx hb dc_M_isIllegal_56 (by decide) ?_
        refine ck_gpi (rest := []) C kt_M hP hD hS (ck_runV (q0 := 0) C kt_M hK (c_M_status l D m0 hd ln cH cZ u 20  _) (cw_M_29 hT ⟨Nat.le_of_ble_eq_true rfl, Nat.le_of_ble_eq_true rfl⟩) rfl rfl hP hD hS rfl hl.1 rfl (Nat.le_of_ble_eq_true rfl) dc_M_isIllegal_58 ⟨Nat.zero_le _, Nat.zero_le _⟩) (fun v30 H locs e30 hP hD hS => ?_)
        refine lv_iconst (v := 1) hx hb dc_M_isIllegal_61 (by decide) ?_
        refine lv_icmp_eq (tgt := 81) hx hb dc_M_isIllegal_62 (by decide) (fun c31 => ?_) (fun c31 => ?_)
        · refine lv_iconst (v := 1) hx hb dc_M_isIllegal_81 (by decide) ?_
          refine lv_goto (tgt := 86) hx hb dc_M_isIllegal_82 (by decide) ?_
          exact k86 y0 1 _ _ _ hP hD hS (lv_sub hl [1, 2, 0] rfl) (by subst e27 e30; exact hq.trans ((if_pos c26).trans ((if_pos c28).trans ((if_pos c31)))))
        · exact k65 y0 _ _ _ hP hD hS (lv_sub hl [1, 2, 0] rfl) (by subst e27 e30; exact hq.trans ((if_pos c26).trans ((if_pos c28).trans ((if_neg c31)))))
  -- from the entry
  refine lv_iload_n hx hb dc_M_isIllegal_0 rfl (lv_at hl 1 rfl) ?_
  refine ck_gpi (rest := []) C kt_M hP hD hS (ck_runS C kt_M hK (c_M_isThere l D m0 hd ln cH cZ u p1  _) (cw_M_67 hT ⟨Nat.le_of_ble_eq_true rfl, Nat.le_of_ble_eq_true rfl⟩) hP hD hS rfl hl.1 rfl (Nat.le_of_ble_eq_true rfl) dc_M_isIllegal_1 ⟨Nat.zero_le _, Nat.zero_le _⟩) (fun v33 H locs e33 hP hD hS => ?_)
  refine lv_if_eq (tgt := 34) hx hb dc_M_isIllegal_4 (by decide) (fun c34 => ?_) (fun c34 => ?_)
  · refine lv_iconst (v := 1) hx hb dc_M_isIllegal_34 (by decide) ?_
    refine lv_goto (tgt := 39) hx hb dc_M_isIllegal_35 (by decide) ?_
    exact k39 1 _ _ _ hP hD hS (lv_sub hl [0, 1] rfl) (by subst e33; exact (if_pos c34))
  · refine lv_iload_n hx hb dc_M_isIllegal_7 rfl (lv_at hl 1 rfl) ?_
    refine lv_bipush (v := 8) hx hb dc_M_isIllegal_8 (by decide) ?_
    refine xr_ishr hx hb dc_M_isIllegal_10 (fun v35 e35 => ?_)
    refine lv_iconst (v := 3) hx hb dc_M_isIllegal_11 (by decide) ?_
    refine xr_iand hx hb dc_M_isIllegal_12 (fun v36 e36 => ?_)
    refine lv_aload_n hx hb dc_M_isIllegal_13 rfl (lv_at hl 0 rfl) ?_
    refine gm_mode C hP dc_M_isIllegal_14 (fun v37 e37 => ?_)
    refine lv_icmp_gt (tgt := 34) hx hb dc_M_isIllegal_17 (by decide) (fun c38 => ?_) (fun c38 => ?_)
    · refine lv_iconst (v := 1) hx hb dc_M_isIllegal_34 (by decide) ?_
      refine lv_goto (tgt := 39) hx hb dc_M_isIllegal_35 (by decide) ?_
      exact k39 1 _ _ _ hP hD hS (lv_sub hl [0, 1] rfl) (by subst e33 e35 e36 e37; exact (if_neg c34).trans ((if_pos c38)))
    · refine lv_iload_n hx hb dc_M_isIllegal_20 rfl (lv_at hl 2 rfl) ?_
      refine lv_if_eq (tgt := 38) hx hb dc_M_isIllegal_21 (by decide) (fun c39 => ?_) (fun c39 => ?_)
      · refine lv_iconst (v := 0) hx hb dc_M_isIllegal_38 (by decide) ?_
        exact k39 0 _ _ _ hP hD hS (lv_sub hl [0, 1] rfl) (by subst e33 e35 e36 e37; exact (if_neg c34).trans ((if_neg c38).trans ((if_pos c39))))
      · refine lv_iload_n hx hb dc_M_isIllegal_24 rfl (lv_at hl 1 rfl) ?_
        refine lv_bipush (v := 10) hx hb dc_M_isIllegal_25 (by decide) ?_
        refine xr_ishr hx hb dc_M_isIllegal_27 (fun v40 e40 => ?_)
        refine lv_iconst (v := 3) hx hb dc_M_isIllegal_28 (by decide) ?_
        refine xr_iand hx hb dc_M_isIllegal_29 (fun v41 e41 => ?_)
        refine lv_iconst (v := 3) hx hb dc_M_isIllegal_30 (by decide) ?_
        refine lv_icmp_ne (tgt := 38) hx hb dc_M_isIllegal_31 (by decide) (fun c42 => ?_) (fun c42 => ?_)
        · refine lv_iconst (v := 0) hx hb dc_M_isIllegal_38 (by decide) ?_
          exact k39 0 _ _ _ hP hD hS (lv_sub hl [0, 1] rfl) (by subst e33 e35 e36 e37 e40 e41; exact (if_neg c34).trans ((if_neg c38).trans ((if_neg c39).trans ((if_neg c42)))))
        · refine lv_iconst (v := 1) hx hb dc_M_isIllegal_34 (by decide) ?_
          refine lv_goto (tgt := 39) hx hb dc_M_isIllegal_35 (by decide) ?_
          exact k39 1 _ _ _ hP hD hS (lv_sub hl [0, 1] rfl) (by subst e33 e35 e36 e37 e40 e41; exact (if_neg c34).trans ((if_neg c38).trans ((if_neg c39).trans ((if_pos c42)))))
def f_M_access_162 (u : ms_St) (p1 : Int32) (p2 : Int32) (p3 : Int32) (p4 : Int64) (y2 : Int64) : Int32 × ms_St := (let w1 : ms_St := f_M_write u p1 y2; (0, w1))
def f_M_access_122 (u : ms_St) (p1 : Int32) (p2 : Int32) (p3 : Int32) (p4 : Int64) (y0 : Int64) : Int32 × ms_St := (if p3 = 0 then (0, u) else (if p2 = 1 then (f_M_access_162 u p1 p2 p3 p4 p4) else (if p2 = 2 then (let v7 : Int64 := y0 ||| p4; (f_M_access_162 u p1 p2 p3 p4 v7)) else (let v5 : Int64 := p4 ^^^ (-1 : Int64); let v6 : Int64 := y0 &&& v5; (f_M_access_162 u p1 p2 p3 p4 v6)))))
def f_M_access (u0 : ms_St) (p1 : Int32) (p2 : Int32) (p3 : Int32) (p4 : Int64) : Int32 × ms_St := (if p1 < 0 then (let w9 : ms_St := (upd u0.1 0 1, u0.2); (0, w9)) else (if 4095 < p1 then (let w13 : ms_St := (upd u0.1 0 1, u0.2); (0, w13)) else (if p2 < 1 then (let w17 : ms_St := (upd u0.1 0 1, u0.2); (0, w17)) else (if p2 ≤ 3 then (let w21 : ms_St := (upd u0.1 0 0, u0.2); (let v25 : Int32 := f_M_isIllegal w21 p1 p3; (if v25 = 0 then (let v28 : Int32 := f_M_isElsewhere w21 p1; (if v28 = 0 then (let v31 : Int64 := f_M_shown w21 p1; let w32 : ms_St := (w21.1, w21.2.1, w21.2.2.1, vp_updL w21.2.2.2 1 v31); (if p1 = 836 then (let v35 : Int64 := w32.2.1 (836 : Int32).toNatClampNeg; let v37 : Int64 := f_M_lineBits w32; let v38 : Int64 := v37 &&& (-513 : Int64); let v39 : Int64 := v35 ||| v38; (f_M_access_122 w32 p1 p2 p3 p4 v39)) else (let v34 : Int64 := w32.2.2.2 1; (f_M_access_122 w32 p1 p2 p3 p4 v34)))) else (if p3 = 0 then (1, w21) else (if 4 ≤ p1 then (1, w21) else (let w42 : ms_St := f_M_put w21 13 1; let w43 : ms_St := f_M_put w42 14 1; (1, w43)))))) else (2, w21)))) else (let w44 : ms_St := (upd u0.1 0 1, u0.2); (0, w44))))))
set_option maxHeartbeats 4000000 in
set_option maxRecDepth 100000 in
theorem c_M_access (l : Launch) (D : va_G) (m0 hd ln : Nat) (cH cZ : ClassId) (u0 : ms_St) (p1 : Int32) (p2 : Int32) (p3 : Int32) (p4 : Int64)  : ck_Mi l D [(cH, .long), (cZ, .boolean)] (wm m0 hd ln cH cZ) yn_M_access w_M_access rm_M_access 0 0 [.ref m0, .int p1, .int p2, .int p3, .long p4] u0 (f_M_access u0 p1 p2 p3 p4).1 (f_M_access u0 p1 p2 p3 p4).2 := by
  refine ck_enti (cc := bc_M_access) (maxL := 8) (ret := (some .int)) (by decide) rfl (Nat.le_of_ble_eq_true rfl) ?_
  intro p e s m below meth c A ls C hnm hP hD hS hl
  have C : ck_C p s m meth c bc_M_access (some .int) 8 #[.ref m0, .int p1, .int p2, .int p3, .long p4] "ControlDeskModel" A D [(cH, .long), (cZ, .boolean)] := C
  have hl : lv_has ls 8 [(0, .ref m0), (1, .int p1), (2, .int p2), (3, .int p3), (4, .long p4)] := hl
  have hx := C.1
  have hb := C.2.1
  have hown := C.2.2.2.2.1
  have hT := C.2.2.2.2.2.1
  have hK := C.2.2.2.2.2.2.2.1
  have hN := C.2.2.2.2.2.2.2.2.2.2.2.1
  have k162 : ∀ (u : ms_St) (y2 : Int64) (H : Heap) (locs : List Loc) (ls : Array Slot), va_P D xw_Cl ((wm m0 hd ln cH cZ) u) H → va_D A ((wm m0 hd ln cH cZ) u) → va_S A s.heap H locs → lv_has ls 8 [] → f_M_access u0 p1 p2 p3 p4 = f_M_access_162 u p1 p2 p3 p4 y2 → (vp_in p1 4096) → W p l e rm_M_access s m #[.ref m0, .int p1, .int p2, .int p3, .long p4] below meth c H locs 0 0 (MQ below (va_Qi (fun r2 u2 => r2 = (f_M_access u0 p1 p2 p3 p4).1 ∧ u2 = (f_M_access u0 p1 p2 p3 p4).2) (ck_B D (wm m0 hd ln cH cZ) A) A) #[.ref m0, .int p1, .int p2, .int p3, .long p4] s 0 0 A) (F0 m 162 ls [.long y2, .int p1, .ref m0]) := by
    intro u y2 H locs ls hP hD hS hl hq g5
    refine ck_gov (rest := []) C kt_M hP hD hS (ck_runV (q0 := 0) C kt_M hK (c_M_write l D m0 hd ln cH cZ u p1 y2 g5 _) (cw_M_115 hT ⟨Nat.le_of_ble_eq_true rfl, Nat.le_of_ble_eq_true rfl⟩) rfl rfl hP hD hS rfl hl.1 rfl (Nat.le_of_ble_eq_true rfl) dc_M_access_162 ⟨Nat.zero_le _, Nat.zero_le _⟩) (fun w1 H locs ew1 hP hD hS => ?_)
    refine lv_iconst (v := 0) hx hb dc_M_access_165 (by decide) ?_
    exact ck_iret (v := 0) C hP hD hS (by subst ew1; exact ck_pair (hq.trans (rfl))) dc_M_access_166
  have k122 : ∀ (u : ms_St) (y0 : Int64) (H : Heap) (locs : List Loc) (ls : Array Slot), va_P D xw_Cl ((wm m0 hd ln cH cZ) u) H → va_D A ((wm m0 hd ln cH cZ) u) → va_S A s.heap H locs → lv_has ls 8 [(0, .ref m0), (1, .int p1), (2, .int p2), (3, .int p3), (4, .long p4)] → f_M_access u0 p1 p2 p3 p4 = f_M_access_122 u p1 p2 p3 p4 y0 → (vp_in p1 4096) → W p l e rm_M_access s m #[.ref m0, .int p1, .int p2, .int p3, .long p4] below meth c H locs 0 0 (MQ below (va_Qi (fun r2 u2 => r2 = (f_M_access u0 p1 p2 p3 p4).1 ∧ u2 = (f_M_access u0 p1 p2 p3 p4).2) (ck_B D (wm m0 hd ln cH cZ) A) A) #[.ref m0, .int p1, .int p2, .int p3, .long p4] s 0 0 A) (F0 m 122 ls [.long y0]) := by
    intro u y0 H locs ls hP hD hS hl hq g5
    refine lv_lstore (lv' := [(6, .long y0), (0, .ref m0), (1, .int p1), (2, .int p2), (3, .int p3), (4, .long p4)]) hx hb dc_M_access_122 hl (by decide) rfl (fun ls hl => ?_)
    refine lv_iload_n hx hb dc_M_access_124 rfl (lv_at hl 4 rfl) ?_
    refine lv_if_eq (tgt := 165) hx hb dc_M_access_125 (by decide) (fun c2 => ?_) (fun c2 => ?_)
    · refine lv_iconst (v := 0) hx hb dc_M_access_165 (by decide) ?_
      exact ck_iret (v := 0) C hP hD hS (by exact ck_pair (hq.trans ((if_pos c2)))) dc_M_access_166
    · refine lv_aload_n hx hb dc_M_access_128 rfl (lv_at hl 1 rfl) ?_
      refine lv_iload_n hx hb dc_M_access_129 rfl (lv_at hl 2 rfl) ?_
      refine lv_iload_n hx hb dc_M_access_130 rfl (lv_at hl 3 rfl) ?_
      refine lv_iconst (v := 1) hx hb dc_M_access_131 (by decide) ?_
      refine lv_icmp_ne (tgt := 140) hx hb dc_M_access_132 (by decide) (fun c3 => ?_) (fun c3 => ?_)
      · refine lv_iload_n hx hb dc_M_access_140 rfl (lv_at hl 3 rfl) ?_
        refine lv_iconst (v := 2) hx hb dc_M_access_141 (by decide) ?_
        refine lv_icmp_ne (tgt := 153) hx hb dc_M_access_142 (by decide) (fun c4 => ?_) (fun c4 => ?_)
        · refine lv_lload hx hb dc_M_access_153 (lv_at hl 0 rfl) ?_
          refine lv_lload hx hb dc_M_access_155 (lv_at hl 5 rfl) ?_
          refine lv_ldc2 (v := (-1)) hx hb hown (hT _ mw_36) dc_M_access_157 ?_
          refine xr_lxor hx hb dc_M_access_160 (fun v5 e5 => ?_)
          refine xr_land hx hb dc_M_access_161 (fun v6 e6 => ?_)
          exact k162 u v6 _ _ _ hP hD hS (lv_sub hl [] rfl) (by subst e5 e6; exact hq.trans ((if_neg c2).trans ((if_neg c3).trans ((if_neg c4))))) (g5)
        · refine lv_lload hx hb dc_M_access_145 (lv_at hl 0 rfl) ?_
          refine lv_lload hx hb dc_M_access_147 (lv_at hl 5 rfl) ?_
          refine xr_lor hx hb dc_M_access_149 (fun v7 e7 => ?_)
          refine lv_goto (tgt := 162) hx hb dc_M_access_150 (by decide) ?_
          exact k162 u v7 _ _ _ hP hD hS (lv_sub hl [] rfl) (by subst e7; exact hq.trans ((if_neg c2).trans ((if_neg c3).trans ((if_pos c4))))) (g5)
      · refine lv_lload hx hb dc_M_access_135 (lv_at hl 5 rfl) ?_
        refine lv_goto (tgt := 162) hx hb dc_M_access_137 (by decide) ?_
        exact k162 u p4 _ _ _ hP hD hS (lv_sub hl [] rfl) (by exact hq.trans ((if_neg c2).trans ((if_pos c3)))) (g5)
  -- from the entry
  refine lv_aload_n hx hb dc_M_access_0 rfl (lv_at hl 0 rfl) ?_
  refine lv_iload_n hx hb dc_M_access_1 rfl (lv_at hl 1 rfl) ?_
  refine lv_if_lt (tgt := 22) hx hb dc_M_access_2 (by decide) (fun c8 => ?_) (fun c8 => ?_)
  · refine lv_iconst (v := 1) hx hb dc_M_access_22 (by decide) ?_
    refine lv_goto (tgt := 27) hx hb dc_M_access_23 (by decide) ?_
    refine pm_thrown C hP hD hS dc_M_access_27 (fun w9 H locs ew9 hP hD hS => ?_)
    refine lv_aload_n hx hb dc_M_access_30 rfl (lv_at hl 0 rfl) ?_
    refine gm_thrown C hP dc_M_access_31 (fun v10 e10 => ?_)
    obtain rfl : v10 = 1 := by rw [e10, ew9]; rfl
    refine lv_if_le (tgt := 39) hx hb dc_M_access_34 (by decide) (fun c11 => ?_) (fun c11 => ?_)
    · exact absurd c11 (by decide)
    · refine lv_iconst (v := 0) hx hb dc_M_access_37 (by decide) ?_
      exact ck_iret (v := 0) C hP hD hS (by subst ew9; exact ck_pair ((if_pos c8))) dc_M_access_38
  · refine lv_iload_n hx hb dc_M_access_5 rfl (lv_at hl 1 rfl) ?_
    refine lv_sipush (v := 4095) hx hb dc_M_access_6 (by decide) ?_
    refine lv_icmp_gt (tgt := 22) hx hb dc_M_access_9 (by decide) (fun c12 => ?_) (fun c12 => ?_)
    · refine lv_iconst (v := 1) hx hb dc_M_access_22 (by decide) ?_
      refine lv_goto (tgt := 27) hx hb dc_M_access_23 (by decide) ?_
      refine pm_thrown C hP hD hS dc_M_access_27 (fun w13 H locs ew13 hP hD hS => ?_)
      refine lv_aload_n hx hb dc_M_access_30 rfl (lv_at hl 0 rfl) ?_
      refine gm_thrown C hP dc_M_access_31 (fun v14 e14 => ?_)
      obtain rfl : v14 = 1 := by rw [e14, ew13]; rfl
      refine lv_if_le (tgt := 39) hx hb dc_M_access_34 (by decide) (fun c15 => ?_) (fun c15 => ?_)
      · exact absurd c15 (by decide)
      · refine lv_iconst (v := 0) hx hb dc_M_access_37 (by decide) ?_
        exact ck_iret (v := 0) C hP hD hS (by subst ew13; exact ck_pair ((if_neg c8).trans ((if_pos c12)))) dc_M_access_38
    · refine lv_iload_n hx hb dc_M_access_12 rfl (lv_at hl 2 rfl) ?_
      refine lv_iconst (v := 1) hx hb dc_M_access_13 (by decide) ?_
      refine lv_icmp_lt (tgt := 22) hx hb dc_M_access_14 (by decide) (fun c16 => ?_) (fun c16 => ?_)
      · refine lv_iconst (v := 1) hx hb dc_M_access_22 (by decide) ?_
        refine lv_goto (tgt := 27) hx hb dc_M_access_23 (by decide) ?_
        refine pm_thrown C hP hD hS dc_M_access_27 (fun w17 H locs ew17 hP hD hS => ?_)
        refine lv_aload_n hx hb dc_M_access_30 rfl (lv_at hl 0 rfl) ?_
        refine gm_thrown C hP dc_M_access_31 (fun v18 e18 => ?_)
        obtain rfl : v18 = 1 := by rw [e18, ew17]; rfl
        refine lv_if_le (tgt := 39) hx hb dc_M_access_34 (by decide) (fun c19 => ?_) (fun c19 => ?_)
        · exact absurd c19 (by decide)
        · refine lv_iconst (v := 0) hx hb dc_M_access_37 (by decide) ?_
          exact ck_iret (v := 0) C hP hD hS (by subst ew17; exact ck_pair ((if_neg c8).trans ((if_neg c12).trans ((if_pos c16))))) dc_M_access_38
      · refine lv_iload_n hx hb dc_M_access_17 rfl (lv_at hl 2 rfl) ?_
        refine lv_iconst (v := 3) hx hb dc_M_access_18 (by decide) ?_
        refine lv_icmp_le (tgt := 26) hx hb dc_M_access_19 (by decide) (fun c20 => ?_) (fun c20 => ?_)
        · refine lv_iconst (v := 0) hx hb dc_M_access_26 (by decide) ?_
          refine pm_thrown C hP hD hS dc_M_access_27 (fun w21 H locs ew21 hP hD hS => ?_)
          refine lv_aload_n hx hb dc_M_access_30 rfl (lv_at hl 0 rfl) ?_
          refine gm_thrown C hP dc_M_access_31 (fun v22 e22 => ?_)
          obtain rfl : v22 = 0 := by rw [e22, ew21]; rfl
          refine lv_if_le (tgt := 39) hx hb dc_M_access_34 (by decide) (fun c23 => ?_) (fun c23 => ?_)
          · refine lv_aload_n hx hb dc_M_access_39 rfl (lv_at hl 0 rfl) ?_
            refine lv_iload_n hx hb dc_M_access_40 rfl (lv_at hl 1 rfl) ?_
            refine lv_iload_n hx hb dc_M_access_41 rfl (lv_at hl 3 rfl) ?_
            refine ck_gpi (rest := []) C kt_M hP hD hS (ck_runV (q0 := 0) C kt_M hK (c_M_isIllegal l D m0 hd ln cH cZ w21 p1 p3  _) (cw_M_106 hT ⟨Nat.le_of_ble_eq_true rfl, Nat.le_of_ble_eq_true rfl⟩) rfl rfl hP hD hS rfl hl.1 rfl (Nat.le_of_ble_eq_true rfl) dc_M_access_42 ⟨Nat.zero_le _, Nat.zero_le _⟩) (fun v25 H locs e25 hP hD hS => ?_)
            refine lv_if_eq (tgt := 50) hx hb dc_M_access_45 (by decide) (fun c26 => ?_) (fun c26 => ?_)
            · refine lv_iload_n hx hb dc_M_access_50 rfl (lv_at hl 1 rfl) ?_
              refine ck_gpi (rest := []) C kt_M hP hD hS (ck_runS C kt_M hK (c_M_isElsewhere l D m0 hd ln cH cZ w21 p1  _) (cw_M_41 hT ⟨Nat.le_of_ble_eq_true rfl, Nat.le_of_ble_eq_true rfl⟩) hP hD hS rfl hl.1 rfl (Nat.le_of_ble_eq_true rfl) dc_M_access_51 ⟨Nat.zero_le _, Nat.zero_le _⟩) (fun v28 H locs e28 hP hD hS => ?_)
              refine lv_if_eq (tgt := 82) hx hb dc_M_access_54 (by decide) (fun c29 => ?_) (fun c29 => ?_)
              · refine lv_aload_n hx hb dc_M_access_82 rfl (lv_at hl 0 rfl) ?_
                refine lv_aload_n hx hb dc_M_access_83 rfl (lv_at hl 0 rfl) ?_
                refine lv_iload_n hx hb dc_M_access_84 rfl (lv_at hl 1 rfl) ?_
                refine ck_gpl (rest := [.ref m0]) C kt_M hP hD hS (ck_runV (q0 := 0) C kt_M hK (c_M_shown l D m0 hd ln cH cZ w21 p1 (lp_rn2 c8 c12) _) (cw_M_70 hT ⟨Nat.le_of_ble_eq_true rfl, Nat.le_of_ble_eq_true rfl⟩) rfl rfl hP hD hS rfl hl.1 rfl (Nat.le_of_ble_eq_true rfl) dc_M_access_85 ⟨Nat.zero_le _, Nat.zero_le _⟩) (fun v31 H locs e31 hP hD hS => ?_)
                refine pm_had C hP hD hS dc_M_access_88 (fun w32 H locs ew32 hP hD hS => ?_)
                refine lv_iload_n hx hb dc_M_access_91 rfl (lv_at hl 1 rfl) ?_
                refine lv_sipush (v := 836) hx hb dc_M_access_92 (by decide) ?_
                refine lv_icmp_ne (tgt := 118) hx hb dc_M_access_95 (by decide) (fun c33 => ?_) (fun c33 => ?_)
                · refine lv_aload_n hx hb dc_M_access_118 rfl (lv_at hl 0 rfl) ?_
                  refine gm_had C hP dc_M_access_119 (fun v34 e34 => ?_)
                  exact k122 w32 v34 _ _ _ hP hD hS (lv_sub hl [0, 1, 2, 3, 4] rfl) (by subst ew21 e25 e28 e31 ew32 e34; exact (if_neg c8).trans ((if_neg c12).trans ((if_neg c16).trans ((if_pos c20).trans ((if_pos c26).trans ((if_pos c29).trans ((if_neg c33)))))))) ((lp_rn2 c8 c12))
                · refine lv_aload_n hx hb dc_M_access_98 rfl (lv_at hl 0 rfl) ?_
                  refine gm_held C hP dc_M_access_99 ?_
                  refine lv_sipush (v := 836) hx hb dc_M_access_102 (by decide) ?_
                  refine rm_lald C hP (by unfold vp_in; decide) dc_M_access_105 (fun v35 e35 => ?_)
                  refine lv_aload_n hx hb dc_M_access_106 rfl (lv_at hl 0 rfl) ?_
                  refine ck_gpl (rest := [.long v35]) C kt_M hP hD hS (ck_runV (q0 := 0) C kt_M hK (c_M_lineBits l D m0 hd ln cH cZ w32   _) (cw_M_59 hT ⟨Nat.le_of_ble_eq_true rfl, Nat.le_of_ble_eq_true rfl⟩) rfl rfl hP hD hS rfl hl.1 rfl (Nat.le_of_ble_eq_true rfl) dc_M_access_107 ⟨Nat.zero_le _, Nat.zero_le _⟩) (fun v37 H locs e37 hP hD hS => ?_)
                  refine lv_ldc2 (v := (-513)) hx hb hown (hT _ mw_51) dc_M_access_110 ?_
                  refine xr_land hx hb dc_M_access_113 (fun v38 e38 => ?_)
                  refine xr_lor hx hb dc_M_access_114 (fun v39 e39 => ?_)
                  refine lv_goto (tgt := 122) hx hb dc_M_access_115 (by decide) ?_
                  exact k122 w32 v39 _ _ _ hP hD hS (lv_sub hl [0, 1, 2, 3, 4] rfl) (by subst ew21 e25 e28 e31 ew32 e35 e37 e38 e39; exact (if_neg c8).trans ((if_neg c12).trans ((if_neg c16).trans ((if_pos c20).trans ((if_pos c26).trans ((if_pos c29).trans ((if_pos c33)))))))) ((lp_rn2 c8 c12))
              · refine lv_iload_n hx hb dc_M_access_57 rfl (lv_at hl 3 rfl) ?_
                refine lv_if_eq (tgt := 80) hx hb dc_M_access_58 (by decide) (fun c40 => ?_) (fun c40 => ?_)
                · refine lv_iconst (v := 1) hx hb dc_M_access_80 (by decide) ?_
                  exact ck_iret (v := 1) C hP hD hS (by subst ew21 e25 e28; exact ck_pair ((if_neg c8).trans ((if_neg c12).trans ((if_neg c16).trans ((if_pos c20).trans ((if_pos c26).trans ((if_neg c29).trans ((if_pos c40))))))))) dc_M_access_81
                · refine lv_iload_n hx hb dc_M_access_61 rfl (lv_at hl 1 rfl) ?_
                  refine lv_iconst (v := 4) hx hb dc_M_access_62 (by decide) ?_
                  refine lv_icmp_ge (tgt := 80) hx hb dc_M_access_63 (by decide) (fun c41 => ?_) (fun c41 => ?_)
                  · refine lv_iconst (v := 1) hx hb dc_M_access_80 (by decide) ?_
                    exact ck_iret (v := 1) C hP hD hS (by subst ew21 e25 e28; exact ck_pair ((if_neg c8).trans ((if_neg c12).trans ((if_neg c16).trans ((if_pos c20).trans ((if_pos c26).trans ((if_neg c29).trans ((if_neg c40).trans ((if_pos c41)))))))))) dc_M_access_81
                  · refine lv_aload_n hx hb dc_M_access_66 rfl (lv_at hl 0 rfl) ?_
                    refine lv_bipush (v := 13) hx hb dc_M_access_67 (by decide) ?_
                    refine lv_iconst (v := 1) hx hb dc_M_access_69 (by decide) ?_
                    refine ck_gov (rest := []) C kt_M hP hD hS (ck_runV (q0 := 0) C kt_M hK (c_M_put l D m0 hd ln cH cZ w21 13 1  _) (cw_M_78 hT ⟨Nat.le_of_ble_eq_true rfl, Nat.le_of_ble_eq_true rfl⟩) rfl rfl hP hD hS rfl hl.1 rfl (Nat.le_of_ble_eq_true rfl) dc_M_access_70 ⟨Nat.zero_le _, Nat.zero_le _⟩) (fun w42 H locs ew42 hP hD hS => ?_)
                    refine lv_aload_n hx hb dc_M_access_73 rfl (lv_at hl 0 rfl) ?_
                    refine lv_bipush (v := 14) hx hb dc_M_access_74 (by decide) ?_
                    refine lv_iconst (v := 1) hx hb dc_M_access_76 (by decide) ?_
                    refine ck_gov (rest := []) C kt_M hP hD hS (ck_runV (q0 := 0) C kt_M hK (c_M_put l D m0 hd ln cH cZ w42 14 1  _) (cw_M_78 hT ⟨Nat.le_of_ble_eq_true rfl, Nat.le_of_ble_eq_true rfl⟩) rfl rfl hP hD hS rfl hl.1 rfl (Nat.le_of_ble_eq_true rfl) dc_M_access_77 ⟨Nat.zero_le _, Nat.zero_le _⟩) (fun w43 H locs ew43 hP hD hS => ?_)
                    refine lv_iconst (v := 1) hx hb dc_M_access_80 (by decide) ?_
                    exact ck_iret (v := 1) C hP hD hS (by subst ew21 e25 e28 ew42 ew43; exact ck_pair ((if_neg c8).trans ((if_neg c12).trans ((if_neg c16).trans ((if_pos c20).trans ((if_pos c26).trans ((if_neg c29).trans ((if_neg c40).trans ((if_neg c41)))))))))) dc_M_access_81
            · refine lv_iconst (v := 2) hx hb dc_M_access_48 (by decide) ?_
              exact ck_iret (v := 2) C hP hD hS (by subst ew21 e25; exact ck_pair ((if_neg c8).trans ((if_neg c12).trans ((if_neg c16).trans ((if_pos c20).trans ((if_neg c26))))))) dc_M_access_49
          · exact absurd (by decide) c23
        · refine lv_iconst (v := 1) hx hb dc_M_access_22 (by decide) ?_
          refine lv_goto (tgt := 27) hx hb dc_M_access_23 (by decide) ?_
          refine pm_thrown C hP hD hS dc_M_access_27 (fun w44 H locs ew44 hP hD hS => ?_)
          refine lv_aload_n hx hb dc_M_access_30 rfl (lv_at hl 0 rfl) ?_
          refine gm_thrown C hP dc_M_access_31 (fun v45 e45 => ?_)
          obtain rfl : v45 = 1 := by rw [e45, ew44]; rfl
          refine lv_if_le (tgt := 39) hx hb dc_M_access_34 (by decide) (fun c46 => ?_) (fun c46 => ?_)
          · exact absurd c46 (by decide)
          · refine lv_iconst (v := 0) hx hb dc_M_access_37 (by decide) ?_
            exact ck_iret (v := 0) C hP hD hS (by subst ew44; exact ck_pair ((if_neg c8).trans ((if_neg c12).trans ((if_neg c16).trans ((if_neg c20)))))) dc_M_access_38
def f_M_had (u0 : ms_St)  : Int64 × ms_St := (let w1 : ms_St := (upd u0.1 0 0, u0.2); let v2 : Int64 := w1.2.2.2 1; (v2, w1))
set_option maxHeartbeats 4000000 in
set_option maxRecDepth 100000 in
theorem c_M_had (l : Launch) (D : va_G) (m0 hd ln : Nat) (cH cZ : ClassId) (u0 : ms_St)   : ck_Ml l D [(cH, .long), (cZ, .boolean)] (wm m0 hd ln cH cZ) yn_M_had w_M_had rm_M_had 0 0 [.ref m0] u0 (f_M_had u0).1 (f_M_had u0).2 := by
  refine ck_entl (cc := bc_M_had) (maxL := 1) (ret := (some .long)) (by decide) rfl (Nat.le_of_ble_eq_true rfl) ?_
  intro p e s m below meth c A ls C hnm hP hD hS hl
  have C : ck_C p s m meth c bc_M_had (some .long) 1 #[.ref m0] "ControlDeskModel" A D [(cH, .long), (cZ, .boolean)] := C
  have hl : lv_has ls 1 [(0, .ref m0)] := hl
  have hx := C.1
  have hb := C.2.1
  have hown := C.2.2.2.2.1
  have hT := C.2.2.2.2.2.1
  have hK := C.2.2.2.2.2.2.2.1
  have hN := C.2.2.2.2.2.2.2.2.2.2.2.1
  -- from the entry
  refine lv_aload_n hx hb dc_M_had_0 rfl (lv_at hl 0 rfl) ?_
  refine lv_iconst (v := 0) hx hb dc_M_had_1 (by decide) ?_
  refine pm_thrown C hP hD hS dc_M_had_2 (fun w1 H locs ew1 hP hD hS => ?_)
  refine lv_aload_n hx hb dc_M_had_5 rfl (lv_at hl 0 rfl) ?_
  refine gm_had C hP dc_M_had_6 (fun v2 e2 => ?_)
  exact ck_lret (v := v2) C hP hD hS (by subst ew1 e2; exact ck_pair (rfl)) dc_M_had_9
def f_M_beginning (u : ms_St) (p1 : Int64) (p2 : Int32) (p3 : Int32) : Int64 := (let v1 : Int64 := p1 &&& (-4 : Int64); (if p2 = 0 then v1 else (let v3 : Int64 := p1 &&& (1 : Int64); let v4 : Int32 := lg_cmp v3 (1 : Int64); (if v4 = 0 then (let v6 : Int64 := p3.toInt64; let v7 : Int64 := (4 : Int64) * v6; let v8 : Int64 := v1 + v7; v8) else v1))))
set_option maxHeartbeats 4000000 in
set_option maxRecDepth 100000 in
theorem c_M_beginning (l : Launch) (D : va_G) (m0 hd ln : Nat) (cH cZ : ClassId) (u : ms_St) (p1 : Int64) (p2 : Int32) (p3 : Int32)  : ck_Ml l D [(cH, .long), (cZ, .boolean)] (wm m0 hd ln cH cZ) yn_M_beginning w_M_beginning rm_M_beginning 0 0 [.long p1, .int p2, .int p3] u (f_M_beginning u p1 p2 p3) u := by
  refine ck_entl (cc := bc_M_beginning) (maxL := 6) (ret := (some .long)) (by decide) rfl (Nat.le_of_ble_eq_true rfl) ?_
  intro p e s m below meth c A ls C hnm hP hD hS hl
  have C : ck_C p s m meth c bc_M_beginning (some .long) 6 #[.long p1, .int p2, .int p3] "ControlDeskModel" A D [(cH, .long), (cZ, .boolean)] := C
  have hl : lv_has ls 6 [(0, .long p1), (2, .int p2), (3, .int p3)] := hl
  have hx := C.1
  have hb := C.2.1
  have hown := C.2.2.2.2.1
  have hT := C.2.2.2.2.2.1
  have hK := C.2.2.2.2.2.2.2.1
  have hN := C.2.2.2.2.2.2.2.2.2.2.2.1
  -- from the entry
  refine lv_lload_n hx hb dc_M_beginning_0 rfl (lv_at hl 0 rfl) ?_
  refine lv_ldc2 (v := (-4)) hx hb hown (hT _ mw_52) dc_M_beginning_1 ?_
  refine xr_land hx hb dc_M_beginning_4 (fun v1 e1 => ?_)
  refine lv_lstore (lv' := [(4, .long v1), (0, .long p1), (2, .int p2), (3, .int p3)]) hx hb dc_M_beginning_5 hl (by decide) rfl (fun ls hl => ?_)
  refine lv_iload_n hx hb dc_M_beginning_7 rfl (lv_at hl 2 rfl) ?_
  refine lv_if_eq (tgt := 31) hx hb dc_M_beginning_8 (by decide) (fun c2 => ?_) (fun c2 => ?_)
  · refine lv_lload hx hb dc_M_beginning_31 (lv_at hl 0 rfl) ?_
    exact ck_lret (v := v1) C hP hD hS ⟨by subst e1; exact ((if_pos c2)).symm, rfl⟩ dc_M_beginning_33
  · refine lv_lload_n hx hb dc_M_beginning_11 rfl (lv_at hl 1 rfl) ?_
    refine lv_lconst (v := 1) hx hb dc_M_beginning_12 (by decide) ?_
    refine xr_land hx hb dc_M_beginning_13 (fun v3 e3 => ?_)
    refine lv_lconst (v := 1) hx hb dc_M_beginning_14 (by decide) ?_
    refine xr_lcmp hx hb dc_M_beginning_15 (fun v4 e4 => ?_)
    refine lv_if_ne (tgt := 31) hx hb dc_M_beginning_16 (by decide) (fun c5 => ?_) (fun c5 => ?_)
    · refine lv_lload hx hb dc_M_beginning_31 (lv_at hl 0 rfl) ?_
      exact ck_lret (v := v1) C hP hD hS ⟨by subst e1 e3 e4; exact ((if_neg c2).trans ((if_neg c5))).symm, rfl⟩ dc_M_beginning_33
    · refine lv_lload hx hb dc_M_beginning_19 (lv_at hl 0 rfl) ?_
      refine lv_ldc2 (v := 4) hx hb hown (hT _ mw_53) dc_M_beginning_21 ?_
      refine lv_iload_n hx hb dc_M_beginning_24 rfl (lv_at hl 3 rfl) ?_
      refine xr_i2l hx hb dc_M_beginning_25 (fun v6 e6 => ?_)
      refine xr_lmul hx hb dc_M_beginning_26 (fun v7 e7 => ?_)
      refine xr_ladd hx hb dc_M_beginning_27 (fun v8 e8 => ?_)
      refine lv_goto (tgt := 33) hx hb dc_M_beginning_28 (by decide) ?_
      exact ck_lret (v := v8) C hP hD hS ⟨by subst e1 e3 e4 e6 e7 e8; exact ((if_neg c2).trans ((if_pos c5))).symm, rfl⟩ dc_M_beginning_33
def f_M_trap_224 (u : ms_St) (p1 : Int32) (p2 : Int32) (p3 : Int64) (p4 : Int64) (x9 : Int32) : Int64 × ms_St := (if x9 = 0 then (let v2 : Int64 := u.2.1 (773 : Int32).toNatClampNeg; let v4 : Int64 := f_M_beginning u v2 p1 p2; let w5 : ms_St := (u.1, u.2.1, u.2.2.1, vp_updL u.2.2.2 2 v4); let v6 : Int64 := w5.2.2.2 2; (v6, w5)) else (let v7 : Int64 := u.2.1 (261 : Int32).toNatClampNeg; let v9 : Int64 := f_M_beginning u v7 p1 p2; let w10 : ms_St := (u.1, u.2.1, u.2.2.1, vp_updL u.2.2.2 2 v9); let v11 : Int64 := w10.2.2.2 2; (v11, w10)))
def f_M_trap_85 (u : ms_St) (p1 : Int32) (p2 : Int32) (p3 : Int64) (p4 : Int64) (x7 : Int64) (y0 : Int32) : Int64 × ms_St := (if y0 = 0 then (let v14 : Int64 := p4 &&& (-2 : Int64); let w15 : ms_St := (u.1, vp_updL u.2.1 (833 : Int32).toNatClampNeg v14, u.2.2); let w17 : ms_St := (w15.1, vp_updL w15.2.1 (834 : Int32).toNatClampNeg x7, w15.2.2); let w19 : ms_St := (w17.1, vp_updL w17.2.1 (835 : Int32).toNatClampNeg p3, w17.2.2); (let v21 : Int32 := w19.1 2; let v22 : Int32 := v21 - v21 / (2 : Int32) * (2 : Int32); let w23 : ms_St := f_M_put w19 11 v22; let v24 : Int32 := w23.1 2; let v25 : Int32 := v24 / (2 : Int32); let w26 : ms_St := f_M_put w23 12 v25; let v28 : Int32 := f_M_status w26 3; let w29 : ms_St := f_M_put w26 7 v28; let w30 : ms_St := f_M_put w29 3 0; let w31 : ms_St := (upd w30.1 2 3, w30.2); (f_M_trap_224 w31 p1 p2 p3 p4 y0))) else (let v33 : Int64 := p4 &&& (-2 : Int64); let w34 : ms_St := (u.1, vp_updL u.2.1 (321 : Int32).toNatClampNeg v33, u.2.2); let w36 : ms_St := (w34.1, vp_updL w34.2.1 (322 : Int32).toNatClampNeg x7, w34.2.2); let w38 : ms_St := (w36.1, vp_updL w36.2.1 (323 : Int32).toNatClampNeg p3, w36.2.2); (let v40 : Int32 := w38.1 2; let w41 : ms_St := f_M_put w38 8 v40; let v43 : Int32 := f_M_status w41 1; let w44 : ms_St := f_M_put w41 5 v43; let w45 : ms_St := f_M_put w44 1 0; let w46 : ms_St := (upd w45.1 2 1, w45.2); (f_M_trap_224 w46 p1 p2 p3 p4 y0))))
def f_M_trap_43 (u : ms_St) (p1 : Int32) (p2 : Int32) (p3 : Int64) (p4 : Int64) (y0 : Int64) : Int64 × ms_St := (let v47 : Int32 := u.1 2; (if 3 ≤ v47 then (f_M_trap_85 u p1 p2 p3 p4 y0 0) else (if p1 = 0 then (let v50 : Int64 := u.2.1 (770 : Int32).toNatClampNeg; let v51 : Int64 := v50 >>> (p2.toInt64 &&& 63); let v52 : Int64 := v51 &&& (1 : Int64); let v53 : Int32 := lg_cmp v52 (1 : Int64); (if v53 = 0 then (f_M_trap_85 u p1 p2 p3 p4 y0 1) else (f_M_trap_85 u p1 p2 p3 p4 y0 0))) else (let v55 : Int64 := u.2.1 (771 : Int32).toNatClampNeg; let v56 : Int64 := v55 >>> (p2.toInt64 &&& 63); let v57 : Int64 := v56 &&& (1 : Int64); let v58 : Int32 := lg_cmp v57 (1 : Int64); (if v58 = 0 then (f_M_trap_85 u p1 p2 p3 p4 y0 1) else (f_M_trap_85 u p1 p2 p3 p4 y0 0))))))
def f_M_trap (u0 : ms_St) (p1 : Int32) (p2 : Int32) (p3 : Int64) (p4 : Int64) : Int64 × ms_St := (if p2 < 0 then (let w61 : ms_St := (upd u0.1 0 1, u0.2); (0, w61)) else (if p2 ≤ 63 then (let w65 : ms_St := (upd u0.1 0 0, u0.2); (if p1 = 0 then (let v69 : Int64 := p2.toInt64; (f_M_trap_43 w65 p1 p2 p3 p4 v69)) else (let v70 : Int64 := p2.toInt64; let v71 : Int64 := v70 ||| (-9223372036854775808 : Int64); (f_M_trap_43 w65 p1 p2 p3 p4 v71)))) else (let w72 : ms_St := (upd u0.1 0 1, u0.2); (0, w72))))
set_option maxHeartbeats 4000000 in
set_option maxRecDepth 100000 in
theorem c_M_trap (l : Launch) (D : va_G) (m0 hd ln : Nat) (cH cZ : ClassId) (u0 : ms_St) (p1 : Int32) (p2 : Int32) (p3 : Int64) (p4 : Int64)  : ck_Ml l D [(cH, .long), (cZ, .boolean)] (wm m0 hd ln cH cZ) yn_M_trap w_M_trap rm_M_trap 0 0 [.ref m0, .int p1, .int p2, .long p3, .long p4] u0 (f_M_trap u0 p1 p2 p3 p4).1 (f_M_trap u0 p1 p2 p3 p4).2 := by
  refine ck_entl (cc := bc_M_trap) (maxL := 11) (ret := (some .long)) (by decide) rfl (Nat.le_of_ble_eq_true rfl) ?_
  intro p e s m below meth c A ls C hnm hP hD hS hl
  have C : ck_C p s m meth c bc_M_trap (some .long) 11 #[.ref m0, .int p1, .int p2, .long p3, .long p4] "ControlDeskModel" A D [(cH, .long), (cZ, .boolean)] := C
  have hl : lv_has ls 11 [(0, .ref m0), (1, .int p1), (2, .int p2), (3, .long p3), (5, .long p4)] := hl
  have hx := C.1
  have hb := C.2.1
  have hown := C.2.2.2.2.1
  have hT := C.2.2.2.2.2.1
  have hK := C.2.2.2.2.2.2.2.1
  have hN := C.2.2.2.2.2.2.2.2.2.2.2.1
  have k224 : ∀ (u : ms_St) (x9 : Int32) (H : Heap) (locs : List Loc) (ls : Array Slot), va_P D xw_Cl ((wm m0 hd ln cH cZ) u) H → va_D A ((wm m0 hd ln cH cZ) u) → va_S A s.heap H locs → lv_has ls 11 [(0, .ref m0), (1, .int p1), (2, .int p2), (9, .int x9)] → f_M_trap u0 p1 p2 p3 p4 = f_M_trap_224 u p1 p2 p3 p4 x9 → W p l e rm_M_trap s m #[.ref m0, .int p1, .int p2, .long p3, .long p4] below meth c H locs 0 0 (MQ below (va_Ql (fun r2 u2 => r2 = (f_M_trap u0 p1 p2 p3 p4).1 ∧ u2 = (f_M_trap u0 p1 p2 p3 p4).2) (ck_B D (wm m0 hd ln cH cZ) A) A) #[.ref m0, .int p1, .int p2, .long p3, .long p4] s 0 0 A) (F0 m 224 ls []) := by
    intro u x9 H locs ls hP hD hS hl hq 
    refine lv_aload_n hx hb dc_M_trap_224 rfl (lv_at hl 0 rfl) ?_
    refine lv_aload_n hx hb dc_M_trap_225 rfl (lv_at hl 0 rfl) ?_
    refine gm_held C hP dc_M_trap_226 ?_
    refine lv_iload hx hb dc_M_trap_229 (lv_at hl 3 rfl) ?_
    refine lv_if_eq (tgt := 240) hx hb dc_M_trap_231 (by decide) (fun c1 => ?_) (fun c1 => ?_)
    · refine lv_sipush (v := 773) hx hb dc_M_trap_240 (by decide) ?_
      refine rm_lald C hP (by unfold vp_in; decide) dc_M_trap_243 (fun v2 e2 => ?_)
      refine lv_iload_n hx hb dc_M_trap_244 rfl (lv_at hl 1 rfl) ?_
      refine lv_iload_n hx hb dc_M_trap_245 rfl (lv_at hl 2 rfl) ?_
      refine ck_gpl (rest := [.ref m0]) C kt_M hP hD hS (ck_runS C kt_M hK (c_M_beginning l D m0 hd ln cH cZ u v2 p1 p2  _) (cw_M_123 hT ⟨Nat.le_of_ble_eq_true rfl, Nat.le_of_ble_eq_true rfl⟩) hP hD hS rfl hl.1 rfl (Nat.le_of_ble_eq_true rfl) dc_M_trap_246 ⟨Nat.zero_le _, Nat.zero_le _⟩) (fun v4 H locs e4 hP hD hS => ?_)
      refine pm_place C hP hD hS dc_M_trap_249 (fun w5 H locs ew5 hP hD hS => ?_)
      refine lv_aload_n hx hb dc_M_trap_252 rfl (lv_at hl 0 rfl) ?_
      refine gm_place C hP dc_M_trap_253 (fun v6 e6 => ?_)
      exact ck_lret (v := v6) C hP hD hS (by subst e2 e4 ew5 e6; exact ck_pair (hq.trans ((if_pos c1)))) dc_M_trap_256
    · refine lv_sipush (v := 261) hx hb dc_M_trap_234 (by decide) ?_
      refine lv_goto (tgt := 243) hx hb dc_M_trap_237 (by decide) ?_
      refine rm_lald C hP (by unfold vp_in; decide) dc_M_trap_243 (fun v7 e7 => ?_)
      refine lv_iload_n hx hb dc_M_trap_244 rfl (lv_at hl 1 rfl) ?_
      refine lv_iload_n hx hb dc_M_trap_245 rfl (lv_at hl 2 rfl) ?_
      refine ck_gpl (rest := [.ref m0]) C kt_M hP hD hS (ck_runS C kt_M hK (c_M_beginning l D m0 hd ln cH cZ u v7 p1 p2  _) (cw_M_123 hT ⟨Nat.le_of_ble_eq_true rfl, Nat.le_of_ble_eq_true rfl⟩) hP hD hS rfl hl.1 rfl (Nat.le_of_ble_eq_true rfl) dc_M_trap_246 ⟨Nat.zero_le _, Nat.zero_le _⟩) (fun v9 H locs e9 hP hD hS => ?_)
      refine pm_place C hP hD hS dc_M_trap_249 (fun w10 H locs ew10 hP hD hS => ?_)
      refine lv_aload_n hx hb dc_M_trap_252 rfl (lv_at hl 0 rfl) ?_
      refine gm_place C hP dc_M_trap_253 (fun v11 e11 => ?_)
      exact ck_lret (v := v11) C hP hD hS (by subst e7 e9 ew10 e11; exact ck_pair (hq.trans ((if_neg c1)))) dc_M_trap_256
  have k85 : ∀ (u : ms_St) (x7 : Int64) (y0 : Int32) (H : Heap) (locs : List Loc) (ls : Array Slot), va_P D xw_Cl ((wm m0 hd ln cH cZ) u) H → va_D A ((wm m0 hd ln cH cZ) u) → va_S A s.heap H locs → lv_has ls 11 [(0, .ref m0), (1, .int p1), (2, .int p2), (3, .long p3), (5, .long p4), (7, .long x7)] → f_M_trap u0 p1 p2 p3 p4 = f_M_trap_85 u p1 p2 p3 p4 x7 y0 → W p l e rm_M_trap s m #[.ref m0, .int p1, .int p2, .long p3, .long p4] below meth c H locs 0 0 (MQ below (va_Ql (fun r2 u2 => r2 = (f_M_trap u0 p1 p2 p3 p4).1 ∧ u2 = (f_M_trap u0 p1 p2 p3 p4).2) (ck_B D (wm m0 hd ln cH cZ) A) A) #[.ref m0, .int p1, .int p2, .long p3, .long p4] s 0 0 A) (F0 m 85 ls [.int y0]) := by
    intro u x7 y0 H locs ls hP hD hS hl hq 
    refine lv_istore (lv' := [(9, .int y0), (0, .ref m0), (1, .int p1), (2, .int p2), (3, .long p3), (5, .long p4), (7, .long x7)]) hx hb dc_M_trap_85 hl (by decide) rfl (fun ls hl => ?_)
    refine lv_iload hx hb dc_M_trap_87 (lv_at hl 0 rfl) ?_
    refine lv_if_eq (tgt := 98) hx hb dc_M_trap_89 (by decide) (fun c12 => ?_) (fun c12 => ?_)
    · refine lv_sipush (v := 832) hx hb dc_M_trap_98 (by decide) ?_
      refine lv_istore (lv' := [(10, .int 832), (9, .int y0), (0, .ref m0), (1, .int p1), (2, .int p2), (3, .long p3), (5, .long p4), (7, .long x7)]) hx hb dc_M_trap_101 hl (by decide) rfl (fun ls hl => ?_)
      refine lv_aload_n hx hb dc_M_trap_103 rfl (lv_at hl 2 rfl) ?_
      refine gm_held C hP dc_M_trap_104 ?_
      refine lv_iload hx hb dc_M_trap_107 (lv_at hl 0 rfl) ?_
      refine lv_iconst (v := 1) hx hb dc_M_trap_109 (by decide) ?_
      refine xr_iadd hx hb dc_M_trap_110 (fun v13 e13 => ?_)
      obtain rfl : v13 = 833 := by rw [e13]; rfl
      refine lv_lload hx hb dc_M_trap_111 (lv_at hl 6 rfl) ?_
      refine lv_ldc2 (v := (-2)) hx hb hown (hT _ mw_43) dc_M_trap_113 ?_
      refine xr_land hx hb dc_M_trap_116 (fun v14 e14 => ?_)
      refine rm_last C hP hD hS (by unfold vp_in; decide) dc_M_trap_117 (fun w15 H locs ew15 hP hD hS => ?_)
      refine lv_aload_n hx hb dc_M_trap_118 rfl (lv_at hl 2 rfl) ?_
      refine gm_held C hP dc_M_trap_119 ?_
      refine lv_iload hx hb dc_M_trap_122 (lv_at hl 0 rfl) ?_
      refine lv_iconst (v := 2) hx hb dc_M_trap_124 (by decide) ?_
      refine xr_iadd hx hb dc_M_trap_125 (fun v16 e16 => ?_)
      obtain rfl : v16 = 834 := by rw [e16]; rfl
      refine lv_lload hx hb dc_M_trap_126 (lv_at hl 7 rfl) ?_
      refine rm_last C hP hD hS (by unfold vp_in; decide) dc_M_trap_128 (fun w17 H locs ew17 hP hD hS => ?_)
      refine lv_aload_n hx hb dc_M_trap_129 rfl (lv_at hl 2 rfl) ?_
      refine gm_held C hP dc_M_trap_130 ?_
      refine lv_iload hx hb dc_M_trap_133 (lv_at hl 0 rfl) ?_
      refine lv_iconst (v := 3) hx hb dc_M_trap_135 (by decide) ?_
      refine xr_iadd hx hb dc_M_trap_136 (fun v18 e18 => ?_)
      obtain rfl : v18 = 835 := by rw [e18]; rfl
      refine lv_lload_n hx hb dc_M_trap_137 rfl (lv_at hl 5 rfl) ?_
      refine rm_last C hP hD hS (by unfold vp_in; decide) dc_M_trap_138 (fun w19 H locs ew19 hP hD hS => ?_)
      refine lv_iload hx hb dc_M_trap_139 (lv_at hl 1 rfl) ?_
      refine lv_if_eq (tgt := 178) hx hb dc_M_trap_141 (by decide) (fun c20 => ?_) (fun c20 => ?_)
      · refine lv_aload_n hx hb dc_M_trap_178 rfl (lv_at hl 2 rfl) ?_
        refine lv_bipush (v := 11) hx hb dc_M_trap_179 (by decide) ?_
        refine lv_aload_n hx hb dc_M_trap_181 rfl (lv_at hl 2 rfl) ?_
        refine gm_mode C hP dc_M_trap_182 (fun v21 e21 => ?_)
        refine lv_iconst (v := 2) hx hb dc_M_trap_185 (by decide) ?_
        refine xr_irem hx hb dc_M_trap_186 (by decide) (fun v22 e22 => ?_)
        refine ck_gov (rest := []) C kt_M hP hD hS (ck_runV (q0 := 0) C kt_M hK (c_M_put l D m0 hd ln cH cZ w19 11 v22  _) (cw_M_78 hT ⟨Nat.le_of_ble_eq_true rfl, Nat.le_of_ble_eq_true rfl⟩) rfl rfl hP hD hS rfl hl.1 rfl (Nat.le_of_ble_eq_true rfl) dc_M_trap_187 ⟨Nat.zero_le _, Nat.zero_le _⟩) (fun w23 H locs ew23 hP hD hS => ?_)
        refine lv_aload_n hx hb dc_M_trap_190 rfl (lv_at hl 2 rfl) ?_
        refine lv_bipush (v := 12) hx hb dc_M_trap_191 (by decide) ?_
        refine lv_aload_n hx hb dc_M_trap_193 rfl (lv_at hl 2 rfl) ?_
        refine gm_mode C hP dc_M_trap_194 (fun v24 e24 => ?_)
        refine lv_iconst (v := 2) hx hb dc_M_trap_197 (by decide) ?_
        refine xr_idiv hx hb dc_M_trap_198 (by decide) (fun v25 e25 => ?_)
        refine ck_gov (rest := []) C kt_M hP hD hS (ck_runV (q0 := 0) C kt_M hK (c_M_put l D m0 hd ln cH cZ w23 12 v25  _) (cw_M_78 hT ⟨Nat.le_of_ble_eq_true rfl, Nat.le_of_ble_eq_true rfl⟩) rfl rfl hP hD hS rfl hl.1 rfl (Nat.le_of_ble_eq_true rfl) dc_M_trap_199 ⟨Nat.zero_le _, Nat.zero_le _⟩) (fun w26 H locs ew26 hP hD hS => ?_)
        refine lv_aload_n hx hb dc_M_trap_202 rfl (lv_at hl 2 rfl) ?_
        refine lv_bipush (v := 7) hx hb dc_M_trap_203 (by decide) ?_
        refine lv_aload_n hx hb dc_M_trap_205 rfl (lv_at hl 2 rfl) ?_
        refine lv_iconst (v := 3) hx hb dc_M_trap_206 (by decide) ?_
        refine ck_gpi (rest := [.int 7, .ref m0]) C kt_M hP hD hS (ck_runV (q0 := 0) C kt_M hK (c_M_status l D m0 hd ln cH cZ w26 3  _) (cw_M_29 hT ⟨Nat.le_of_ble_eq_true rfl, Nat.le_of_ble_eq_true rfl⟩) rfl rfl hP hD hS rfl hl.1 rfl (Nat.le_of_ble_eq_true rfl) dc_M_trap_207 ⟨Nat.zero_le _, Nat.zero_le _⟩) (fun v28 H locs e28 hP hD hS => ?_)
        refine ck_gov (rest := []) C kt_M hP hD hS (ck_runV (q0 := 0) C kt_M hK (c_M_put l D m0 hd ln cH cZ w26 7 v28  _) (cw_M_78 hT ⟨Nat.le_of_ble_eq_true rfl, Nat.le_of_ble_eq_true rfl⟩) rfl rfl hP hD hS rfl hl.1 rfl (Nat.le_of_ble_eq_true rfl) dc_M_trap_210 ⟨Nat.zero_le _, Nat.zero_le _⟩) (fun w29 H locs ew29 hP hD hS => ?_)
        refine lv_aload_n hx hb dc_M_trap_213 rfl (lv_at hl 2 rfl) ?_
        refine lv_iconst (v := 3) hx hb dc_M_trap_214 (by decide) ?_
        refine lv_iconst (v := 0) hx hb dc_M_trap_215 (by decide) ?_
        refine ck_gov (rest := []) C kt_M hP hD hS (ck_runV (q0 := 0) C kt_M hK (c_M_put l D m0 hd ln cH cZ w29 3 0  _) (cw_M_78 hT ⟨Nat.le_of_ble_eq_true rfl, Nat.le_of_ble_eq_true rfl⟩) rfl rfl hP hD hS rfl hl.1 rfl (Nat.le_of_ble_eq_true rfl) dc_M_trap_216 ⟨Nat.zero_le _, Nat.zero_le _⟩) (fun w30 H locs ew30 hP hD hS => ?_)
        refine lv_aload_n hx hb dc_M_trap_219 rfl (lv_at hl 2 rfl) ?_
        refine lv_iconst (v := 3) hx hb dc_M_trap_220 (by decide) ?_
        refine pm_mode C hP hD hS dc_M_trap_221 (fun w31 H locs ew31 hP hD hS => ?_)
        exact k224 w31 y0 _ _ _ hP hD hS (lv_sub hl [2, 3, 4, 1] rfl) (by subst e14 ew15 ew17 ew19 e21 e22 ew23 e24 e25 ew26 e28 ew29 ew30 ew31; exact hq.trans ((if_pos c12)))
      · exact absurd c12 c20
    · refine lv_sipush (v := 320) hx hb dc_M_trap_92 (by decide) ?_
      refine lv_goto (tgt := 101) hx hb dc_M_trap_95 (by decide) ?_
      refine lv_istore (lv' := [(10, .int 320), (9, .int y0), (0, .ref m0), (1, .int p1), (2, .int p2), (3, .long p3), (5, .long p4), (7, .long x7)]) hx hb dc_M_trap_101 hl (by decide) rfl (fun ls hl => ?_)
      refine lv_aload_n hx hb dc_M_trap_103 rfl (lv_at hl 2 rfl) ?_
      refine gm_held C hP dc_M_trap_104 ?_
      refine lv_iload hx hb dc_M_trap_107 (lv_at hl 0 rfl) ?_
      refine lv_iconst (v := 1) hx hb dc_M_trap_109 (by decide) ?_
      refine xr_iadd hx hb dc_M_trap_110 (fun v32 e32 => ?_)
      obtain rfl : v32 = 321 := by rw [e32]; rfl
      refine lv_lload hx hb dc_M_trap_111 (lv_at hl 6 rfl) ?_
      refine lv_ldc2 (v := (-2)) hx hb hown (hT _ mw_43) dc_M_trap_113 ?_
      refine xr_land hx hb dc_M_trap_116 (fun v33 e33 => ?_)
      refine rm_last C hP hD hS (by unfold vp_in; decide) dc_M_trap_117 (fun w34 H locs ew34 hP hD hS => ?_)
      refine lv_aload_n hx hb dc_M_trap_118 rfl (lv_at hl 2 rfl) ?_
      refine gm_held C hP dc_M_trap_119 ?_
      refine lv_iload hx hb dc_M_trap_122 (lv_at hl 0 rfl) ?_
      refine lv_iconst (v := 2) hx hb dc_M_trap_124 (by decide) ?_
      refine xr_iadd hx hb dc_M_trap_125 (fun v35 e35 => ?_)
      obtain rfl : v35 = 322 := by rw [e35]; rfl
      refine lv_lload hx hb dc_M_trap_126 (lv_at hl 7 rfl) ?_
      refine rm_last C hP hD hS (by unfold vp_in; decide) dc_M_trap_128 (fun w36 H locs ew36 hP hD hS => ?_)
      refine lv_aload_n hx hb dc_M_trap_129 rfl (lv_at hl 2 rfl) ?_
      refine gm_held C hP dc_M_trap_130 ?_
      refine lv_iload hx hb dc_M_trap_133 (lv_at hl 0 rfl) ?_
      refine lv_iconst (v := 3) hx hb dc_M_trap_135 (by decide) ?_
      refine xr_iadd hx hb dc_M_trap_136 (fun v37 e37 => ?_)
      obtain rfl : v37 = 323 := by rw [e37]; rfl
      refine lv_lload_n hx hb dc_M_trap_137 rfl (lv_at hl 5 rfl) ?_
      refine rm_last C hP hD hS (by unfold vp_in; decide) dc_M_trap_138 (fun w38 H locs ew38 hP hD hS => ?_)
      refine lv_iload hx hb dc_M_trap_139 (lv_at hl 1 rfl) ?_
      refine lv_if_eq (tgt := 178) hx hb dc_M_trap_141 (by decide) (fun c39 => ?_) (fun c39 => ?_)
      · exact absurd c39 c12
      · refine lv_aload_n hx hb dc_M_trap_144 rfl (lv_at hl 2 rfl) ?_
        refine lv_bipush (v := 8) hx hb dc_M_trap_145 (by decide) ?_
        refine lv_aload_n hx hb dc_M_trap_147 rfl (lv_at hl 2 rfl) ?_
        refine gm_mode C hP dc_M_trap_148 (fun v40 e40 => ?_)
        refine ck_gov (rest := []) C kt_M hP hD hS (ck_runV (q0 := 0) C kt_M hK (c_M_put l D m0 hd ln cH cZ w38 8 v40  _) (cw_M_78 hT ⟨Nat.le_of_ble_eq_true rfl, Nat.le_of_ble_eq_true rfl⟩) rfl rfl hP hD hS rfl hl.1 rfl (Nat.le_of_ble_eq_true rfl) dc_M_trap_151 ⟨Nat.zero_le _, Nat.zero_le _⟩) (fun w41 H locs ew41 hP hD hS => ?_)
        refine lv_aload_n hx hb dc_M_trap_154 rfl (lv_at hl 2 rfl) ?_
        refine lv_iconst (v := 5) hx hb dc_M_trap_155 (by decide) ?_
        refine lv_aload_n hx hb dc_M_trap_156 rfl (lv_at hl 2 rfl) ?_
        refine lv_iconst (v := 1) hx hb dc_M_trap_157 (by decide) ?_
        refine ck_gpi (rest := [.int 5, .ref m0]) C kt_M hP hD hS (ck_runV (q0 := 0) C kt_M hK (c_M_status l D m0 hd ln cH cZ w41 1  _) (cw_M_29 hT ⟨Nat.le_of_ble_eq_true rfl, Nat.le_of_ble_eq_true rfl⟩) rfl rfl hP hD hS rfl hl.1 rfl (Nat.le_of_ble_eq_true rfl) dc_M_trap_158 ⟨Nat.zero_le _, Nat.zero_le _⟩) (fun v43 H locs e43 hP hD hS => ?_)
        refine ck_gov (rest := []) C kt_M hP hD hS (ck_runV (q0 := 0) C kt_M hK (c_M_put l D m0 hd ln cH cZ w41 5 v43  _) (cw_M_78 hT ⟨Nat.le_of_ble_eq_true rfl, Nat.le_of_ble_eq_true rfl⟩) rfl rfl hP hD hS rfl hl.1 rfl (Nat.le_of_ble_eq_true rfl) dc_M_trap_161 ⟨Nat.zero_le _, Nat.zero_le _⟩) (fun w44 H locs ew44 hP hD hS => ?_)
        refine lv_aload_n hx hb dc_M_trap_164 rfl (lv_at hl 2 rfl) ?_
        refine lv_iconst (v := 1) hx hb dc_M_trap_165 (by decide) ?_
        refine lv_iconst (v := 0) hx hb dc_M_trap_166 (by decide) ?_
        refine ck_gov (rest := []) C kt_M hP hD hS (ck_runV (q0 := 0) C kt_M hK (c_M_put l D m0 hd ln cH cZ w44 1 0  _) (cw_M_78 hT ⟨Nat.le_of_ble_eq_true rfl, Nat.le_of_ble_eq_true rfl⟩) rfl rfl hP hD hS rfl hl.1 rfl (Nat.le_of_ble_eq_true rfl) dc_M_trap_167 ⟨Nat.zero_le _, Nat.zero_le _⟩) (fun w45 H locs ew45 hP hD hS => ?_)
        refine lv_aload_n hx hb dc_M_trap_170 rfl (lv_at hl 2 rfl) ?_
        refine lv_iconst (v := 1) hx hb dc_M_trap_171 (by decide) ?_
        refine pm_mode C hP hD hS dc_M_trap_172 (fun w46 H locs ew46 hP hD hS => ?_)
        refine lv_goto (tgt := 224) hx hb dc_M_trap_175 (by decide) ?_
        exact k224 w46 y0 _ _ _ hP hD hS (lv_sub hl [2, 3, 4, 1] rfl) (by subst e33 ew34 ew36 ew38 e40 ew41 e43 ew44 ew45 ew46; exact hq.trans ((if_neg c12)))
  have k43 : ∀ (u : ms_St) (y0 : Int64) (H : Heap) (locs : List Loc) (ls : Array Slot), va_P D xw_Cl ((wm m0 hd ln cH cZ) u) H → va_D A ((wm m0 hd ln cH cZ) u) → va_S A s.heap H locs → lv_has ls 11 [(0, .ref m0), (1, .int p1), (2, .int p2), (3, .long p3), (5, .long p4)] → f_M_trap u0 p1 p2 p3 p4 = f_M_trap_43 u p1 p2 p3 p4 y0 → W p l e rm_M_trap s m #[.ref m0, .int p1, .int p2, .long p3, .long p4] below meth c H locs 0 0 (MQ below (va_Ql (fun r2 u2 => r2 = (f_M_trap u0 p1 p2 p3 p4).1 ∧ u2 = (f_M_trap u0 p1 p2 p3 p4).2) (ck_B D (wm m0 hd ln cH cZ) A) A) #[.ref m0, .int p1, .int p2, .long p3, .long p4] s 0 0 A) (F0 m 43 ls [.long y0]) := by
    intro u y0 H locs ls hP hD hS hl hq 
    refine lv_lstore (lv' := [(7, .long y0), (0, .ref m0), (1, .int p1), (2, .int p2), (3, .long p3), (5, .long p4)]) hx hb dc_M_trap_43 hl (by decide) rfl (fun ls hl => ?_)
    refine lv_aload_n hx hb dc_M_trap_45 rfl (lv_at hl 1 rfl) ?_
    refine gm_mode C hP dc_M_trap_46 (fun v47 e47 => ?_)
    refine lv_iconst (v := 3) hx hb dc_M_trap_49 (by decide) ?_
    refine lv_icmp_ge (tgt := 84) hx hb dc_M_trap_50 (by decide) (fun c48 => ?_) (fun c48 => ?_)
    · refine lv_iconst (v := 0) hx hb dc_M_trap_84 (by decide) ?_
      exact k85 u y0 0 _ _ _ hP hD hS (lv_sub hl [1, 2, 3, 4, 5, 0] rfl) (by subst e47; exact hq.trans ((if_pos c48)))
    · refine lv_aload_n hx hb dc_M_trap_53 rfl (lv_at hl 1 rfl) ?_
      refine gm_held C hP dc_M_trap_54 ?_
      refine lv_iload_n hx hb dc_M_trap_57 rfl (lv_at hl 2 rfl) ?_
      refine lv_if_eq (tgt := 67) hx hb dc_M_trap_58 (by decide) (fun c49 => ?_) (fun c49 => ?_)
      · refine lv_sipush (v := 770) hx hb dc_M_trap_67 (by decide) ?_
        refine rm_lald C hP (by unfold vp_in; decide) dc_M_trap_70 (fun v50 e50 => ?_)
        refine lv_iload_n hx hb dc_M_trap_71 rfl (lv_at hl 3 rfl) ?_
        refine xr_lshr hx hb dc_M_trap_72 (fun v51 e51 => ?_)
        refine lv_lconst (v := 1) hx hb dc_M_trap_73 (by decide) ?_
        refine xr_land hx hb dc_M_trap_74 (fun v52 e52 => ?_)
        refine lv_lconst (v := 1) hx hb dc_M_trap_75 (by decide) ?_
        refine xr_lcmp hx hb dc_M_trap_76 (fun v53 e53 => ?_)
        refine lv_if_ne (tgt := 84) hx hb dc_M_trap_77 (by decide) (fun c54 => ?_) (fun c54 => ?_)
        · refine lv_iconst (v := 0) hx hb dc_M_trap_84 (by decide) ?_
          exact k85 u y0 0 _ _ _ hP hD hS (lv_sub hl [1, 2, 3, 4, 5, 0] rfl) (by subst e47 e50 e51 e52 e53; exact hq.trans ((if_neg c48).trans ((if_pos c49).trans ((if_neg c54)))))
        · refine lv_iconst (v := 1) hx hb dc_M_trap_80 (by decide) ?_
          refine lv_goto (tgt := 85) hx hb dc_M_trap_81 (by decide) ?_
          exact k85 u y0 1 _ _ _ hP hD hS (lv_sub hl [1, 2, 3, 4, 5, 0] rfl) (by subst e47 e50 e51 e52 e53; exact hq.trans ((if_neg c48).trans ((if_pos c49).trans ((if_pos c54)))))
      · refine lv_sipush (v := 771) hx hb dc_M_trap_61 (by decide) ?_
        refine lv_goto (tgt := 70) hx hb dc_M_trap_64 (by decide) ?_
        refine rm_lald C hP (by unfold vp_in; decide) dc_M_trap_70 (fun v55 e55 => ?_)
        refine lv_iload_n hx hb dc_M_trap_71 rfl (lv_at hl 3 rfl) ?_
        refine xr_lshr hx hb dc_M_trap_72 (fun v56 e56 => ?_)
        refine lv_lconst (v := 1) hx hb dc_M_trap_73 (by decide) ?_
        refine xr_land hx hb dc_M_trap_74 (fun v57 e57 => ?_)
        refine lv_lconst (v := 1) hx hb dc_M_trap_75 (by decide) ?_
        refine xr_lcmp hx hb dc_M_trap_76 (fun v58 e58 => ?_)
        refine lv_if_ne (tgt := 84) hx hb dc_M_trap_77 (by decide) (fun c59 => ?_) (fun c59 => ?_)
        · refine lv_iconst (v := 0) hx hb dc_M_trap_84 (by decide) ?_
          exact k85 u y0 0 _ _ _ hP hD hS (lv_sub hl [1, 2, 3, 4, 5, 0] rfl) (by subst e47 e55 e56 e57 e58; exact hq.trans ((if_neg c48).trans ((if_neg c49).trans ((if_neg c59)))))
        · refine lv_iconst (v := 1) hx hb dc_M_trap_80 (by decide) ?_
          refine lv_goto (tgt := 85) hx hb dc_M_trap_81 (by decide) ?_
          exact k85 u y0 1 _ _ _ hP hD hS (lv_sub hl [1, 2, 3, 4, 5, 0] rfl) (by subst e47 e55 e56 e57 e58; exact hq.trans ((if_neg c48).trans ((if_neg c49).trans ((if_pos c59)))))
  -- from the entry
  refine lv_aload_n hx hb dc_M_trap_0 rfl (lv_at hl 0 rfl) ?_
  refine lv_iload_n hx hb dc_M_trap_1 rfl (lv_at hl 2 rfl) ?_
  refine lv_if_lt (tgt := 11) hx hb dc_M_trap_2 (by decide) (fun c60 => ?_) (fun c60 => ?_)
  · refine lv_iconst (v := 1) hx hb dc_M_trap_11 (by decide) ?_
    refine lv_goto (tgt := 16) hx hb dc_M_trap_12 (by decide) ?_
    refine pm_thrown C hP hD hS dc_M_trap_16 (fun w61 H locs ew61 hP hD hS => ?_)
    refine lv_aload_n hx hb dc_M_trap_19 rfl (lv_at hl 0 rfl) ?_
    refine gm_thrown C hP dc_M_trap_20 (fun v62 e62 => ?_)
    obtain rfl : v62 = 1 := by rw [e62, ew61]; rfl
    refine lv_if_le (tgt := 28) hx hb dc_M_trap_23 (by decide) (fun c63 => ?_) (fun c63 => ?_)
    · exact absurd c63 (by decide)
    · refine lv_lconst (v := 0) hx hb dc_M_trap_26 (by decide) ?_
      exact ck_lret (v := 0) C hP hD hS (by subst ew61; exact ck_pair ((if_pos c60))) dc_M_trap_27
  · refine lv_iload_n hx hb dc_M_trap_5 rfl (lv_at hl 2 rfl) ?_
    refine lv_bipush (v := 63) hx hb dc_M_trap_6 (by decide) ?_
    refine lv_icmp_le (tgt := 15) hx hb dc_M_trap_8 (by decide) (fun c64 => ?_) (fun c64 => ?_)
    · refine lv_iconst (v := 0) hx hb dc_M_trap_15 (by decide) ?_
      refine pm_thrown C hP hD hS dc_M_trap_16 (fun w65 H locs ew65 hP hD hS => ?_)
      refine lv_aload_n hx hb dc_M_trap_19 rfl (lv_at hl 0 rfl) ?_
      refine gm_thrown C hP dc_M_trap_20 (fun v66 e66 => ?_)
      obtain rfl : v66 = 0 := by rw [e66, ew65]; rfl
      refine lv_if_le (tgt := 28) hx hb dc_M_trap_23 (by decide) (fun c67 => ?_) (fun c67 => ?_)
      · refine lv_iload_n hx hb dc_M_trap_28 rfl (lv_at hl 1 rfl) ?_
        refine lv_if_eq (tgt := 41) hx hb dc_M_trap_29 (by decide) (fun c68 => ?_) (fun c68 => ?_)
        · refine lv_iload_n hx hb dc_M_trap_41 rfl (lv_at hl 2 rfl) ?_
          refine xr_i2l hx hb dc_M_trap_42 (fun v69 e69 => ?_)
          exact k43 w65 v69 _ _ _ hP hD hS (lv_sub hl [0, 1, 2, 3, 4] rfl) (by subst ew65 e69; exact (if_neg c60).trans ((if_pos c64).trans ((if_pos c68))))
        · refine lv_iload_n hx hb dc_M_trap_32 rfl (lv_at hl 2 rfl) ?_
          refine xr_i2l hx hb dc_M_trap_33 (fun v70 e70 => ?_)
          refine lv_ldc2 (v := (-9223372036854775808)) hx hb hown (hT _ mw_40) dc_M_trap_34 ?_
          refine xr_lor hx hb dc_M_trap_37 (fun v71 e71 => ?_)
          refine lv_goto (tgt := 43) hx hb dc_M_trap_38 (by decide) ?_
          exact k43 w65 v71 _ _ _ hP hD hS (lv_sub hl [0, 1, 2, 3, 4] rfl) (by subst ew65 e70 e71; exact (if_neg c60).trans ((if_pos c64).trans ((if_neg c68))))
      · exact absurd (by decide) c67
    · refine lv_iconst (v := 1) hx hb dc_M_trap_11 (by decide) ?_
      refine lv_goto (tgt := 16) hx hb dc_M_trap_12 (by decide) ?_
      refine pm_thrown C hP hD hS dc_M_trap_16 (fun w72 H locs ew72 hP hD hS => ?_)
      refine lv_aload_n hx hb dc_M_trap_19 rfl (lv_at hl 0 rfl) ?_
      refine gm_thrown C hP dc_M_trap_20 (fun v73 e73 => ?_)
      obtain rfl : v73 = 1 := by rw [e73, ew72]; rfl
      refine lv_if_le (tgt := 28) hx hb dc_M_trap_23 (by decide) (fun c74 => ?_) (fun c74 => ?_)
      · exact absurd c74 (by decide)
      · refine lv_lconst (v := 0) hx hb dc_M_trap_26 (by decide) ?_
        exact ck_lret (v := 0) C hP hD hS (by subst ew72; exact ck_pair ((if_neg c60).trans ((if_neg c64)))) dc_M_trap_27
