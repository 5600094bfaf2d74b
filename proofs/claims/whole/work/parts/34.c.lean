def f_M_line (u0 : ms_St) (p1 : Int32) (p2 : Int32) : ms_St := (if p1 = 3 then (let w2 : ms_St := (upd u0.1 0 0, u0.2); (let w5 : ms_St := (w2.1, w2.2.1, upd w2.2.2.1 p1.toNatClampNeg (vp_nar .boolean p2), w2.2.2.2); w5)) else (if p1 = 7 then (let w7 : ms_St := (upd u0.1 0 0, u0.2); (let w10 : ms_St := (w7.1, w7.2.1, upd w7.2.2.1 p1.toNatClampNeg (vp_nar .boolean p2), w7.2.2.2); w10)) else (if p1 = 9 then (let w12 : ms_St := (upd u0.1 0 0, u0.2); (let w15 : ms_St := (w12.1, w12.2.1, upd w12.2.2.1 p1.toNatClampNeg (vp_nar .boolean p2), w12.2.2.2); w15)) else (if p1 = 11 then (let w20 : ms_St := (upd u0.1 0 0, u0.2); (let w23 : ms_St := (w20.1, w20.2.1, upd w20.2.2.1 p1.toNatClampNeg (vp_nar .boolean p2), w20.2.2.2); w23)) else (let w17 : ms_St := (upd u0.1 0 1, u0.2); w17)))))
set_option maxHeartbeats 4000000 in
set_option maxRecDepth 100000 in
theorem c_M_line (l : Launch) (D : va_G) (m0 hd ln : Nat) (cH cZ : ClassId) (u0 : ms_St) (p1 : Int32) (p2 : Int32)  : ck_Mv l D [(cH, .long), (cZ, .boolean)] (wm m0 hd ln cH cZ) yn_M_line w_M_line rm_M_line 0 0 [.ref m0, .int p1, .int p2] u0 (f_M_line u0 p1 p2) := by
  refine ck_entv (cc := bc_M_line) (maxL := 3) (ret := none) (by decide) rfl (Nat.le_of_ble_eq_true rfl) ?_
  intro p e s m below meth c A ls C hnm hP hD hS hl
  have C : ck_C p s m meth c bc_M_line none 3 #[.ref m0, .int p1, .int p2] "ControlDeskModel" A D [(cH, .long), (cZ, .boolean)] := C
  have hl : lv_has ls 3 [(0, .ref m0), (1, .int p1), (2, .int p2)] := hl
  have hx := C.1
  have hb := C.2.1
  have hown := C.2.2.2.2.1
  have hT := C.2.2.2.2.2.1
  have hK := C.2.2.2.2.2.2.2.1
  have hN := C.2.2.2.2.2.2.2.2.2.2.2.1
  -- from the entry
  refine lv_aload_n hx hb dc_M_line_0 rfl (lv_at hl 0 rfl) ?_
  refine lv_iload_n hx hb dc_M_line_1 rfl (lv_at hl 1 rfl) ?_
  refine lv_iconst (v := 3) hx hb dc_M_line_2 (by decide) ?_
  refine lv_icmp_eq (tgt := 24) hx hb dc_M_line_3 (by decide) (fun c1 => ?_) (fun c1 => ?_)
  · refine lv_iconst (v := 0) hx hb dc_M_line_24 (by decide) ?_
    refine lv_goto (tgt := 29) hx hb dc_M_line_25 (by decide) ?_
    refine pm_thrown C hP hD hS dc_M_line_29 (fun w2 H locs ew2 hP hD hS => ?_)
    refine lv_aload_n hx hb dc_M_line_32 rfl (lv_at hl 0 rfl) ?_
    refine gm_thrown C hP dc_M_line_33 (fun v3 e3 => ?_)
    obtain rfl : v3 = 0 := by rw [e3, ew2]; rfl
    refine lv_if_ne (tgt := 46) hx hb dc_M_line_36 (by decide) (fun c4 => ?_) (fun c4 => ?_)
    · exact absurd (by decide) c4
    · refine lv_aload_n hx hb dc_M_line_39 rfl (lv_at hl 0 rfl) ?_
      refine gm_lines C hP dc_M_line_40 ?_
      refine lv_iload_n hx hb dc_M_line_43 rfl (lv_at hl 1 rfl) ?_
      refine lv_iload_n hx hb dc_M_line_44 rfl (lv_at hl 2 rfl) ?_
      refine rm_zast C hP hD hS (by rw [c1]; unfold vp_in; decide) dc_M_line_45 (fun w5 H locs ew5 hP hD hS => ?_)
      exact ck_vret C hP hD hS (by subst ew2 ew5; exact ((if_pos c1)).symm) dc_M_line_46
  · refine lv_iload_n hx hb dc_M_line_6 rfl (lv_at hl 1 rfl) ?_
    refine lv_bipush (v := 7) hx hb dc_M_line_7 (by decide) ?_
    refine lv_icmp_eq (tgt := 24) hx hb dc_M_line_9 (by decide) (fun c6 => ?_) (fun c6 => ?_)
    · refine lv_iconst (v := 0) hx hb dc_M_line_24 (by decide) ?_
      refine lv_goto (tgt := 29) hx hb dc_M_line_25 (by decide) ?_
      refine pm_thrown C hP hD hS dc_M_line_29 (fun w7 H locs ew7 hP hD hS => ?_)
      refine lv_aload_n hx hb dc_M_line_32 rfl (lv_at hl 0 rfl) ?_
      refine gm_thrown C hP dc_M_line_33 (fun v8 e8 => ?_)
      obtain rfl : v8 = 0 := by rw [e8, ew7]; rfl
      refine lv_if_ne (tgt := 46) hx hb dc_M_line_36 (by decide) (fun c9 => ?_) (fun c9 => ?_)
      · exact absurd (by decide) c9
      · refine lv_aload_n hx hb dc_M_line_39 rfl (lv_at hl 0 rfl) ?_
        refine gm_lines C hP dc_M_line_40 ?_
        refine lv_iload_n hx hb dc_M_line_43 rfl (lv_at hl 1 rfl) ?_
        refine lv_iload_n hx hb dc_M_line_44 rfl (lv_at hl 2 rfl) ?_
        refine rm_zast C hP hD hS (by rw [c6]; unfold vp_in; decide) dc_M_line_45 (fun w10 H locs ew10 hP hD hS => ?_)
        exact ck_vret C hP hD hS (by subst ew7 ew10; exact ((if_neg c1).trans ((if_pos c6))).symm) dc_M_line_46
    · refine lv_iload_n hx hb dc_M_line_12 rfl (lv_at hl 1 rfl) ?_
      refine lv_bipush (v := 9) hx hb dc_M_line_13 (by decide) ?_
      refine lv_icmp_eq (tgt := 24) hx hb dc_M_line_15 (by decide) (fun c11 => ?_) (fun c11 => ?_)
      · refine lv_iconst (v := 0) hx hb dc_M_line_24 (by decide) ?_
        refine lv_goto (tgt := 29) hx hb dc_M_line_25 (by decide) ?_
        refine pm_thrown C hP hD hS dc_M_line_29 (fun w12 H locs ew12 hP hD hS => ?_)
        refine lv_aload_n hx hb dc_M_line_32 rfl (lv_at hl 0 rfl) ?_
        refine gm_thrown C hP dc_M_line_33 (fun v13 e13 => ?_)
        obtain rfl : v13 = 0 := by rw [e13, ew12]; rfl
        refine lv_if_ne (tgt := 46) hx hb dc_M_line_36 (by decide) (fun c14 => ?_) (fun c14 => ?_)
        · exact absurd (by decide) c14
        · refine lv_aload_n hx hb dc_M_line_39 rfl (lv_at hl 0 rfl) ?_
          refine gm_lines C hP dc_M_line_40 ?_
          refine lv_iload_n hx hb dc_M_line_43 rfl (lv_at hl 1 rfl) ?_
          refine lv_iload_n hx hb dc_M_line_44 rfl (lv_at hl 2 rfl) ?_
          refine rm_zast C hP hD hS (by rw [c11]; unfold vp_in; decide) dc_M_line_45 (fun w15 H locs ew15 hP hD hS => ?_)
          exact ck_vret C hP hD hS (by subst ew12 ew15; exact ((if_neg c1).trans ((if_neg c6).trans ((if_pos c11)))).symm) dc_M_line_46
      · refine lv_iload_n hx hb dc_M_line_18 rfl (lv_at hl 1 rfl) ?_
        refine lv_bipush (v := 11) hx hb dc_M_line_19 (by decide) ?_
        refine lv_icmp_ne (tgt := 28) hx hb dc_M_line_21 (by decide) (fun c16 => ?_) (fun c16 => ?_)
        · refine lv_iconst (v := 1) hx hb dc_M_line_28 (by decide) ?_
          refine pm_thrown C hP hD hS dc_M_line_29 (fun w17 H locs ew17 hP hD hS => ?_)
          refine lv_aload_n hx hb dc_M_line_32 rfl (lv_at hl 0 rfl) ?_
          refine gm_thrown C hP dc_M_line_33 (fun v18 e18 => ?_)
          obtain rfl : v18 = 1 := by rw [e18, ew17]; rfl
          refine lv_if_ne (tgt := 46) hx hb dc_M_line_36 (by decide) (fun c19 => ?_) (fun c19 => ?_)
          · exact ck_vret C hP hD hS (by subst ew17; exact ((if_neg c1).trans ((if_neg c6).trans ((if_neg c11).trans ((if_neg c16))))).symm) dc_M_line_46
          · exact absurd c19 (by decide)
        · refine lv_iconst (v := 0) hx hb dc_M_line_24 (by decide) ?_
          refine lv_goto (tgt := 29) hx hb dc_M_line_25 (by decide) ?_
          refine pm_thrown C hP hD hS dc_M_line_29 (fun w20 H locs ew20 hP hD hS => ?_)
          refine lv_aload_n hx hb dc_M_line_32 rfl (lv_at hl 0 rfl) ?_
          refine gm_thrown C hP dc_M_line_33 (fun v21 e21 => ?_)
          obtain rfl : v21 = 0 := by rw [e21, ew20]; rfl
          refine lv_if_ne (tgt := 46) hx hb dc_M_line_36 (by decide) (fun c22 => ?_) (fun c22 => ?_)
          · exact absurd (by decide) c22
          · refine lv_aload_n hx hb dc_M_line_39 rfl (lv_at hl 0 rfl) ?_
            refine gm_lines C hP dc_M_line_40 ?_
            refine lv_iload_n hx hb dc_M_line_43 rfl (lv_at hl 1 rfl) ?_
            refine lv_iload_n hx hb dc_M_line_44 rfl (lv_at hl 2 rfl) ?_
            refine rm_zast C hP hD hS (by rw [c16]; unfold vp_in; decide) dc_M_line_45 (fun w23 H locs ew23 hP hD hS => ?_)
            exact ck_vret C hP hD hS (by subst ew20 ew23; exact ((if_neg c1).trans ((if_neg c6).trans ((if_neg c11).trans ((if_pos c16))))).symm) dc_M_line_46
def f_M_allowed_53 (u : ms_St) (p1 : Int32) (y1 : Int32) : Int32 × ms_St := (let v2 : Int32 := f_M_status u y1; (if v2 = 0 then (1, u) else (0, u)))
def f_M_allowed_15 (u : ms_St) (p1 : Int32) (y1 : Int32) : Int32 × ms_St := (let w4 : ms_St := (upd u.1 0 y1, u.2); let v5 : Int32 := w4.1 0; (if v5 = 0 then (let v7 : Int32 := w4.1 2; (if v7 = 3 then (1, w4) else (let v9 : Int32 := w4.1 2; (if v9 = 1 then (if p1 = 0 then (f_M_allowed_53 w4 p1 21) else (f_M_allowed_53 w4 p1 20)) else (0, w4))))) else (0, w4)))
def f_M_allowed (u0 : ms_St) (p1 : Int32) : Int32 × ms_St := (if p1 = 0 then (f_M_allowed_15 u0 p1 0) else (if p1 = 1 then (f_M_allowed_15 u0 p1 0) else (f_M_allowed_15 u0 p1 1)))
set_option maxHeartbeats 4000000 in
set_option maxRecDepth 100000 in
theorem c_M_allowed (l : Launch) (D : va_G) (m0 hd ln : Nat) (cH cZ : ClassId) (u0 : ms_St) (p1 : Int32)  : ck_Mi l D [(cH, .long), (cZ, .boolean)] (wm m0 hd ln cH cZ) yn_M_allowed w_M_allowed rm_M_allowed 0 0 [.ref m0, .int p1] u0 (f_M_allowed u0 p1).1 (f_M_allowed u0 p1).2 := by
  refine ck_enti (cc := bc_M_allowed) (maxL := 2) (ret := (some .boolean)) (by decide) rfl (Nat.le_of_ble_eq_true rfl) ?_
  intro p e s m below meth c A ls C hnm hP hD hS hl
  have C : ck_C p s m meth c bc_M_allowed (some .boolean) 2 #[.ref m0, .int p1] "ControlDeskModel" A D [(cH, .long), (cZ, .boolean)] := C
  have hl : lv_has ls 2 [(0, .ref m0), (1, .int p1)] := hl
  have hx := C.1
  have hb := C.2.1
  have hown := C.2.2.2.2.1
  have hT := C.2.2.2.2.2.1
  have hK := C.2.2.2.2.2.2.2.1
  have hN := C.2.2.2.2.2.2.2.2.2.2.2.1
  have k53 : ∀ (u : ms_St) (y1 : Int32) (H : Heap) (locs : List Loc) (ls : Array Slot), va_P D xw_Cl ((wm m0 hd ln cH cZ) u) H → va_D A ((wm m0 hd ln cH cZ) u) → va_S A s.heap H locs → lv_has ls 2 [] → f_M_allowed u0 p1 = f_M_allowed_53 u p1 y1 → W p l e rm_M_allowed s m #[.ref m0, .int p1] below meth c H locs 0 0 (MQ below (va_Qi (fun r2 u2 => r2 = (f_M_allowed u0 p1).1 ∧ u2 = (f_M_allowed u0 p1).2) (ck_B D (wm m0 hd ln cH cZ) A) A) #[.ref m0, .int p1] s 0 0 A) (F0 m 53 ls [.int y1, .ref m0]) := by
    intro u y1 H locs ls hP hD hS hl hq 
    refine ck_gpi (rest := []) C kt_M hP hD hS (ck_runV (q0 := 0) C kt_M hK (c_M_status l D m0 hd ln cH cZ u y1  _) (cw_M_29 hT ⟨Nat.le_of_ble_eq_true rfl, Nat.le_of_ble_eq_true rfl⟩) rfl rfl hP hD hS rfl hl.1 rfl (Nat.le_of_ble_eq_true rfl) dc_M_allowed_53 ⟨Nat.zero_le _, Nat.zero_le _⟩) (fun v2 H locs e2 hP hD hS => ?_)
    refine lv_if_ne (tgt := 63) hx hb dc_M_allowed_56 (by decide) (fun c3 => ?_) (fun c3 => ?_)
    · refine lv_iconst (v := 0) hx hb dc_M_allowed_63 (by decide) ?_
      exact ck_zret (v := 0) C hP hD hS rfl (by subst e2; exact ck_pair (hq.trans ((if_neg c3)))) dc_M_allowed_64
    · refine lv_iconst (v := 1) hx hb dc_M_allowed_59 (by decide) ?_
      refine lv_goto (tgt := 64) hx hb dc_M_allowed_60 (by decide) ?_
      exact ck_zret (v := 1) C hP hD hS rfl (by subst e2; exact ck_pair (hq.trans ((if_pos c3)))) dc_M_allowed_64
  have k15 : ∀ (u : ms_St) (y1 : Int32) (H : Heap) (locs : List Loc) (ls : Array Slot), va_P D xw_Cl ((wm m0 hd ln cH cZ) u) H → va_D A ((wm m0 hd ln cH cZ) u) → va_S A s.heap H locs → lv_has ls 2 [(0, .ref m0), (1, .int p1)] → f_M_allowed u0 p1 = f_M_allowed_15 u p1 y1 → W p l e rm_M_allowed s m #[.ref m0, .int p1] below meth c H locs 0 0 (MQ below (va_Qi (fun r2 u2 => r2 = (f_M_allowed u0 p1).1 ∧ u2 = (f_M_allowed u0 p1).2) (ck_B D (wm m0 hd ln cH cZ) A) A) #[.ref m0, .int p1] s 0 0 A) (F0 m 15 ls [.int y1, .ref m0]) := by
    intro u y1 H locs ls hP hD hS hl hq 
    refine pm_thrown C hP hD hS dc_M_allowed_15 (fun w4 H locs ew4 hP hD hS => ?_)
    refine lv_aload_n hx hb dc_M_allowed_18 rfl (lv_at hl 0 rfl) ?_
    refine gm_thrown C hP dc_M_allowed_19 (fun v5 e5 => ?_)
    refine lv_if_ne (tgt := 63) hx hb dc_M_allowed_22 (by decide) (fun c6 => ?_) (fun c6 => ?_)
    · refine lv_iconst (v := 0) hx hb dc_M_allowed_63 (by decide) ?_
      exact ck_zret (v := 0) C hP hD hS rfl (by subst ew4 e5; exact ck_pair (hq.trans ((if_neg c6)))) dc_M_allowed_64
    · refine lv_aload_n hx hb dc_M_allowed_25 rfl (lv_at hl 0 rfl) ?_
      refine gm_mode C hP dc_M_allowed_26 (fun v7 e7 => ?_)
      refine lv_iconst (v := 3) hx hb dc_M_allowed_29 (by decide) ?_
      refine lv_icmp_eq (tgt := 59) hx hb dc_M_allowed_30 (by decide) (fun c8 => ?_) (fun c8 => ?_)
      · refine lv_iconst (v := 1) hx hb dc_M_allowed_59 (by decide) ?_
        refine lv_goto (tgt := 64) hx hb dc_M_allowed_60 (by decide) ?_
        exact ck_zret (v := 1) C hP hD hS rfl (by subst ew4 e5 e7; exact ck_pair (hq.trans ((if_pos c6).trans ((if_pos c8))))) dc_M_allowed_64
      · refine lv_aload_n hx hb dc_M_allowed_33 rfl (lv_at hl 0 rfl) ?_
        refine gm_mode C hP dc_M_allowed_34 (fun v9 e9 => ?_)
        refine lv_iconst (v := 1) hx hb dc_M_allowed_37 (by decide) ?_
        refine lv_icmp_ne (tgt := 63) hx hb dc_M_allowed_38 (by decide) (fun c10 => ?_) (fun c10 => ?_)
        · refine lv_iconst (v := 0) hx hb dc_M_allowed_63 (by decide) ?_
          exact ck_zret (v := 0) C hP hD hS rfl (by subst ew4 e5 e7 e9; exact ck_pair (hq.trans ((if_pos c6).trans ((if_neg c8).trans ((if_neg c10)))))) dc_M_allowed_64
        · refine lv_aload_n hx hb dc_M_allowed_41 rfl (lv_at hl 0 rfl) ?_
          refine lv_iload_n hx hb dc_M_allowed_42 rfl (lv_at hl 1 rfl) ?_
          refine lv_if_ne (tgt := 51) hx hb dc_M_allowed_43 (by decide) (fun c11 => ?_) (fun c11 => ?_)
          · refine lv_bipush (v := 20) hx hb dc_M_allowed_51 (by decide) ?_
            exact k53 w4 20 _ _ _ hP hD hS (lv_sub hl [] rfl) (by subst ew4 e5 e7 e9; exact hq.trans ((if_pos c6).trans ((if_neg c8).trans ((if_pos c10).trans ((if_neg c11))))))
          · refine lv_bipush (v := 21) hx hb dc_M_allowed_46 (by decide) ?_
            refine lv_goto (tgt := 53) hx hb dc_M_allowed_48 (by decide) ?_
            exact k53 w4 21 _ _ _ hP hD hS (lv_sub hl [] rfl) (by subst ew4 e5 e7 e9; exact hq.trans ((if_pos c6).trans ((if_neg c8).trans ((if_pos c10).trans ((if_pos c11))))))
  -- from the entry
  refine lv_aload_n hx hb dc_M_allowed_0 rfl (lv_at hl 0 rfl) ?_
  refine lv_iload_n hx hb dc_M_allowed_1 rfl (lv_at hl 1 rfl) ?_
  refine lv_if_eq (tgt := 10) hx hb dc_M_allowed_2 (by decide) (fun c12 => ?_) (fun c12 => ?_)
  · refine lv_iconst (v := 0) hx hb dc_M_allowed_10 (by decide) ?_
    refine lv_goto (tgt := 15) hx hb dc_M_allowed_11 (by decide) ?_
    exact k15 u0 0 _ _ _ hP hD hS (lv_sub hl [0, 1] rfl) (by exact (if_pos c12))
  · refine lv_iload_n hx hb dc_M_allowed_5 rfl (lv_at hl 1 rfl) ?_
    refine lv_iconst (v := 1) hx hb dc_M_allowed_6 (by decide) ?_
    refine lv_icmp_ne (tgt := 14) hx hb dc_M_allowed_7 (by decide) (fun c13 => ?_) (fun c13 => ?_)
    · refine lv_iconst (v := 1) hx hb dc_M_allowed_14 (by decide) ?_
      exact k15 u0 1 _ _ _ hP hD hS (lv_sub hl [0, 1] rfl) (by exact (if_neg c12).trans ((if_neg c13)))
    · refine lv_iconst (v := 0) hx hb dc_M_allowed_10 (by decide) ?_
      refine lv_goto (tgt := 15) hx hb dc_M_allowed_11 (by decide) ?_
      exact k15 u0 0 _ _ _ hP hD hS (lv_sub hl [0, 1] rfl) (by exact (if_neg c12).trans ((if_pos c13)))
def f_M_floats (u0 : ms_St)  : Int32 × ms_St := (let w1 : ms_St := (upd u0.1 0 0, u0.2); let v3 : Int32 := f_M_floating w1; (if v3 ≤ 0 then (0, w1) else (1, w1)))
set_option maxHeartbeats 4000000 in
set_option maxRecDepth 100000 in
theorem c_M_floats (l : Launch) (D : va_G) (m0 hd ln : Nat) (cH cZ : ClassId) (u0 : ms_St)   : ck_Mi l D [(cH, .long), (cZ, .boolean)] (wm m0 hd ln cH cZ) yn_M_floats w_M_floats rm_M_floats 0 0 [.ref m0] u0 (f_M_floats u0).1 (f_M_floats u0).2 := by
  refine ck_enti (cc := bc_M_floats) (maxL := 1) (ret := (some .boolean)) (by decide) rfl (Nat.le_of_ble_eq_true rfl) ?_
  intro p e s m below meth c A ls C hnm hP hD hS hl
  have C : ck_C p s m meth c bc_M_floats (some .boolean) 1 #[.ref m0] "ControlDeskModel" A D [(cH, .long), (cZ, .boolean)] := C
  have hl : lv_has ls 1 [(0, .ref m0)] := hl
  have hx := C.1
  have hb := C.2.1
  have hown := C.2.2.2.2.1
  have hT := C.2.2.2.2.2.1
  have hK := C.2.2.2.2.2.2.2.1
  have hN := C.2.2.2.2.2.2.2.2.2.2.2.1
  -- from the entry
  refine lv_aload_n hx hb dc_M_floats_0 rfl (lv_at hl 0 rfl) ?_
  refine lv_iconst (v := 0) hx hb dc_M_floats_1 (by decide) ?_
  refine pm_thrown C hP hD hS dc_M_floats_2 (fun w1 H locs ew1 hP hD hS => ?_)
  refine lv_aload_n hx hb dc_M_floats_5 rfl (lv_at hl 0 rfl) ?_
  refine ck_gpi (rest := []) C kt_M hP hD hS (ck_runV (q0 := 0) C kt_M hK (c_M_floating l D m0 hd ln cH cZ w1   _) (cw_M_44 hT ⟨Nat.le_of_ble_eq_true rfl, Nat.le_of_ble_eq_true rfl⟩) rfl rfl hP hD hS rfl hl.1 rfl (Nat.le_of_ble_eq_true rfl) dc_M_floats_6 ⟨Nat.zero_le _, Nat.zero_le _⟩) (fun v3 H locs e3 hP hD hS => ?_)
  refine lv_if_le (tgt := 16) hx hb dc_M_floats_9 (by decide) (fun c4 => ?_) (fun c4 => ?_)
  · refine lv_iconst (v := 0) hx hb dc_M_floats_16 (by decide) ?_
    exact ck_zret (v := 0) C hP hD hS rfl (by subst ew1 e3; exact ck_pair ((if_pos c4))) dc_M_floats_17
  · refine lv_iconst (v := 1) hx hb dc_M_floats_12 (by decide) ?_
    refine lv_goto (tgt := 17) hx hb dc_M_floats_13 (by decide) ?_
    exact ck_zret (v := 1) C hP hD hS rfl (by subst ew1 e3; exact ck_pair ((if_neg c4))) dc_M_floats_17
def f_M_dirty (u0 : ms_St)  : ms_St := (let w1 : ms_St := (upd u0.1 0 0, u0.2); let v3 : Int32 := f_M_floating w1; (if v3 ≤ 0 then w1 else (let w5 : ms_St := f_M_put w1 13 1; let w6 : ms_St := f_M_put w5 14 1; w6)))
set_option maxHeartbeats 4000000 in
set_option maxRecDepth 100000 in
theorem c_M_dirty (l : Launch) (D : va_G) (m0 hd ln : Nat) (cH cZ : ClassId) (u0 : ms_St)   : ck_Mv l D [(cH, .long), (cZ, .boolean)] (wm m0 hd ln cH cZ) yn_M_dirty w_M_dirty rm_M_dirty 0 0 [.ref m0] u0 (f_M_dirty u0) := by
  refine ck_entv (cc := bc_M_dirty) (maxL := 1) (ret := none) (by decide) rfl (Nat.le_of_ble_eq_true rfl) ?_
  intro p e s m below meth c A ls C hnm hP hD hS hl
  have C : ck_C p s m meth c bc_M_dirty none 1 #[.ref m0] "ControlDeskModel" A D [(cH, .long), (cZ, .boolean)] := C
  have hl : lv_has ls 1 [(0, .ref m0)] := hl
  have hx := C.1
  have hb := C.2.1
  have hown := C.2.2.2.2.1
  have hT := C.2.2.2.2.2.1
  have hK := C.2.2.2.2.2.2.2.1
  have hN := C.2.2.2.2.2.2.2.2.2.2.2.1
  -- from the entry
  refine lv_aload_n hx hb dc_M_dirty_0 rfl (lv_at hl 0 rfl) ?_
  refine lv_iconst (v := 0) hx hb dc_M_dirty_1 (by decide) ?_
  refine pm_thrown C hP hD hS dc_M_dirty_2 (fun w1 H locs ew1 hP hD hS => ?_)
  refine lv_aload_n hx hb dc_M_dirty_5 rfl (lv_at hl 0 rfl) ?_
  refine ck_gpi (rest := []) C kt_M hP hD hS (ck_runV (q0 := 0) C kt_M hK (c_M_floating l D m0 hd ln cH cZ w1   _) (cw_M_44 hT ⟨Nat.le_of_ble_eq_true rfl, Nat.le_of_ble_eq_true rfl⟩) rfl rfl hP hD hS rfl hl.1 rfl (Nat.le_of_ble_eq_true rfl) dc_M_dirty_6 ⟨Nat.zero_le _, Nat.zero_le _⟩) (fun v3 H locs e3 hP hD hS => ?_)
  refine lv_if_le (tgt := 26) hx hb dc_M_dirty_9 (by decide) (fun c4 => ?_) (fun c4 => ?_)
  · exact ck_vret C hP hD hS (by subst ew1 e3; exact ((if_pos c4)).symm) dc_M_dirty_26
  · refine lv_aload_n hx hb dc_M_dirty_12 rfl (lv_at hl 0 rfl) ?_
    refine lv_bipush (v := 13) hx hb dc_M_dirty_13 (by decide) ?_
    refine lv_iconst (v := 1) hx hb dc_M_dirty_15 (by decide) ?_
    refine ck_gov (rest := []) C kt_M hP hD hS (ck_runV (q0 := 0) C kt_M hK (c_M_put l D m0 hd ln cH cZ w1 13 1  _) (cw_M_78 hT ⟨Nat.le_of_ble_eq_true rfl, Nat.le_of_ble_eq_true rfl⟩) rfl rfl hP hD hS rfl hl.1 rfl (Nat.le_of_ble_eq_true rfl) dc_M_dirty_16 ⟨Nat.zero_le _, Nat.zero_le _⟩) (fun w5 H locs ew5 hP hD hS => ?_)
    refine lv_aload_n hx hb dc_M_dirty_19 rfl (lv_at hl 0 rfl) ?_
    refine lv_bipush (v := 14) hx hb dc_M_dirty_20 (by decide) ?_
    refine lv_iconst (v := 1) hx hb dc_M_dirty_22 (by decide) ?_
    refine ck_gov (rest := []) C kt_M hP hD hS (ck_runV (q0 := 0) C kt_M hK (c_M_put l D m0 hd ln cH cZ w5 14 1  _) (cw_M_78 hT ⟨Nat.le_of_ble_eq_true rfl, Nat.le_of_ble_eq_true rfl⟩) rfl rfl hP hD hS rfl hl.1 rfl (Nat.le_of_ble_eq_true rfl) dc_M_dirty_23 ⟨Nat.zero_le _, Nat.zero_le _⟩) (fun w6 H locs ew6 hP hD hS => ?_)
    exact ck_vret C hP hD hS (by subst ew1 e3 ew5 ew6; exact ((if_neg c4)).symm) dc_M_dirty_26
def f_M_count (u0 : ms_St) (p1 : Int64) (p2 : Int64) : ms_St := (let w1 : ms_St := (upd u0.1 0 0, u0.2); let v2 : Int64 := w1.2.1 (2816 : Int32).toNatClampNeg; let v3 : Int64 := v2 + p1; let w4 : ms_St := (w1.1, vp_updL w1.2.1 (2816 : Int32).toNatClampNeg v3, w1.2.2); let v5 : Int64 := w4.2.1 (2818 : Int32).toNatClampNeg; let v6 : Int64 := v5 + p2; let w7 : ms_St := (w4.1, vp_updL w4.2.1 (2818 : Int32).toNatClampNeg v6, w4.2.2); w7)
set_option maxHeartbeats 4000000 in
set_option maxRecDepth 100000 in
theorem c_M_count (l : Launch) (D : va_G) (m0 hd ln : Nat) (cH cZ : ClassId) (u0 : ms_St) (p1 : Int64) (p2 : Int64)  : ck_Mv l D [(cH, .long), (cZ, .boolean)] (wm m0 hd ln cH cZ) yn_M_count w_M_count rm_M_count 0 0 [.ref m0, .long p1, .long p2] u0 (f_M_count u0 p1 p2) := by
  refine ck_entv (cc := bc_M_count) (maxL := 5) (ret := none) (by decide) rfl (Nat.le_of_ble_eq_true rfl) ?_
  intro p e s m below meth c A ls C hnm hP hD hS hl
  have C : ck_C p s m meth c bc_M_count none 5 #[.ref m0, .long p1, .long p2] "ControlDeskModel" A D [(cH, .long), (cZ, .boolean)] := C
  have hl : lv_has ls 5 [(0, .ref m0), (1, .long p1), (3, .long p2)] := hl
  have hx := C.1
  have hb := C.2.1
  have hown := C.2.2.2.2.1
  have hT := C.2.2.2.2.2.1
  have hK := C.2.2.2.2.2.2.2.1
  have hN := C.2.2.2.2.2.2.2.2.2.2.2.1
  -- from the entry
  refine lv_aload_n hx hb dc_M_count_0 rfl (lv_at hl 0 rfl) ?_
  refine lv_iconst (v := 0) hx hb dc_M_count_1 (by decide) ?_
  refine pm_thrown C hP hD hS dc_M_count_2 (fun w1 H locs ew1 hP hD hS => ?_)
  refine lv_aload_n hx hb dc_M_count_5 rfl (lv_at hl 0 rfl) ?_
  refine gm_held C hP dc_M_count_6 ?_
  refine lv_sipush (v := 2816) hx hb dc_M_count_9 (by decide) ?_
  refine lv_aload_n hx hb dc_M_count_12 rfl (lv_at hl 0 rfl) ?_
  refine gm_held C hP dc_M_count_13 ?_
  refine lv_sipush (v := 2816) hx hb dc_M_count_16 (by decide) ?_
  refine rm_lald C hP (by unfold vp_in; decide) dc_M_count_19 (fun v2 e2 => ?_)
  refine lv_lload_n hx hb dc_M_count_20 rfl (lv_at hl 1 rfl) ?_
  refine xr_ladd hx hb dc_M_count_21 (fun v3 e3 => ?_)
  refine rm_last C hP hD hS (by unfold vp_in; decide) dc_M_count_22 (fun w4 H locs ew4 hP hD hS => ?_)
  refine lv_aload_n hx hb dc_M_count_23 rfl (lv_at hl 0 rfl) ?_
  refine gm_held C hP dc_M_count_24 ?_
  refine lv_sipush (v := 2818) hx hb dc_M_count_27 (by decide) ?_
  refine lv_aload_n hx hb dc_M_count_30 rfl (lv_at hl 0 rfl) ?_
  refine gm_held C hP dc_M_count_31 ?_
  refine lv_sipush (v := 2818) hx hb dc_M_count_34 (by decide) ?_
  refine rm_lald C hP (by unfold vp_in; decide) dc_M_count_37 (fun v5 e5 => ?_)
  refine lv_lload_n hx hb dc_M_count_38 rfl (lv_at hl 2 rfl) ?_
  refine xr_ladd hx hb dc_M_count_39 (fun v6 e6 => ?_)
  refine rm_last C hP hD hS (by unfold vp_in; decide) dc_M_count_40 (fun w7 H locs ew7 hP hD hS => ?_)
  exact ck_vret C hP hD hS (by subst ew1 e2 e3 ew4 e5 e6 ew7; exact (rfl).symm) dc_M_count_41
def f_M_time (u0 : ms_St) (p1 : Int64) : ms_St := (let w1 : ms_St := (upd u0.1 0 0, u0.2); let w2 : ms_St := (w1.1, w1.2.1, w1.2.2.1, vp_updL w1.2.2.2 0 p1); w2)
set_option maxHeartbeats 4000000 in
set_option maxRecDepth 100000 in
theorem c_M_time (l : Launch) (D : va_G) (m0 hd ln : Nat) (cH cZ : ClassId) (u0 : ms_St) (p1 : Int64)  : ck_Mv l D [(cH, .long), (cZ, .boolean)] (wm m0 hd ln cH cZ) yn_M_time w_M_time rm_M_time 0 0 [.ref m0, .long p1] u0 (f_M_time u0 p1) := by
  refine ck_entv (cc := bc_M_time) (maxL := 3) (ret := none) (by decide) rfl (Nat.le_of_ble_eq_true rfl) ?_
  intro p e s m below meth c A ls C hnm hP hD hS hl
  have C : ck_C p s m meth c bc_M_time none 3 #[.ref m0, .long p1] "ControlDeskModel" A D [(cH, .long), (cZ, .boolean)] := C
  have hl : lv_has ls 3 [(0, .ref m0), (1, .long p1)] := hl
  have hx := C.1
  have hb := C.2.1
  have hown := C.2.2.2.2.1
  have hT := C.2.2.2.2.2.1
  have hK := C.2.2.2.2.2.2.2.1
  have hN := C.2.2.2.2.2.2.2.2.2.2.2.1
  -- from the entry
  refine lv_aload_n hx hb dc_M_time_0 rfl (lv_at hl 0 rfl) ?_
  refine lv_iconst (v := 0) hx hb dc_M_time_1 (by decide) ?_
  refine pm_thrown C hP hD hS dc_M_time_2 (fun w1 H locs ew1 hP hD hS => ?_)
  refine lv_aload_n hx hb dc_M_time_5 rfl (lv_at hl 0 rfl) ?_
  refine lv_lload_n hx hb dc_M_time_6 rfl (lv_at hl 1 rfl) ?_
  refine pm_time C hP hD hS dc_M_time_7 (fun w2 H locs ew2 hP hD hS => ?_)
  exact ck_vret C hP hD hS (by subst ew1 ew2; exact (rfl).symm) dc_M_time_10
