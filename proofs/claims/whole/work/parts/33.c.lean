def f_M_back_140 (u : ms_St) (p1 : Int32)  : Int32 × ms_St := (if p1 = 0 then (let v2 : Int64 := u.2.1 (321 : Int32).toNatClampNeg; let w3 : ms_St := (u.1, u.2.1, u.2.2.1, vp_updL u.2.2.2 2 v2); (1, w3)) else (let v4 : Int64 := u.2.1 (833 : Int32).toNatClampNeg; let w5 : ms_St := (u.1, u.2.1, u.2.2.1, vp_updL u.2.2.2 2 v4); (1, w5)))
def f_M_back_125 (u : ms_St) (p1 : Int32)  : Int32 × ms_St := (let v6 : Int32 := u.1 2; (if 3 ≤ v6 then (f_M_back_140 u p1 ) else (let w8 : ms_St := f_M_put u 17 0; (f_M_back_140 w8 p1 ))))
def f_M_back_94 (u : ms_St) (p1 : Int32) (y1 : Int32) : Int32 × ms_St := (let w9 : ms_St := (upd u.1 2 y1, u.2); (if p1 = 0 then (let w11 : ms_St := f_M_put w9 8 0; (f_M_back_125 w11 p1 )) else (let w12 : ms_St := f_M_put w9 11 0; let w13 : ms_St := f_M_put w12 12 0; (f_M_back_125 w13 p1 ))))
def f_M_back_55 (u : ms_St) (p1 : Int32) (y0 : Int32) : Int32 × ms_St := (let v14 : Int32 := y0 + (4 : Int32); let v16 : Int32 := f_M_status u v14; let w17 : ms_St := f_M_put u y0 v16; let v18 : Int32 := y0 + (4 : Int32); let w19 : ms_St := f_M_put w17 v18 1; (if p1 = 0 then (let v22 : Int32 := f_M_status w19 8; (f_M_back_94 w19 p1 v22)) else (let v24 : Int32 := f_M_below w19; (f_M_back_94 w19 p1 v24))))
def f_M_back_39 (u : ms_St) (p1 : Int32) (y0 : Int32) : Int32 × ms_St := (if y0 = 0 then (0, u) else (if p1 = 0 then (f_M_back_55 u p1 1) else (f_M_back_55 u p1 3)))
def f_M_back (u0 : ms_St) (p1 : Int32) : Int32 × ms_St := (let w27 : ms_St := (upd u0.1 0 0, u0.2); let v28 : Int32 := w27.1 2; (if v28 = 3 then (f_M_back_39 w27 p1 1) else (if p1 = 0 then (let v31 : Int32 := w27.1 2; (if v31 = 1 then (let v34 : Int32 := f_M_status w27 22; (if v34 = 0 then (f_M_back_39 w27 p1 1) else (f_M_back_39 w27 p1 0))) else (f_M_back_39 w27 p1 0))) else (f_M_back_39 w27 p1 0))))
set_option maxHeartbeats 4000000 in
set_option maxRecDepth 100000 in
theorem c_M_back (l : Launch) (D : va_G) (m0 hd ln : Nat) (cH cZ : ClassId) (u0 : ms_St) (p1 : Int32)  : ck_Mi l D [(cH, .long), (cZ, .boolean)] (wm m0 hd ln cH cZ) yn_M_back w_M_back rm_M_back 0 0 [.ref m0, .int p1] u0 (f_M_back u0 p1).1 (f_M_back u0 p1).2 := by
  refine ck_enti (cc := bc_M_back) (maxL := 4) (ret := (some .boolean)) (by decide) rfl (Nat.le_of_ble_eq_true rfl) ?_
  intro p e s m below meth c A ls C hnm hP hD hS hl
  have C : ck_C p s m meth c bc_M_back (some .boolean) 4 #[.ref m0, .int p1] "ControlDeskModel" A D [(cH, .long), (cZ, .boolean)] := C
  have hl : lv_has ls 4 [(0, .ref m0), (1, .int p1)] := hl
  have hx := C.1
  have hb := C.2.1
  have hown := C.2.2.2.2.1
  have hT := C.2.2.2.2.2.1
  have hK := C.2.2.2.2.2.2.2.1
  have hN := C.2.2.2.2.2.2.2.2.2.2.2.1
  have k140 : ∀ (u : ms_St) (H : Heap) (locs : List Loc) (ls : Array Slot), va_P D xw_Cl ((wm m0 hd ln cH cZ) u) H → va_D A ((wm m0 hd ln cH cZ) u) → va_S A s.heap H locs → lv_has ls 4 [(0, .ref m0), (1, .int p1)] → f_M_back u0 p1 = f_M_back_140 u p1  → W p l e rm_M_back s m #[.ref m0, .int p1] below meth c H locs 0 0 (MQ below (va_Qi (fun r2 u2 => r2 = (f_M_back u0 p1).1 ∧ u2 = (f_M_back u0 p1).2) (ck_B D (wm m0 hd ln cH cZ) A) A) #[.ref m0, .int p1] s 0 0 A) (F0 m 140 ls []) := by
    intro u  H locs ls hP hD hS hl hq 
    refine lv_aload_n hx hb dc_M_back_140 rfl (lv_at hl 0 rfl) ?_
    refine lv_aload_n hx hb dc_M_back_141 rfl (lv_at hl 0 rfl) ?_
    refine gm_held C hP dc_M_back_142 ?_
    refine lv_iload_n hx hb dc_M_back_145 rfl (lv_at hl 1 rfl) ?_
    refine lv_if_eq (tgt := 155) hx hb dc_M_back_146 (by decide) (fun c1 => ?_) (fun c1 => ?_)
    · refine lv_sipush (v := 321) hx hb dc_M_back_155 (by decide) ?_
      refine rm_lald C hP (by unfold vp_in; decide) dc_M_back_158 (fun v2 e2 => ?_)
      refine pm_place C hP hD hS dc_M_back_159 (fun w3 H locs ew3 hP hD hS => ?_)
      refine lv_iconst (v := 1) hx hb dc_M_back_162 (by decide) ?_
      exact ck_zret (v := 1) C hP hD hS rfl (by subst e2 ew3; exact ck_pair (hq.trans ((if_pos c1)))) dc_M_back_163
    · refine lv_sipush (v := 833) hx hb dc_M_back_149 (by decide) ?_
      refine lv_goto (tgt := 158) hx hb dc_M_back_152 (by decide) ?_
      refine rm_lald C hP (by unfold vp_in; decide) dc_M_back_158 (fun v4 e4 => ?_)
      refine pm_place C hP hD hS dc_M_back_159 (fun w5 H locs ew5 hP hD hS => ?_)
      refine lv_iconst (v := 1) hx hb dc_M_back_162 (by decide) ?_
      exact ck_zret (v := 1) C hP hD hS rfl (by subst e4 ew5; exact ck_pair (hq.trans ((if_neg c1)))) dc_M_back_163
  have k125 : ∀ (u : ms_St) (H : Heap) (locs : List Loc) (ls : Array Slot), va_P D xw_Cl ((wm m0 hd ln cH cZ) u) H → va_D A ((wm m0 hd ln cH cZ) u) → va_S A s.heap H locs → lv_has ls 4 [(0, .ref m0), (1, .int p1)] → f_M_back u0 p1 = f_M_back_125 u p1  → W p l e rm_M_back s m #[.ref m0, .int p1] below meth c H locs 0 0 (MQ below (va_Qi (fun r2 u2 => r2 = (f_M_back u0 p1).1 ∧ u2 = (f_M_back u0 p1).2) (ck_B D (wm m0 hd ln cH cZ) A) A) #[.ref m0, .int p1] s 0 0 A) (F0 m 125 ls []) := by
    intro u  H locs ls hP hD hS hl hq 
    refine lv_aload_n hx hb dc_M_back_125 rfl (lv_at hl 0 rfl) ?_
    refine gm_mode C hP dc_M_back_126 (fun v6 e6 => ?_)
    refine lv_iconst (v := 3) hx hb dc_M_back_129 (by decide) ?_
    refine lv_icmp_ge (tgt := 140) hx hb dc_M_back_130 (by decide) (fun c7 => ?_) (fun c7 => ?_)
    · exact k140 u  _ _ _ hP hD hS (lv_sub hl [0, 1] rfl) (by subst e6; exact hq.trans ((if_pos c7)))
    · refine lv_aload_n hx hb dc_M_back_133 rfl (lv_at hl 0 rfl) ?_
      refine lv_bipush (v := 17) hx hb dc_M_back_134 (by decide) ?_
      refine lv_iconst (v := 0) hx hb dc_M_back_136 (by decide) ?_
      refine ck_gov (rest := []) C kt_M hP hD hS (ck_runV (q0 := 0) C kt_M hK (c_M_put l D m0 hd ln cH cZ u 17 0  _) (cw_M_78 hT ⟨Nat.le_of_ble_eq_true rfl, Nat.le_of_ble_eq_true rfl⟩) rfl rfl hP hD hS rfl hl.1 rfl (Nat.le_of_ble_eq_true rfl) dc_M_back_137 ⟨Nat.zero_le _, Nat.zero_le _⟩) (fun w8 H locs ew8 hP hD hS => ?_)
      exact k140 w8  _ _ _ hP hD hS (lv_sub hl [0, 1] rfl) (by subst e6 ew8; exact hq.trans ((if_neg c7)))
  have k94 : ∀ (u : ms_St) (y1 : Int32) (H : Heap) (locs : List Loc) (ls : Array Slot), va_P D xw_Cl ((wm m0 hd ln cH cZ) u) H → va_D A ((wm m0 hd ln cH cZ) u) → va_S A s.heap H locs → lv_has ls 4 [(0, .ref m0), (1, .int p1)] → f_M_back u0 p1 = f_M_back_94 u p1 y1 → W p l e rm_M_back s m #[.ref m0, .int p1] below meth c H locs 0 0 (MQ below (va_Qi (fun r2 u2 => r2 = (f_M_back u0 p1).1 ∧ u2 = (f_M_back u0 p1).2) (ck_B D (wm m0 hd ln cH cZ) A) A) #[.ref m0, .int p1] s 0 0 A) (F0 m 94 ls [.int y1, .ref m0]) := by
    intro u y1 H locs ls hP hD hS hl hq 
    refine pm_mode C hP hD hS dc_M_back_94 (fun w9 H locs ew9 hP hD hS => ?_)
    refine lv_iload_n hx hb dc_M_back_97 rfl (lv_at hl 1 rfl) ?_
    refine lv_if_eq (tgt := 118) hx hb dc_M_back_98 (by decide) (fun c10 => ?_) (fun c10 => ?_)
    · refine lv_aload_n hx hb dc_M_back_118 rfl (lv_at hl 0 rfl) ?_
      refine lv_bipush (v := 8) hx hb dc_M_back_119 (by decide) ?_
      refine lv_iconst (v := 0) hx hb dc_M_back_121 (by decide) ?_
      refine ck_gov (rest := []) C kt_M hP hD hS (ck_runV (q0 := 0) C kt_M hK (c_M_put l D m0 hd ln cH cZ w9 8 0  _) (cw_M_78 hT ⟨Nat.le_of_ble_eq_true rfl, Nat.le_of_ble_eq_true rfl⟩) rfl rfl hP hD hS rfl hl.1 rfl (Nat.le_of_ble_eq_true rfl) dc_M_back_122 ⟨Nat.zero_le _, Nat.zero_le _⟩) (fun w11 H locs ew11 hP hD hS => ?_)
      exact k125 w11  _ _ _ hP hD hS (lv_sub hl [0, 1] rfl) (by subst ew9 ew11; exact hq.trans ((if_pos c10)))
    · refine lv_aload_n hx hb dc_M_back_101 rfl (lv_at hl 0 rfl) ?_
      refine lv_bipush (v := 11) hx hb dc_M_back_102 (by decide) ?_
      refine lv_iconst (v := 0) hx hb dc_M_back_104 (by decide) ?_
      refine ck_gov (rest := []) C kt_M hP hD hS (ck_runV (q0 := 0) C kt_M hK (c_M_put l D m0 hd ln cH cZ w9 11 0  _) (cw_M_78 hT ⟨Nat.le_of_ble_eq_true rfl, Nat.le_of_ble_eq_true rfl⟩) rfl rfl hP hD hS rfl hl.1 rfl (Nat.le_of_ble_eq_true rfl) dc_M_back_105 ⟨Nat.zero_le _, Nat.zero_le _⟩) (fun w12 H locs ew12 hP hD hS => ?_)
      refine lv_aload_n hx hb dc_M_back_108 rfl (lv_at hl 0 rfl) ?_
      refine lv_bipush (v := 12) hx hb dc_M_back_109 (by decide) ?_
      refine lv_iconst (v := 0) hx hb dc_M_back_111 (by decide) ?_
      refine ck_gov (rest := []) C kt_M hP hD hS (ck_runV (q0 := 0) C kt_M hK (c_M_put l D m0 hd ln cH cZ w12 12 0  _) (cw_M_78 hT ⟨Nat.le_of_ble_eq_true rfl, Nat.le_of_ble_eq_true rfl⟩) rfl rfl hP hD hS rfl hl.1 rfl (Nat.le_of_ble_eq_true rfl) dc_M_back_112 ⟨Nat.zero_le _, Nat.zero_le _⟩) (fun w13 H locs ew13 hP hD hS => ?_)
      refine lv_goto (tgt := 125) hx hb dc_M_back_115 (by decide) ?_
      exact k125 w13  _ _ _ hP hD hS (lv_sub hl [0, 1] rfl) (by subst ew9 ew12 ew13; exact hq.trans ((if_neg c10)))
  have k55 : ∀ (u : ms_St) (y0 : Int32) (H : Heap) (locs : List Loc) (ls : Array Slot), va_P D xw_Cl ((wm m0 hd ln cH cZ) u) H → va_D A ((wm m0 hd ln cH cZ) u) → va_S A s.heap H locs → lv_has ls 4 [(0, .ref m0), (1, .int p1)] → f_M_back u0 p1 = f_M_back_55 u p1 y0 → W p l e rm_M_back s m #[.ref m0, .int p1] below meth c H locs 0 0 (MQ below (va_Qi (fun r2 u2 => r2 = (f_M_back u0 p1).1 ∧ u2 = (f_M_back u0 p1).2) (ck_B D (wm m0 hd ln cH cZ) A) A) #[.ref m0, .int p1] s 0 0 A) (F0 m 55 ls [.int y0]) := by
    intro u y0 H locs ls hP hD hS hl hq 
    refine lv_istore_n (lv' := [(3, .int y0), (0, .ref m0), (1, .int p1)]) hx hb dc_M_back_55 rfl hl (by decide) rfl (fun ls hl => ?_)
    refine lv_aload_n hx hb dc_M_back_56 rfl (lv_at hl 1 rfl) ?_
    refine lv_iload_n hx hb dc_M_back_57 rfl (lv_at hl 0 rfl) ?_
    refine lv_aload_n hx hb dc_M_back_58 rfl (lv_at hl 1 rfl) ?_
    refine lv_iload_n hx hb dc_M_back_59 rfl (lv_at hl 0 rfl) ?_
    refine lv_iconst (v := 4) hx hb dc_M_back_60 (by decide) ?_
    refine xr_iadd hx hb dc_M_back_61 (fun v14 e14 => ?_)
    refine ck_gpi (rest := [.int y0, .ref m0]) C kt_M hP hD hS (ck_runV (q0 := 0) C kt_M hK (c_M_status l D m0 hd ln cH cZ u v14  _) (cw_M_29 hT ⟨Nat.le_of_ble_eq_true rfl, Nat.le_of_ble_eq_true rfl⟩) rfl rfl hP hD hS rfl hl.1 rfl (Nat.le_of_ble_eq_true rfl) dc_M_back_62 ⟨Nat.zero_le _, Nat.zero_le _⟩) (fun v16 H locs e16 hP hD hS => ?_)
    refine ck_gov (rest := []) C kt_M hP hD hS (ck_runV (q0 := 0) C kt_M hK (c_M_put l D m0 hd ln cH cZ u y0 v16  _) (cw_M_78 hT ⟨Nat.le_of_ble_eq_true rfl, Nat.le_of_ble_eq_true rfl⟩) rfl rfl hP hD hS rfl hl.1 rfl (Nat.le_of_ble_eq_true rfl) dc_M_back_65 ⟨Nat.zero_le _, Nat.zero_le _⟩) (fun w17 H locs ew17 hP hD hS => ?_)
    refine lv_aload_n hx hb dc_M_back_68 rfl (lv_at hl 1 rfl) ?_
    refine lv_iload_n hx hb dc_M_back_69 rfl (lv_at hl 0 rfl) ?_
    refine lv_iconst (v := 4) hx hb dc_M_back_70 (by decide) ?_
    refine xr_iadd hx hb dc_M_back_71 (fun v18 e18 => ?_)
    refine lv_iconst (v := 1) hx hb dc_M_back_72 (by decide) ?_
    refine ck_gov (rest := []) C kt_M hP hD hS (ck_runV (q0 := 0) C kt_M hK (c_M_put l D m0 hd ln cH cZ w17 v18 1  _) (cw_M_78 hT ⟨Nat.le_of_ble_eq_true rfl, Nat.le_of_ble_eq_true rfl⟩) rfl rfl hP hD hS rfl hl.1 rfl (Nat.le_of_ble_eq_true rfl) dc_M_back_73 ⟨Nat.zero_le _, Nat.zero_le _⟩) (fun w19 H locs ew19 hP hD hS => ?_)
    refine lv_aload_n hx hb dc_M_back_76 rfl (lv_at hl 1 rfl) ?_
    refine lv_iload_n hx hb dc_M_back_77 rfl (lv_at hl 2 rfl) ?_
    refine lv_if_eq (tgt := 88) hx hb dc_M_back_78 (by decide) (fun c20 => ?_) (fun c20 => ?_)
    · refine lv_aload_n hx hb dc_M_back_88 rfl (lv_at hl 1 rfl) ?_
      refine lv_bipush (v := 8) hx hb dc_M_back_89 (by decide) ?_
      refine ck_gpi (rest := [.ref m0]) C kt_M hP hD hS (ck_runV (q0 := 0) C kt_M hK (c_M_status l D m0 hd ln cH cZ w19 8  _) (cw_M_29 hT ⟨Nat.le_of_ble_eq_true rfl, Nat.le_of_ble_eq_true rfl⟩) rfl rfl hP hD hS rfl hl.1 rfl (Nat.le_of_ble_eq_true rfl) dc_M_back_91 ⟨Nat.zero_le _, Nat.zero_le _⟩) (fun v22 H locs e22 hP hD hS => ?_)
      exact k94 w19 v22 _ _ _ hP hD hS (lv_sub hl [1, 2] rfl) (by subst e14 e16 ew17 e18 ew19 e22; exact hq.trans ((if_pos c20)))
    · refine lv_aload_n hx hb dc_M_back_81 rfl (lv_at hl 1 rfl) ?_
      refine ck_gpi (rest := [.ref m0]) C kt_M hP hD hS (ck_runV (q0 := 0) C kt_M hK (c_M_below l D m0 hd ln cH cZ w19   _) (cw_M_33 hT ⟨Nat.le_of_ble_eq_true rfl, Nat.le_of_ble_eq_true rfl⟩) rfl rfl hP hD hS rfl hl.1 rfl (Nat.le_of_ble_eq_true rfl) dc_M_back_82 ⟨Nat.zero_le _, Nat.zero_le _⟩) (fun v24 H locs e24 hP hD hS => ?_)
      refine lv_goto (tgt := 94) hx hb dc_M_back_85 (by decide) ?_
      exact k94 w19 v24 _ _ _ hP hD hS (lv_sub hl [1, 2] rfl) (by subst e14 e16 ew17 e18 ew19 e24; exact hq.trans ((if_neg c20)))
  have k39 : ∀ (u : ms_St) (y0 : Int32) (H : Heap) (locs : List Loc) (ls : Array Slot), va_P D xw_Cl ((wm m0 hd ln cH cZ) u) H → va_D A ((wm m0 hd ln cH cZ) u) → va_S A s.heap H locs → lv_has ls 4 [(0, .ref m0), (1, .int p1)] → f_M_back u0 p1 = f_M_back_39 u p1 y0 → W p l e rm_M_back s m #[.ref m0, .int p1] below meth c H locs 0 0 (MQ below (va_Qi (fun r2 u2 => r2 = (f_M_back u0 p1).1 ∧ u2 = (f_M_back u0 p1).2) (ck_B D (wm m0 hd ln cH cZ) A) A) #[.ref m0, .int p1] s 0 0 A) (F0 m 39 ls [.int y0]) := by
    intro u y0 H locs ls hP hD hS hl hq 
    refine lv_istore_n (lv' := [(2, .int y0), (0, .ref m0), (1, .int p1)]) hx hb dc_M_back_39 rfl hl (by decide) rfl (fun ls hl => ?_)
    refine lv_iload_n hx hb dc_M_back_40 rfl (lv_at hl 0 rfl) ?_
    refine lv_if_ne (tgt := 46) hx hb dc_M_back_41 (by decide) (fun c25 => ?_) (fun c25 => ?_)
    · refine lv_iload_n hx hb dc_M_back_46 rfl (lv_at hl 2 rfl) ?_
      refine lv_if_eq (tgt := 54) hx hb dc_M_back_47 (by decide) (fun c26 => ?_) (fun c26 => ?_)
      · refine lv_iconst (v := 1) hx hb dc_M_back_54 (by decide) ?_
        exact k55 u 1 _ _ _ hP hD hS (lv_sub hl [1, 2] rfl) (by exact hq.trans ((if_neg c25).trans ((if_pos c26))))
      · refine lv_iconst (v := 3) hx hb dc_M_back_50 (by decide) ?_
        refine lv_goto (tgt := 55) hx hb dc_M_back_51 (by decide) ?_
        exact k55 u 3 _ _ _ hP hD hS (lv_sub hl [1, 2] rfl) (by exact hq.trans ((if_neg c25).trans ((if_neg c26))))
    · refine lv_iconst (v := 0) hx hb dc_M_back_44 (by decide) ?_
      exact ck_zret (v := 0) C hP hD hS rfl (by exact ck_pair (hq.trans ((if_pos c25)))) dc_M_back_45
  -- from the entry
  refine lv_aload_n hx hb dc_M_back_0 rfl (lv_at hl 0 rfl) ?_
  refine lv_iconst (v := 0) hx hb dc_M_back_1 (by decide) ?_
  refine pm_thrown C hP hD hS dc_M_back_2 (fun w27 H locs ew27 hP hD hS => ?_)
  refine lv_aload_n hx hb dc_M_back_5 rfl (lv_at hl 0 rfl) ?_
  refine gm_mode C hP dc_M_back_6 (fun v28 e28 => ?_)
  refine lv_iconst (v := 3) hx hb dc_M_back_9 (by decide) ?_
  refine lv_icmp_eq (tgt := 34) hx hb dc_M_back_10 (by decide) (fun c29 => ?_) (fun c29 => ?_)
  · refine lv_iconst (v := 1) hx hb dc_M_back_34 (by decide) ?_
    refine lv_goto (tgt := 39) hx hb dc_M_back_35 (by decide) ?_
    exact k39 w27 1 _ _ _ hP hD hS (lv_sub hl [0, 1] rfl) (by subst ew27 e28; exact (if_pos c29))
  · refine lv_iload_n hx hb dc_M_back_13 rfl (lv_at hl 1 rfl) ?_
    refine lv_if_ne (tgt := 38) hx hb dc_M_back_14 (by decide) (fun c30 => ?_) (fun c30 => ?_)
    · refine lv_iconst (v := 0) hx hb dc_M_back_38 (by decide) ?_
      exact k39 w27 0 _ _ _ hP hD hS (lv_sub hl [0, 1] rfl) (by subst ew27 e28; exact (if_neg c29).trans ((if_neg c30)))
    · refine lv_aload_n hx hb dc_M_back_17 rfl (lv_at hl 0 rfl) ?_
      refine gm_mode C hP dc_M_back_18 (fun v31 e31 => ?_)
      refine lv_iconst (v := 1) hx hb dc_M_back_21 (by decide) ?_
      refine lv_icmp_ne (tgt := 38) hx hb dc_M_back_22 (by decide) (fun c32 => ?_) (fun c32 => ?_)
      · refine lv_iconst (v := 0) hx hb dc_M_back_38 (by decide) ?_
        exact k39 w27 0 _ _ _ hP hD hS (lv_sub hl [0, 1] rfl) (by subst ew27 e28 e31; exact (if_neg c29).trans ((if_pos c30).trans ((if_neg c32))))
      · refine lv_aload_n hx hb dc_M_back_25 rfl (lv_at hl 0 rfl) ?_
        refine lv_bipush (v := 22) hx hb dc_M_back_26 (by decide) ?_
        refine ck_gpi (rest := []) C kt_M hP hD hS (ck_runV (q0 := 0) C kt_M hK (c_M_status l D m0 hd ln cH cZ w27 22  _) (cw_M_29 hT ⟨Nat.le_of_ble_eq_true rfl, Nat.le_of_ble_eq_true rfl⟩) rfl rfl hP hD hS rfl hl.1 rfl (Nat.le_of_ble_eq_true rfl) dc_M_back_28 ⟨Nat.zero_le _, Nat.zero_le _⟩) (fun v34 H locs e34 hP hD hS => ?_)
        refine lv_if_ne (tgt := 38) hx hb dc_M_back_31 (by decide) (fun c35 => ?_) (fun c35 => ?_)
        · refine lv_iconst (v := 0) hx hb dc_M_back_38 (by decide) ?_
          exact k39 w27 0 _ _ _ hP hD hS (lv_sub hl [0, 1] rfl) (by subst ew27 e28 e31 e34; exact (if_neg c29).trans ((if_pos c30).trans ((if_pos c32).trans ((if_neg c35)))))
        · refine lv_iconst (v := 1) hx hb dc_M_back_34 (by decide) ?_
          refine lv_goto (tgt := 39) hx hb dc_M_back_35 (by decide) ?_
          exact k39 w27 1 _ _ _ hP hD hS (lv_sub hl [0, 1] rfl) (by subst ew27 e28 e31 e34; exact (if_neg c29).trans ((if_pos c30).trans ((if_pos c32).trans ((if_pos c35)))))
def f_M_place (u0 : ms_St)  : Int64 × ms_St := (let w1 : ms_St := (upd u0.1 0 0, u0.2); let v2 : Int64 := w1.2.2.2 2; (v2, w1))
set_option maxHeartbeats 4000000 in
set_option maxRecDepth 100000 in
theorem c_M_place (l : Launch) (D : va_G) (m0 hd ln : Nat) (cH cZ : ClassId) (u0 : ms_St)   : ck_Ml l D [(cH, .long), (cZ, .boolean)] (wm m0 hd ln cH cZ) yn_M_place w_M_place rm_M_place 0 0 [.ref m0] u0 (f_M_place u0).1 (f_M_place u0).2 := by
  refine ck_entl (cc := bc_M_place) (maxL := 1) (ret := (some .long)) (by decide) rfl (Nat.le_of_ble_eq_true rfl) ?_
  intro p e s m below meth c A ls C hnm hP hD hS hl
  have C : ck_C p s m meth c bc_M_place (some .long) 1 #[.ref m0] "ControlDeskModel" A D [(cH, .long), (cZ, .boolean)] := C
  have hl : lv_has ls 1 [(0, .ref m0)] := hl
  have hx := C.1
  have hb := C.2.1
  have hown := C.2.2.2.2.1
  have hT := C.2.2.2.2.2.1
  have hK := C.2.2.2.2.2.2.2.1
  have hN := C.2.2.2.2.2.2.2.2.2.2.2.1
  -- from the entry
  refine lv_aload_n hx hb dc_M_place_0 rfl (lv_at hl 0 rfl) ?_
  refine lv_iconst (v := 0) hx hb dc_M_place_1 (by decide) ?_
  refine pm_thrown C hP hD hS dc_M_place_2 (fun w1 H locs ew1 hP hD hS => ?_)
  refine lv_aload_n hx hb dc_M_place_5 rfl (lv_at hl 0 rfl) ?_
  refine gm_place C hP dc_M_place_6 (fun v2 e2 => ?_)
  exact ck_lret (v := v2) C hP hD hS (by subst ew1 e2; exact ck_pair (rfl)) dc_M_place_9
def f_M_isPending (u : ms_St) (p1 : Int32) : Int32 := (let v2 : Int64 := f_M_shown u 836; let v3 : Int64 := u.2.1 (772 : Int32).toNatClampNeg; let v4 : Int64 := v2 &&& v3; let v5 : Int64 := (1 : Int64) <<< (p1.toInt64 &&& 63); let v6 : Int64 := v4 &&& v5; let v7 : Int32 := lg_cmp v6 (0 : Int64); (if v7 = 0 then 0 else 1))
set_option maxHeartbeats 4000000 in
set_option maxRecDepth 100000 in
theorem c_M_isPending (l : Launch) (D : va_G) (m0 hd ln : Nat) (cH cZ : ClassId) (u : ms_St) (p1 : Int32)  : ck_Mi l D [(cH, .long), (cZ, .boolean)] (wm m0 hd ln cH cZ) yn_M_isPending w_M_isPending rm_M_isPending 0 0 [.ref m0, .int p1] u (f_M_isPending u p1) u := by
  refine ck_enti (cc := bc_M_isPending) (maxL := 2) (ret := (some .boolean)) (by decide) rfl (Nat.le_of_ble_eq_true rfl) ?_
  intro p e s m below meth c A ls C hnm hP hD hS hl
  have C : ck_C p s m meth c bc_M_isPending (some .boolean) 2 #[.ref m0, .int p1] "ControlDeskModel" A D [(cH, .long), (cZ, .boolean)] := C
  have hl : lv_has ls 2 [(0, .ref m0), (1, .int p1)] := hl
  have hx := C.1
  have hb := C.2.1
  have hown := C.2.2.2.2.1
  have hT := C.2.2.2.2.2.1
  have hK := C.2.2.2.2.2.2.2.1
  have hN := C.2.2.2.2.2.2.2.2.2.2.2.1
  -- from the entry
  refine lv_aload_n hx hb dc_M_isPending_0 rfl (lv_at hl 0 rfl) ?_
  refine lv_sipush (v := 836) hx hb dc_M_isPending_1 (by decide) ?_
  refine ck_gpl (rest := []) C kt_M hP hD hS (ck_runV (q0 := 0) C kt_M hK (c_M_shown l D m0 hd ln cH cZ u 836 (by unfold vp_in; decide) _) (cw_M_70 hT ⟨Nat.le_of_ble_eq_true rfl, Nat.le_of_ble_eq_true rfl⟩) rfl rfl hP hD hS rfl hl.1 rfl (Nat.le_of_ble_eq_true rfl) dc_M_isPending_4 ⟨Nat.zero_le _, Nat.zero_le _⟩) (fun v2 H locs e2 hP hD hS => ?_)
  refine lv_aload_n hx hb dc_M_isPending_7 rfl (lv_at hl 0 rfl) ?_
  refine gm_held C hP dc_M_isPending_8 ?_
  refine lv_sipush (v := 772) hx hb dc_M_isPending_11 (by decide) ?_
  refine rm_lald C hP (by unfold vp_in; decide) dc_M_isPending_14 (fun v3 e3 => ?_)
  refine xr_land hx hb dc_M_isPending_15 (fun v4 e4 => ?_)
  refine lv_lconst (v := 1) hx hb dc_M_isPending_16 (by decide) ?_
  refine lv_iload_n hx hb dc_M_isPending_17 rfl (lv_at hl 1 rfl) ?_
  refine xr_lshl hx hb dc_M_isPending_18 (fun v5 e5 => ?_)
  refine xr_land hx hb dc_M_isPending_19 (fun v6 e6 => ?_)
  refine lv_lconst (v := 0) hx hb dc_M_isPending_20 (by decide) ?_
  refine xr_lcmp hx hb dc_M_isPending_21 (fun v7 e7 => ?_)
  refine lv_if_eq (tgt := 29) hx hb dc_M_isPending_22 (by decide) (fun c8 => ?_) (fun c8 => ?_)
  · refine lv_iconst (v := 0) hx hb dc_M_isPending_29 (by decide) ?_
    exact ck_zret (v := 0) C hP hD hS rfl ⟨by subst e2 e3 e4 e5 e6 e7; exact ((if_pos c8)).symm, rfl⟩ dc_M_isPending_30
  · refine lv_iconst (v := 1) hx hb dc_M_isPending_25 (by decide) ?_
    refine lv_goto (tgt := 30) hx hb dc_M_isPending_26 (by decide) ?_
    exact ck_zret (v := 1) C hP hD hS rfl ⟨by subst e2 e3 e4 e5 e6 e7; exact ((if_neg c8)).symm, rfl⟩ dc_M_isPending_30
def f_M_mayBe_81 (u : ms_St) (p1 : Int32) (p2 : Int32) (x3 : Int32) (y0 : Int32) : Int32 := (let v2 : Int32 := f_M_isPending u p1; (if v2 = 0 then 0 else (if x3 = p2 then (if y0 = 0 then 0 else 1) else 0)))
def f_M_mayBe_22 (u : ms_St) (p1 : Int32) (p2 : Int32) (y0 : Int32) : Int32 := (if p2 = 0 then (let v7 : Int32 := u.1 2; (if v7 < 3 then (f_M_mayBe_81 u p1 p2 y0 1) else (let v10 : Int32 := f_M_status u 3; (if v10 = 1 then (f_M_mayBe_81 u p1 p2 y0 1) else (f_M_mayBe_81 u p1 p2 y0 0))))) else (let v12 : Int32 := u.1 2; (if v12 = 0 then (f_M_mayBe_81 u p1 p2 y0 1) else (let v14 : Int32 := u.1 2; (if v14 = 1 then (let v17 : Int32 := f_M_status u 1; (if v17 = 1 then (f_M_mayBe_81 u p1 p2 y0 1) else (f_M_mayBe_81 u p1 p2 y0 0))) else (f_M_mayBe_81 u p1 p2 y0 0))))))
def f_M_mayBe (u : ms_St) (p1 : Int32) (p2 : Int32) : Int32 := (let v19 : Int64 := u.2.1 (771 : Int32).toNatClampNeg; let v20 : Int64 := v19 >>> (p1.toInt64 &&& 63); let v21 : Int64 := v20 &&& (1 : Int64); let v22 : Int32 := lg_cmp v21 (1 : Int64); (if v22 = 0 then (f_M_mayBe_22 u p1 p2 1) else (f_M_mayBe_22 u p1 p2 0)))
set_option maxHeartbeats 4000000 in
set_option maxRecDepth 100000 in
theorem c_M_mayBe (l : Launch) (D : va_G) (m0 hd ln : Nat) (cH cZ : ClassId) (u : ms_St) (p1 : Int32) (p2 : Int32)  : ck_Mi l D [(cH, .long), (cZ, .boolean)] (wm m0 hd ln cH cZ) yn_M_mayBe w_M_mayBe rm_M_mayBe 0 0 [.ref m0, .int p1, .int p2] u (f_M_mayBe u p1 p2) u := by
  refine ck_enti (cc := bc_M_mayBe) (maxL := 5) (ret := (some .boolean)) (by decide) rfl (Nat.le_of_ble_eq_true rfl) ?_
  intro p e s m below meth c A ls C hnm hP hD hS hl
  have C : ck_C p s m meth c bc_M_mayBe (some .boolean) 5 #[.ref m0, .int p1, .int p2] "ControlDeskModel" A D [(cH, .long), (cZ, .boolean)] := C
  have hl : lv_has ls 5 [(0, .ref m0), (1, .int p1), (2, .int p2)] := hl
  have hx := C.1
  have hb := C.2.1
  have hown := C.2.2.2.2.1
  have hT := C.2.2.2.2.2.1
  have hK := C.2.2.2.2.2.2.2.1
  have hN := C.2.2.2.2.2.2.2.2.2.2.2.1
  have k81 : ∀ (x3 : Int32) (y0 : Int32) (H : Heap) (locs : List Loc) (ls : Array Slot), va_P D xw_Cl ((wm m0 hd ln cH cZ) u) H → va_D A ((wm m0 hd ln cH cZ) u) → va_S A s.heap H locs → lv_has ls 5 [(0, .ref m0), (1, .int p1), (2, .int p2), (3, .int x3)] → f_M_mayBe u p1 p2 = f_M_mayBe_81 u p1 p2 x3 y0 → W p l e rm_M_mayBe s m #[.ref m0, .int p1, .int p2] below meth c H locs 0 0 (MQ below (va_Qi (fun r2 u2 => r2 = (f_M_mayBe u p1 p2) ∧ u2 = u) (ck_B D (wm m0 hd ln cH cZ) A) A) #[.ref m0, .int p1, .int p2] s 0 0 A) (F0 m 81 ls [.int y0]) := by
    intro x3 y0 H locs ls hP hD hS hl hq 
    refine lv_istore (lv' := [(4, .int y0), (0, .ref m0), (1, .int p1), (2, .int p2), (3, .int x3)]) hx hb dc_M_mayBe_81 hl (by decide) rfl (fun ls hl => ?_)
    refine lv_aload_n hx hb dc_M_mayBe_83 rfl (lv_at hl 1 rfl) ?_
    refine lv_iload_n hx hb dc_M_mayBe_84 rfl (lv_at hl 2 rfl) ?_
    refine ck_gpi (rest := []) C kt_M hP hD hS (ck_runV (q0 := 0) C kt_M hK (c_M_isPending l D m0 hd ln cH cZ u p1  _) (cw_M_130 hT ⟨Nat.le_of_ble_eq_true rfl, Nat.le_of_ble_eq_true rfl⟩) rfl rfl hP hD hS rfl hl.1 rfl (Nat.le_of_ble_eq_true rfl) dc_M_mayBe_85 ⟨Nat.zero_le _, Nat.zero_le _⟩) (fun v2 H locs e2 hP hD hS => ?_)
    refine lv_if_eq (tgt := 105) hx hb dc_M_mayBe_88 (by decide) (fun c3 => ?_) (fun c3 => ?_)
    · refine lv_iconst (v := 0) hx hb dc_M_mayBe_105 (by decide) ?_
      exact ck_zret (v := 0) C hP hD hS rfl ⟨by subst e2; exact (hq.trans ((if_pos c3))).symm, rfl⟩ dc_M_mayBe_106
    · refine lv_iload_n hx hb dc_M_mayBe_91 rfl (lv_at hl 4 rfl) ?_
      refine lv_iload_n hx hb dc_M_mayBe_92 rfl (lv_at hl 3 rfl) ?_
      refine lv_icmp_ne (tgt := 105) hx hb dc_M_mayBe_93 (by decide) (fun c4 => ?_) (fun c4 => ?_)
      · refine lv_iconst (v := 0) hx hb dc_M_mayBe_105 (by decide) ?_
        exact ck_zret (v := 0) C hP hD hS rfl ⟨by subst e2; exact (hq.trans ((if_neg c3).trans ((if_neg c4)))).symm, rfl⟩ dc_M_mayBe_106
      · refine lv_iload hx hb dc_M_mayBe_96 (lv_at hl 0 rfl) ?_
        refine lv_if_eq (tgt := 105) hx hb dc_M_mayBe_98 (by decide) (fun c5 => ?_) (fun c5 => ?_)
        · refine lv_iconst (v := 0) hx hb dc_M_mayBe_105 (by decide) ?_
          exact ck_zret (v := 0) C hP hD hS rfl ⟨by subst e2; exact (hq.trans ((if_neg c3).trans ((if_pos c4).trans ((if_pos c5))))).symm, rfl⟩ dc_M_mayBe_106
        · refine lv_iconst (v := 1) hx hb dc_M_mayBe_101 (by decide) ?_
          refine lv_goto (tgt := 106) hx hb dc_M_mayBe_102 (by decide) ?_
          exact ck_zret (v := 1) C hP hD hS rfl ⟨by subst e2; exact (hq.trans ((if_neg c3).trans ((if_pos c4).trans ((if_neg c5))))).symm, rfl⟩ dc_M_mayBe_106
  have k22 : ∀ (y0 : Int32) (H : Heap) (locs : List Loc) (ls : Array Slot), va_P D xw_Cl ((wm m0 hd ln cH cZ) u) H → va_D A ((wm m0 hd ln cH cZ) u) → va_S A s.heap H locs → lv_has ls 5 [(0, .ref m0), (1, .int p1), (2, .int p2)] → f_M_mayBe u p1 p2 = f_M_mayBe_22 u p1 p2 y0 → W p l e rm_M_mayBe s m #[.ref m0, .int p1, .int p2] below meth c H locs 0 0 (MQ below (va_Qi (fun r2 u2 => r2 = (f_M_mayBe u p1 p2) ∧ u2 = u) (ck_B D (wm m0 hd ln cH cZ) A) A) #[.ref m0, .int p1, .int p2] s 0 0 A) (F0 m 22 ls [.int y0]) := by
    intro y0 H locs ls hP hD hS hl hq 
    refine lv_istore_n (lv' := [(3, .int y0), (0, .ref m0), (1, .int p1), (2, .int p2)]) hx hb dc_M_mayBe_22 rfl hl (by decide) rfl (fun ls hl => ?_)
    refine lv_iload_n hx hb dc_M_mayBe_23 rfl (lv_at hl 3 rfl) ?_
    refine lv_if_eq (tgt := 59) hx hb dc_M_mayBe_24 (by decide) (fun c6 => ?_) (fun c6 => ?_)
    · refine lv_aload_n hx hb dc_M_mayBe_59 rfl (lv_at hl 1 rfl) ?_
      refine gm_mode C hP dc_M_mayBe_60 (fun v7 e7 => ?_)
      refine lv_iconst (v := 3) hx hb dc_M_mayBe_63 (by decide) ?_
      refine lv_icmp_lt (tgt := 76) hx hb dc_M_mayBe_64 (by decide) (fun c8 => ?_) (fun c8 => ?_)
      · refine lv_iconst (v := 1) hx hb dc_M_mayBe_76 (by decide) ?_
        refine lv_goto (tgt := 81) hx hb dc_M_mayBe_77 (by decide) ?_
        exact k81 y0 1 _ _ _ hP hD hS (lv_sub hl [1, 2, 3, 0] rfl) (by subst e7; exact hq.trans ((if_pos c6).trans ((if_pos c8))))
      · refine lv_aload_n hx hb dc_M_mayBe_67 rfl (lv_at hl 1 rfl) ?_
        refine lv_iconst (v := 3) hx hb dc_M_mayBe_68 (by decide) ?_
        refine ck_gpi (rest := []) C kt_M hP hD hS (ck_runV (q0 := 0) C kt_M hK (c_M_status l D m0 hd ln cH cZ u 3  _) (cw_M_29 hT ⟨Nat.le_of_ble_eq_true rfl, Nat.le_of_ble_eq_true rfl⟩) rfl rfl hP hD hS rfl hl.1 rfl (Nat.le_of_ble_eq_true rfl) dc_M_mayBe_69 ⟨Nat.zero_le _, Nat.zero_le _⟩) (fun v10 H locs e10 hP hD hS => ?_)
        refine lv_iconst (v := 1) hx hb dc_M_mayBe_72 (by decide) ?_
        refine lv_icmp_ne (tgt := 80) hx hb dc_M_mayBe_73 (by decide) (fun c11 => ?_) (fun c11 => ?_)
        · refine lv_iconst (v := 0) hx hb dc_M_mayBe_80 (by decide) ?_
          exact k81 y0 0 _ _ _ hP hD hS (lv_sub hl [1, 2, 3, 0] rfl) (by subst e7 e10; exact hq.trans ((if_pos c6).trans ((if_neg c8).trans ((if_neg c11)))))
        · refine lv_iconst (v := 1) hx hb dc_M_mayBe_76 (by decide) ?_
          refine lv_goto (tgt := 81) hx hb dc_M_mayBe_77 (by decide) ?_
          exact k81 y0 1 _ _ _ hP hD hS (lv_sub hl [1, 2, 3, 0] rfl) (by subst e7 e10; exact hq.trans ((if_pos c6).trans ((if_neg c8).trans ((if_pos c11)))))
    · refine lv_aload_n hx hb dc_M_mayBe_27 rfl (lv_at hl 1 rfl) ?_
      refine gm_mode C hP dc_M_mayBe_28 (fun v12 e12 => ?_)
      refine lv_if_eq (tgt := 51) hx hb dc_M_mayBe_31 (by decide) (fun c13 => ?_) (fun c13 => ?_)
      · refine lv_iconst (v := 1) hx hb dc_M_mayBe_51 (by decide) ?_
        refine lv_goto (tgt := 81) hx hb dc_M_mayBe_52 (by decide) ?_
        exact k81 y0 1 _ _ _ hP hD hS (lv_sub hl [1, 2, 3, 0] rfl) (by subst e12; exact hq.trans ((if_neg c6).trans ((if_pos c13))))
      · refine lv_aload_n hx hb dc_M_mayBe_34 rfl (lv_at hl 1 rfl) ?_
        refine gm_mode C hP dc_M_mayBe_35 (fun v14 e14 => ?_)
        refine lv_iconst (v := 1) hx hb dc_M_mayBe_38 (by decide) ?_
        refine lv_icmp_ne (tgt := 55) hx hb dc_M_mayBe_39 (by decide) (fun c15 => ?_) (fun c15 => ?_)
        · refine lv_iconst (v := 0) hx hb dc_M_mayBe_55 (by decide) ?_
          refine lv_goto (tgt := 81) hx hb dc_M_mayBe_56 (by decide) ?_
          exact k81 y0 0 _ _ _ hP hD hS (lv_sub hl [1, 2, 3, 0] rfl) (by subst e12 e14; exact hq.trans ((if_neg c6).trans ((if_neg c13).trans ((if_neg c15)))))
        · refine lv_aload_n hx hb dc_M_mayBe_42 rfl (lv_at hl 1 rfl) ?_
          refine lv_iconst (v := 1) hx hb dc_M_mayBe_43 (by decide) ?_
          refine ck_gpi (rest := []) C kt_M hP hD hS (ck_runV (q0 := 0) C kt_M hK (c_M_status l D m0 hd ln cH cZ u 1  _) (cw_M_29 hT ⟨Nat.le_of_ble_eq_true rfl, Nat.le_of_ble_eq_true rfl⟩) rfl rfl hP hD hS rfl hl.1 rfl (Nat.le_of_ble_eq_true rfl) dc_M_mayBe_44 ⟨Nat.zero_le _, Nat.zero_le _⟩) (fun v17 H locs e17 hP hD hS => ?_)
          refine lv_iconst (v := 1) hx hb dc_M_mayBe_47 (by decide) ?_
          refine lv_icmp_ne (tgt := 55) hx hb dc_M_mayBe_48 (by decide) (fun c18 => ?_) (fun c18 => ?_)
          · refine lv_iconst (v := 0) hx hb dc_M_mayBe_55 (by decide) ?_
            refine lv_goto (tgt := 81) hx hb dc_M_mayBe_56 (by decide) ?_
            exact k81 y0 0 _ _ _ hP hD hS (lv_sub hl [1, 2, 3, 0] rfl) (by subst e12 e14 e17; exact hq.trans ((if_neg c6).trans ((if_neg c13).trans ((if_pos c15).trans ((if_neg c18))))))
          · refine lv_iconst (v := 1) hx hb dc_M_mayBe_51 (by decide) ?_
            refine lv_goto (tgt := 81) hx hb dc_M_mayBe_52 (by decide) ?_
            exact k81 y0 1 _ _ _ hP hD hS (lv_sub hl [1, 2, 3, 0] rfl) (by subst e12 e14 e17; exact hq.trans ((if_neg c6).trans ((if_neg c13).trans ((if_pos c15).trans ((if_pos c18))))))
  -- from the entry
  refine lv_aload_n hx hb dc_M_mayBe_0 rfl (lv_at hl 0 rfl) ?_
  refine gm_held C hP dc_M_mayBe_1 ?_
  refine lv_sipush (v := 771) hx hb dc_M_mayBe_4 (by decide) ?_
  refine rm_lald C hP (by unfold vp_in; decide) dc_M_mayBe_7 (fun v19 e19 => ?_)
  refine lv_iload_n hx hb dc_M_mayBe_8 rfl (lv_at hl 1 rfl) ?_
  refine xr_lshr hx hb dc_M_mayBe_9 (fun v20 e20 => ?_)
  refine lv_lconst (v := 1) hx hb dc_M_mayBe_10 (by decide) ?_
  refine xr_land hx hb dc_M_mayBe_11 (fun v21 e21 => ?_)
  refine lv_lconst (v := 1) hx hb dc_M_mayBe_12 (by decide) ?_
  refine xr_lcmp hx hb dc_M_mayBe_13 (fun v22 e22 => ?_)
  refine lv_if_ne (tgt := 21) hx hb dc_M_mayBe_14 (by decide) (fun c23 => ?_) (fun c23 => ?_)
  · refine lv_iconst (v := 0) hx hb dc_M_mayBe_21 (by decide) ?_
    exact k22 0 _ _ _ hP hD hS (lv_sub hl [0, 1, 2] rfl) (by subst e19 e20 e21 e22; exact (if_neg c23))
  · refine lv_iconst (v := 1) hx hb dc_M_mayBe_17 (by decide) ?_
    refine lv_goto (tgt := 22) hx hb dc_M_mayBe_18 (by decide) ?_
    exact k22 1 _ _ _ hP hD hS (lv_sub hl [0, 1, 2] rfl) (by subst e19 e20 e21 e22; exact (if_pos c23))
def f_M_first_56 (F : Int32 → Int32) (u : ms_St) (p1 : Int32) (x2 : Int32) (y0 : Int32) : Int32 := (let v2 : Int32 := f_M_mayBe u y0 p1; (if v2 = 0 then (let v4 : Int32 := x2 + 1; (F v4)) else y0))
def f_M_first_2 (u : ms_St) (p1 : Int32) : Nat → Int32 → Int32
  | 0, _ => (-1)
  | n + 1, x2 => (if 6 ≤ x2 then (-1) else (if x2 = 0 then (f_M_first_56 (f_M_first_2 u p1 n) u p1 x2 11) else (if x2 = 1 then (f_M_first_56 (f_M_first_2 u p1 n) u p1 x2 3) else (if x2 = 2 then (f_M_first_56 (f_M_first_2 u p1 n) u p1 x2 7) else (if x2 = 3 then (f_M_first_56 (f_M_first_2 u p1 n) u p1 x2 9) else (if x2 = 4 then (f_M_first_56 (f_M_first_2 u p1 n) u p1 x2 1) else (f_M_first_56 (f_M_first_2 u p1 n) u p1 x2 5)))))))
def f_M_first (u : ms_St) (p1 : Int32) : Int32 := (f_M_first_2 u p1 7 0)
set_option maxHeartbeats 4000000 in
set_option maxRecDepth 100000 in
theorem c_M_first (l : Launch) (D : va_G) (m0 hd ln : Nat) (cH cZ : ClassId) (u : ms_St) (p1 : Int32)  : ck_Mi l D [(cH, .long), (cZ, .boolean)] (wm m0 hd ln cH cZ) yn_M_first w_M_first rm_M_first 0 0 [.ref m0, .int p1] u (f_M_first u p1) u := by
  refine ck_enti (cc := bc_M_first) (maxL := 4) (ret := (some .int)) (by decide) rfl (Nat.le_of_ble_eq_true rfl) ?_
  intro p e s m below meth c A ls C hnm hP hD hS hl
  have C : ck_C p s m meth c bc_M_first (some .int) 4 #[.ref m0, .int p1] "ControlDeskModel" A D [(cH, .long), (cZ, .boolean)] := C
  have hl : lv_has ls 4 [(0, .ref m0), (1, .int p1)] := hl
  have hx := C.1
  have hb := C.2.1
  have hown := C.2.2.2.2.1
  have hT := C.2.2.2.2.2.1
  have hK := C.2.2.2.2.2.2.2.1
  have hN := C.2.2.2.2.2.2.2.2.2.2.2.1
  have k2 : ∀ (n : Nat) (x2 : Int32) (H : Heap) (locs : List Loc) (ls : Array Slot), va_P D xw_Cl ((wm m0 hd ln cH cZ) u) H → va_D A ((wm m0 hd ln cH cZ) u) → va_S A s.heap H locs → lv_has ls 4 [(0, .ref m0), (1, .int p1), (2, .int x2)] → f_M_first u p1 = f_M_first_2 u p1 n x2 → (1 ≤ n ∧ n ≤ 7 ∧ x2 = nI (6 + 1 - n)) → W p l e rm_M_first s m #[.ref m0, .int p1] below meth c H locs 0 0 (MQ below (va_Qi (fun r2 u2 => r2 = (f_M_first u p1) ∧ u2 = u) (ck_B D (wm m0 hd ln cH cZ) A) A) #[.ref m0, .int p1] s 0 0 A) (F0 m 2 ls []) := by
    intro n
    induction n with
    | zero =>
      intro x2 H locs ls hP hD hS hl hq g1
      exact absurd g1.1 (by decide)
    | succ n ih =>
      have k56 : ∀ (x2 : Int32) (y0 : Int32) (H : Heap) (locs : List Loc) (ls : Array Slot), va_P D xw_Cl ((wm m0 hd ln cH cZ) u) H → va_D A ((wm m0 hd ln cH cZ) u) → va_S A s.heap H locs → lv_has ls 4 [(0, .ref m0), (1, .int p1), (2, .int x2)] → f_M_first u p1 = f_M_first_56 (f_M_first_2 u p1 n) u p1 x2 y0 → (1 ≤ n ∧ n + 1 ≤ 7 ∧ x2 = nI (6 - n)) → W p l e rm_M_first s m #[.ref m0, .int p1] below meth c H locs 0 0 (MQ below (va_Qi (fun r2 u2 => r2 = (f_M_first u p1) ∧ u2 = u) (ck_B D (wm m0 hd ln cH cZ) A) A) #[.ref m0, .int p1] s 0 0 A) (F0 m 56 ls [.int y0]) := by
        intro x2 y0 H locs ls hP hD hS hl hq g2
        refine lv_istore_n (lv' := [(3, .int y0), (0, .ref m0), (1, .int p1), (2, .int x2)]) hx hb dc_M_first_56 rfl hl (by decide) rfl (fun ls hl => ?_)
        refine lv_aload_n hx hb dc_M_first_57 rfl (lv_at hl 1 rfl) ?_
        refine lv_iload_n hx hb dc_M_first_58 rfl (lv_at hl 0 rfl) ?_
        refine lv_iload_n hx hb dc_M_first_59 rfl (lv_at hl 2 rfl) ?_
        refine ck_gpi (rest := []) C kt_M hP hD hS (ck_runV (q0 := 0) C kt_M hK (c_M_mayBe l D m0 hd ln cH cZ u y0 p1  _) (cw_M_133 hT ⟨Nat.le_of_ble_eq_true rfl, Nat.le_of_ble_eq_true rfl⟩) rfl rfl hP hD hS rfl hl.1 rfl (Nat.le_of_ble_eq_true rfl) dc_M_first_60 ⟨Nat.zero_le _, Nat.zero_le _⟩) (fun v2 H locs e2 hP hD hS => ?_)
        refine lv_if_eq (tgt := 68) hx hb dc_M_first_63 (by decide) (fun c3 => ?_) (fun c3 => ?_)
        · obtain ⟨v4, e4⟩ : ∃ z : Int32, z = x2 + 1 := ⟨_, rfl⟩
          refine lv_iinc (v := v4) (lv' := [(2, .int v4), (3, .int y0), (0, .ref m0), (1, .int p1)]) hx hb dc_M_first_68 hl (k := 3) rfl (by rw [e4]; rfl) (by decide) rfl (fun ls hl => ?_)
          refine lv_goto (tgt := 2) hx hb dc_M_first_71 (by decide) ?_
          exact ih v4 _ _ _ hP hD hS (lv_sub hl [2, 3, 0] rfl) (by subst e2 e4; exact hq.trans ((if_pos c3))) (lp_back (E := 6) (B := 7) (by decide) g2 e4)
        · refine lv_iload_n hx hb dc_M_first_66 rfl (lv_at hl 0 rfl) ?_
          exact ck_iret (v := y0) C hP hD hS ⟨by subst e2; exact (hq.trans ((if_neg c3))).symm, rfl⟩ dc_M_first_67
      intro x2 H locs ls hP hD hS hl hq g1
      refine lv_iload_n hx hb dc_M_first_2 rfl (lv_at hl 2 rfl) ?_
      refine lv_bipush (v := 6) hx hb dc_M_first_3 (by decide) ?_
      refine lv_icmp_ge (tgt := 74) hx hb dc_M_first_5 (by decide) (fun c5 => ?_) (fun c5 => ?_)
      · refine lv_iconst (v := (-1)) hx hb dc_M_first_74 (by decide) ?_
        exact ck_iret (v := (-1)) C hP hD hS ⟨by exact (hq.trans ((if_pos c5))).symm, rfl⟩ dc_M_first_75
      · refine lv_iload_n hx hb dc_M_first_8 rfl (lv_at hl 2 rfl) ?_
        refine lv_if_ne (tgt := 17) hx hb dc_M_first_9 (by decide) (fun c6 => ?_) (fun c6 => ?_)
        · refine lv_iload_n hx hb dc_M_first_17 rfl (lv_at hl 2 rfl) ?_
          refine lv_iconst (v := 1) hx hb dc_M_first_18 (by decide) ?_
          refine lv_icmp_ne (tgt := 26) hx hb dc_M_first_19 (by decide) (fun c7 => ?_) (fun c7 => ?_)
          · refine lv_iload_n hx hb dc_M_first_26 rfl (lv_at hl 2 rfl) ?_
            refine lv_iconst (v := 2) hx hb dc_M_first_27 (by decide) ?_
            refine lv_icmp_ne (tgt := 36) hx hb dc_M_first_28 (by decide) (fun c8 => ?_) (fun c8 => ?_)
            · refine lv_iload_n hx hb dc_M_first_36 rfl (lv_at hl 2 rfl) ?_
              refine lv_iconst (v := 3) hx hb dc_M_first_37 (by decide) ?_
              refine lv_icmp_ne (tgt := 46) hx hb dc_M_first_38 (by decide) (fun c9 => ?_) (fun c9 => ?_)
              · refine lv_iload_n hx hb dc_M_first_46 rfl (lv_at hl 2 rfl) ?_
                refine lv_iconst (v := 4) hx hb dc_M_first_47 (by decide) ?_
                refine lv_icmp_ne (tgt := 55) hx hb dc_M_first_48 (by decide) (fun c10 => ?_) (fun c10 => ?_)
                · refine lv_iconst (v := 5) hx hb dc_M_first_55 (by decide) ?_
                  exact k56 x2 5 _ _ _ hP hD hS (lv_sub hl [0, 1, 2] rfl) (by exact hq.trans ((if_neg c5).trans ((if_neg c6).trans ((if_neg c7).trans ((if_neg c8).trans ((if_neg c9).trans ((if_neg c10)))))))) ((lp_mid (E := 6) (B := 7) rfl (by decide) (by decide) g1 c5))
                · refine lv_iconst (v := 1) hx hb dc_M_first_51 (by decide) ?_
                  refine lv_goto (tgt := 56) hx hb dc_M_first_52 (by decide) ?_
                  exact k56 x2 1 _ _ _ hP hD hS (lv_sub hl [0, 1, 2] rfl) (by exact hq.trans ((if_neg c5).trans ((if_neg c6).trans ((if_neg c7).trans ((if_neg c8).trans ((if_neg c9).trans ((if_pos c10)))))))) ((lp_mid (E := 6) (B := 7) rfl (by decide) (by decide) g1 c5))
              · refine lv_bipush (v := 9) hx hb dc_M_first_41 (by decide) ?_
                refine lv_goto (tgt := 56) hx hb dc_M_first_43 (by decide) ?_
                exact k56 x2 9 _ _ _ hP hD hS (lv_sub hl [0, 1, 2] rfl) (by exact hq.trans ((if_neg c5).trans ((if_neg c6).trans ((if_neg c7).trans ((if_neg c8).trans ((if_pos c9))))))) ((lp_mid (E := 6) (B := 7) rfl (by decide) (by decide) g1 c5))
            · refine lv_bipush (v := 7) hx hb dc_M_first_31 (by decide) ?_
              refine lv_goto (tgt := 56) hx hb dc_M_first_33 (by decide) ?_
              exact k56 x2 7 _ _ _ hP hD hS (lv_sub hl [0, 1, 2] rfl) (by exact hq.trans ((if_neg c5).trans ((if_neg c6).trans ((if_neg c7).trans ((if_pos c8)))))) ((lp_mid (E := 6) (B := 7) rfl (by decide) (by decide) g1 c5))
          · refine lv_iconst (v := 3) hx hb dc_M_first_22 (by decide) ?_
            refine lv_goto (tgt := 56) hx hb dc_M_first_23 (by decide) ?_
            exact k56 x2 3 _ _ _ hP hD hS (lv_sub hl [0, 1, 2] rfl) (by exact hq.trans ((if_neg c5).trans ((if_neg c6).trans ((if_pos c7))))) ((lp_mid (E := 6) (B := 7) rfl (by decide) (by decide) g1 c5))
        · refine lv_bipush (v := 11) hx hb dc_M_first_12 (by decide) ?_
          refine lv_goto (tgt := 56) hx hb dc_M_first_14 (by decide) ?_
          exact k56 x2 11 _ _ _ hP hD hS (lv_sub hl [0, 1, 2] rfl) (by exact hq.trans ((if_neg c5).trans ((if_pos c6)))) ((lp_mid (E := 6) (B := 7) rfl (by decide) (by decide) g1 c5))
  -- from the entry
  refine lv_iconst (v := 0) hx hb dc_M_first_0 (by decide) ?_
  refine lv_istore_n (lv' := [(2, .int 0), (0, .ref m0), (1, .int p1)]) hx hb dc_M_first_1 rfl hl (by decide) rfl (fun ls hl => ?_)
  exact k2 (7) 0 _ _ _ hP hD hS (lv_sub hl [1, 2, 0] rfl) (by exact rfl) (⟨by decide, by decide, rfl⟩)
def f_M_taken (u0 : ms_St)  : Int32 × ms_St := (let w1 : ms_St := (upd u0.1 0 0, u0.2); let v3 : Int32 := f_M_first w1 0; (if v3 < 0 then (let v6 : Int32 := f_M_first w1 1; (v6, w1)) else (v3, w1)))
set_option maxHeartbeats 4000000 in
set_option maxRecDepth 100000 in
theorem c_M_taken (l : Launch) (D : va_G) (m0 hd ln : Nat) (cH cZ : ClassId) (u0 : ms_St)   : ck_Mi l D [(cH, .long), (cZ, .boolean)] (wm m0 hd ln cH cZ) yn_M_taken w_M_taken rm_M_taken 0 0 [.ref m0] u0 (f_M_taken u0).1 (f_M_taken u0).2 := by
  refine ck_enti (cc := bc_M_taken) (maxL := 2) (ret := (some .int)) (by decide) rfl (Nat.le_of_ble_eq_true rfl) ?_
  intro p e s m below meth c A ls C hnm hP hD hS hl
  have C : ck_C p s m meth c bc_M_taken (some .int) 2 #[.ref m0] "ControlDeskModel" A D [(cH, .long), (cZ, .boolean)] := C
  have hl : lv_has ls 2 [(0, .ref m0)] := hl
  have hx := C.1
  have hb := C.2.1
  have hown := C.2.2.2.2.1
  have hT := C.2.2.2.2.2.1
  have hK := C.2.2.2.2.2.2.2.1
  have hN := C.2.2.2.2.2.2.2.2.2.2.2.1
  -- from the entry
  refine lv_aload_n hx hb dc_M_taken_0 rfl (lv_at hl 0 rfl) ?_
  refine lv_iconst (v := 0) hx hb dc_M_taken_1 (by decide) ?_
  refine pm_thrown C hP hD hS dc_M_taken_2 (fun w1 H locs ew1 hP hD hS => ?_)
  refine lv_aload_n hx hb dc_M_taken_5 rfl (lv_at hl 0 rfl) ?_
  refine lv_iconst (v := 0) hx hb dc_M_taken_6 (by decide) ?_
  refine ck_gpi (rest := []) C kt_M hP hD hS (ck_runV (q0 := 0) C kt_M hK (c_M_first l D m0 hd ln cH cZ w1 0  _) (cw_M_136 hT ⟨Nat.le_of_ble_eq_true rfl, Nat.le_of_ble_eq_true rfl⟩) rfl rfl hP hD hS rfl hl.1 rfl (Nat.le_of_ble_eq_true rfl) dc_M_taken_7 ⟨Nat.zero_le _, Nat.zero_le _⟩) (fun v3 H locs e3 hP hD hS => ?_)
  refine lv_istore_n (lv' := [(1, .int v3), (0, .ref m0)]) hx hb dc_M_taken_10 rfl hl (by decide) rfl (fun ls hl => ?_)
  refine lv_iload_n hx hb dc_M_taken_11 rfl (lv_at hl 0 rfl) ?_
  refine lv_if_lt (tgt := 19) hx hb dc_M_taken_12 (by decide) (fun c4 => ?_) (fun c4 => ?_)
  · refine lv_aload_n hx hb dc_M_taken_19 rfl (lv_at hl 1 rfl) ?_
    refine lv_iconst (v := 1) hx hb dc_M_taken_20 (by decide) ?_
    refine ck_gpi (rest := []) C kt_M hP hD hS (ck_runV (q0 := 0) C kt_M hK (c_M_first l D m0 hd ln cH cZ w1 1  _) (cw_M_136 hT ⟨Nat.le_of_ble_eq_true rfl, Nat.le_of_ble_eq_true rfl⟩) rfl rfl hP hD hS rfl hl.1 rfl (Nat.le_of_ble_eq_true rfl) dc_M_taken_21 ⟨Nat.zero_le _, Nat.zero_le _⟩) (fun v6 H locs e6 hP hD hS => ?_)
    exact ck_iret (v := v6) C hP hD hS (by subst ew1 e3 e6; exact ck_pair ((if_pos c4))) dc_M_taken_24
  · refine lv_iload_n hx hb dc_M_taken_15 rfl (lv_at hl 0 rfl) ?_
    refine lv_goto (tgt := 24) hx hb dc_M_taken_16 (by decide) ?_
    exact ck_iret (v := v3) C hP hD hS (by subst ew1 e3; exact ck_pair ((if_neg c4))) dc_M_taken_24
def f_M_wakes (u0 : ms_St)  : Int32 × ms_St := (let w1 : ms_St := (upd u0.1 0 0, u0.2); let v3 : Int64 := f_M_shown w1 836; let v4 : Int64 := w1.2.1 (772 : Int32).toNatClampNeg; let v5 : Int64 := v3 &&& v4; let v6 : Int32 := lg_cmp v5 (0 : Int64); (if v6 = 0 then (0, w1) else (1, w1)))
set_option maxHeartbeats 4000000 in
set_option maxRecDepth 100000 in
theorem c_M_wakes (l : Launch) (D : va_G) (m0 hd ln : Nat) (cH cZ : ClassId) (u0 : ms_St)   : ck_Mi l D [(cH, .long), (cZ, .boolean)] (wm m0 hd ln cH cZ) yn_M_wakes w_M_wakes rm_M_wakes 0 0 [.ref m0] u0 (f_M_wakes u0).1 (f_M_wakes u0).2 := by
  refine ck_enti (cc := bc_M_wakes) (maxL := 1) (ret := (some .boolean)) (by decide) rfl (Nat.le_of_ble_eq_true rfl) ?_
  intro p e s m below meth c A ls C hnm hP hD hS hl
  have C : ck_C p s m meth c bc_M_wakes (some .boolean) 1 #[.ref m0] "ControlDeskModel" A D [(cH, .long), (cZ, .boolean)] := C
  have hl : lv_has ls 1 [(0, .ref m0)] := hl
  have hx := C.1
  have hb := C.2.1
  have hown := C.2.2.2.2.1
  have hT := C.2.2.2.2.2.1
  have hK := C.2.2.2.2.2.2.2.1
  have hN := C.2.2.2.2.2.2.2.2.2.2.2.1
  -- from the entry
  refine lv_aload_n hx hb dc_M_wakes_0 rfl (lv_at hl 0 rfl) ?_
  refine lv_iconst (v := 0) hx hb dc_M_wakes_1 (by decide) ?_
  refine pm_thrown C hP hD hS dc_M_wakes_2 (fun w1 H locs ew1 hP hD hS => ?_)
  refine lv_aload_n hx hb dc_M_wakes_5 rfl (lv_at hl 0 rfl) ?_
  refine lv_sipush (v := 836) hx hb dc_M_wakes_6 (by decide) ?_
  refine ck_gpl (rest := []) C kt_M hP hD hS (ck_runV (q0 := 0) C kt_M hK (c_M_shown l D m0 hd ln cH cZ w1 836 (by unfold vp_in; decide) _) (cw_M_70 hT ⟨Nat.le_of_ble_eq_true rfl, Nat.le_of_ble_eq_true rfl⟩) rfl rfl hP hD hS rfl hl.1 rfl (Nat.le_of_ble_eq_true rfl) dc_M_wakes_9 ⟨Nat.zero_le _, Nat.zero_le _⟩) (fun v3 H locs e3 hP hD hS => ?_)
  refine lv_aload_n hx hb dc_M_wakes_12 rfl (lv_at hl 0 rfl) ?_
  refine gm_held C hP dc_M_wakes_13 ?_
  refine lv_sipush (v := 772) hx hb dc_M_wakes_16 (by decide) ?_
  refine rm_lald C hP (by unfold vp_in; decide) dc_M_wakes_19 (fun v4 e4 => ?_)
  refine xr_land hx hb dc_M_wakes_20 (fun v5 e5 => ?_)
  refine lv_lconst (v := 0) hx hb dc_M_wakes_21 (by decide) ?_
  refine xr_lcmp hx hb dc_M_wakes_22 (fun v6 e6 => ?_)
  refine lv_if_eq (tgt := 30) hx hb dc_M_wakes_23 (by decide) (fun c7 => ?_) (fun c7 => ?_)
  · refine lv_iconst (v := 0) hx hb dc_M_wakes_30 (by decide) ?_
    exact ck_zret (v := 0) C hP hD hS rfl (by subst ew1 e3 e4 e5 e6; exact ck_pair ((if_pos c7))) dc_M_wakes_31
  · refine lv_iconst (v := 1) hx hb dc_M_wakes_26 (by decide) ?_
    refine lv_goto (tgt := 31) hx hb dc_M_wakes_27 (by decide) ?_
    exact ck_zret (v := 1) C hP hD hS rfl (by subst ew1 e3 e4 e5 e6; exact ck_pair ((if_neg c7))) dc_M_wakes_31
