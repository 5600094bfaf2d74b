def f_X_mayReturn (u : cs_St) (p1 : Int32) : Int32 := (if p1 = 0 then (let v3 : Int32 := f_X_machineOrSupervisorWithout u 4194304; v3) else (let v4 : Int32 := u.1; (if v4 = 3 then 1 else 0)))
set_option maxHeartbeats 4000000 in
set_option maxRecDepth 100000 in
theorem c_X_mayReturn (l : Launch) (D : va_G) (tys : List (ClassId × FieldType)) (h0 b1 b2 : Nat) (u : cs_St) (p1 : Int32)  : ck_Mi l D tys (wx h0 b1 b2) yn_X_mayReturn w_X_mayReturn rm_X_mayReturn 0 0 [.ref h0, .int p1] u (f_X_mayReturn u p1) u := by
  refine ck_enti (cc := bc_X_mayReturn) (maxL := 2) (ret := (some .boolean)) (by decide) rfl (Nat.le_of_ble_eq_true rfl) ?_
  intro p e s m below meth c A ls C hnm hP hD hS hl
  have C : ck_C p s m meth c bc_X_mayReturn (some .boolean) 2 #[.ref h0, .int p1] "ControlDesk" A D tys := C
  have hl : lv_has ls 2 [(0, .ref h0), (1, .int p1)] := hl
  have hx := C.1
  have hb := C.2.1
  have hown := C.2.2.2.2.1
  have hT := C.2.2.2.2.2.1
  have hK := C.2.2.2.2.2.2.2.1
  have hN := C.2.2.2.2.2.2.2.2.2.2.2.1
  -- from the entry
  refine lv_iload_n hx hb dc_X_mayReturn_0 rfl (lv_at hl 1 rfl) ?_
  refine lv_if_eq (tgt := 20) hx hb dc_X_mayReturn_1 (by decide) (fun c1 => ?_) (fun c1 => ?_)
  · refine lv_aload_n hx hb dc_X_mayReturn_20 rfl (lv_at hl 0 rfl) ?_
    refine lv_ldc2 (v := 4194304) hx hb hown (hT _ mw_30) dc_X_mayReturn_21 ?_
    refine ck_gpi (rest := []) C kt_X hP hD hS (ck_runV (q0 := 0) C kt_X hK (c_X_machineOrSupervisorWithout l D tys h0 b1 b2 u 4194304  _) (cw_X_150 hT ⟨Nat.le_of_ble_eq_true rfl, Nat.le_of_ble_eq_true rfl⟩) rfl rfl hP hD hS rfl hl.1 rfl (Nat.le_of_ble_eq_true rfl) dc_X_mayReturn_24 ⟨Nat.zero_le _, Nat.zero_le _⟩) (fun v3 H locs e3 hP hD hS => ?_)
    exact ck_zret (v := v3) C hP hD hS (by rw [e3]; exact nz_X_machineOrSupervisorWithout _ _) ⟨by subst e3; exact ((if_pos c1)).symm, rfl⟩ dc_X_mayReturn_27
  · refine lv_aload_n hx hb dc_X_mayReturn_4 rfl (lv_at hl 0 rfl) ?_
    refine gx_currentMode C hP dc_X_mayReturn_5 (fun v4 e4 => ?_)
    refine lv_iconst (v := 3) hx hb dc_X_mayReturn_8 (by decide) ?_
    refine lv_icmp_ne (tgt := 16) hx hb dc_X_mayReturn_9 (by decide) (fun c5 => ?_) (fun c5 => ?_)
    · refine lv_iconst (v := 0) hx hb dc_X_mayReturn_16 (by decide) ?_
      refine lv_goto (tgt := 27) hx hb dc_X_mayReturn_17 (by decide) ?_
      exact ck_zret (v := 0) C hP hD hS rfl ⟨by subst e4; exact ((if_neg c1).trans ((if_neg c5))).symm, rfl⟩ dc_X_mayReturn_27
    · refine lv_iconst (v := 1) hx hb dc_X_mayReturn_12 (by decide) ?_
      refine lv_goto (tgt := 27) hx hb dc_X_mayReturn_13 (by decide) ?_
      exact ck_zret (v := 1) C hP hD hS rfl ⟨by subst e4; exact ((if_neg c1).trans ((if_pos c5))).symm, rfl⟩ dc_X_mayReturn_27
def f_X_leaveMachine_17 (u : cs_St)  (y0 : Int64) : cs_St := (let v2 : Int32 := f_X_previousMachineMode u; let w3 : cs_St := (v2, u.2); let v4 : Int64 := w3.2 1; let v5 : Int64 := v4 &&& (-6153 : Int64); let v6 : Int64 := v5 ||| (128 : Int64); let v7 : Int64 := v6 ||| y0; let w8 : cs_St := (w3.1, vp_updL w3.2 1 v7); let v9 : Int64 := w8.2 16; let w10 : cs_St := (w8.1, vp_updL w8.2 12 v9); w10)
def f_X_leaveMachine (u0 : cs_St)  : cs_St := (let v12 : Int32 := f_X_has u0 128; (if v12 = 0 then (f_X_leaveMachine_17 u0  0) else (f_X_leaveMachine_17 u0  8)))
set_option maxHeartbeats 4000000 in
set_option maxRecDepth 100000 in
theorem c_X_leaveMachine (l : Launch) (D : va_G) (tys : List (ClassId × FieldType)) (h0 b1 b2 : Nat) (u0 : cs_St)   : ck_Mv l D tys (wx h0 b1 b2) yn_X_leaveMachine w_X_leaveMachine rm_X_leaveMachine 0 0 [.ref h0] u0 (f_X_leaveMachine u0) := by
  refine ck_entv (cc := bc_X_leaveMachine) (maxL := 3) (ret := none) (by decide) rfl (Nat.le_of_ble_eq_true rfl) ?_
  intro p e s m below meth c A ls C hnm hP hD hS hl
  have C : ck_C p s m meth c bc_X_leaveMachine none 3 #[.ref h0] "ControlDesk" A D tys := C
  have hl : lv_has ls 3 [(0, .ref h0)] := hl
  have hx := C.1
  have hb := C.2.1
  have hown := C.2.2.2.2.1
  have hT := C.2.2.2.2.2.1
  have hK := C.2.2.2.2.2.2.2.1
  have hN := C.2.2.2.2.2.2.2.2.2.2.2.1
  have k17 : ∀ (u : cs_St) (y0 : Int64) (H : Heap) (locs : List Loc) (ls : Array Slot), va_P D xw_Cl ((wx h0 b1 b2) u) H → va_D A ((wx h0 b1 b2) u) → va_S A s.heap H locs → lv_has ls 3 [(0, .ref h0)] → f_X_leaveMachine u0 = f_X_leaveMachine_17 u  y0 → W p l e rm_X_leaveMachine s m #[.ref h0] below meth c H locs 0 0 (MQ below (va_Qv (fun u2 => u2 = (f_X_leaveMachine u0)) (ck_B D (wx h0 b1 b2) A) A) #[.ref h0] s 0 0 A) (F0 m 17 ls [.long y0]) := by
    intro u y0 H locs ls hP hD hS hl hq 
    refine lv_lstore_n (lv' := [(1, .long y0), (0, .ref h0)]) hx hb dc_X_leaveMachine_17 rfl hl (by decide) rfl (fun ls hl => ?_)
    refine lv_aload_n hx hb dc_X_leaveMachine_18 rfl (lv_at hl 1 rfl) ?_
    refine lv_aload_n hx hb dc_X_leaveMachine_19 rfl (lv_at hl 1 rfl) ?_
    refine ck_gpi (rest := [.ref h0]) C kt_X hP hD hS (ck_runV (q0 := 0) C kt_X hK (c_X_previousMachineMode l D tys h0 b1 b2 u   _) (cw_X_33 hT ⟨Nat.le_of_ble_eq_true rfl, Nat.le_of_ble_eq_true rfl⟩) rfl rfl hP hD hS rfl hl.1 rfl (Nat.le_of_ble_eq_true rfl) dc_X_leaveMachine_20 ⟨Nat.zero_le _, Nat.zero_le _⟩) (fun v2 H locs e2 hP hD hS => ?_)
    refine px_currentMode C hP hD hS dc_X_leaveMachine_23 (fun w3 H locs ew3 hP hD hS => ?_)
    refine lv_aload_n hx hb dc_X_leaveMachine_26 rfl (lv_at hl 1 rfl) ?_
    refine lv_aload_n hx hb dc_X_leaveMachine_27 rfl (lv_at hl 1 rfl) ?_
    refine gx_status C hP dc_X_leaveMachine_28 (fun v4 e4 => ?_)
    refine lv_ldc2 (v := (-6153)) hx hb hown (hT _ mw_31) dc_X_leaveMachine_31 ?_
    refine xr_land hx hb dc_X_leaveMachine_34 (fun v5 e5 => ?_)
    refine lv_ldc2 (v := 128) hx hb hown (hT _ mw_26) dc_X_leaveMachine_35 ?_
    refine xr_lor hx hb dc_X_leaveMachine_38 (fun v6 e6 => ?_)
    refine lv_lload_n hx hb dc_X_leaveMachine_39 rfl (lv_at hl 0 rfl) ?_
    refine xr_lor hx hb dc_X_leaveMachine_40 (fun v7 e7 => ?_)
    refine px_status C hP hD hS dc_X_leaveMachine_41 (fun w8 H locs ew8 hP hD hS => ?_)
    refine lv_aload_n hx hb dc_X_leaveMachine_44 rfl (lv_at hl 1 rfl) ?_
    refine lv_aload_n hx hb dc_X_leaveMachine_45 rfl (lv_at hl 1 rfl) ?_
    refine gx_machineBank C hP dc_X_leaveMachine_46 ?_
    refine gn1_resume C hP dc_X_leaveMachine_49 (fun v9 e9 => ?_)
    refine px_lastPlace C hP hD hS dc_X_leaveMachine_52 (fun w10 H locs ew10 hP hD hS => ?_)
    exact ck_vret C hP hD hS (by subst e2 ew3 e4 e5 e6 e7 ew8 e9 ew10; exact (hq.trans (rfl)).symm) dc_X_leaveMachine_55
  -- from the entry
  refine lv_aload_n hx hb dc_X_leaveMachine_0 rfl (lv_at hl 0 rfl) ?_
  refine lv_ldc2 (v := 128) hx hb hown (hT _ mw_26) dc_X_leaveMachine_1 ?_
  refine ck_gpi (rest := []) C kt_X hP hD hS (ck_runV (q0 := 0) C kt_X hK (c_X_has l D tys h0 b1 b2 u0 128  _) (cw_X_29 hT ⟨Nat.le_of_ble_eq_true rfl, Nat.le_of_ble_eq_true rfl⟩) rfl rfl hP hD hS rfl hl.1 rfl (Nat.le_of_ble_eq_true rfl) dc_X_leaveMachine_4 ⟨Nat.zero_le _, Nat.zero_le _⟩) (fun v12 H locs e12 hP hD hS => ?_)
  refine lv_if_eq (tgt := 16) hx hb dc_X_leaveMachine_7 (by decide) (fun c13 => ?_) (fun c13 => ?_)
  · refine lv_lconst (v := 0) hx hb dc_X_leaveMachine_16 (by decide) ?_
    exact k17 u0 0 _ _ _ hP hD hS (lv_sub hl [0] rfl) (by subst e12; exact (if_pos c13))
  · refine lv_ldc2 (v := 8) hx hb hown (hT _ mw_14) dc_X_leaveMachine_10 ?_
    refine lv_goto (tgt := 17) hx hb dc_X_leaveMachine_13 (by decide) ?_
    exact k17 u0 8 _ _ _ hP hD hS (lv_sub hl [0] rfl) (by subst e12; exact (if_neg c13))
def f_X_leaveSupervisor_34 (u : cs_St)  (x1 : Int64) (y1 : Int32) : cs_St := (let w1 : cs_St := (y1, u.2); let v2 : Int64 := w1.2 1; let v3 : Int64 := v2 &&& (-259 : Int64); let v4 : Int64 := v3 ||| (32 : Int64); let v5 : Int64 := v4 ||| x1; let w6 : cs_St := (w1.1, vp_updL w1.2 1 v5); let v7 : Int64 := w6.2 22; let w8 : cs_St := (w6.1, vp_updL w6.2 12 v7); w8)
def f_X_leaveSupervisor_17 (u : cs_St)  (y0 : Int64) : cs_St := (let v10 : Int32 := f_X_has u 256; (if v10 = 0 then (f_X_leaveSupervisor_34 u  y0 0) else (f_X_leaveSupervisor_34 u  y0 1)))
def f_X_leaveSupervisor (u0 : cs_St)  : cs_St := (let v13 : Int32 := f_X_has u0 32; (if v13 = 0 then (f_X_leaveSupervisor_17 u0  0) else (f_X_leaveSupervisor_17 u0  2)))
set_option maxHeartbeats 4000000 in
set_option maxRecDepth 100000 in
theorem c_X_leaveSupervisor (l : Launch) (D : va_G) (tys : List (ClassId × FieldType)) (h0 b1 b2 : Nat) (u0 : cs_St)   : ck_Mv l D tys (wx h0 b1 b2) yn_X_leaveSupervisor w_X_leaveSupervisor rm_X_leaveSupervisor 0 0 [.ref h0] u0 (f_X_leaveSupervisor u0) := by
  refine ck_entv (cc := bc_X_leaveSupervisor) (maxL := 3) (ret := none) (by decide) rfl (Nat.le_of_ble_eq_true rfl) ?_
  intro p e s m below meth c A ls C hnm hP hD hS hl
  have C : ck_C p s m meth c bc_X_leaveSupervisor none 3 #[.ref h0] "ControlDesk" A D tys := C
  have hl : lv_has ls 3 [(0, .ref h0)] := hl
  have hx := C.1
  have hb := C.2.1
  have hown := C.2.2.2.2.1
  have hT := C.2.2.2.2.2.1
  have hK := C.2.2.2.2.2.2.2.1
  have hN := C.2.2.2.2.2.2.2.2.2.2.2.1
  have k34 : ∀ (u : cs_St) (x1 : Int64) (y1 : Int32) (H : Heap) (locs : List Loc) (ls : Array Slot), va_P D xw_Cl ((wx h0 b1 b2) u) H → va_D A ((wx h0 b1 b2) u) → va_S A s.heap H locs → lv_has ls 3 [(0, .ref h0), (1, .long x1)] → f_X_leaveSupervisor u0 = f_X_leaveSupervisor_34 u  x1 y1 → W p l e rm_X_leaveSupervisor s m #[.ref h0] below meth c H locs 0 0 (MQ below (va_Qv (fun u2 => u2 = (f_X_leaveSupervisor u0)) (ck_B D (wx h0 b1 b2) A) A) #[.ref h0] s 0 0 A) (F0 m 34 ls [.int y1, .ref h0]) := by
    intro u x1 y1 H locs ls hP hD hS hl hq 
    refine px_currentMode C hP hD hS dc_X_leaveSupervisor_34 (fun w1 H locs ew1 hP hD hS => ?_)
    refine lv_aload_n hx hb dc_X_leaveSupervisor_37 rfl (lv_at hl 0 rfl) ?_
    refine lv_aload_n hx hb dc_X_leaveSupervisor_38 rfl (lv_at hl 0 rfl) ?_
    refine gx_status C hP dc_X_leaveSupervisor_39 (fun v2 e2 => ?_)
    refine lv_ldc2 (v := (-259)) hx hb hown (hT _ mw_32) dc_X_leaveSupervisor_42 ?_
    refine xr_land hx hb dc_X_leaveSupervisor_45 (fun v3 e3 => ?_)
    refine lv_ldc2 (v := 32) hx hb hown (hT _ mw_22) dc_X_leaveSupervisor_46 ?_
    refine xr_lor hx hb dc_X_leaveSupervisor_49 (fun v4 e4 => ?_)
    refine lv_lload_n hx hb dc_X_leaveSupervisor_50 rfl (lv_at hl 1 rfl) ?_
    refine xr_lor hx hb dc_X_leaveSupervisor_51 (fun v5 e5 => ?_)
    refine px_status C hP hD hS dc_X_leaveSupervisor_52 (fun w6 H locs ew6 hP hD hS => ?_)
    refine lv_aload_n hx hb dc_X_leaveSupervisor_55 rfl (lv_at hl 0 rfl) ?_
    refine lv_aload_n hx hb dc_X_leaveSupervisor_56 rfl (lv_at hl 0 rfl) ?_
    refine gx_supervisorBank C hP dc_X_leaveSupervisor_57 ?_
    refine gn2_resume C hP dc_X_leaveSupervisor_60 (fun v7 e7 => ?_)
    refine px_lastPlace C hP hD hS dc_X_leaveSupervisor_63 (fun w8 H locs ew8 hP hD hS => ?_)
    exact ck_vret C hP hD hS (by subst ew1 e2 e3 e4 e5 ew6 e7 ew8; exact (hq.trans (rfl)).symm) dc_X_leaveSupervisor_66
  have k17 : ∀ (u : cs_St) (y0 : Int64) (H : Heap) (locs : List Loc) (ls : Array Slot), va_P D xw_Cl ((wx h0 b1 b2) u) H → va_D A ((wx h0 b1 b2) u) → va_S A s.heap H locs → lv_has ls 3 [(0, .ref h0)] → f_X_leaveSupervisor u0 = f_X_leaveSupervisor_17 u  y0 → W p l e rm_X_leaveSupervisor s m #[.ref h0] below meth c H locs 0 0 (MQ below (va_Qv (fun u2 => u2 = (f_X_leaveSupervisor u0)) (ck_B D (wx h0 b1 b2) A) A) #[.ref h0] s 0 0 A) (F0 m 17 ls [.long y0]) := by
    intro u y0 H locs ls hP hD hS hl hq 
    refine lv_lstore_n (lv' := [(1, .long y0), (0, .ref h0)]) hx hb dc_X_leaveSupervisor_17 rfl hl (by decide) rfl (fun ls hl => ?_)
    refine lv_aload_n hx hb dc_X_leaveSupervisor_18 rfl (lv_at hl 1 rfl) ?_
    refine lv_aload_n hx hb dc_X_leaveSupervisor_19 rfl (lv_at hl 1 rfl) ?_
    refine lv_ldc2 (v := 256) hx hb hown (hT _ mw_24) dc_X_leaveSupervisor_20 ?_
    refine ck_gpi (rest := [.ref h0]) C kt_X hP hD hS (ck_runV (q0 := 0) C kt_X hK (c_X_has l D tys h0 b1 b2 u 256  _) (cw_X_29 hT ⟨Nat.le_of_ble_eq_true rfl, Nat.le_of_ble_eq_true rfl⟩) rfl rfl hP hD hS rfl hl.1 rfl (Nat.le_of_ble_eq_true rfl) dc_X_leaveSupervisor_23 ⟨Nat.zero_le _, Nat.zero_le _⟩) (fun v10 H locs e10 hP hD hS => ?_)
    refine lv_if_eq (tgt := 33) hx hb dc_X_leaveSupervisor_26 (by decide) (fun c11 => ?_) (fun c11 => ?_)
    · refine lv_iconst (v := 0) hx hb dc_X_leaveSupervisor_33 (by decide) ?_
      exact k34 u y0 0 _ _ _ hP hD hS (lv_sub hl [1, 0] rfl) (by subst e10; exact hq.trans ((if_pos c11)))
    · refine lv_iconst (v := 1) hx hb dc_X_leaveSupervisor_29 (by decide) ?_
      refine lv_goto (tgt := 34) hx hb dc_X_leaveSupervisor_30 (by decide) ?_
      exact k34 u y0 1 _ _ _ hP hD hS (lv_sub hl [1, 0] rfl) (by subst e10; exact hq.trans ((if_neg c11)))
  -- from the entry
  refine lv_aload_n hx hb dc_X_leaveSupervisor_0 rfl (lv_at hl 0 rfl) ?_
  refine lv_ldc2 (v := 32) hx hb hown (hT _ mw_22) dc_X_leaveSupervisor_1 ?_
  refine ck_gpi (rest := []) C kt_X hP hD hS (ck_runV (q0 := 0) C kt_X hK (c_X_has l D tys h0 b1 b2 u0 32  _) (cw_X_29 hT ⟨Nat.le_of_ble_eq_true rfl, Nat.le_of_ble_eq_true rfl⟩) rfl rfl hP hD hS rfl hl.1 rfl (Nat.le_of_ble_eq_true rfl) dc_X_leaveSupervisor_4 ⟨Nat.zero_le _, Nat.zero_le _⟩) (fun v13 H locs e13 hP hD hS => ?_)
  refine lv_if_eq (tgt := 16) hx hb dc_X_leaveSupervisor_7 (by decide) (fun c14 => ?_) (fun c14 => ?_)
  · refine lv_lconst (v := 0) hx hb dc_X_leaveSupervisor_16 (by decide) ?_
    exact k17 u0 0 _ _ _ hP hD hS (lv_sub hl [0] rfl) (by subst e13; exact (if_pos c14))
  · refine lv_ldc2 (v := 2) hx hb hown (hT _ mw_11) dc_X_leaveSupervisor_10 ?_
    refine lv_goto (tgt := 17) hx hb dc_X_leaveSupervisor_13 (by decide) ?_
    exact k17 u0 2 _ _ _ hP hD hS (lv_sub hl [0] rfl) (by subst e13; exact (if_neg c14))
def f_X_back_25 (u : cs_St) (p1 : Int32)  : Int32 × cs_St := (let v1 : Int32 := u.1; (if v1 = 3 then (1, u) else (let v3 : Int64 := u.2 1; let v4 : Int64 := v3 &&& (-131073 : Int64); let w5 : cs_St := (u.1, vp_updL u.2 1 v4); (1, w5))))
def f_X_back (u0 : cs_St) (p1 : Int32) : Int32 × cs_St := (let v7 : Int32 := f_X_mayReturn u0 p1; (if v7 = 0 then (0, u0) else (if p1 = 0 then (let w10 : cs_St := f_X_leaveSupervisor u0; (f_X_back_25 w10 p1 )) else (let w11 : cs_St := f_X_leaveMachine u0; (f_X_back_25 w11 p1 )))))
set_option maxHeartbeats 4000000 in
set_option maxRecDepth 100000 in
theorem c_X_back (l : Launch) (D : va_G) (tys : List (ClassId × FieldType)) (h0 b1 b2 : Nat) (u0 : cs_St) (p1 : Int32)  : ck_Mi l D tys (wx h0 b1 b2) yn_X_back w_X_back rm_X_back 0 0 [.ref h0, .int p1] u0 (f_X_back u0 p1).1 (f_X_back u0 p1).2 := by
  refine ck_enti (cc := bc_X_back) (maxL := 2) (ret := (some .boolean)) (by decide) rfl (Nat.le_of_ble_eq_true rfl) ?_
  intro p e s m below meth c A ls C hnm hP hD hS hl
  have C : ck_C p s m meth c bc_X_back (some .boolean) 2 #[.ref h0, .int p1] "ControlDesk" A D tys := C
  have hl : lv_has ls 2 [(0, .ref h0), (1, .int p1)] := hl
  have hx := C.1
  have hb := C.2.1
  have hown := C.2.2.2.2.1
  have hT := C.2.2.2.2.2.1
  have hK := C.2.2.2.2.2.2.2.1
  have hN := C.2.2.2.2.2.2.2.2.2.2.2.1
  have k25 : ∀ (u : cs_St) (H : Heap) (locs : List Loc) (ls : Array Slot), va_P D xw_Cl ((wx h0 b1 b2) u) H → va_D A ((wx h0 b1 b2) u) → va_S A s.heap H locs → lv_has ls 2 [(0, .ref h0)] → f_X_back u0 p1 = f_X_back_25 u p1  → W p l e rm_X_back s m #[.ref h0, .int p1] below meth c H locs 0 0 (MQ below (va_Qi (fun r2 u2 => r2 = (f_X_back u0 p1).1 ∧ u2 = (f_X_back u0 p1).2) (ck_B D (wx h0 b1 b2) A) A) #[.ref h0, .int p1] s 0 0 A) (F0 m 25 ls []) := by
    intro u  H locs ls hP hD hS hl hq 
    refine lv_aload_n hx hb dc_X_back_25 rfl (lv_at hl 0 rfl) ?_
    refine gx_currentMode C hP dc_X_back_26 (fun v1 e1 => ?_)
    refine lv_iconst (v := 3) hx hb dc_X_back_29 (by decide) ?_
    refine lv_icmp_eq (tgt := 45) hx hb dc_X_back_30 (by decide) (fun c2 => ?_) (fun c2 => ?_)
    · refine lv_iconst (v := 1) hx hb dc_X_back_45 (by decide) ?_
      exact ck_zret (v := 1) C hP hD hS rfl (by subst e1; exact ck_pair (hq.trans ((if_pos c2)))) dc_X_back_46
    · refine lv_aload_n hx hb dc_X_back_33 rfl (lv_at hl 0 rfl) ?_
      refine lv_dup hx hb dc_X_back_34 rfl ?_
      refine gx_status C hP dc_X_back_35 (fun v3 e3 => ?_)
      refine lv_ldc2 (v := (-131073)) hx hb hown (hT _ mw_33) dc_X_back_38 ?_
      refine xr_land hx hb dc_X_back_41 (fun v4 e4 => ?_)
      refine px_status C hP hD hS dc_X_back_42 (fun w5 H locs ew5 hP hD hS => ?_)
      refine lv_iconst (v := 1) hx hb dc_X_back_45 (by decide) ?_
      exact ck_zret (v := 1) C hP hD hS rfl (by subst e1 e3 e4 ew5; exact ck_pair (hq.trans ((if_neg c2)))) dc_X_back_46
  -- from the entry
  refine lv_aload_n hx hb dc_X_back_0 rfl (lv_at hl 0 rfl) ?_
  refine lv_iload_n hx hb dc_X_back_1 rfl (lv_at hl 1 rfl) ?_
  refine ck_gpi (rest := []) C kt_X hP hD hS (ck_runV (q0 := 0) C kt_X hK (c_X_mayReturn l D tys h0 b1 b2 u0 p1  _) (cw_X_104 hT ⟨Nat.le_of_ble_eq_true rfl, Nat.le_of_ble_eq_true rfl⟩) rfl rfl hP hD hS rfl hl.1 rfl (Nat.le_of_ble_eq_true rfl) dc_X_back_2 ⟨Nat.zero_le _, Nat.zero_le _⟩) (fun v7 H locs e7 hP hD hS => ?_)
  refine lv_if_ne (tgt := 10) hx hb dc_X_back_5 (by decide) (fun c8 => ?_) (fun c8 => ?_)
  · refine lv_iload_n hx hb dc_X_back_10 rfl (lv_at hl 1 rfl) ?_
    refine lv_if_eq (tgt := 21) hx hb dc_X_back_11 (by decide) (fun c9 => ?_) (fun c9 => ?_)
    · refine lv_aload_n hx hb dc_X_back_21 rfl (lv_at hl 0 rfl) ?_
      refine ck_gov (rest := []) C kt_X hP hD hS (ck_runV (q0 := 0) C kt_X hK (c_X_leaveSupervisor l D tys h0 b1 b2 u0   _) (cw_X_111 hT ⟨Nat.le_of_ble_eq_true rfl, Nat.le_of_ble_eq_true rfl⟩) rfl rfl hP hD hS rfl hl.1 rfl (Nat.le_of_ble_eq_true rfl) dc_X_back_22 ⟨Nat.zero_le _, Nat.zero_le _⟩) (fun w10 H locs ew10 hP hD hS => ?_)
      exact k25 w10  _ _ _ hP hD hS (lv_sub hl [0] rfl) (by subst e7 ew10; exact (if_neg c8).trans ((if_pos c9)))
    · refine lv_aload_n hx hb dc_X_back_14 rfl (lv_at hl 0 rfl) ?_
      refine ck_gov (rest := []) C kt_X hP hD hS (ck_runV (q0 := 0) C kt_X hK (c_X_leaveMachine l D tys h0 b1 b2 u0   _) (cw_X_108 hT ⟨Nat.le_of_ble_eq_true rfl, Nat.le_of_ble_eq_true rfl⟩) rfl rfl hP hD hS rfl hl.1 rfl (Nat.le_of_ble_eq_true rfl) dc_X_back_15 ⟨Nat.zero_le _, Nat.zero_le _⟩) (fun w11 H locs ew11 hP hD hS => ?_)
      refine lv_goto (tgt := 25) hx hb dc_X_back_18 (by decide) ?_
      exact k25 w11  _ _ _ hP hD hS (lv_sub hl [0] rfl) (by subst e7 ew11; exact (if_neg c8).trans ((if_neg c9)))
  · refine lv_iconst (v := 0) hx hb dc_X_back_8 (by decide) ?_
    exact ck_zret (v := 0) C hP hD hS rfl (by subst e7; exact ck_pair ((if_pos c8))) dc_X_back_9
def f_X_place (u : cs_St)  : Int64 := (let v1 : Int64 := u.2 12; v1)
set_option maxHeartbeats 4000000 in
set_option maxRecDepth 100000 in
theorem c_X_place (l : Launch) (D : va_G) (tys : List (ClassId × FieldType)) (h0 b1 b2 : Nat) (u : cs_St)   : ck_Ml l D tys (wx h0 b1 b2) yn_X_place w_X_place rm_X_place 0 0 [.ref h0] u (f_X_place u) u := by
  refine ck_entl (cc := bc_X_place) (maxL := 1) (ret := (some .long)) (by decide) rfl (Nat.le_of_ble_eq_true rfl) ?_
  intro p e s m below meth c A ls C hnm hP hD hS hl
  have C : ck_C p s m meth c bc_X_place (some .long) 1 #[.ref h0] "ControlDesk" A D tys := C
  have hl : lv_has ls 1 [(0, .ref h0)] := hl
  have hx := C.1
  have hb := C.2.1
  have hown := C.2.2.2.2.1
  have hT := C.2.2.2.2.2.1
  have hK := C.2.2.2.2.2.2.2.1
  have hN := C.2.2.2.2.2.2.2.2.2.2.2.1
  -- from the entry
  refine lv_aload_n hx hb dc_X_place_0 rfl (lv_at hl 0 rfl) ?_
  refine gx_lastPlace C hP dc_X_place_1 (fun v1 e1 => ?_)
  exact ck_lret (v := v1) C hP hD hS ⟨by subst e1; exact (rfl).symm, rfl⟩ dc_X_place_4
def f_X_takesUndelegated (u : cs_St)  : Int32 := (let v1 : Int32 := u.1; (if v1 = 3 then (let v4 : Int32 := f_X_has u 8; (if v4 = 0 then 0 else 1)) else 1))
set_option maxHeartbeats 4000000 in
set_option maxRecDepth 100000 in
theorem c_X_takesUndelegated (l : Launch) (D : va_G) (tys : List (ClassId × FieldType)) (h0 b1 b2 : Nat) (u : cs_St)   : ck_Mi l D tys (wx h0 b1 b2) yn_X_takesUndelegated w_X_takesUndelegated rm_X_takesUndelegated 0 0 [.ref h0] u (f_X_takesUndelegated u) u := by
  refine ck_enti (cc := bc_X_takesUndelegated) (maxL := 1) (ret := (some .boolean)) (by decide) rfl (Nat.le_of_ble_eq_true rfl) ?_
  intro p e s m below meth c A ls C hnm hP hD hS hl
  have C : ck_C p s m meth c bc_X_takesUndelegated (some .boolean) 1 #[.ref h0] "ControlDesk" A D tys := C
  have hl : lv_has ls 1 [(0, .ref h0)] := hl
  have hx := C.1
  have hb := C.2.1
  have hown := C.2.2.2.2.1
  have hT := C.2.2.2.2.2.1
  have hK := C.2.2.2.2.2.2.2.1
  have hN := C.2.2.2.2.2.2.2.2.2.2.2.1
  -- from the entry
  refine lv_aload_n hx hb dc_X_takesUndelegated_0 rfl (lv_at hl 0 rfl) ?_
  refine gx_currentMode C hP dc_X_takesUndelegated_1 (fun v1 e1 => ?_)
  refine lv_iconst (v := 3) hx hb dc_X_takesUndelegated_4 (by decide) ?_
  refine lv_icmp_ne (tgt := 18) hx hb dc_X_takesUndelegated_5 (by decide) (fun c2 => ?_) (fun c2 => ?_)
  · refine lv_iconst (v := 1) hx hb dc_X_takesUndelegated_18 (by decide) ?_
    refine lv_goto (tgt := 23) hx hb dc_X_takesUndelegated_19 (by decide) ?_
    exact ck_zret (v := 1) C hP hD hS rfl ⟨by subst e1; exact ((if_neg c2)).symm, rfl⟩ dc_X_takesUndelegated_23
  · refine lv_aload_n hx hb dc_X_takesUndelegated_8 rfl (lv_at hl 0 rfl) ?_
    refine lv_ldc2 (v := 8) hx hb hown (hT _ mw_14) dc_X_takesUndelegated_9 ?_
    refine ck_gpi (rest := []) C kt_X hP hD hS (ck_runV (q0 := 0) C kt_X hK (c_X_has l D tys h0 b1 b2 u 8  _) (cw_X_29 hT ⟨Nat.le_of_ble_eq_true rfl, Nat.le_of_ble_eq_true rfl⟩) rfl rfl hP hD hS rfl hl.1 rfl (Nat.le_of_ble_eq_true rfl) dc_X_takesUndelegated_12 ⟨Nat.zero_le _, Nat.zero_le _⟩) (fun v4 H locs e4 hP hD hS => ?_)
    refine lv_if_eq (tgt := 22) hx hb dc_X_takesUndelegated_15 (by decide) (fun c5 => ?_) (fun c5 => ?_)
    · refine lv_iconst (v := 0) hx hb dc_X_takesUndelegated_22 (by decide) ?_
      exact ck_zret (v := 0) C hP hD hS rfl ⟨by subst e1 e4; exact ((if_pos c2).trans ((if_pos c5))).symm, rfl⟩ dc_X_takesUndelegated_23
    · refine lv_iconst (v := 1) hx hb dc_X_takesUndelegated_18 (by decide) ?_
      refine lv_goto (tgt := 23) hx hb dc_X_takesUndelegated_19 (by decide) ?_
      exact ck_zret (v := 1) C hP hD hS rfl ⟨by subst e1 e4; exact ((if_pos c2).trans ((if_neg c5))).symm, rfl⟩ dc_X_takesUndelegated_23
def f_X_firstInOrder_10 (u : cs_St) (p1 : Int64) : Nat → Int32 → Int32
  | 0, _ => (-1)
  | n + 1, x4 => (if 6 ≤ x4 then (-1) else (let v2 : Int32 := xe_ord x4.toNatClampNeg; let v3 : Int64 := (p1.toUInt64 >>> (v2.toInt64.toUInt64 &&& Int64.toUInt64 63)).toInt64; let v4 : Int64 := v3 &&& (1 : Int64); let v5 : Int32 := lg_cmp v4 (0 : Int64); (if v5 = 0 then (let v7 : Int32 := x4 + 1; (f_X_firstInOrder_10 u p1 n v7)) else v2)))
def f_X_firstInOrder (u : cs_St) (p1 : Int64) : Int32 := (f_X_firstInOrder_10 u p1 7 0)
set_option maxHeartbeats 4000000 in
set_option maxRecDepth 100000 in
theorem c_X_firstInOrder (l : Launch) (D : va_G) (tys : List (ClassId × FieldType)) (h0 b1 b2 : Nat) (u : cs_St) (p1 : Int64)  : ck_Mi l D tys (wx h0 b1 b2) yn_X_firstInOrder w_X_firstInOrder rm_X_firstInOrder 0 0 [.long p1] u (f_X_firstInOrder u p1) u := by
  refine ck_enti (cc := bc_X_firstInOrder) (maxL := 6) (ret := (some .int)) (by decide) rfl (Nat.le_of_ble_eq_true rfl) ?_
  intro p e s m below meth c A ls C hnm hP hD hS hl
  have C : ck_C p s m meth c bc_X_firstInOrder (some .int) 6 #[.long p1] "ControlDesk" A D tys := C
  have hl : lv_has ls 6 [(0, .long p1)] := hl
  have hx := C.1
  have hb := C.2.1
  have hown := C.2.2.2.2.1
  have hT := C.2.2.2.2.2.1
  have hK := C.2.2.2.2.2.2.2.1
  have hN := C.2.2.2.2.2.2.2.2.2.2.2.1
  obtain ⟨⟨tq, hZ, hTb⟩, -⟩ := C.2.2.2.2.2.2.2.2.2
  have k10 : ∀ (n : Nat) (x4 : Int32) (H : Heap) (locs : List Loc) (ls : Array Slot), va_P D xw_Cl ((wx h0 b1 b2) u) H → va_D A ((wx h0 b1 b2) u) → va_S A s.heap H locs → lv_has ls 6 [(0, .long p1), (2, .ref tq), (3, .int 6), (4, .int x4)] → f_X_firstInOrder u p1 = f_X_firstInOrder_10 u p1 n x4 → (1 ≤ n ∧ n ≤ 7 ∧ x4 = nI (6 + 1 - n)) → W p l e rm_X_firstInOrder s m #[.long p1] below meth c H locs 0 0 (MQ below (va_Qi (fun r2 u2 => r2 = (f_X_firstInOrder u p1) ∧ u2 = u) (ck_B D (wx h0 b1 b2) A) A) #[.long p1] s 0 0 A) (F0 m 10 ls []) := by
    intro n
    induction n with
    | zero =>
      intro x4 H locs ls hP hD hS hl hq g1
      exact absurd g1.1 (by decide)
    | succ n ih =>
      intro x4 H locs ls hP hD hS hl hq g1
      refine lv_iload hx hb dc_X_firstInOrder_10 (lv_at hl 3 rfl) ?_
      refine lv_iload_n hx hb dc_X_firstInOrder_12 rfl (lv_at hl 2 rfl) ?_
      refine lv_icmp_ge (tgt := 42) hx hb dc_X_firstInOrder_13 (by decide) (fun c1 => ?_) (fun c1 => ?_)
      · refine lv_iconst (v := (-1)) hx hb dc_X_firstInOrder_42 (by decide) ?_
        exact ck_iret (v := (-1)) C hP hD hS ⟨by exact (hq.trans ((if_pos c1))).symm, rfl⟩ dc_X_firstInOrder_43
      · refine lv_aload_n hx hb dc_X_firstInOrder_16 rfl (lv_at hl 1 rfl) ?_
        refine lv_iload hx hb dc_X_firstInOrder_17 (lv_at hl 3 rfl) ?_
        refine va_ti (v := .int (xe_ord x4.toNatClampNeg)) hx hb hTb hS (lp_in (E := 6) (B := 7) (by decide) (by decide) (lp_mid (E := 6) (B := 7) rfl (by decide) (by decide) g1 c1)) rfl dc_X_firstInOrder_19 ?_
        refine lv_topi (fun v2 e2 => ?_)
        refine lv_istore (lv' := [(5, .int v2), (0, .long p1), (2, .ref tq), (3, .int 6), (4, .int x4)]) hx hb dc_X_firstInOrder_20 hl (by decide) rfl (fun ls hl => ?_)
        refine lv_lload_n hx hb dc_X_firstInOrder_22 rfl (lv_at hl 1 rfl) ?_
        refine lv_iload hx hb dc_X_firstInOrder_23 (lv_at hl 0 rfl) ?_
        refine xr_lushr hx hb dc_X_firstInOrder_25 (fun v3 e3 => ?_)
        refine lv_lconst (v := 1) hx hb dc_X_firstInOrder_26 (by decide) ?_
        refine xr_land hx hb dc_X_firstInOrder_27 (fun v4 e4 => ?_)
        refine lv_lconst (v := 0) hx hb dc_X_firstInOrder_28 (by decide) ?_
        refine xr_lcmp hx hb dc_X_firstInOrder_29 (fun v5 e5 => ?_)
        refine lv_if_eq (tgt := 36) hx hb dc_X_firstInOrder_30 (by decide) (fun c6 => ?_) (fun c6 => ?_)
        · obtain ⟨v7, e7⟩ : ∃ z : Int32, z = x4 + 1 := ⟨_, rfl⟩
          refine lv_iinc (v := v7) (lv' := [(4, .int v7), (5, .int v2), (0, .long p1), (2, .ref tq), (3, .int 6)]) hx hb dc_X_firstInOrder_36 hl (k := 4) rfl (by rw [e7]; rfl) (by decide) rfl (fun ls hl => ?_)
          refine lv_goto (tgt := 10) hx hb dc_X_firstInOrder_39 (by decide) ?_
          exact ih v7 _ _ _ hP hD hS (lv_sub hl [2, 3, 4, 0] rfl) (by subst e2 e3 e4 e5 e7; exact hq.trans ((if_neg c1).trans ((if_pos c6)))) (lp_back (E := 6) (B := 7) (by decide) (lp_mid (E := 6) (B := 7) rfl (by decide) (by decide) g1 c1) e7)
        · refine lv_iload hx hb dc_X_firstInOrder_33 (lv_at hl 0 rfl) ?_
          exact ck_iret (v := v2) C hP hD hS ⟨by subst e2 e3 e4 e5; exact (hq.trans ((if_neg c1).trans ((if_neg c6)))).symm, rfl⟩ dc_X_firstInOrder_35
  -- from the entry
  refine va_gets hx hb hZ hS hown (hT _ mw_34) (fun _ h9 => h9) dc_X_firstInOrder_0 ?_
  refine lv_astore_n (lv' := [(2, .ref tq), (0, .long p1)]) hx hb dc_X_firstInOrder_3 rfl hl (by decide) rfl (fun ls hl => ?_)
  refine lv_aload_n hx hb dc_X_firstInOrder_4 rfl (lv_at hl 0 rfl) ?_
  refine va_tlen (v := 6) hx hb hTb hS (by decide) dc_X_firstInOrder_5 ?_
  refine lv_istore_n (lv' := [(3, .int 6), (2, .ref tq), (0, .long p1)]) hx hb dc_X_firstInOrder_6 rfl hl (by decide) rfl (fun ls hl => ?_)
  refine lv_iconst (v := 0) hx hb dc_X_firstInOrder_7 (by decide) ?_
  refine lv_istore (lv' := [(4, .int 0), (3, .int 6), (2, .ref tq), (0, .long p1)]) hx hb dc_X_firstInOrder_8 hl (by decide) rfl (fun ls hl => ?_)
  exact k10 (7) 0 _ _ _ hP hD hS (lv_sub hl [3, 2, 1, 0] rfl) (by exact rfl) (⟨by decide, by decide, rfl⟩)
def f_X_takesDelegated (u : cs_St)  : Int32 := (let v1 : Int32 := u.1; (if v1 = 0 then 1 else (let v3 : Int32 := u.1; (if v3 = 1 then (let v6 : Int32 := f_X_has u 2; (if v6 = 0 then 0 else 1)) else 0))))
set_option maxHeartbeats 4000000 in
set_option maxRecDepth 100000 in
theorem c_X_takesDelegated (l : Launch) (D : va_G) (tys : List (ClassId × FieldType)) (h0 b1 b2 : Nat) (u : cs_St)   : ck_Mi l D tys (wx h0 b1 b2) yn_X_takesDelegated w_X_takesDelegated rm_X_takesDelegated 0 0 [.ref h0] u (f_X_takesDelegated u) u := by
  refine ck_enti (cc := bc_X_takesDelegated) (maxL := 1) (ret := (some .boolean)) (by decide) rfl (Nat.le_of_ble_eq_true rfl) ?_
  intro p e s m below meth c A ls C hnm hP hD hS hl
  have C : ck_C p s m meth c bc_X_takesDelegated (some .boolean) 1 #[.ref h0] "ControlDesk" A D tys := C
  have hl : lv_has ls 1 [(0, .ref h0)] := hl
  have hx := C.1
  have hb := C.2.1
  have hown := C.2.2.2.2.1
  have hT := C.2.2.2.2.2.1
  have hK := C.2.2.2.2.2.2.2.1
  have hN := C.2.2.2.2.2.2.2.2.2.2.2.1
  -- from the entry
  refine lv_aload_n hx hb dc_X_takesDelegated_0 rfl (lv_at hl 0 rfl) ?_
  refine gx_currentMode C hP dc_X_takesDelegated_1 (fun v1 e1 => ?_)
  refine lv_if_eq (tgt := 25) hx hb dc_X_takesDelegated_4 (by decide) (fun c2 => ?_) (fun c2 => ?_)
  · refine lv_iconst (v := 1) hx hb dc_X_takesDelegated_25 (by decide) ?_
    refine lv_goto (tgt := 30) hx hb dc_X_takesDelegated_26 (by decide) ?_
    exact ck_zret (v := 1) C hP hD hS rfl ⟨by subst e1; exact ((if_pos c2)).symm, rfl⟩ dc_X_takesDelegated_30
  · refine lv_aload_n hx hb dc_X_takesDelegated_7 rfl (lv_at hl 0 rfl) ?_
    refine gx_currentMode C hP dc_X_takesDelegated_8 (fun v3 e3 => ?_)
    refine lv_iconst (v := 1) hx hb dc_X_takesDelegated_11 (by decide) ?_
    refine lv_icmp_ne (tgt := 29) hx hb dc_X_takesDelegated_12 (by decide) (fun c4 => ?_) (fun c4 => ?_)
    · refine lv_iconst (v := 0) hx hb dc_X_takesDelegated_29 (by decide) ?_
      exact ck_zret (v := 0) C hP hD hS rfl ⟨by subst e1 e3; exact ((if_neg c2).trans ((if_neg c4))).symm, rfl⟩ dc_X_takesDelegated_30
    · refine lv_aload_n hx hb dc_X_takesDelegated_15 rfl (lv_at hl 0 rfl) ?_
      refine lv_ldc2 (v := 2) hx hb hown (hT _ mw_11) dc_X_takesDelegated_16 ?_
      refine ck_gpi (rest := []) C kt_X hP hD hS (ck_runV (q0 := 0) C kt_X hK (c_X_has l D tys h0 b1 b2 u 2  _) (cw_X_29 hT ⟨Nat.le_of_ble_eq_true rfl, Nat.le_of_ble_eq_true rfl⟩) rfl rfl hP hD hS rfl hl.1 rfl (Nat.le_of_ble_eq_true rfl) dc_X_takesDelegated_19 ⟨Nat.zero_le _, Nat.zero_le _⟩) (fun v6 H locs e6 hP hD hS => ?_)
      refine lv_if_eq (tgt := 29) hx hb dc_X_takesDelegated_22 (by decide) (fun c7 => ?_) (fun c7 => ?_)
      · refine lv_iconst (v := 0) hx hb dc_X_takesDelegated_29 (by decide) ?_
        exact ck_zret (v := 0) C hP hD hS rfl ⟨by subst e1 e3 e6; exact ((if_neg c2).trans ((if_pos c4).trans ((if_pos c7)))).symm, rfl⟩ dc_X_takesDelegated_30
      · refine lv_iconst (v := 1) hx hb dc_X_takesDelegated_25 (by decide) ?_
        refine lv_goto (tgt := 30) hx hb dc_X_takesDelegated_26 (by decide) ?_
        exact ck_zret (v := 1) C hP hD hS rfl ⟨by subst e1 e3 e6; exact ((if_neg c2).trans ((if_pos c4).trans ((if_neg c7)))).symm, rfl⟩ dc_X_takesDelegated_30
def f_X_taken_33 (u : cs_St)  (x1 : Int64) (x3 : Int32) : Int32 := (if x3 = (-1) then (let v3 : Int32 := f_X_takesDelegated u; (if v3 = 0 then x3 else (let v5 : Int64 := u.2 3; let v6 : Int64 := x1 &&& v5; let v8 : Int32 := f_X_firstInOrder u v6; v8))) else x3)
def f_X_taken (u : cs_St)  : Int32 := (let v10 : Int64 := f_X_pending u; let v11 : Int64 := u.2 4; let v12 : Int64 := v10 &&& v11; let v14 : Int32 := f_X_takesUndelegated u; (if v14 = 0 then (f_X_taken_33 u  v12 (-1)) else (let v16 : Int64 := u.2 3; let v17 : Int64 := v16 ^^^ (-1 : Int64); let v18 : Int64 := v12 &&& v17; let v20 : Int32 := f_X_firstInOrder u v18; (f_X_taken_33 u  v12 v20))))
set_option maxHeartbeats 4000000 in
set_option maxRecDepth 100000 in
theorem c_X_taken (l : Launch) (D : va_G) (tys : List (ClassId × FieldType)) (h0 b1 b2 : Nat) (u : cs_St)   : ck_Mi l D tys (wx h0 b1 b2) yn_X_taken w_X_taken rm_X_taken 0 0 [.ref h0] u (f_X_taken u) u := by
  refine ck_enti (cc := bc_X_taken) (maxL := 4) (ret := (some .int)) (by decide) rfl (Nat.le_of_ble_eq_true rfl) ?_
  intro p e s m below meth c A ls C hnm hP hD hS hl
  have C : ck_C p s m meth c bc_X_taken (some .int) 4 #[.ref h0] "ControlDesk" A D tys := C
  have hl : lv_has ls 4 [(0, .ref h0)] := hl
  have hx := C.1
  have hb := C.2.1
  have hown := C.2.2.2.2.1
  have hT := C.2.2.2.2.2.1
  have hK := C.2.2.2.2.2.2.2.1
  have hN := C.2.2.2.2.2.2.2.2.2.2.2.1
  have k33 : ∀ (x1 : Int64) (x3 : Int32) (H : Heap) (locs : List Loc) (ls : Array Slot), va_P D xw_Cl ((wx h0 b1 b2) u) H → va_D A ((wx h0 b1 b2) u) → va_S A s.heap H locs → lv_has ls 4 [(0, .ref h0), (1, .long x1), (3, .int x3)] → f_X_taken u = f_X_taken_33 u  x1 x3 → W p l e rm_X_taken s m #[.ref h0] below meth c H locs 0 0 (MQ below (va_Qi (fun r2 u2 => r2 = (f_X_taken u) ∧ u2 = u) (ck_B D (wx h0 b1 b2) A) A) #[.ref h0] s 0 0 A) (F0 m 33 ls []) := by
    intro x1 x3 H locs ls hP hD hS hl hq 
    refine lv_iload_n hx hb dc_X_taken_33 rfl (lv_at hl 2 rfl) ?_
    refine lv_iconst (v := (-1)) hx hb dc_X_taken_34 (by decide) ?_
    refine lv_icmp_ne (tgt := 55) hx hb dc_X_taken_35 (by decide) (fun c1 => ?_) (fun c1 => ?_)
    · refine lv_iload_n hx hb dc_X_taken_55 rfl (lv_at hl 2 rfl) ?_
      exact ck_iret (v := x3) C hP hD hS ⟨by exact (hq.trans ((if_neg c1))).symm, rfl⟩ dc_X_taken_56
    · refine lv_aload_n hx hb dc_X_taken_38 rfl (lv_at hl 0 rfl) ?_
      refine ck_gpi (rest := []) C kt_X hP hD hS (ck_runV (q0 := 0) C kt_X hK (c_X_takesDelegated l D tys h0 b1 b2 u   _) (cw_X_136 hT ⟨Nat.le_of_ble_eq_true rfl, Nat.le_of_ble_eq_true rfl⟩) rfl rfl hP hD hS rfl hl.1 rfl (Nat.le_of_ble_eq_true rfl) dc_X_taken_39 ⟨Nat.zero_le _, Nat.zero_le _⟩) (fun v3 H locs e3 hP hD hS => ?_)
      refine lv_if_eq (tgt := 55) hx hb dc_X_taken_42 (by decide) (fun c4 => ?_) (fun c4 => ?_)
      · refine lv_iload_n hx hb dc_X_taken_55 rfl (lv_at hl 2 rfl) ?_
        exact ck_iret (v := x3) C hP hD hS ⟨by subst e3; exact (hq.trans ((if_pos c1).trans ((if_pos c4)))).symm, rfl⟩ dc_X_taken_56
      · refine lv_lload_n hx hb dc_X_taken_45 rfl (lv_at hl 1 rfl) ?_
        refine lv_aload_n hx hb dc_X_taken_46 rfl (lv_at hl 0 rfl) ?_
        refine gx_delegatedInterrupts C hP dc_X_taken_47 (fun v5 e5 => ?_)
        refine xr_land hx hb dc_X_taken_50 (fun v6 e6 => ?_)
        refine ck_gpi (rest := []) C kt_X hP hD hS (ck_runS C kt_X hK (c_X_firstInOrder l D tys h0 b1 b2 u v6  _) (cw_X_132 hT ⟨Nat.le_of_ble_eq_true rfl, Nat.le_of_ble_eq_true rfl⟩) hP hD hS rfl hl.1 rfl (Nat.le_of_ble_eq_true rfl) dc_X_taken_51 ⟨Nat.zero_le _, Nat.zero_le _⟩) (fun v8 H locs e8 hP hD hS => ?_)
        refine lv_istore_n (lv' := [(3, .int v8), (0, .ref h0), (1, .long x1)]) hx hb dc_X_taken_54 rfl hl (by decide) rfl (fun ls hl => ?_)
        refine lv_iload_n hx hb dc_X_taken_55 rfl (lv_at hl 0 rfl) ?_
        exact ck_iret (v := v8) C hP hD hS ⟨by subst e3 e5 e6 e8; exact (hq.trans ((if_pos c1).trans ((if_neg c4)))).symm, rfl⟩ dc_X_taken_56
  -- from the entry
  refine lv_aload_n hx hb dc_X_taken_0 rfl (lv_at hl 0 rfl) ?_
  refine ck_gpl (rest := []) C kt_X hP hD hS (ck_runV (q0 := 0) C kt_X hK (c_X_pending l D tys h0 b1 b2 u   _) (cw_X_116 hT ⟨Nat.le_of_ble_eq_true rfl, Nat.le_of_ble_eq_true rfl⟩) rfl rfl hP hD hS rfl hl.1 rfl (Nat.le_of_ble_eq_true rfl) dc_X_taken_1 ⟨Nat.zero_le _, Nat.zero_le _⟩) (fun v10 H locs e10 hP hD hS => ?_)
  refine lv_aload_n hx hb dc_X_taken_4 rfl (lv_at hl 0 rfl) ?_
  refine gx_enabled C hP dc_X_taken_5 (fun v11 e11 => ?_)
  refine xr_land hx hb dc_X_taken_8 (fun v12 e12 => ?_)
  refine lv_lstore_n (lv' := [(1, .long v12), (0, .ref h0)]) hx hb dc_X_taken_9 rfl hl (by decide) rfl (fun ls hl => ?_)
  refine lv_iconst (v := (-1)) hx hb dc_X_taken_10 (by decide) ?_
  refine lv_istore_n (lv' := [(3, .int (-1)), (1, .long v12), (0, .ref h0)]) hx hb dc_X_taken_11 rfl hl (by decide) rfl (fun ls hl => ?_)
  refine lv_aload_n hx hb dc_X_taken_12 rfl (lv_at hl 2 rfl) ?_
  refine ck_gpi (rest := []) C kt_X hP hD hS (ck_runV (q0 := 0) C kt_X hK (c_X_takesUndelegated l D tys h0 b1 b2 u   _) (cw_X_123 hT ⟨Nat.le_of_ble_eq_true rfl, Nat.le_of_ble_eq_true rfl⟩) rfl rfl hP hD hS rfl hl.1 rfl (Nat.le_of_ble_eq_true rfl) dc_X_taken_13 ⟨Nat.zero_le _, Nat.zero_le _⟩) (fun v14 H locs e14 hP hD hS => ?_)
  refine lv_if_eq (tgt := 33) hx hb dc_X_taken_16 (by decide) (fun c15 => ?_) (fun c15 => ?_)
  · exact k33 v12 (-1) _ _ _ hP hD hS (lv_sub hl [2, 1, 0] rfl) (by subst e10 e11 e12 e14; exact (if_pos c15))
  · refine lv_lload_n hx hb dc_X_taken_19 rfl (lv_at hl 1 rfl) ?_
    refine lv_aload_n hx hb dc_X_taken_20 rfl (lv_at hl 2 rfl) ?_
    refine gx_delegatedInterrupts C hP dc_X_taken_21 (fun v16 e16 => ?_)
    refine lv_ldc2 (v := (-1)) hx hb hown (hT _ mw_8) dc_X_taken_24 ?_
    refine xr_lxor hx hb dc_X_taken_27 (fun v17 e17 => ?_)
    refine xr_land hx hb dc_X_taken_28 (fun v18 e18 => ?_)
    refine ck_gpi (rest := []) C kt_X hP hD hS (ck_runS C kt_X hK (c_X_firstInOrder l D tys h0 b1 b2 u v18  _) (cw_X_132 hT ⟨Nat.le_of_ble_eq_true rfl, Nat.le_of_ble_eq_true rfl⟩) hP hD hS rfl hl.1 rfl (Nat.le_of_ble_eq_true rfl) dc_X_taken_29 ⟨Nat.zero_le _, Nat.zero_le _⟩) (fun v20 H locs e20 hP hD hS => ?_)
    refine lv_istore_n (lv' := [(3, .int v20), (1, .long v12), (0, .ref h0)]) hx hb dc_X_taken_32 rfl hl (by decide) rfl (fun ls hl => ?_)
    exact k33 v12 v20 _ _ _ hP hD hS (lv_sub hl [2, 1, 0] rfl) (by subst e10 e11 e12 e14 e16 e17 e18 e20; exact (if_neg c15))
def f_X_wakes (u : cs_St)  : Int32 := (let v2 : Int64 := f_X_pending u; let v3 : Int64 := u.2 4; let v4 : Int64 := v2 &&& v3; let v5 : Int32 := lg_cmp v4 (0 : Int64); (if v5 = 0 then 0 else 1))
set_option maxHeartbeats 4000000 in
set_option maxRecDepth 100000 in
theorem c_X_wakes (l : Launch) (D : va_G) (tys : List (ClassId × FieldType)) (h0 b1 b2 : Nat) (u : cs_St)   : ck_Mi l D tys (wx h0 b1 b2) yn_X_wakes w_X_wakes rm_X_wakes 0 0 [.ref h0] u (f_X_wakes u) u := by
  refine ck_enti (cc := bc_X_wakes) (maxL := 1) (ret := (some .boolean)) (by decide) rfl (Nat.le_of_ble_eq_true rfl) ?_
  intro p e s m below meth c A ls C hnm hP hD hS hl
  have C : ck_C p s m meth c bc_X_wakes (some .boolean) 1 #[.ref h0] "ControlDesk" A D tys := C
  have hl : lv_has ls 1 [(0, .ref h0)] := hl
  have hx := C.1
  have hb := C.2.1
  have hown := C.2.2.2.2.1
  have hT := C.2.2.2.2.2.1
  have hK := C.2.2.2.2.2.2.2.1
  have hN := C.2.2.2.2.2.2.2.2.2.2.2.1
  -- from the entry
  refine lv_aload_n hx hb dc_X_wakes_0 rfl (lv_at hl 0 rfl) ?_
  refine ck_gpl (rest := []) C kt_X hP hD hS (ck_runV (q0 := 0) C kt_X hK (c_X_pending l D tys h0 b1 b2 u   _) (cw_X_116 hT ⟨Nat.le_of_ble_eq_true rfl, Nat.le_of_ble_eq_true rfl⟩) rfl rfl hP hD hS rfl hl.1 rfl (Nat.le_of_ble_eq_true rfl) dc_X_wakes_1 ⟨Nat.zero_le _, Nat.zero_le _⟩) (fun v2 H locs e2 hP hD hS => ?_)
  refine lv_aload_n hx hb dc_X_wakes_4 rfl (lv_at hl 0 rfl) ?_
  refine gx_enabled C hP dc_X_wakes_5 (fun v3 e3 => ?_)
  refine xr_land hx hb dc_X_wakes_8 (fun v4 e4 => ?_)
  refine lv_lconst (v := 0) hx hb dc_X_wakes_9 (by decide) ?_
  refine xr_lcmp hx hb dc_X_wakes_10 (fun v5 e5 => ?_)
  refine lv_if_eq (tgt := 18) hx hb dc_X_wakes_11 (by decide) (fun c6 => ?_) (fun c6 => ?_)
  · refine lv_iconst (v := 0) hx hb dc_X_wakes_18 (by decide) ?_
    exact ck_zret (v := 0) C hP hD hS rfl ⟨by subst e2 e3 e4 e5; exact ((if_pos c6)).symm, rfl⟩ dc_X_wakes_19
  · refine lv_iconst (v := 1) hx hb dc_X_wakes_14 (by decide) ?_
    refine lv_goto (tgt := 19) hx hb dc_X_wakes_15 (by decide) ?_
    exact ck_zret (v := 1) C hP hD hS rfl ⟨by subst e2 e3 e4 e5; exact ((if_neg c6)).symm, rfl⟩ dc_X_wakes_19
def f_X_line_61 (u : cs_St) (p1 : Int32) (p2 : Int32) (y1 : Int64) : cs_St := (let w1 : cs_St := (u.1, vp_updL u.2 6 y1); w1)
def f_X_line_33 (u : cs_St) (p1 : Int32) (p2 : Int32)  : cs_St := (let v2 : Int64 := (1 : Int64) <<< (p1.toInt64 &&& 63); (if p2 = 0 then (let v4 : Int64 := u.2 6; let v5 : Int64 := v2 ^^^ (-1 : Int64); let v6 : Int64 := v4 &&& v5; (f_X_line_61 u p1 p2 v6)) else (let v7 : Int64 := u.2 6; let v8 : Int64 := v7 ||| v2; (f_X_line_61 u p1 p2 v8))))
def f_X_line (u0 : cs_St) (p1 : Int32) (p2 : Int32) : cs_St := (if p1 = 3 then (f_X_line_33 u0 p1 p2 ) else (if p1 = 7 then (f_X_line_33 u0 p1 p2 ) else (if p1 = 9 then (f_X_line_33 u0 p1 p2 ) else (if p1 = 11 then (f_X_line_33 u0 p1 p2 ) else u0))))
set_option maxHeartbeats 4000000 in
set_option maxRecDepth 100000 in
theorem c_X_line (l : Launch) (D : va_G) (tys : List (ClassId × FieldType)) (h0 b1 b2 : Nat) (u0 : cs_St) (p1 : Int32) (p2 : Int32) (g1 : p1 = 3 ∨ p1 = 7 ∨ p1 = 9 ∨ p1 = 11) : ck_Mv l D tys (wx h0 b1 b2) yn_X_line w_X_line rm_X_line 0 0 [.ref h0, .int p1, .int p2] u0 (f_X_line u0 p1 p2) := by
  refine ck_entv (cc := bc_X_line) (maxL := 5) (ret := none) (by decide) rfl (Nat.le_of_ble_eq_true rfl) ?_
  intro p e s m below meth c A ls C hnm hP hD hS hl
  have C : ck_C p s m meth c bc_X_line none 5 #[.ref h0, .int p1, .int p2] "ControlDesk" A D tys := C
  have hl : lv_has ls 5 [(0, .ref h0), (1, .int p1), (2, .int p2)] := hl
  have hx := C.1
  have hb := C.2.1
  have hown := C.2.2.2.2.1
  have hT := C.2.2.2.2.2.1
  have hK := C.2.2.2.2.2.2.2.1
  have hN := C.2.2.2.2.2.2.2.2.2.2.2.1
  have k61 : ∀ (u : cs_St) (y1 : Int64) (H : Heap) (locs : List Loc) (ls : Array Slot), va_P D xw_Cl ((wx h0 b1 b2) u) H → va_D A ((wx h0 b1 b2) u) → va_S A s.heap H locs → lv_has ls 5 [] → f_X_line u0 p1 p2 = f_X_line_61 u p1 p2 y1 → W p l e rm_X_line s m #[.ref h0, .int p1, .int p2] below meth c H locs 0 0 (MQ below (va_Qv (fun u2 => u2 = (f_X_line u0 p1 p2)) (ck_B D (wx h0 b1 b2) A) A) #[.ref h0, .int p1, .int p2] s 0 0 A) (F0 m 61 ls [.long y1, .ref h0]) := by
    intro u y1 H locs ls hP hD hS hl hq 
    refine px_lines C hP hD hS dc_X_line_61 (fun w1 H locs ew1 hP hD hS => ?_)
    exact ck_vret C hP hD hS (by subst ew1; exact (hq.trans (rfl)).symm) dc_X_line_64
  have k33 : ∀ (u : cs_St) (H : Heap) (locs : List Loc) (ls : Array Slot), va_P D xw_Cl ((wx h0 b1 b2) u) H → va_D A ((wx h0 b1 b2) u) → va_S A s.heap H locs → lv_has ls 5 [(0, .ref h0), (1, .int p1), (2, .int p2)] → f_X_line u0 p1 p2 = f_X_line_33 u p1 p2  → W p l e rm_X_line s m #[.ref h0, .int p1, .int p2] below meth c H locs 0 0 (MQ below (va_Qv (fun u2 => u2 = (f_X_line u0 p1 p2)) (ck_B D (wx h0 b1 b2) A) A) #[.ref h0, .int p1, .int p2] s 0 0 A) (F0 m 33 ls []) := by
    intro u  H locs ls hP hD hS hl hq 
    refine lv_lconst (v := 1) hx hb dc_X_line_33 (by decide) ?_
    refine lv_iload_n hx hb dc_X_line_34 rfl (lv_at hl 1 rfl) ?_
    refine xr_lshl hx hb dc_X_line_35 (fun v2 e2 => ?_)
    refine lv_lstore_n (lv' := [(3, .long v2), (0, .ref h0), (1, .int p1), (2, .int p2)]) hx hb dc_X_line_36 rfl hl (by decide) rfl (fun ls hl => ?_)
    refine lv_aload_n hx hb dc_X_line_37 rfl (lv_at hl 1 rfl) ?_
    refine lv_iload_n hx hb dc_X_line_38 rfl (lv_at hl 3 rfl) ?_
    refine lv_if_eq (tgt := 51) hx hb dc_X_line_39 (by decide) (fun c3 => ?_) (fun c3 => ?_)
    · refine lv_aload_n hx hb dc_X_line_51 rfl (lv_at hl 1 rfl) ?_
      refine gx_lines C hP dc_X_line_52 (fun v4 e4 => ?_)
      refine lv_lload_n hx hb dc_X_line_55 rfl (lv_at hl 0 rfl) ?_
      refine lv_ldc2 (v := (-1)) hx hb hown (hT _ mw_8) dc_X_line_56 ?_
      refine xr_lxor hx hb dc_X_line_59 (fun v5 e5 => ?_)
      refine xr_land hx hb dc_X_line_60 (fun v6 e6 => ?_)
      exact k61 u v6 _ _ _ hP hD hS (lv_sub hl [] rfl) (by subst e2 e4 e5 e6; exact hq.trans ((if_pos c3)))
    · refine lv_aload_n hx hb dc_X_line_42 rfl (lv_at hl 1 rfl) ?_
      refine gx_lines C hP dc_X_line_43 (fun v7 e7 => ?_)
      refine lv_lload_n hx hb dc_X_line_46 rfl (lv_at hl 0 rfl) ?_
      refine xr_lor hx hb dc_X_line_47 (fun v8 e8 => ?_)
      refine lv_goto (tgt := 61) hx hb dc_X_line_48 (by decide) ?_
      exact k61 u v8 _ _ _ hP hD hS (lv_sub hl [] rfl) (by subst e2 e7 e8; exact hq.trans ((if_neg c3)))
  -- from the entry
  refine lv_iload_n hx hb dc_X_line_0 rfl (lv_at hl 1 rfl) ?_
  refine lv_iconst (v := 3) hx hb dc_X_line_1 (by decide) ?_
  refine lv_icmp_eq (tgt := 33) hx hb dc_X_line_2 (by decide) (fun c9 => ?_) (fun c9 => ?_)
  · exact k33 u0  _ _ _ hP hD hS (lv_sub hl [0, 1, 2] rfl) (by exact (if_pos c9))
  · refine lv_iload_n hx hb dc_X_line_5 rfl (lv_at hl 1 rfl) ?_
    refine lv_bipush (v := 7) hx hb dc_X_line_6 (by decide) ?_
    refine lv_icmp_eq (tgt := 33) hx hb dc_X_line_8 (by decide) (fun c10 => ?_) (fun c10 => ?_)
    · exact k33 u0  _ _ _ hP hD hS (lv_sub hl [0, 1, 2] rfl) (by exact (if_neg c9).trans ((if_pos c10)))
    · refine lv_iload_n hx hb dc_X_line_11 rfl (lv_at hl 1 rfl) ?_
      refine lv_bipush (v := 9) hx hb dc_X_line_12 (by decide) ?_
      refine lv_icmp_eq (tgt := 33) hx hb dc_X_line_14 (by decide) (fun c11 => ?_) (fun c11 => ?_)
      · exact k33 u0  _ _ _ hP hD hS (lv_sub hl [0, 1, 2] rfl) (by exact (if_neg c9).trans ((if_neg c10).trans ((if_pos c11))))
      · refine lv_iload_n hx hb dc_X_line_17 rfl (lv_at hl 1 rfl) ?_
        refine lv_bipush (v := 11) hx hb dc_X_line_18 (by decide) ?_
        refine lv_icmp_eq (tgt := 33) hx hb dc_X_line_20 (by decide) (fun c12 => ?_) (fun c12 => ?_)
        · exact k33 u0  _ _ _ hP hD hS (lv_sub hl [0, 1, 2] rfl) (by exact (if_neg c9).trans ((if_neg c10).trans ((if_neg c11).trans ((if_pos c12)))))
        · rcases g1 with h | h | h | h <;> contradiction
