def f_X_peek (u : cs_St) (p1 : Int32) : Int64 := (let v2 : Int64 := f_X_shown u p1; v2)
set_option maxHeartbeats 4000000 in
set_option maxRecDepth 100000 in
theorem c_X_peek (l : Launch) (D : va_G) (tys : List (ClassId × FieldType)) (h0 b1 b2 : Nat) (u : cs_St) (p1 : Int32)  : ck_Ml l D tys (wx h0 b1 b2) yn_X_peek w_X_peek rm_X_peek 0 0 [.ref h0, .int p1] u (f_X_peek u p1) u := by
  refine ck_entl (cc := bc_X_peek) (maxL := 2) (ret := (some .long)) (by decide) rfl (Nat.le_of_ble_eq_true rfl) ?_
  intro p e s m below meth c A ls C hnm hP hD hS hl
  have C : ck_C p s m meth c bc_X_peek (some .long) 2 #[.ref h0, .int p1] "ControlDesk" A D tys := C
  have hl : lv_has ls 2 [(0, .ref h0), (1, .int p1)] := hl
  have hx := C.1
  have hb := C.2.1
  have hown := C.2.2.2.2.1
  have hT := C.2.2.2.2.2.1
  have hK := C.2.2.2.2.2.2.2.1
  have hN := C.2.2.2.2.2.2.2.2.2.2.2.1
  -- from the entry
  refine lv_aload_n hx hb dc_X_peek_0 rfl (lv_at hl 0 rfl) ?_
  refine lv_iload_n hx hb dc_X_peek_1 rfl (lv_at hl 1 rfl) ?_
  refine ck_gpl (rest := []) C kt_X hP hD hS (ck_runV (q0 := 0) C kt_X hK (c_X_shown l D tys h0 b1 b2 u p1  _) (cw_X_62 hT ⟨Nat.le_of_ble_eq_true rfl, Nat.le_of_ble_eq_true rfl⟩) rfl rfl hP hD hS rfl hl.1 rfl (Nat.le_of_ble_eq_true rfl) dc_X_peek_2 ⟨Nat.zero_le _, Nat.zero_le _⟩) (fun v2 H locs e2 hP hD hS => ?_)
  exact ck_lret (v := v2) C hP hD hS ⟨by subst e2; exact (rfl).symm, rfl⟩ dc_X_peek_5
def f_X_goesToSupervisor_15 (u : cs_St) (p1 : Int32) (p2 : Int32) (y0 : Int64) : Int32 := (let v1 : Int32 := u.1; (if v1 = 3 then 0 else (let v3 : Int64 := (y0.toUInt64 >>> (p2.toInt64.toUInt64 &&& Int64.toUInt64 63)).toInt64; let v4 : Int64 := v3 &&& (1 : Int64); let v5 : Int32 := lg_cmp v4 (0 : Int64); (if v5 = 0 then 0 else 1))))
def f_X_goesToSupervisor (u : cs_St) (p1 : Int32) (p2 : Int32) : Int32 := (if p1 = 0 then (let v8 : Int64 := u.2 2; (f_X_goesToSupervisor_15 u p1 p2 v8)) else (let v9 : Int64 := u.2 3; (f_X_goesToSupervisor_15 u p1 p2 v9)))
set_option maxHeartbeats 4000000 in
set_option maxRecDepth 100000 in
theorem c_X_goesToSupervisor (l : Launch) (D : va_G) (tys : List (ClassId × FieldType)) (h0 b1 b2 : Nat) (u : cs_St) (p1 : Int32) (p2 : Int32)  : ck_Mi l D tys (wx h0 b1 b2) yn_X_goesToSupervisor w_X_goesToSupervisor rm_X_goesToSupervisor 0 0 [.ref h0, .int p1, .int p2] u (f_X_goesToSupervisor u p1 p2) u := by
  refine ck_enti (cc := bc_X_goesToSupervisor) (maxL := 5) (ret := (some .boolean)) (by decide) rfl (Nat.le_of_ble_eq_true rfl) ?_
  intro p e s m below meth c A ls C hnm hP hD hS hl
  have C : ck_C p s m meth c bc_X_goesToSupervisor (some .boolean) 5 #[.ref h0, .int p1, .int p2] "ControlDesk" A D tys := C
  have hl : lv_has ls 5 [(0, .ref h0), (1, .int p1), (2, .int p2)] := hl
  have hx := C.1
  have hb := C.2.1
  have hown := C.2.2.2.2.1
  have hT := C.2.2.2.2.2.1
  have hK := C.2.2.2.2.2.2.2.1
  have hN := C.2.2.2.2.2.2.2.2.2.2.2.1
  have k15 : ∀ (y0 : Int64) (H : Heap) (locs : List Loc) (ls : Array Slot), va_P D xw_Cl ((wx h0 b1 b2) u) H → va_D A ((wx h0 b1 b2) u) → va_S A s.heap H locs → lv_has ls 5 [(0, .ref h0), (2, .int p2)] → f_X_goesToSupervisor u p1 p2 = f_X_goesToSupervisor_15 u p1 p2 y0 → W p l e rm_X_goesToSupervisor s m #[.ref h0, .int p1, .int p2] below meth c H locs 0 0 (MQ below (va_Qi (fun r2 u2 => r2 = (f_X_goesToSupervisor u p1 p2) ∧ u2 = u) (ck_B D (wx h0 b1 b2) A) A) #[.ref h0, .int p1, .int p2] s 0 0 A) (F0 m 15 ls [.long y0]) := by
    intro y0 H locs ls hP hD hS hl hq 
    refine lv_lstore_n (lv' := [(3, .long y0), (0, .ref h0), (2, .int p2)]) hx hb dc_X_goesToSupervisor_15 rfl hl (by decide) rfl (fun ls hl => ?_)
    refine lv_aload_n hx hb dc_X_goesToSupervisor_16 rfl (lv_at hl 1 rfl) ?_
    refine gx_currentMode C hP dc_X_goesToSupervisor_17 (fun v1 e1 => ?_)
    refine lv_iconst (v := 3) hx hb dc_X_goesToSupervisor_20 (by decide) ?_
    refine lv_icmp_eq (tgt := 38) hx hb dc_X_goesToSupervisor_21 (by decide) (fun c2 => ?_) (fun c2 => ?_)
    · refine lv_iconst (v := 0) hx hb dc_X_goesToSupervisor_38 (by decide) ?_
      exact ck_zret (v := 0) C hP hD hS rfl ⟨by subst e1; exact (hq.trans ((if_pos c2))).symm, rfl⟩ dc_X_goesToSupervisor_39
    · refine lv_lload_n hx hb dc_X_goesToSupervisor_24 rfl (lv_at hl 0 rfl) ?_
      refine lv_iload_n hx hb dc_X_goesToSupervisor_25 rfl (lv_at hl 2 rfl) ?_
      refine xr_lushr hx hb dc_X_goesToSupervisor_26 (fun v3 e3 => ?_)
      refine lv_lconst (v := 1) hx hb dc_X_goesToSupervisor_27 (by decide) ?_
      refine xr_land hx hb dc_X_goesToSupervisor_28 (fun v4 e4 => ?_)
      refine lv_lconst (v := 0) hx hb dc_X_goesToSupervisor_29 (by decide) ?_
      refine xr_lcmp hx hb dc_X_goesToSupervisor_30 (fun v5 e5 => ?_)
      refine lv_if_eq (tgt := 38) hx hb dc_X_goesToSupervisor_31 (by decide) (fun c6 => ?_) (fun c6 => ?_)
      · refine lv_iconst (v := 0) hx hb dc_X_goesToSupervisor_38 (by decide) ?_
        exact ck_zret (v := 0) C hP hD hS rfl ⟨by subst e1 e3 e4 e5; exact (hq.trans ((if_neg c2).trans ((if_pos c6)))).symm, rfl⟩ dc_X_goesToSupervisor_39
      · refine lv_iconst (v := 1) hx hb dc_X_goesToSupervisor_34 (by decide) ?_
        refine lv_goto (tgt := 39) hx hb dc_X_goesToSupervisor_35 (by decide) ?_
        exact ck_zret (v := 1) C hP hD hS rfl ⟨by subst e1 e3 e4 e5; exact (hq.trans ((if_neg c2).trans ((if_neg c6)))).symm, rfl⟩ dc_X_goesToSupervisor_39
  -- from the entry
  refine lv_iload_n hx hb dc_X_goesToSupervisor_0 rfl (lv_at hl 1 rfl) ?_
  refine lv_if_eq (tgt := 11) hx hb dc_X_goesToSupervisor_1 (by decide) (fun c7 => ?_) (fun c7 => ?_)
  · refine lv_aload_n hx hb dc_X_goesToSupervisor_11 rfl (lv_at hl 0 rfl) ?_
    refine gx_delegatedExceptions C hP dc_X_goesToSupervisor_12 (fun v8 e8 => ?_)
    exact k15 v8 _ _ _ hP hD hS (lv_sub hl [0, 2] rfl) (by subst e8; exact (if_pos c7))
  · refine lv_aload_n hx hb dc_X_goesToSupervisor_4 rfl (lv_at hl 0 rfl) ?_
    refine gx_delegatedInterrupts C hP dc_X_goesToSupervisor_5 (fun v9 e9 => ?_)
    refine lv_goto (tgt := 15) hx hb dc_X_goesToSupervisor_8 (by decide) ?_
    exact k15 v9 _ _ _ hP hD hS (lv_sub hl [0, 2] rfl) (by subst e9; exact (if_neg c7))
def f_X_enterSupervisor_42 (u : cs_St)  (x1 : Int64) (x3 : Int64) (y0 : Int64) : cs_St := (let v1 : Int64 := x1 ||| x3; let v2 : Int64 := v1 ||| y0; let w3 : cs_St := (u.1, vp_updL u.2 1 v2); let w4 : cs_St := (1, w3.2); w4)
def f_X_enterSupervisor_24 (u : cs_St)  (x1 : Int64) (y0 : Int64) : cs_St := (let v6 : Int32 := f_X_has u 2; (if v6 = 0 then (f_X_enterSupervisor_42 u  x1 y0 0) else (f_X_enterSupervisor_42 u  x1 y0 32)))
def f_X_enterSupervisor (u0 : cs_St)  : cs_St := (let v8 : Int64 := u0.2 1; let v9 : Int64 := v8 &&& (-291 : Int64); let v10 : Int32 := u0.1; (if v10 = 1 then (f_X_enterSupervisor_24 u0  v9 256) else (f_X_enterSupervisor_24 u0  v9 0)))
set_option maxHeartbeats 4000000 in
set_option maxRecDepth 100000 in
theorem c_X_enterSupervisor (l : Launch) (D : va_G) (tys : List (ClassId × FieldType)) (h0 b1 b2 : Nat) (u0 : cs_St)   : ck_Mv l D tys (wx h0 b1 b2) yn_X_enterSupervisor w_X_enterSupervisor rm_X_enterSupervisor 0 0 [.ref h0] u0 (f_X_enterSupervisor u0) := by
  refine ck_entv (cc := bc_X_enterSupervisor) (maxL := 7) (ret := none) (by decide) rfl (Nat.le_of_ble_eq_true rfl) ?_
  intro p e s m below meth c A ls C hnm hP hD hS hl
  have C : ck_C p s m meth c bc_X_enterSupervisor none 7 #[.ref h0] "ControlDesk" A D tys := C
  have hl : lv_has ls 7 [(0, .ref h0)] := hl
  have hx := C.1
  have hb := C.2.1
  have hown := C.2.2.2.2.1
  have hT := C.2.2.2.2.2.1
  have hK := C.2.2.2.2.2.2.2.1
  have hN := C.2.2.2.2.2.2.2.2.2.2.2.1
  have k42 : ∀ (u : cs_St) (x1 : Int64) (x3 : Int64) (y0 : Int64) (H : Heap) (locs : List Loc) (ls : Array Slot), va_P D xw_Cl ((wx h0 b1 b2) u) H → va_D A ((wx h0 b1 b2) u) → va_S A s.heap H locs → lv_has ls 7 [(0, .ref h0), (1, .long x1), (3, .long x3)] → f_X_enterSupervisor u0 = f_X_enterSupervisor_42 u  x1 x3 y0 → W p l e rm_X_enterSupervisor s m #[.ref h0] below meth c H locs 0 0 (MQ below (va_Qv (fun u2 => u2 = (f_X_enterSupervisor u0)) (ck_B D (wx h0 b1 b2) A) A) #[.ref h0] s 0 0 A) (F0 m 42 ls [.long y0]) := by
    intro u x1 x3 y0 H locs ls hP hD hS hl hq 
    refine lv_lstore (lv' := [(5, .long y0), (0, .ref h0), (1, .long x1), (3, .long x3)]) hx hb dc_X_enterSupervisor_42 hl (by decide) rfl (fun ls hl => ?_)
    refine lv_aload_n hx hb dc_X_enterSupervisor_44 rfl (lv_at hl 1 rfl) ?_
    refine lv_lload_n hx hb dc_X_enterSupervisor_45 rfl (lv_at hl 2 rfl) ?_
    refine lv_lload_n hx hb dc_X_enterSupervisor_46 rfl (lv_at hl 3 rfl) ?_
    refine xr_lor hx hb dc_X_enterSupervisor_47 (fun v1 e1 => ?_)
    refine lv_lload hx hb dc_X_enterSupervisor_48 (lv_at hl 0 rfl) ?_
    refine xr_lor hx hb dc_X_enterSupervisor_50 (fun v2 e2 => ?_)
    refine px_status C hP hD hS dc_X_enterSupervisor_51 (fun w3 H locs ew3 hP hD hS => ?_)
    refine lv_aload_n hx hb dc_X_enterSupervisor_54 rfl (lv_at hl 1 rfl) ?_
    refine lv_iconst (v := 1) hx hb dc_X_enterSupervisor_55 (by decide) ?_
    refine px_currentMode C hP hD hS dc_X_enterSupervisor_56 (fun w4 H locs ew4 hP hD hS => ?_)
    exact ck_vret C hP hD hS (by subst e1 e2 ew3 ew4; exact (hq.trans (rfl)).symm) dc_X_enterSupervisor_59
  have k24 : ∀ (u : cs_St) (x1 : Int64) (y0 : Int64) (H : Heap) (locs : List Loc) (ls : Array Slot), va_P D xw_Cl ((wx h0 b1 b2) u) H → va_D A ((wx h0 b1 b2) u) → va_S A s.heap H locs → lv_has ls 7 [(0, .ref h0), (1, .long x1)] → f_X_enterSupervisor u0 = f_X_enterSupervisor_24 u  x1 y0 → W p l e rm_X_enterSupervisor s m #[.ref h0] below meth c H locs 0 0 (MQ below (va_Qv (fun u2 => u2 = (f_X_enterSupervisor u0)) (ck_B D (wx h0 b1 b2) A) A) #[.ref h0] s 0 0 A) (F0 m 24 ls [.long y0]) := by
    intro u x1 y0 H locs ls hP hD hS hl hq 
    refine lv_lstore_n (lv' := [(3, .long y0), (0, .ref h0), (1, .long x1)]) hx hb dc_X_enterSupervisor_24 rfl hl (by decide) rfl (fun ls hl => ?_)
    refine lv_aload_n hx hb dc_X_enterSupervisor_25 rfl (lv_at hl 1 rfl) ?_
    refine lv_ldc2 (v := 2) hx hb hown (hT _ mw_11) dc_X_enterSupervisor_26 ?_
    refine ck_gpi (rest := []) C kt_X hP hD hS (ck_runV (q0 := 0) C kt_X hK (c_X_has l D tys h0 b1 b2 u 2  _) (cw_X_29 hT ⟨Nat.le_of_ble_eq_true rfl, Nat.le_of_ble_eq_true rfl⟩) rfl rfl hP hD hS rfl hl.1 rfl (Nat.le_of_ble_eq_true rfl) dc_X_enterSupervisor_29 ⟨Nat.zero_le _, Nat.zero_le _⟩) (fun v6 H locs e6 hP hD hS => ?_)
    refine lv_if_eq (tgt := 41) hx hb dc_X_enterSupervisor_32 (by decide) (fun c7 => ?_) (fun c7 => ?_)
    · refine lv_lconst (v := 0) hx hb dc_X_enterSupervisor_41 (by decide) ?_
      exact k42 u x1 y0 0 _ _ _ hP hD hS (lv_sub hl [1, 2, 0] rfl) (by subst e6; exact hq.trans ((if_pos c7)))
    · refine lv_ldc2 (v := 32) hx hb hown (hT _ mw_22) dc_X_enterSupervisor_35 ?_
      refine lv_goto (tgt := 42) hx hb dc_X_enterSupervisor_38 (by decide) ?_
      exact k42 u x1 y0 32 _ _ _ hP hD hS (lv_sub hl [1, 2, 0] rfl) (by subst e6; exact hq.trans ((if_neg c7)))
  -- from the entry
  refine lv_aload_n hx hb dc_X_enterSupervisor_0 rfl (lv_at hl 0 rfl) ?_
  refine gx_status C hP dc_X_enterSupervisor_1 (fun v8 e8 => ?_)
  refine lv_ldc2 (v := (-291)) hx hb hown (hT _ mw_23) dc_X_enterSupervisor_4 ?_
  refine xr_land hx hb dc_X_enterSupervisor_7 (fun v9 e9 => ?_)
  refine lv_lstore_n (lv' := [(1, .long v9), (0, .ref h0)]) hx hb dc_X_enterSupervisor_8 rfl hl (by decide) rfl (fun ls hl => ?_)
  refine lv_aload_n hx hb dc_X_enterSupervisor_9 rfl (lv_at hl 1 rfl) ?_
  refine gx_currentMode C hP dc_X_enterSupervisor_10 (fun v10 e10 => ?_)
  refine lv_iconst (v := 1) hx hb dc_X_enterSupervisor_13 (by decide) ?_
  refine lv_icmp_ne (tgt := 23) hx hb dc_X_enterSupervisor_14 (by decide) (fun c11 => ?_) (fun c11 => ?_)
  · refine lv_lconst (v := 0) hx hb dc_X_enterSupervisor_23 (by decide) ?_
    exact k24 u0 v9 0 _ _ _ hP hD hS (lv_sub hl [1, 0] rfl) (by subst e8 e9 e10; exact (if_neg c11))
  · refine lv_ldc2 (v := 256) hx hb hown (hT _ mw_24) dc_X_enterSupervisor_17 ?_
    refine lv_goto (tgt := 24) hx hb dc_X_enterSupervisor_20 (by decide) ?_
    exact k24 u0 v9 256 _ _ _ hP hD hS (lv_sub hl [1, 0] rfl) (by subst e8 e9 e10; exact (if_pos c11))
def f_X_enterMachine_35 (u : cs_St)  (x1 : Int64) (x3 : Int64) (y0 : Int64) : cs_St := (let v1 : Int64 := x1 ||| x3; let v2 : Int64 := v1 ||| y0; let w3 : cs_St := (u.1, vp_updL u.2 1 v2); let w4 : cs_St := (3, w3.2); w4)
def f_X_enterMachine (u0 : cs_St)  : cs_St := (let v5 : Int64 := u0.2 1; let v6 : Int64 := v5 &&& (-6281 : Int64); let v7 : Int32 := u0.1; let v8 : Int64 := v7.toInt64; let v9 : Int64 := v8 <<< ((11 : Int32).toInt64 &&& 63); let v11 : Int32 := f_X_has u0 8; (if v11 = 0 then (f_X_enterMachine_35 u0  v6 v9 0) else (f_X_enterMachine_35 u0  v6 v9 128)))
set_option maxHeartbeats 4000000 in
set_option maxRecDepth 100000 in
theorem c_X_enterMachine (l : Launch) (D : va_G) (tys : List (ClassId × FieldType)) (h0 b1 b2 : Nat) (u0 : cs_St)   : ck_Mv l D tys (wx h0 b1 b2) yn_X_enterMachine w_X_enterMachine rm_X_enterMachine 0 0 [.ref h0] u0 (f_X_enterMachine u0) := by
  refine ck_entv (cc := bc_X_enterMachine) (maxL := 7) (ret := none) (by decide) rfl (Nat.le_of_ble_eq_true rfl) ?_
  intro p e s m below meth c A ls C hnm hP hD hS hl
  have C : ck_C p s m meth c bc_X_enterMachine none 7 #[.ref h0] "ControlDesk" A D tys := C
  have hl : lv_has ls 7 [(0, .ref h0)] := hl
  have hx := C.1
  have hb := C.2.1
  have hown := C.2.2.2.2.1
  have hT := C.2.2.2.2.2.1
  have hK := C.2.2.2.2.2.2.2.1
  have hN := C.2.2.2.2.2.2.2.2.2.2.2.1
  have k35 : ∀ (u : cs_St) (x1 : Int64) (x3 : Int64) (y0 : Int64) (H : Heap) (locs : List Loc) (ls : Array Slot), va_P D xw_Cl ((wx h0 b1 b2) u) H → va_D A ((wx h0 b1 b2) u) → va_S A s.heap H locs → lv_has ls 7 [(0, .ref h0), (1, .long x1), (3, .long x3)] → f_X_enterMachine u0 = f_X_enterMachine_35 u  x1 x3 y0 → W p l e rm_X_enterMachine s m #[.ref h0] below meth c H locs 0 0 (MQ below (va_Qv (fun u2 => u2 = (f_X_enterMachine u0)) (ck_B D (wx h0 b1 b2) A) A) #[.ref h0] s 0 0 A) (F0 m 35 ls [.long y0]) := by
    intro u x1 x3 y0 H locs ls hP hD hS hl hq 
    refine lv_lstore (lv' := [(5, .long y0), (0, .ref h0), (1, .long x1), (3, .long x3)]) hx hb dc_X_enterMachine_35 hl (by decide) rfl (fun ls hl => ?_)
    refine lv_aload_n hx hb dc_X_enterMachine_37 rfl (lv_at hl 1 rfl) ?_
    refine lv_lload_n hx hb dc_X_enterMachine_38 rfl (lv_at hl 2 rfl) ?_
    refine lv_lload_n hx hb dc_X_enterMachine_39 rfl (lv_at hl 3 rfl) ?_
    refine xr_lor hx hb dc_X_enterMachine_40 (fun v1 e1 => ?_)
    refine lv_lload hx hb dc_X_enterMachine_41 (lv_at hl 0 rfl) ?_
    refine xr_lor hx hb dc_X_enterMachine_43 (fun v2 e2 => ?_)
    refine px_status C hP hD hS dc_X_enterMachine_44 (fun w3 H locs ew3 hP hD hS => ?_)
    refine lv_aload_n hx hb dc_X_enterMachine_47 rfl (lv_at hl 1 rfl) ?_
    refine lv_iconst (v := 3) hx hb dc_X_enterMachine_48 (by decide) ?_
    refine px_currentMode C hP hD hS dc_X_enterMachine_49 (fun w4 H locs ew4 hP hD hS => ?_)
    exact ck_vret C hP hD hS (by subst e1 e2 ew3 ew4; exact (hq.trans (rfl)).symm) dc_X_enterMachine_52
  -- from the entry
  refine lv_aload_n hx hb dc_X_enterMachine_0 rfl (lv_at hl 0 rfl) ?_
  refine gx_status C hP dc_X_enterMachine_1 (fun v5 e5 => ?_)
  refine lv_ldc2 (v := (-6281)) hx hb hown (hT _ mw_25) dc_X_enterMachine_4 ?_
  refine xr_land hx hb dc_X_enterMachine_7 (fun v6 e6 => ?_)
  refine lv_lstore_n (lv' := [(1, .long v6), (0, .ref h0)]) hx hb dc_X_enterMachine_8 rfl hl (by decide) rfl (fun ls hl => ?_)
  refine lv_aload_n hx hb dc_X_enterMachine_9 rfl (lv_at hl 1 rfl) ?_
  refine gx_currentMode C hP dc_X_enterMachine_10 (fun v7 e7 => ?_)
  refine xr_i2l hx hb dc_X_enterMachine_13 (fun v8 e8 => ?_)
  refine lv_bipush (v := 11) hx hb dc_X_enterMachine_14 (by decide) ?_
  refine xr_lshl hx hb dc_X_enterMachine_16 (fun v9 e9 => ?_)
  refine lv_lstore_n (lv' := [(3, .long v9), (1, .long v6), (0, .ref h0)]) hx hb dc_X_enterMachine_17 rfl hl (by decide) rfl (fun ls hl => ?_)
  refine lv_aload_n hx hb dc_X_enterMachine_18 rfl (lv_at hl 2 rfl) ?_
  refine lv_ldc2 (v := 8) hx hb hown (hT _ mw_14) dc_X_enterMachine_19 ?_
  refine ck_gpi (rest := []) C kt_X hP hD hS (ck_runV (q0 := 0) C kt_X hK (c_X_has l D tys h0 b1 b2 u0 8  _) (cw_X_29 hT ⟨Nat.le_of_ble_eq_true rfl, Nat.le_of_ble_eq_true rfl⟩) rfl rfl hP hD hS rfl hl.1 rfl (Nat.le_of_ble_eq_true rfl) dc_X_enterMachine_22 ⟨Nat.zero_le _, Nat.zero_le _⟩) (fun v11 H locs e11 hP hD hS => ?_)
  refine lv_if_eq (tgt := 34) hx hb dc_X_enterMachine_25 (by decide) (fun c12 => ?_) (fun c12 => ?_)
  · refine lv_lconst (v := 0) hx hb dc_X_enterMachine_34 (by decide) ?_
    exact k35 u0 v6 v9 0 _ _ _ hP hD hS (lv_sub hl [2, 1, 0] rfl) (by subst e5 e6 e7 e8 e9 e11; exact (if_pos c12))
  · refine lv_ldc2 (v := 128) hx hb hown (hT _ mw_26) dc_X_enterMachine_28 ?_
    refine lv_goto (tgt := 35) hx hb dc_X_enterMachine_31 (by decide) ?_
    exact k35 u0 v6 v9 128 _ _ _ hP hD hS (lv_sub hl [2, 1, 0] rfl) (by subst e5 e6 e7 e8 e9 e11; exact (if_neg c12))
def f_B1_remember_22 (u : cs_St) (p1 : Int32) (p2 : Int32) (p3 : Int64) (p4 : Int64) (y1 : Int64) : cs_St := (let w1 : cs_St := (u.1, vp_updL u.2 17 y1); let w2 : cs_St := (w1.1, vp_updL w1.2 18 p3); w2)
def f_B1_remember (u0 : cs_St) (p1 : Int32) (p2 : Int32) (p3 : Int64) (p4 : Int64) : cs_St := (let w3 : cs_St := f_B1_keepResume u0 p4; (if p1 = 0 then (let v5 : Int64 := p2.toInt64; (f_B1_remember_22 w3 p1 p2 p3 p4 v5)) else (let v6 : Int64 := p2.toInt64; let v7 : Int64 := v6 ||| (-9223372036854775808 : Int64); (f_B1_remember_22 w3 p1 p2 p3 p4 v7))))
set_option maxHeartbeats 4000000 in
set_option maxRecDepth 100000 in
theorem c_B1_remember (l : Launch) (D : va_G) (tys : List (ClassId × FieldType)) (h0 b1 b2 : Nat) (u0 : cs_St) (p1 : Int32) (p2 : Int32) (p3 : Int64) (p4 : Int64)  : ck_Mv l D tys (wx h0 b1 b2) yn_B_remember w_B1_remember rm_B1_remember 0 0 [.ref b1, .int p1, .int p2, .long p3, .long p4] u0 (f_B1_remember u0 p1 p2 p3 p4) := by
  refine ck_entv (cc := bc_B_remember) (maxL := 7) (ret := none) (by decide) rfl (Nat.le_of_ble_eq_true rfl) ?_
  intro p e s m below meth c A ls C hnm hP hD hS hl
  have C : ck_C p s m meth c bc_B_remember none 7 #[.ref b1, .int p1, .int p2, .long p3, .long p4] "ControlDesk$Bank" A D tys := C
  have hl : lv_has ls 7 [(0, .ref b1), (1, .int p1), (2, .int p2), (3, .long p3), (5, .long p4)] := hl
  have hx := C.1
  have hb := C.2.1
  have hown := C.2.2.2.2.1
  have hT := C.2.2.2.2.2.1
  have hK := C.2.2.2.2.2.2.2.1
  have hN := C.2.2.2.2.2.2.2.2.2.2.2.1
  have k22 : ∀ (u : cs_St) (y1 : Int64) (H : Heap) (locs : List Loc) (ls : Array Slot), va_P D xw_Cl ((wx h0 b1 b2) u) H → va_D A ((wx h0 b1 b2) u) → va_S A s.heap H locs → lv_has ls 7 [(0, .ref b1), (3, .long p3)] → f_B1_remember u0 p1 p2 p3 p4 = f_B1_remember_22 u p1 p2 p3 p4 y1 → W p l e rm_B1_remember s m #[.ref b1, .int p1, .int p2, .long p3, .long p4] below meth c H locs 0 0 (MQ below (va_Qv (fun u2 => u2 = (f_B1_remember u0 p1 p2 p3 p4)) (ck_B D (wx h0 b1 b2) A) A) #[.ref b1, .int p1, .int p2, .long p3, .long p4] s 0 0 A) (F0 m 22 ls [.long y1, .ref b1]) := by
    intro u y1 H locs ls hP hD hS hl hq 
    refine pb1_cause C hP hD hS dc_B_remember_22 (fun w1 H locs ew1 hP hD hS => ?_)
    refine lv_aload_n hx hb dc_B_remember_25 rfl (lv_at hl 0 rfl) ?_
    refine lv_lload_n hx hb dc_B_remember_26 rfl (lv_at hl 1 rfl) ?_
    refine pb1_value C hP hD hS dc_B_remember_27 (fun w2 H locs ew2 hP hD hS => ?_)
    exact ck_vret C hP hD hS (by subst ew1 ew2; exact (hq.trans (rfl)).symm) dc_B_remember_30
  -- from the entry
  refine lv_aload_n hx hb dc_B_remember_0 rfl (lv_at hl 0 rfl) ?_
  refine lv_lload hx hb dc_B_remember_1 (lv_at hl 4 rfl) ?_
  refine ck_gov (rest := []) C kt_X hP hD hS (ck_runV (q0 := 1) C kt_X hK (c_B1_keepResume l D tys h0 b1 b2 u0 p4  _) (cw_B_22 hT ⟨Nat.le_of_ble_eq_true rfl, Nat.le_of_ble_eq_true rfl⟩) rfl rfl hP hD hS rfl hl.1 rfl (Nat.le_of_ble_eq_true rfl) dc_B_remember_3 ⟨Nat.zero_le _, Nat.zero_le _⟩) (fun w3 H locs ew3 hP hD hS => ?_)
  refine lv_aload_n hx hb dc_B_remember_6 rfl (lv_at hl 0 rfl) ?_
  refine lv_iload_n hx hb dc_B_remember_7 rfl (lv_at hl 1 rfl) ?_
  refine lv_if_eq (tgt := 20) hx hb dc_B_remember_8 (by decide) (fun c4 => ?_) (fun c4 => ?_)
  · refine lv_iload_n hx hb dc_B_remember_20 rfl (lv_at hl 2 rfl) ?_
    refine xr_i2l hx hb dc_B_remember_21 (fun v5 e5 => ?_)
    exact k22 w3 v5 _ _ _ hP hD hS (lv_sub hl [0, 3] rfl) (by subst ew3 e5; exact (if_pos c4))
  · refine lv_iload_n hx hb dc_B_remember_11 rfl (lv_at hl 2 rfl) ?_
    refine xr_i2l hx hb dc_B_remember_12 (fun v6 e6 => ?_)
    refine lv_ldc2 (v := (-9223372036854775808)) hx hb hown (hT _ mw_27) dc_B_remember_13 ?_
    refine xr_lor hx hb dc_B_remember_16 (fun v7 e7 => ?_)
    refine lv_goto (tgt := 22) hx hb dc_B_remember_17 (by decide) ?_
    exact k22 w3 v7 _ _ _ hP hD hS (lv_sub hl [0, 3] rfl) (by subst ew3 e6 e7; exact (if_neg c4))
def f_B2_remember_22 (u : cs_St) (p1 : Int32) (p2 : Int32) (p3 : Int64) (p4 : Int64) (y1 : Int64) : cs_St := (let w1 : cs_St := (u.1, vp_updL u.2 23 y1); let w2 : cs_St := (w1.1, vp_updL w1.2 24 p3); w2)
def f_B2_remember (u0 : cs_St) (p1 : Int32) (p2 : Int32) (p3 : Int64) (p4 : Int64) : cs_St := (let w3 : cs_St := f_B2_keepResume u0 p4; (if p1 = 0 then (let v5 : Int64 := p2.toInt64; (f_B2_remember_22 w3 p1 p2 p3 p4 v5)) else (let v6 : Int64 := p2.toInt64; let v7 : Int64 := v6 ||| (-9223372036854775808 : Int64); (f_B2_remember_22 w3 p1 p2 p3 p4 v7))))
set_option maxHeartbeats 4000000 in
set_option maxRecDepth 100000 in
theorem c_B2_remember (l : Launch) (D : va_G) (tys : List (ClassId × FieldType)) (h0 b1 b2 : Nat) (u0 : cs_St) (p1 : Int32) (p2 : Int32) (p3 : Int64) (p4 : Int64)  : ck_Mv l D tys (wx h0 b1 b2) yn_B_remember w_B2_remember rm_B2_remember 0 0 [.ref b2, .int p1, .int p2, .long p3, .long p4] u0 (f_B2_remember u0 p1 p2 p3 p4) := by
  refine ck_entv (cc := bc_B_remember) (maxL := 7) (ret := none) (by decide) rfl (Nat.le_of_ble_eq_true rfl) ?_
  intro p e s m below meth c A ls C hnm hP hD hS hl
  have C : ck_C p s m meth c bc_B_remember none 7 #[.ref b2, .int p1, .int p2, .long p3, .long p4] "ControlDesk$Bank" A D tys := C
  have hl : lv_has ls 7 [(0, .ref b2), (1, .int p1), (2, .int p2), (3, .long p3), (5, .long p4)] := hl
  have hx := C.1
  have hb := C.2.1
  have hown := C.2.2.2.2.1
  have hT := C.2.2.2.2.2.1
  have hK := C.2.2.2.2.2.2.2.1
  have hN := C.2.2.2.2.2.2.2.2.2.2.2.1
  have k22 : ∀ (u : cs_St) (y1 : Int64) (H : Heap) (locs : List Loc) (ls : Array Slot), va_P D xw_Cl ((wx h0 b1 b2) u) H → va_D A ((wx h0 b1 b2) u) → va_S A s.heap H locs → lv_has ls 7 [(0, .ref b2), (3, .long p3)] → f_B2_remember u0 p1 p2 p3 p4 = f_B2_remember_22 u p1 p2 p3 p4 y1 → W p l e rm_B2_remember s m #[.ref b2, .int p1, .int p2, .long p3, .long p4] below meth c H locs 0 0 (MQ below (va_Qv (fun u2 => u2 = (f_B2_remember u0 p1 p2 p3 p4)) (ck_B D (wx h0 b1 b2) A) A) #[.ref b2, .int p1, .int p2, .long p3, .long p4] s 0 0 A) (F0 m 22 ls [.long y1, .ref b2]) := by
    intro u y1 H locs ls hP hD hS hl hq 
    refine pb2_cause C hP hD hS dc_B_remember_22 (fun w1 H locs ew1 hP hD hS => ?_)
    refine lv_aload_n hx hb dc_B_remember_25 rfl (lv_at hl 0 rfl) ?_
    refine lv_lload_n hx hb dc_B_remember_26 rfl (lv_at hl 1 rfl) ?_
    refine pb2_value C hP hD hS dc_B_remember_27 (fun w2 H locs ew2 hP hD hS => ?_)
    exact ck_vret C hP hD hS (by subst ew1 ew2; exact (hq.trans (rfl)).symm) dc_B_remember_30
  -- from the entry
  refine lv_aload_n hx hb dc_B_remember_0 rfl (lv_at hl 0 rfl) ?_
  refine lv_lload hx hb dc_B_remember_1 (lv_at hl 4 rfl) ?_
  refine ck_gov (rest := []) C kt_X hP hD hS (ck_runV (q0 := 2) C kt_X hK (c_B2_keepResume l D tys h0 b1 b2 u0 p4  _) (cw_B_22 hT ⟨Nat.le_of_ble_eq_true rfl, Nat.le_of_ble_eq_true rfl⟩) rfl rfl hP hD hS rfl hl.1 rfl (Nat.le_of_ble_eq_true rfl) dc_B_remember_3 ⟨Nat.zero_le _, Nat.zero_le _⟩) (fun w3 H locs ew3 hP hD hS => ?_)
  refine lv_aload_n hx hb dc_B_remember_6 rfl (lv_at hl 0 rfl) ?_
  refine lv_iload_n hx hb dc_B_remember_7 rfl (lv_at hl 1 rfl) ?_
  refine lv_if_eq (tgt := 20) hx hb dc_B_remember_8 (by decide) (fun c4 => ?_) (fun c4 => ?_)
  · refine lv_iload_n hx hb dc_B_remember_20 rfl (lv_at hl 2 rfl) ?_
    refine xr_i2l hx hb dc_B_remember_21 (fun v5 e5 => ?_)
    exact k22 w3 v5 _ _ _ hP hD hS (lv_sub hl [0, 3] rfl) (by subst ew3 e5; exact (if_pos c4))
  · refine lv_iload_n hx hb dc_B_remember_11 rfl (lv_at hl 2 rfl) ?_
    refine xr_i2l hx hb dc_B_remember_12 (fun v6 e6 => ?_)
    refine lv_ldc2 (v := (-9223372036854775808)) hx hb hown (hT _ mw_27) dc_B_remember_13 ?_
    refine xr_lor hx hb dc_B_remember_16 (fun v7 e7 => ?_)
    refine lv_goto (tgt := 22) hx hb dc_B_remember_17 (by decide) ?_
    exact k22 w3 v7 _ _ _ hP hD hS (lv_sub hl [0, 3] rfl) (by subst ew3 e6 e7; exact (if_neg c4))
def f_B1_entry_29 (u : cs_St) (p1 : Int32) (p2 : Int32) (x3 : Int64) (y0 : Int32) : Int64 := (if y0 = 0 then x3 else (let v2 : Int64 := p2.toInt64; let v3 : Int64 := (4 : Int64) * v2; let v4 : Int64 := x3 + v3; v4))
def f_B1_entry (u : cs_St) (p1 : Int32) (p2 : Int32) : Int64 := (let v5 : Int64 := u.2 13; let v6 : Int64 := v5 &&& (-4 : Int64); (if p1 = 0 then (f_B1_entry_29 u p1 p2 v6 0) else (let v8 : Int64 := u.2 13; let v9 : Int64 := v8 &&& (1 : Int64); let v10 : Int32 := lg_cmp v9 (0 : Int64); (if v10 = 0 then (f_B1_entry_29 u p1 p2 v6 0) else (f_B1_entry_29 u p1 p2 v6 1)))))
set_option maxHeartbeats 4000000 in
set_option maxRecDepth 100000 in
theorem c_B1_entry (l : Launch) (D : va_G) (tys : List (ClassId × FieldType)) (h0 b1 b2 : Nat) (u : cs_St) (p1 : Int32) (p2 : Int32)  : ck_Ml l D tys (wx h0 b1 b2) yn_B_entry w_B1_entry rm_B1_entry 0 0 [.ref b1, .int p1, .int p2] u (f_B1_entry u p1 p2) u := by
  refine ck_entl (cc := bc_B_entry) (maxL := 6) (ret := (some .long)) (by decide) rfl (Nat.le_of_ble_eq_true rfl) ?_
  intro p e s m below meth c A ls C hnm hP hD hS hl
  have C : ck_C p s m meth c bc_B_entry (some .long) 6 #[.ref b1, .int p1, .int p2] "ControlDesk$Bank" A D tys := C
  have hl : lv_has ls 6 [(0, .ref b1), (1, .int p1), (2, .int p2)] := hl
  have hx := C.1
  have hb := C.2.1
  have hown := C.2.2.2.2.1
  have hT := C.2.2.2.2.2.1
  have hK := C.2.2.2.2.2.2.2.1
  have hN := C.2.2.2.2.2.2.2.2.2.2.2.1
  have k29 : ∀ (x3 : Int64) (y0 : Int32) (H : Heap) (locs : List Loc) (ls : Array Slot), va_P D xw_Cl ((wx h0 b1 b2) u) H → va_D A ((wx h0 b1 b2) u) → va_S A s.heap H locs → lv_has ls 6 [(2, .int p2), (3, .long x3)] → f_B1_entry u p1 p2 = f_B1_entry_29 u p1 p2 x3 y0 → W p l e rm_B1_entry s m #[.ref b1, .int p1, .int p2] below meth c H locs 0 0 (MQ below (va_Ql (fun r2 u2 => r2 = (f_B1_entry u p1 p2) ∧ u2 = u) (ck_B D (wx h0 b1 b2) A) A) #[.ref b1, .int p1, .int p2] s 0 0 A) (F0 m 29 ls [.int y0]) := by
    intro x3 y0 H locs ls hP hD hS hl hq 
    refine lv_istore (lv' := [(5, .int y0), (2, .int p2), (3, .long x3)]) hx hb dc_B_entry_29 hl (by decide) rfl (fun ls hl => ?_)
    refine lv_iload hx hb dc_B_entry_31 (lv_at hl 0 rfl) ?_
    refine lv_if_eq (tgt := 47) hx hb dc_B_entry_33 (by decide) (fun c1 => ?_) (fun c1 => ?_)
    · refine lv_lload_n hx hb dc_B_entry_47 rfl (lv_at hl 2 rfl) ?_
      exact ck_lret (v := x3) C hP hD hS ⟨by exact (hq.trans ((if_pos c1))).symm, rfl⟩ dc_B_entry_48
    · refine lv_lload_n hx hb dc_B_entry_36 rfl (lv_at hl 2 rfl) ?_
      refine lv_ldc2 (v := 4) hx hb hown (hT _ mw_28) dc_B_entry_37 ?_
      refine lv_iload_n hx hb dc_B_entry_40 rfl (lv_at hl 1 rfl) ?_
      refine xr_i2l hx hb dc_B_entry_41 (fun v2 e2 => ?_)
      refine xr_lmul hx hb dc_B_entry_42 (fun v3 e3 => ?_)
      refine xr_ladd hx hb dc_B_entry_43 (fun v4 e4 => ?_)
      refine lv_goto (tgt := 48) hx hb dc_B_entry_44 (by decide) ?_
      exact ck_lret (v := v4) C hP hD hS ⟨by subst e2 e3 e4; exact (hq.trans ((if_neg c1))).symm, rfl⟩ dc_B_entry_48
  -- from the entry
  refine lv_aload_n hx hb dc_B_entry_0 rfl (lv_at hl 0 rfl) ?_
  refine gb1_vectors C hP dc_B_entry_1 (fun v5 e5 => ?_)
  refine lv_ldc2 (v := (-4)) hx hb hown (hT _ mw_29) dc_B_entry_4 ?_
  refine xr_land hx hb dc_B_entry_7 (fun v6 e6 => ?_)
  refine lv_lstore_n (lv' := [(3, .long v6), (0, .ref b1), (1, .int p1), (2, .int p2)]) hx hb dc_B_entry_8 rfl hl (by decide) rfl (fun ls hl => ?_)
  refine lv_iload_n hx hb dc_B_entry_9 rfl (lv_at hl 2 rfl) ?_
  refine lv_if_eq (tgt := 28) hx hb dc_B_entry_10 (by decide) (fun c7 => ?_) (fun c7 => ?_)
  · refine lv_iconst (v := 0) hx hb dc_B_entry_28 (by decide) ?_
    exact k29 v6 0 _ _ _ hP hD hS (lv_sub hl [3, 0] rfl) (by subst e5 e6; exact (if_pos c7))
  · refine lv_aload_n hx hb dc_B_entry_13 rfl (lv_at hl 1 rfl) ?_
    refine gb1_vectors C hP dc_B_entry_14 (fun v8 e8 => ?_)
    refine lv_lconst (v := 1) hx hb dc_B_entry_17 (by decide) ?_
    refine xr_land hx hb dc_B_entry_18 (fun v9 e9 => ?_)
    refine lv_lconst (v := 0) hx hb dc_B_entry_19 (by decide) ?_
    refine xr_lcmp hx hb dc_B_entry_20 (fun v10 e10 => ?_)
    refine lv_if_eq (tgt := 28) hx hb dc_B_entry_21 (by decide) (fun c11 => ?_) (fun c11 => ?_)
    · refine lv_iconst (v := 0) hx hb dc_B_entry_28 (by decide) ?_
      exact k29 v6 0 _ _ _ hP hD hS (lv_sub hl [3, 0] rfl) (by subst e5 e6 e8 e9 e10; exact (if_neg c7).trans ((if_pos c11)))
    · refine lv_iconst (v := 1) hx hb dc_B_entry_24 (by decide) ?_
      refine lv_goto (tgt := 29) hx hb dc_B_entry_25 (by decide) ?_
      exact k29 v6 1 _ _ _ hP hD hS (lv_sub hl [3, 0] rfl) (by subst e5 e6 e8 e9 e10; exact (if_neg c7).trans ((if_neg c11)))
def f_B2_entry_29 (u : cs_St) (p1 : Int32) (p2 : Int32) (x3 : Int64) (y0 : Int32) : Int64 := (if y0 = 0 then x3 else (let v2 : Int64 := p2.toInt64; let v3 : Int64 := (4 : Int64) * v2; let v4 : Int64 := x3 + v3; v4))
def f_B2_entry (u : cs_St) (p1 : Int32) (p2 : Int32) : Int64 := (let v5 : Int64 := u.2 19; let v6 : Int64 := v5 &&& (-4 : Int64); (if p1 = 0 then (f_B2_entry_29 u p1 p2 v6 0) else (let v8 : Int64 := u.2 19; let v9 : Int64 := v8 &&& (1 : Int64); let v10 : Int32 := lg_cmp v9 (0 : Int64); (if v10 = 0 then (f_B2_entry_29 u p1 p2 v6 0) else (f_B2_entry_29 u p1 p2 v6 1)))))
set_option maxHeartbeats 4000000 in
set_option maxRecDepth 100000 in
theorem c_B2_entry (l : Launch) (D : va_G) (tys : List (ClassId × FieldType)) (h0 b1 b2 : Nat) (u : cs_St) (p1 : Int32) (p2 : Int32)  : ck_Ml l D tys (wx h0 b1 b2) yn_B_entry w_B2_entry rm_B2_entry 0 0 [.ref b2, .int p1, .int p2] u (f_B2_entry u p1 p2) u := by
  refine ck_entl (cc := bc_B_entry) (maxL := 6) (ret := (some .long)) (by decide) rfl (Nat.le_of_ble_eq_true rfl) ?_
  intro p e s m below meth c A ls C hnm hP hD hS hl
  have C : ck_C p s m meth c bc_B_entry (some .long) 6 #[.ref b2, .int p1, .int p2] "ControlDesk$Bank" A D tys := C
  have hl : lv_has ls 6 [(0, .ref b2), (1, .int p1), (2, .int p2)] := hl
  have hx := C.1
  have hb := C.2.1
  have hown := C.2.2.2.2.1
  have hT := C.2.2.2.2.2.1
  have hK := C.2.2.2.2.2.2.2.1
  have hN := C.2.2.2.2.2.2.2.2.2.2.2.1
  have k29 : ∀ (x3 : Int64) (y0 : Int32) (H : Heap) (locs : List Loc) (ls : Array Slot), va_P D xw_Cl ((wx h0 b1 b2) u) H → va_D A ((wx h0 b1 b2) u) → va_S A s.heap H locs → lv_has ls 6 [(2, .int p2), (3, .long x3)] → f_B2_entry u p1 p2 = f_B2_entry_29 u p1 p2 x3 y0 → W p l e rm_B2_entry s m #[.ref b2, .int p1, .int p2] below meth c H locs 0 0 (MQ below (va_Ql (fun r2 u2 => r2 = (f_B2_entry u p1 p2) ∧ u2 = u) (ck_B D (wx h0 b1 b2) A) A) #[.ref b2, .int p1, .int p2] s 0 0 A) (F0 m 29 ls [.int y0]) := by
    intro x3 y0 H locs ls hP hD hS hl hq 
    refine lv_istore (lv' := [(5, .int y0), (2, .int p2), (3, .long x3)]) hx hb dc_B_entry_29 hl (by decide) rfl (fun ls hl => ?_)
    refine lv_iload hx hb dc_B_entry_31 (lv_at hl 0 rfl) ?_
    refine lv_if_eq (tgt := 47) hx hb dc_B_entry_33 (by decide) (fun c1 => ?_) (fun c1 => ?_)
    · refine lv_lload_n hx hb dc_B_entry_47 rfl (lv_at hl 2 rfl) ?_
      exact ck_lret (v := x3) C hP hD hS ⟨by exact (hq.trans ((if_pos c1))).symm, rfl⟩ dc_B_entry_48
    · refine lv_lload_n hx hb dc_B_entry_36 rfl (lv_at hl 2 rfl) ?_
      refine lv_ldc2 (v := 4) hx hb hown (hT _ mw_28) dc_B_entry_37 ?_
      refine lv_iload_n hx hb dc_B_entry_40 rfl (lv_at hl 1 rfl) ?_
      refine xr_i2l hx hb dc_B_entry_41 (fun v2 e2 => ?_)
      refine xr_lmul hx hb dc_B_entry_42 (fun v3 e3 => ?_)
      refine xr_ladd hx hb dc_B_entry_43 (fun v4 e4 => ?_)
      refine lv_goto (tgt := 48) hx hb dc_B_entry_44 (by decide) ?_
      exact ck_lret (v := v4) C hP hD hS ⟨by subst e2 e3 e4; exact (hq.trans ((if_neg c1))).symm, rfl⟩ dc_B_entry_48
  -- from the entry
  refine lv_aload_n hx hb dc_B_entry_0 rfl (lv_at hl 0 rfl) ?_
  refine gb2_vectors C hP dc_B_entry_1 (fun v5 e5 => ?_)
  refine lv_ldc2 (v := (-4)) hx hb hown (hT _ mw_29) dc_B_entry_4 ?_
  refine xr_land hx hb dc_B_entry_7 (fun v6 e6 => ?_)
  refine lv_lstore_n (lv' := [(3, .long v6), (0, .ref b2), (1, .int p1), (2, .int p2)]) hx hb dc_B_entry_8 rfl hl (by decide) rfl (fun ls hl => ?_)
  refine lv_iload_n hx hb dc_B_entry_9 rfl (lv_at hl 2 rfl) ?_
  refine lv_if_eq (tgt := 28) hx hb dc_B_entry_10 (by decide) (fun c7 => ?_) (fun c7 => ?_)
  · refine lv_iconst (v := 0) hx hb dc_B_entry_28 (by decide) ?_
    exact k29 v6 0 _ _ _ hP hD hS (lv_sub hl [3, 0] rfl) (by subst e5 e6; exact (if_pos c7))
  · refine lv_aload_n hx hb dc_B_entry_13 rfl (lv_at hl 1 rfl) ?_
    refine gb2_vectors C hP dc_B_entry_14 (fun v8 e8 => ?_)
    refine lv_lconst (v := 1) hx hb dc_B_entry_17 (by decide) ?_
    refine xr_land hx hb dc_B_entry_18 (fun v9 e9 => ?_)
    refine lv_lconst (v := 0) hx hb dc_B_entry_19 (by decide) ?_
    refine xr_lcmp hx hb dc_B_entry_20 (fun v10 e10 => ?_)
    refine lv_if_eq (tgt := 28) hx hb dc_B_entry_21 (by decide) (fun c11 => ?_) (fun c11 => ?_)
    · refine lv_iconst (v := 0) hx hb dc_B_entry_28 (by decide) ?_
      exact k29 v6 0 _ _ _ hP hD hS (lv_sub hl [3, 0] rfl) (by subst e5 e6 e8 e9 e10; exact (if_neg c7).trans ((if_pos c11)))
    · refine lv_iconst (v := 1) hx hb dc_B_entry_24 (by decide) ?_
      refine lv_goto (tgt := 29) hx hb dc_B_entry_25 (by decide) ?_
      exact k29 v6 1 _ _ _ hP hD hS (lv_sub hl [3, 0] rfl) (by subst e5 e6 e8 e9 e10; exact (if_neg c7).trans ((if_neg c11)))
def f_X_trap (u0 : cs_St) (p1 : Int32) (p2 : Int32) (p3 : Int64) (p4 : Int64) : Int64 × cs_St := (let v4 : Int32 := f_X_goesToSupervisor u0 p1 p2; (if v4 = 0 then (let w6 : cs_St := f_X_enterMachine u0; let w7 : cs_St := f_B1_remember w6 p1 p2 p3 p4; let v9 : Int64 := f_B1_entry w7 p1 p2; let w10 : cs_St := (w7.1, vp_updL w7.2 12 v9); let v11 : Int64 := w10.2 12; (v11, w10)) else (let w12 : cs_St := f_X_enterSupervisor u0; let w13 : cs_St := f_B2_remember w12 p1 p2 p3 p4; let v15 : Int64 := f_B2_entry w13 p1 p2; let w16 : cs_St := (w13.1, vp_updL w13.2 12 v15); let v17 : Int64 := w16.2 12; (v17, w16))))
set_option maxHeartbeats 4000000 in
set_option maxRecDepth 100000 in
theorem c_X_trap (l : Launch) (D : va_G) (tys : List (ClassId × FieldType)) (h0 b1 b2 : Nat) (u0 : cs_St) (p1 : Int32) (p2 : Int32) (p3 : Int64) (p4 : Int64) (g1 : ¬ p2 < 0) (g2 : p2 ≤ 63) : ck_Ml l D tys (wx h0 b1 b2) yn_X_trap w_X_trap rm_X_trap 0 0 [.ref h0, .int p1, .int p2, .long p3, .long p4] u0 (f_X_trap u0 p1 p2 p3 p4).1 (f_X_trap u0 p1 p2 p3 p4).2 := by
  refine ck_entl (cc := bc_X_trap) (maxL := 8) (ret := (some .long)) (by decide) rfl (Nat.le_of_ble_eq_true rfl) ?_
  intro p e s m below meth c A ls C hnm hP hD hS hl
  have C : ck_C p s m meth c bc_X_trap (some .long) 8 #[.ref h0, .int p1, .int p2, .long p3, .long p4] "ControlDesk" A D tys := C
  have hl : lv_has ls 8 [(0, .ref h0), (1, .int p1), (2, .int p2), (3, .long p3), (5, .long p4)] := hl
  have hx := C.1
  have hb := C.2.1
  have hown := C.2.2.2.2.1
  have hT := C.2.2.2.2.2.1
  have hK := C.2.2.2.2.2.2.2.1
  have hN := C.2.2.2.2.2.2.2.2.2.2.2.1
  -- from the entry
  refine lv_iload_n hx hb dc_X_trap_0 rfl (lv_at hl 2 rfl) ?_
  refine lv_if_lt (tgt := 10) hx hb dc_X_trap_1 (by decide) (fun c1 => ?_) (fun c1 => ?_)
  · exact absurd c1 g1
  · refine lv_iload_n hx hb dc_X_trap_4 rfl (lv_at hl 2 rfl) ?_
    refine lv_bipush (v := 63) hx hb dc_X_trap_5 (by decide) ?_
    refine lv_icmp_le (tgt := 20) hx hb dc_X_trap_7 (by decide) (fun c2 => ?_) (fun c2 => ?_)
    · refine lv_aload_n hx hb dc_X_trap_20 rfl (lv_at hl 0 rfl) ?_
      refine lv_iload_n hx hb dc_X_trap_21 rfl (lv_at hl 1 rfl) ?_
      refine lv_iload_n hx hb dc_X_trap_22 rfl (lv_at hl 2 rfl) ?_
      refine ck_gpi (rest := []) C kt_X hP hD hS (ck_runV (q0 := 0) C kt_X hK (c_X_goesToSupervisor l D tys h0 b1 b2 u0 p1 p2  _) (cw_X_83 hT ⟨Nat.le_of_ble_eq_true rfl, Nat.le_of_ble_eq_true rfl⟩) rfl rfl hP hD hS rfl hl.1 rfl (Nat.le_of_ble_eq_true rfl) dc_X_trap_23 ⟨Nat.zero_le _, Nat.zero_le _⟩) (fun v4 H locs e4 hP hD hS => ?_)
      refine lv_if_eq (tgt := 42) hx hb dc_X_trap_26 (by decide) (fun c5 => ?_) (fun c5 => ?_)
      · refine lv_aload_n hx hb dc_X_trap_42 rfl (lv_at hl 0 rfl) ?_
        refine gx_machineBank C hP dc_X_trap_43 ?_
        refine lv_astore (lv' := [(7, .ref b1), (0, .ref h0), (1, .int p1), (2, .int p2), (3, .long p3), (5, .long p4)]) hx hb dc_X_trap_46 hl (by decide) rfl (fun ls hl => ?_)
        refine lv_aload_n hx hb dc_X_trap_48 rfl (lv_at hl 1 rfl) ?_
        refine ck_gov (rest := []) C kt_X hP hD hS (ck_runV (q0 := 0) C kt_X hK (c_X_enterMachine l D tys h0 b1 b2 u0   _) (cw_X_90 hT ⟨Nat.le_of_ble_eq_true rfl, Nat.le_of_ble_eq_true rfl⟩) rfl rfl hP hD hS rfl hl.1 rfl (Nat.le_of_ble_eq_true rfl) dc_X_trap_49 ⟨Nat.zero_le _, Nat.zero_le _⟩) (fun w6 H locs ew6 hP hD hS => ?_)
        refine lv_aload hx hb dc_X_trap_52 (lv_at hl 0 rfl) ?_
        refine lv_iload_n hx hb dc_X_trap_54 rfl (lv_at hl 2 rfl) ?_
        refine lv_iload_n hx hb dc_X_trap_55 rfl (lv_at hl 3 rfl) ?_
        refine lv_lload_n hx hb dc_X_trap_56 rfl (lv_at hl 4 rfl) ?_
        refine lv_lload hx hb dc_X_trap_57 (lv_at hl 5 rfl) ?_
        refine ck_gov (rest := []) C kt_X hP hD hS (ck_runVN (q0 := 1) C kt_X hK (c_B1_remember l D tys h0 b1 b2 w6 p1 p2 p3 p4  _) (cw_X_93 hT hN ⟨Nat.le_of_ble_eq_true rfl, Nat.le_of_ble_eq_true rfl⟩) rfl rfl hP hD hS rfl hl.1 rfl (Nat.le_of_ble_eq_true rfl) dc_X_trap_59 ⟨Nat.zero_le _, Nat.zero_le _⟩) (fun w7 H locs ew7 hP hD hS => ?_)
        refine lv_aload_n hx hb dc_X_trap_62 rfl (lv_at hl 1 rfl) ?_
        refine lv_aload hx hb dc_X_trap_63 (lv_at hl 0 rfl) ?_
        refine lv_iload_n hx hb dc_X_trap_65 rfl (lv_at hl 2 rfl) ?_
        refine lv_iload_n hx hb dc_X_trap_66 rfl (lv_at hl 3 rfl) ?_
        refine ck_gpl (rest := [.ref h0]) C kt_X hP hD hS (ck_runVN (q0 := 1) C kt_X hK (c_B1_entry l D tys h0 b1 b2 w7 p1 p2  _) (cw_X_97 hT hN ⟨Nat.le_of_ble_eq_true rfl, Nat.le_of_ble_eq_true rfl⟩) rfl rfl hP hD hS rfl hl.1 rfl (Nat.le_of_ble_eq_true rfl) dc_X_trap_67 ⟨Nat.zero_le _, Nat.zero_le _⟩) (fun v9 H locs e9 hP hD hS => ?_)
        refine px_lastPlace C hP hD hS dc_X_trap_70 (fun w10 H locs ew10 hP hD hS => ?_)
        refine lv_aload_n hx hb dc_X_trap_73 rfl (lv_at hl 1 rfl) ?_
        refine gx_lastPlace C hP dc_X_trap_74 (fun v11 e11 => ?_)
        exact ck_lret (v := v11) C hP hD hS (by subst e4 ew6 ew7 e9 ew10 e11; exact ck_pair ((if_pos c5))) dc_X_trap_77
      · refine lv_aload_n hx hb dc_X_trap_29 rfl (lv_at hl 0 rfl) ?_
        refine gx_supervisorBank C hP dc_X_trap_30 ?_
        refine lv_astore (lv' := [(7, .ref b2), (0, .ref h0), (1, .int p1), (2, .int p2), (3, .long p3), (5, .long p4)]) hx hb dc_X_trap_33 hl (by decide) rfl (fun ls hl => ?_)
        refine lv_aload_n hx hb dc_X_trap_35 rfl (lv_at hl 1 rfl) ?_
        refine ck_gov (rest := []) C kt_X hP hD hS (ck_runV (q0 := 0) C kt_X hK (c_X_enterSupervisor l D tys h0 b1 b2 u0   _) (cw_X_87 hT ⟨Nat.le_of_ble_eq_true rfl, Nat.le_of_ble_eq_true rfl⟩) rfl rfl hP hD hS rfl hl.1 rfl (Nat.le_of_ble_eq_true rfl) dc_X_trap_36 ⟨Nat.zero_le _, Nat.zero_le _⟩) (fun w12 H locs ew12 hP hD hS => ?_)
        refine lv_goto (tgt := 52) hx hb dc_X_trap_39 (by decide) ?_
        refine lv_aload hx hb dc_X_trap_52 (lv_at hl 0 rfl) ?_
        refine lv_iload_n hx hb dc_X_trap_54 rfl (lv_at hl 2 rfl) ?_
        refine lv_iload_n hx hb dc_X_trap_55 rfl (lv_at hl 3 rfl) ?_
        refine lv_lload_n hx hb dc_X_trap_56 rfl (lv_at hl 4 rfl) ?_
        refine lv_lload hx hb dc_X_trap_57 (lv_at hl 5 rfl) ?_
        refine ck_gov (rest := []) C kt_X hP hD hS (ck_runVN (q0 := 2) C kt_X hK (c_B2_remember l D tys h0 b1 b2 w12 p1 p2 p3 p4  _) (cw_X_93 hT hN ⟨Nat.le_of_ble_eq_true rfl, Nat.le_of_ble_eq_true rfl⟩) rfl rfl hP hD hS rfl hl.1 rfl (Nat.le_of_ble_eq_true rfl) dc_X_trap_59 ⟨Nat.zero_le _, Nat.zero_le _⟩) (fun w13 H locs ew13 hP hD hS => ?_)
        refine lv_aload_n hx hb dc_X_trap_62 rfl (lv_at hl 1 rfl) ?_
        refine lv_aload hx hb dc_X_trap_63 (lv_at hl 0 rfl) ?_
        refine lv_iload_n hx hb dc_X_trap_65 rfl (lv_at hl 2 rfl) ?_
        refine lv_iload_n hx hb dc_X_trap_66 rfl (lv_at hl 3 rfl) ?_
        refine ck_gpl (rest := [.ref h0]) C kt_X hP hD hS (ck_runVN (q0 := 2) C kt_X hK (c_B2_entry l D tys h0 b1 b2 w13 p1 p2  _) (cw_X_97 hT hN ⟨Nat.le_of_ble_eq_true rfl, Nat.le_of_ble_eq_true rfl⟩) rfl rfl hP hD hS rfl hl.1 rfl (Nat.le_of_ble_eq_true rfl) dc_X_trap_67 ⟨Nat.zero_le _, Nat.zero_le _⟩) (fun v15 H locs e15 hP hD hS => ?_)
        refine px_lastPlace C hP hD hS dc_X_trap_70 (fun w16 H locs ew16 hP hD hS => ?_)
        refine lv_aload_n hx hb dc_X_trap_73 rfl (lv_at hl 1 rfl) ?_
        refine gx_lastPlace C hP dc_X_trap_74 (fun v17 e17 => ?_)
        exact ck_lret (v := v17) C hP hD hS (by subst e4 ew12 ew13 e15 ew16 e17; exact ck_pair ((if_neg c5))) dc_X_trap_77
    · exact absurd g2 c2
def f_X_machineOrSupervisorWithout (u : cs_St) (p1 : Int64) : Int32 := (let v1 : Int32 := u.1; (if v1 = 3 then 1 else (let v3 : Int32 := u.1; (if v3 = 1 then (let v6 : Int32 := f_X_has u p1; (if v6 = 0 then 1 else 0)) else 0))))
set_option maxHeartbeats 4000000 in
set_option maxRecDepth 100000 in
theorem c_X_machineOrSupervisorWithout (l : Launch) (D : va_G) (tys : List (ClassId × FieldType)) (h0 b1 b2 : Nat) (u : cs_St) (p1 : Int64)  : ck_Mi l D tys (wx h0 b1 b2) yn_X_machineOrSupervisorWithout w_X_machineOrSupervisorWithout rm_X_machineOrSupervisorWithout 0 0 [.ref h0, .long p1] u (f_X_machineOrSupervisorWithout u p1) u := by
  refine ck_enti (cc := bc_X_machineOrSupervisorWithout) (maxL := 3) (ret := (some .boolean)) (by decide) rfl (Nat.le_of_ble_eq_true rfl) ?_
  intro p e s m below meth c A ls C hnm hP hD hS hl
  have C : ck_C p s m meth c bc_X_machineOrSupervisorWithout (some .boolean) 3 #[.ref h0, .long p1] "ControlDesk" A D tys := C
  have hl : lv_has ls 3 [(0, .ref h0), (1, .long p1)] := hl
  have hx := C.1
  have hb := C.2.1
  have hown := C.2.2.2.2.1
  have hT := C.2.2.2.2.2.1
  have hK := C.2.2.2.2.2.2.2.1
  have hN := C.2.2.2.2.2.2.2.2.2.2.2.1
  -- from the entry
  refine lv_aload_n hx hb dc_X_machineOrSupervisorWithout_0 rfl (lv_at hl 0 rfl) ?_
  refine gx_currentMode C hP dc_X_machineOrSupervisorWithout_1 (fun v1 e1 => ?_)
  refine lv_iconst (v := 3) hx hb dc_X_machineOrSupervisorWithout_4 (by decide) ?_
  refine lv_icmp_eq (tgt := 24) hx hb dc_X_machineOrSupervisorWithout_5 (by decide) (fun c2 => ?_) (fun c2 => ?_)
  · refine lv_iconst (v := 1) hx hb dc_X_machineOrSupervisorWithout_24 (by decide) ?_
    refine lv_goto (tgt := 29) hx hb dc_X_machineOrSupervisorWithout_25 (by decide) ?_
    exact ck_zret (v := 1) C hP hD hS rfl ⟨by subst e1; exact ((if_pos c2)).symm, rfl⟩ dc_X_machineOrSupervisorWithout_29
  · refine lv_aload_n hx hb dc_X_machineOrSupervisorWithout_8 rfl (lv_at hl 0 rfl) ?_
    refine gx_currentMode C hP dc_X_machineOrSupervisorWithout_9 (fun v3 e3 => ?_)
    refine lv_iconst (v := 1) hx hb dc_X_machineOrSupervisorWithout_12 (by decide) ?_
    refine lv_icmp_ne (tgt := 28) hx hb dc_X_machineOrSupervisorWithout_13 (by decide) (fun c4 => ?_) (fun c4 => ?_)
    · refine lv_iconst (v := 0) hx hb dc_X_machineOrSupervisorWithout_28 (by decide) ?_
      exact ck_zret (v := 0) C hP hD hS rfl ⟨by subst e1 e3; exact ((if_neg c2).trans ((if_neg c4))).symm, rfl⟩ dc_X_machineOrSupervisorWithout_29
    · refine lv_aload_n hx hb dc_X_machineOrSupervisorWithout_16 rfl (lv_at hl 0 rfl) ?_
      refine lv_lload_n hx hb dc_X_machineOrSupervisorWithout_17 rfl (lv_at hl 1 rfl) ?_
      refine ck_gpi (rest := []) C kt_X hP hD hS (ck_runV (q0 := 0) C kt_X hK (c_X_has l D tys h0 b1 b2 u p1  _) (cw_X_29 hT ⟨Nat.le_of_ble_eq_true rfl, Nat.le_of_ble_eq_true rfl⟩) rfl rfl hP hD hS rfl hl.1 rfl (Nat.le_of_ble_eq_true rfl) dc_X_machineOrSupervisorWithout_18 ⟨Nat.zero_le _, Nat.zero_le _⟩) (fun v6 H locs e6 hP hD hS => ?_)
      refine lv_if_ne (tgt := 28) hx hb dc_X_machineOrSupervisorWithout_21 (by decide) (fun c7 => ?_) (fun c7 => ?_)
      · refine lv_iconst (v := 0) hx hb dc_X_machineOrSupervisorWithout_28 (by decide) ?_
        exact ck_zret (v := 0) C hP hD hS rfl ⟨by subst e1 e3 e6; exact ((if_neg c2).trans ((if_pos c4).trans ((if_neg c7)))).symm, rfl⟩ dc_X_machineOrSupervisorWithout_29
      · refine lv_iconst (v := 1) hx hb dc_X_machineOrSupervisorWithout_24 (by decide) ?_
        refine lv_goto (tgt := 29) hx hb dc_X_machineOrSupervisorWithout_25 (by decide) ?_
        exact ck_zret (v := 1) C hP hD hS rfl ⟨by subst e1 e3 e6; exact ((if_neg c2).trans ((if_pos c4).trans ((if_pos c7)))).symm, rfl⟩ dc_X_machineOrSupervisorWithout_29
theorem nz_X_machineOrSupervisorWithout (u : cs_St) (p1 : Int64) : narrow .boolean (.int (f_X_machineOrSupervisorWithout u p1)) = .int (f_X_machineOrSupervisorWithout u p1) := by
  unfold f_X_machineOrSupervisorWithout; dsimp only; (repeat' split) <;> rfl
