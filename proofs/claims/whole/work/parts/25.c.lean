def f_X_allowed_33 (u : cs_St) (p1 : Int32) (y1 : Int64) : Int32 := (let v2 : Int32 := f_X_machineOrSupervisorWithout u y1; v2)
def f_X_allowed_19 (u : cs_St) (p1 : Int32)  : Int32 := (if p1 = 0 then (f_X_allowed_33 u p1 2097152) else (f_X_allowed_33 u p1 1048576))
def f_X_allowed (u : cs_St) (p1 : Int32) : Int32 := (if p1 = 0 then (f_X_allowed_19 u p1 ) else (if p1 = 1 then (f_X_allowed_19 u p1 ) else 0))
set_option maxHeartbeats 4000000 in
set_option maxRecDepth 100000 in
theorem c_X_allowed (l : Launch) (D : va_G) (tys : List (ClassId × FieldType)) (h0 b1 b2 : Nat) (u : cs_St) (p1 : Int32) (g1 : p1 = 0 ∨ p1 = 1) : ck_Mi l D tys (wx h0 b1 b2) yn_X_allowed w_X_allowed rm_X_allowed 0 0 [.ref h0, .int p1] u (f_X_allowed u p1) u := by
  refine ck_enti (cc := bc_X_allowed) (maxL := 2) (ret := (some .boolean)) (by decide) rfl (Nat.le_of_ble_eq_true rfl) ?_
  intro p e s m below meth c A ls C hnm hP hD hS hl
  have C : ck_C p s m meth c bc_X_allowed (some .boolean) 2 #[.ref h0, .int p1] "ControlDesk" A D tys := C
  have hl : lv_has ls 2 [(0, .ref h0), (1, .int p1)] := hl
  have hx := C.1
  have hb := C.2.1
  have hown := C.2.2.2.2.1
  have hT := C.2.2.2.2.2.1
  have hK := C.2.2.2.2.2.2.2.1
  have hN := C.2.2.2.2.2.2.2.2.2.2.2.1
  have k33 : ∀ (y1 : Int64) (H : Heap) (locs : List Loc) (ls : Array Slot), va_P D xw_Cl ((wx h0 b1 b2) u) H → va_D A ((wx h0 b1 b2) u) → va_S A s.heap H locs → lv_has ls 2 [] → f_X_allowed u p1 = f_X_allowed_33 u p1 y1 → W p l e rm_X_allowed s m #[.ref h0, .int p1] below meth c H locs 0 0 (MQ below (va_Qi (fun r2 u2 => r2 = (f_X_allowed u p1) ∧ u2 = u) (ck_B D (wx h0 b1 b2) A) A) #[.ref h0, .int p1] s 0 0 A) (F0 m 33 ls [.long y1, .ref h0]) := by
    intro y1 H locs ls hP hD hS hl hq 
    refine ck_gpi (rest := []) C kt_X hP hD hS (ck_runV (q0 := 0) C kt_X hK (c_X_machineOrSupervisorWithout l D tys h0 b1 b2 u y1  _) (cw_X_150 hT ⟨Nat.le_of_ble_eq_true rfl, Nat.le_of_ble_eq_true rfl⟩) rfl rfl hP hD hS rfl hl.1 rfl (Nat.le_of_ble_eq_true rfl) dc_X_allowed_33 ⟨Nat.zero_le _, Nat.zero_le _⟩) (fun v2 H locs e2 hP hD hS => ?_)
    exact ck_zret (v := v2) C hP hD hS (by rw [e2]; exact nz_X_machineOrSupervisorWithout _ _) ⟨by subst e2; exact (hq.trans (rfl)).symm, rfl⟩ dc_X_allowed_36
  have k19 : ∀ (H : Heap) (locs : List Loc) (ls : Array Slot), va_P D xw_Cl ((wx h0 b1 b2) u) H → va_D A ((wx h0 b1 b2) u) → va_S A s.heap H locs → lv_has ls 2 [(0, .ref h0), (1, .int p1)] → f_X_allowed u p1 = f_X_allowed_19 u p1  → W p l e rm_X_allowed s m #[.ref h0, .int p1] below meth c H locs 0 0 (MQ below (va_Qi (fun r2 u2 => r2 = (f_X_allowed u p1) ∧ u2 = u) (ck_B D (wx h0 b1 b2) A) A) #[.ref h0, .int p1] s 0 0 A) (F0 m 19 ls []) := by
    intro  H locs ls hP hD hS hl hq 
    refine lv_aload_n hx hb dc_X_allowed_19 rfl (lv_at hl 0 rfl) ?_
    refine lv_iload_n hx hb dc_X_allowed_20 rfl (lv_at hl 1 rfl) ?_
    refine lv_if_ne (tgt := 30) hx hb dc_X_allowed_21 (by decide) (fun c3 => ?_) (fun c3 => ?_)
    · refine lv_ldc2 (v := 1048576) hx hb hown (hT _ mw_3) dc_X_allowed_30 ?_
      exact k33 1048576 _ _ _ hP hD hS (lv_sub hl [] rfl) (by exact hq.trans ((if_neg c3)))
    · refine lv_ldc2 (v := 2097152) hx hb hown (hT _ mw_35) dc_X_allowed_24 ?_
      refine lv_goto (tgt := 33) hx hb dc_X_allowed_27 (by decide) ?_
      exact k33 2097152 _ _ _ hP hD hS (lv_sub hl [] rfl) (by exact hq.trans ((if_pos c3)))
  -- from the entry
  refine lv_iload_n hx hb dc_X_allowed_0 rfl (lv_at hl 1 rfl) ?_
  refine lv_if_eq (tgt := 19) hx hb dc_X_allowed_1 (by decide) (fun c4 => ?_) (fun c4 => ?_)
  · exact k19  _ _ _ hP hD hS (lv_sub hl [0, 1] rfl) (by exact (if_pos c4))
  · refine lv_iload_n hx hb dc_X_allowed_4 rfl (lv_at hl 1 rfl) ?_
    refine lv_iconst (v := 1) hx hb dc_X_allowed_5 (by decide) ?_
    refine lv_icmp_eq (tgt := 19) hx hb dc_X_allowed_6 (by decide) (fun c5 => ?_) (fun c5 => ?_)
    · exact k19  _ _ _ hP hD hS (lv_sub hl [0, 1] rfl) (by exact (if_neg c4).trans ((if_pos c5)))
    · rcases g1 with h | h <;> contradiction
def f_X_floats (u : cs_St)  : Int32 := (let v2 : Int32 := f_X_has u 24576; v2)
set_option maxHeartbeats 4000000 in
set_option maxRecDepth 100000 in
theorem c_X_floats (l : Launch) (D : va_G) (tys : List (ClassId × FieldType)) (h0 b1 b2 : Nat) (u : cs_St)   : ck_Mi l D tys (wx h0 b1 b2) yn_X_floats w_X_floats rm_X_floats 0 0 [.ref h0] u (f_X_floats u) u := by
  refine ck_enti (cc := bc_X_floats) (maxL := 1) (ret := (some .boolean)) (by decide) rfl (Nat.le_of_ble_eq_true rfl) ?_
  intro p e s m below meth c A ls C hnm hP hD hS hl
  have C : ck_C p s m meth c bc_X_floats (some .boolean) 1 #[.ref h0] "ControlDesk" A D tys := C
  have hl : lv_has ls 1 [(0, .ref h0)] := hl
  have hx := C.1
  have hb := C.2.1
  have hown := C.2.2.2.2.1
  have hT := C.2.2.2.2.2.1
  have hK := C.2.2.2.2.2.2.2.1
  have hN := C.2.2.2.2.2.2.2.2.2.2.2.1
  -- from the entry
  refine lv_aload_n hx hb dc_X_floats_0 rfl (lv_at hl 0 rfl) ?_
  refine lv_ldc2 (v := 24576) hx hb hown (hT _ mw_2) dc_X_floats_1 ?_
  refine ck_gpi (rest := []) C kt_X hP hD hS (ck_runV (q0 := 0) C kt_X hK (c_X_has l D tys h0 b1 b2 u 24576  _) (cw_X_29 hT ⟨Nat.le_of_ble_eq_true rfl, Nat.le_of_ble_eq_true rfl⟩) rfl rfl hP hD hS rfl hl.1 rfl (Nat.le_of_ble_eq_true rfl) dc_X_floats_4 ⟨Nat.zero_le _, Nat.zero_le _⟩) (fun v2 H locs e2 hP hD hS => ?_)
  exact ck_zret (v := v2) C hP hD hS (by rw [e2]; exact nz_X_has _ _) ⟨by subst e2; exact (rfl).symm, rfl⟩ dc_X_floats_7
def f_X_dirty (u0 : cs_St)  : cs_St := (let v2 : Int32 := f_X_has u0 24576; (if v2 = 0 then u0 else (let v4 : Int64 := u0.2 1; let v5 : Int64 := v4 ||| (24576 : Int64); let w6 : cs_St := (u0.1, vp_updL u0.2 1 v5); w6)))
set_option maxHeartbeats 4000000 in
set_option maxRecDepth 100000 in
theorem c_X_dirty (l : Launch) (D : va_G) (tys : List (ClassId × FieldType)) (h0 b1 b2 : Nat) (u0 : cs_St)   : ck_Mv l D tys (wx h0 b1 b2) yn_X_dirty w_X_dirty rm_X_dirty 0 0 [.ref h0] u0 (f_X_dirty u0) := by
  refine ck_entv (cc := bc_X_dirty) (maxL := 1) (ret := none) (by decide) rfl (Nat.le_of_ble_eq_true rfl) ?_
  intro p e s m below meth c A ls C hnm hP hD hS hl
  have C : ck_C p s m meth c bc_X_dirty none 1 #[.ref h0] "ControlDesk" A D tys := C
  have hl : lv_has ls 1 [(0, .ref h0)] := hl
  have hx := C.1
  have hb := C.2.1
  have hown := C.2.2.2.2.1
  have hT := C.2.2.2.2.2.1
  have hK := C.2.2.2.2.2.2.2.1
  have hN := C.2.2.2.2.2.2.2.2.2.2.2.1
  -- from the entry
  refine lv_aload_n hx hb dc_X_dirty_0 rfl (lv_at hl 0 rfl) ?_
  refine lv_ldc2 (v := 24576) hx hb hown (hT _ mw_2) dc_X_dirty_1 ?_
  refine ck_gpi (rest := []) C kt_X hP hD hS (ck_runV (q0 := 0) C kt_X hK (c_X_has l D tys h0 b1 b2 u0 24576  _) (cw_X_29 hT ⟨Nat.le_of_ble_eq_true rfl, Nat.le_of_ble_eq_true rfl⟩) rfl rfl hP hD hS rfl hl.1 rfl (Nat.le_of_ble_eq_true rfl) dc_X_dirty_4 ⟨Nat.zero_le _, Nat.zero_le _⟩) (fun v2 H locs e2 hP hD hS => ?_)
  refine lv_if_eq (tgt := 22) hx hb dc_X_dirty_7 (by decide) (fun c3 => ?_) (fun c3 => ?_)
  · exact ck_vret C hP hD hS (by subst e2; exact ((if_pos c3)).symm) dc_X_dirty_22
  · refine lv_aload_n hx hb dc_X_dirty_10 rfl (lv_at hl 0 rfl) ?_
    refine lv_dup hx hb dc_X_dirty_11 rfl ?_
    refine gx_status C hP dc_X_dirty_12 (fun v4 e4 => ?_)
    refine lv_ldc2 (v := 24576) hx hb hown (hT _ mw_2) dc_X_dirty_15 ?_
    refine xr_lor hx hb dc_X_dirty_18 (fun v5 e5 => ?_)
    refine px_status C hP hD hS dc_X_dirty_19 (fun w6 H locs ew6 hP hD hS => ?_)
    exact ck_vret C hP hD hS (by subst e2 e4 e5 ew6; exact ((if_neg c3)).symm) dc_X_dirty_22
def f_X_count (u0 : cs_St) (p1 : Int64) (p2 : Int64) : cs_St := (let v1 : Int64 := u0.2 8; let v2 : Int64 := v1 + p1; let w3 : cs_St := (u0.1, vp_updL u0.2 8 v2); let v4 : Int64 := w3.2 9; let v5 : Int64 := v4 + p2; let w6 : cs_St := (w3.1, vp_updL w3.2 9 v5); w6)
set_option maxHeartbeats 4000000 in
set_option maxRecDepth 100000 in
theorem c_X_count (l : Launch) (D : va_G) (tys : List (ClassId × FieldType)) (h0 b1 b2 : Nat) (u0 : cs_St) (p1 : Int64) (p2 : Int64)  : ck_Mv l D tys (wx h0 b1 b2) yn_X_count w_X_count rm_X_count 0 0 [.ref h0, .long p1, .long p2] u0 (f_X_count u0 p1 p2) := by
  refine ck_entv (cc := bc_X_count) (maxL := 5) (ret := none) (by decide) rfl (Nat.le_of_ble_eq_true rfl) ?_
  intro p e s m below meth c A ls C hnm hP hD hS hl
  have C : ck_C p s m meth c bc_X_count none 5 #[.ref h0, .long p1, .long p2] "ControlDesk" A D tys := C
  have hl : lv_has ls 5 [(0, .ref h0), (1, .long p1), (3, .long p2)] := hl
  have hx := C.1
  have hb := C.2.1
  have hown := C.2.2.2.2.1
  have hT := C.2.2.2.2.2.1
  have hK := C.2.2.2.2.2.2.2.1
  have hN := C.2.2.2.2.2.2.2.2.2.2.2.1
  -- from the entry
  refine lv_aload_n hx hb dc_X_count_0 rfl (lv_at hl 0 rfl) ?_
  refine lv_dup hx hb dc_X_count_1 rfl ?_
  refine gx_cycleCount C hP dc_X_count_2 (fun v1 e1 => ?_)
  refine lv_lload_n hx hb dc_X_count_5 rfl (lv_at hl 1 rfl) ?_
  refine xr_ladd hx hb dc_X_count_6 (fun v2 e2 => ?_)
  refine px_cycleCount C hP hD hS dc_X_count_7 (fun w3 H locs ew3 hP hD hS => ?_)
  refine lv_aload_n hx hb dc_X_count_10 rfl (lv_at hl 0 rfl) ?_
  refine lv_dup hx hb dc_X_count_11 rfl ?_
  refine gx_instructionCount C hP dc_X_count_12 (fun v4 e4 => ?_)
  refine lv_lload_n hx hb dc_X_count_15 rfl (lv_at hl 2 rfl) ?_
  refine xr_ladd hx hb dc_X_count_16 (fun v5 e5 => ?_)
  refine px_instructionCount C hP hD hS dc_X_count_17 (fun w6 H locs ew6 hP hD hS => ?_)
  exact ck_vret C hP hD hS (by subst e1 e2 ew3 e4 e5 ew6; exact (rfl).symm) dc_X_count_20
def f_X_time (u0 : cs_St) (p1 : Int64) : cs_St := (let w1 : cs_St := (u0.1, vp_updL u0.2 10 p1); w1)
set_option maxHeartbeats 4000000 in
set_option maxRecDepth 100000 in
theorem c_X_time (l : Launch) (D : va_G) (tys : List (ClassId × FieldType)) (h0 b1 b2 : Nat) (u0 : cs_St) (p1 : Int64)  : ck_Mv l D tys (wx h0 b1 b2) yn_X_time w_X_time rm_X_time 0 0 [.ref h0, .long p1] u0 (f_X_time u0 p1) := by
  refine ck_entv (cc := bc_X_time) (maxL := 3) (ret := none) (by decide) rfl (Nat.le_of_ble_eq_true rfl) ?_
  intro p e s m below meth c A ls C hnm hP hD hS hl
  have C : ck_C p s m meth c bc_X_time none 3 #[.ref h0, .long p1] "ControlDesk" A D tys := C
  have hl : lv_has ls 3 [(0, .ref h0), (1, .long p1)] := hl
  have hx := C.1
  have hb := C.2.1
  have hown := C.2.2.2.2.1
  have hT := C.2.2.2.2.2.1
  have hK := C.2.2.2.2.2.2.2.1
  have hN := C.2.2.2.2.2.2.2.2.2.2.2.1
  -- from the entry
  refine lv_aload_n hx hb dc_X_time_0 rfl (lv_at hl 0 rfl) ?_
  refine lv_lload_n hx hb dc_X_time_1 rfl (lv_at hl 1 rfl) ?_
  refine px_clock C hP hD hS dc_X_time_2 (fun w1 H locs ew1 hP hD hS => ?_)
  exact ck_vret C hP hD hS (by subst ew1; exact (rfl).symm) dc_X_time_5
