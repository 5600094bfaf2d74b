def f_X_mode (u : cs_St)  : Int32 := (let v1 : Int32 := u.1; v1)
set_option maxHeartbeats 4000000 in
set_option maxRecDepth 100000 in
theorem c_X_mode (l : Launch) (D : va_G) (tys : List (ClassId × FieldType)) (h0 b1 b2 : Nat) (u : cs_St)   : ck_Mi l D tys (wx h0 b1 b2) yn_X_mode w_X_mode rm_X_mode 0 0 [.ref h0] u (f_X_mode u) u := by
  refine ck_enti (cc := bc_X_mode) (maxL := 1) (ret := (some .int)) (by decide) rfl (Nat.le_of_ble_eq_true rfl) ?_
  intro p e s m below meth c A ls C hnm hP hD hS hl
  have C : ck_C p s m meth c bc_X_mode (some .int) 1 #[.ref h0] "ControlDesk" A D tys := C
  have hl : lv_has ls 1 [(0, .ref h0)] := hl
  have hx := C.1
  have hb := C.2.1
  have hown := C.2.2.2.2.1
  have hT := C.2.2.2.2.2.1
  have hK := C.2.2.2.2.2.2.2.1
  have hN := C.2.2.2.2.2.2.2.2.2.2.2.1
  -- from the entry
  refine lv_aload_n hx hb dc_X_mode_0 rfl (lv_at hl 0 rfl) ?_
  refine gx_currentMode C hP dc_X_mode_1 (fun v1 e1 => ?_)
  exact ck_iret (v := v1) C hP hD hS ⟨by subst e1; exact (rfl).symm, rfl⟩ dc_X_mode_4
def f_X_has (u : cs_St) (p1 : Int64) : Int32 := (let v1 : Int64 := u.2 1; let v2 : Int64 := v1 &&& p1; let v3 : Int32 := lg_cmp v2 (0 : Int64); (if v3 = 0 then 0 else 1))
set_option maxHeartbeats 4000000 in
set_option maxRecDepth 100000 in
theorem c_X_has (l : Launch) (D : va_G) (tys : List (ClassId × FieldType)) (h0 b1 b2 : Nat) (u : cs_St) (p1 : Int64)  : ck_Mi l D tys (wx h0 b1 b2) yn_X_has w_X_has rm_X_has 0 0 [.ref h0, .long p1] u (f_X_has u p1) u := by
  refine ck_enti (cc := bc_X_has) (maxL := 3) (ret := (some .boolean)) (by decide) rfl (Nat.le_of_ble_eq_true rfl) ?_
  intro p e s m below meth c A ls C hnm hP hD hS hl
  have C : ck_C p s m meth c bc_X_has (some .boolean) 3 #[.ref h0, .long p1] "ControlDesk" A D tys := C
  have hl : lv_has ls 3 [(0, .ref h0), (1, .long p1)] := hl
  have hx := C.1
  have hb := C.2.1
  have hown := C.2.2.2.2.1
  have hT := C.2.2.2.2.2.1
  have hK := C.2.2.2.2.2.2.2.1
  have hN := C.2.2.2.2.2.2.2.2.2.2.2.1
  -- from the entry
  refine lv_aload_n hx hb dc_X_has_0 rfl (lv_at hl 0 rfl) ?_
  refine gx_status C hP dc_X_has_1 (fun v1 e1 => ?_)
  refine lv_lload_n hx hb dc_X_has_4 rfl (lv_at hl 1 rfl) ?_
  refine xr_land hx hb dc_X_has_5 (fun v2 e2 => ?_)
  refine lv_lconst (v := 0) hx hb dc_X_has_6 (by decide) ?_
  refine xr_lcmp hx hb dc_X_has_7 (fun v3 e3 => ?_)
  refine lv_if_eq (tgt := 15) hx hb dc_X_has_8 (by decide) (fun c4 => ?_) (fun c4 => ?_)
  · refine lv_iconst (v := 0) hx hb dc_X_has_15 (by decide) ?_
    exact ck_zret (v := 0) C hP hD hS rfl ⟨by subst e1 e2 e3; exact ((if_pos c4)).symm, rfl⟩ dc_X_has_16
  · refine lv_iconst (v := 1) hx hb dc_X_has_11 (by decide) ?_
    refine lv_goto (tgt := 16) hx hb dc_X_has_12 (by decide) ?_
    exact ck_zret (v := 1) C hP hD hS rfl ⟨by subst e1 e2 e3; exact ((if_neg c4)).symm, rfl⟩ dc_X_has_16
theorem nz_X_has (u : cs_St) (p1 : Int64) : narrow .boolean (.int (f_X_has u p1)) = .int (f_X_has u p1) := by
  unfold f_X_has; dsimp only; split <;> rfl
def f_X_previousMachineMode (u : cs_St)  : Int32 := (let v1 : Int64 := u.2 1; let v2 : Int64 := v1 &&& (6144 : Int64); let v3 : Int64 := (v2.toUInt64 >>> ((11 : Int32).toInt64.toUInt64 &&& Int64.toUInt64 63)).toInt64; let v4 : Int32 := v3.toInt32; v4)
set_option maxHeartbeats 4000000 in
set_option maxRecDepth 100000 in
theorem c_X_previousMachineMode (l : Launch) (D : va_G) (tys : List (ClassId × FieldType)) (h0 b1 b2 : Nat) (u : cs_St)   : ck_Mi l D tys (wx h0 b1 b2) yn_X_previousMachineMode w_X_previousMachineMode rm_X_previousMachineMode 0 0 [.ref h0] u (f_X_previousMachineMode u) u := by
  refine ck_enti (cc := bc_X_previousMachineMode) (maxL := 1) (ret := (some .int)) (by decide) rfl (Nat.le_of_ble_eq_true rfl) ?_
  intro p e s m below meth c A ls C hnm hP hD hS hl
  have C : ck_C p s m meth c bc_X_previousMachineMode (some .int) 1 #[.ref h0] "ControlDesk" A D tys := C
  have hl : lv_has ls 1 [(0, .ref h0)] := hl
  have hx := C.1
  have hb := C.2.1
  have hown := C.2.2.2.2.1
  have hT := C.2.2.2.2.2.1
  have hK := C.2.2.2.2.2.2.2.1
  have hN := C.2.2.2.2.2.2.2.2.2.2.2.1
  -- from the entry
  refine lv_aload_n hx hb dc_X_previousMachineMode_0 rfl (lv_at hl 0 rfl) ?_
  refine gx_status C hP dc_X_previousMachineMode_1 (fun v1 e1 => ?_)
  refine lv_ldc2 (v := 6144) hx hb hown (hT _ mw_0) dc_X_previousMachineMode_4 ?_
  refine xr_land hx hb dc_X_previousMachineMode_7 (fun v2 e2 => ?_)
  refine lv_bipush (v := 11) hx hb dc_X_previousMachineMode_8 (by decide) ?_
  refine xr_lushr hx hb dc_X_previousMachineMode_10 (fun v3 e3 => ?_)
  refine xr_l2i hx hb dc_X_previousMachineMode_11 (fun v4 e4 => ?_)
  exact ck_iret (v := v4) C hP hD hS ⟨by subst e1 e2 e3 e4; exact (rfl).symm, rfl⟩ dc_X_previousMachineMode_12
def f_X_dataMode (u : cs_St)  : Int32 := (let v2 : Int32 := f_X_has u 131072; (if v2 = 0 then (let v4 : Int32 := u.1; v4) else (let v6 : Int32 := f_X_previousMachineMode u; v6)))
set_option maxHeartbeats 4000000 in
set_option maxRecDepth 100000 in
theorem c_X_dataMode (l : Launch) (D : va_G) (tys : List (ClassId × FieldType)) (h0 b1 b2 : Nat) (u : cs_St)   : ck_Mi l D tys (wx h0 b1 b2) yn_X_dataMode w_X_dataMode rm_X_dataMode 0 0 [.ref h0] u (f_X_dataMode u) u := by
  refine ck_enti (cc := bc_X_dataMode) (maxL := 1) (ret := (some .int)) (by decide) rfl (Nat.le_of_ble_eq_true rfl) ?_
  intro p e s m below meth c A ls C hnm hP hD hS hl
  have C : ck_C p s m meth c bc_X_dataMode (some .int) 1 #[.ref h0] "ControlDesk" A D tys := C
  have hl : lv_has ls 1 [(0, .ref h0)] := hl
  have hx := C.1
  have hb := C.2.1
  have hown := C.2.2.2.2.1
  have hT := C.2.2.2.2.2.1
  have hK := C.2.2.2.2.2.2.2.1
  have hN := C.2.2.2.2.2.2.2.2.2.2.2.1
  -- from the entry
  refine lv_aload_n hx hb dc_X_dataMode_0 rfl (lv_at hl 0 rfl) ?_
  refine lv_ldc2 (v := 131072) hx hb hown (hT _ mw_1) dc_X_dataMode_1 ?_
  refine ck_gpi (rest := []) C kt_X hP hD hS (ck_runV (q0 := 0) C kt_X hK (c_X_has l D tys h0 b1 b2 u 131072  _) (cw_X_29 hT ⟨Nat.le_of_ble_eq_true rfl, Nat.le_of_ble_eq_true rfl⟩) rfl rfl hP hD hS rfl hl.1 rfl (Nat.le_of_ble_eq_true rfl) dc_X_dataMode_4 ⟨Nat.zero_le _, Nat.zero_le _⟩) (fun v2 H locs e2 hP hD hS => ?_)
  refine lv_if_eq (tgt := 17) hx hb dc_X_dataMode_7 (by decide) (fun c3 => ?_) (fun c3 => ?_)
  · refine lv_aload_n hx hb dc_X_dataMode_17 rfl (lv_at hl 0 rfl) ?_
    refine gx_currentMode C hP dc_X_dataMode_18 (fun v4 e4 => ?_)
    exact ck_iret (v := v4) C hP hD hS ⟨by subst e2 e4; exact ((if_pos c3)).symm, rfl⟩ dc_X_dataMode_21
  · refine lv_aload_n hx hb dc_X_dataMode_10 rfl (lv_at hl 0 rfl) ?_
    refine ck_gpi (rest := []) C kt_X hP hD hS (ck_runV (q0 := 0) C kt_X hK (c_X_previousMachineMode l D tys h0 b1 b2 u   _) (cw_X_33 hT ⟨Nat.le_of_ble_eq_true rfl, Nat.le_of_ble_eq_true rfl⟩) rfl rfl hP hD hS rfl hl.1 rfl (Nat.le_of_ble_eq_true rfl) dc_X_dataMode_11 ⟨Nat.zero_le _, Nat.zero_le _⟩) (fun v6 H locs e6 hP hD hS => ?_)
    refine lv_goto (tgt := 21) hx hb dc_X_dataMode_14 (by decide) ?_
    exact ck_iret (v := v6) C hP hD hS ⟨by subst e2 e6; exact ((if_neg c3)).symm, rfl⟩ dc_X_dataMode_21
def f_X_isHere (u : cs_St) (p1 : Int32) : Int32 := (if p1 = 256 then 1 else (if p1 = 260 then 1 else (if p1 = 261 then 1 else (if p1 = 262 then 1 else (if p1 = 320 then 1 else (if p1 = 321 then 1 else (if p1 = 322 then 1 else (if p1 = 323 then 1 else (if p1 = 324 then 1 else (if p1 = 384 then 1 else (if p1 = 768 then 1 else (if p1 = 769 then 1 else (if p1 = 770 then 1 else (if p1 = 771 then 1 else (if p1 = 772 then 1 else (if p1 = 773 then 1 else (if p1 = 774 then 1 else (if p1 = 832 then 1 else (if p1 = 833 then 1 else (if p1 = 834 then 1 else (if p1 = 835 then 1 else (if p1 = 836 then 1 else (if p1 = 2816 then 1 else (if p1 = 2818 then 1 else (if p1 = 3072 then 1 else (if p1 = 3073 then 1 else (if p1 = 3074 then 1 else (if p1 = 3857 then 1 else (if p1 = 3858 then 1 else (if p1 = 3859 then 1 else (if p1 = 3860 then 1 else (if p1 = 3861 then 1 else 0))))))))))))))))))))))))))))))))
set_option maxHeartbeats 4000000 in
set_option maxRecDepth 100000 in
theorem c_X_isHere (l : Launch) (D : va_G) (tys : List (ClassId × FieldType)) (h0 b1 b2 : Nat) (u : cs_St) (p1 : Int32)  : ck_Mi l D tys (wx h0 b1 b2) yn_X_isHere w_X_isHere rm_X_isHere 0 0 [.int p1] u (f_X_isHere u p1) u := by
  refine ck_enti (cc := bc_X_isHere) (maxL := 1) (ret := (some .boolean)) (by decide) rfl (Nat.le_of_ble_eq_true rfl) ?_
  intro p e s m below meth c A ls C hnm hP hD hS hl
  have C : ck_C p s m meth c bc_X_isHere (some .boolean) 1 #[.int p1] "ControlDesk" A D tys := C
  have hl : lv_has ls 1 [(0, .int p1)] := hl
  have hx := C.1
  have hb := C.2.1
  have hown := C.2.2.2.2.1
  have hT := C.2.2.2.2.2.1
  have hK := C.2.2.2.2.2.2.2.1
  have hN := C.2.2.2.2.2.2.2.2.2.2.2.1
  -- from the entry
  refine lv_iload_n hx hb dc_X_isHere_0 rfl (lv_at hl 0 rfl) ?_
  by_cases c1 : p1 = 256
  · refine lv_lookup (tgt := 268) hx hb dc_X_isHere_1 (by decide +kernel) (off := 267) (by rw [c1]; decide +kernel) (by decide) ?_
    refine lv_iconst (v := 1) hx hb dc_X_isHere_268 (by decide) ?_
    exact ck_zret (v := 1) C hP hD hS rfl ⟨by exact ((if_pos c1)).symm, rfl⟩ dc_X_isHere_269
  by_cases c2 : p1 = 260
  · refine lv_lookup (tgt := 268) hx hb dc_X_isHere_1 (by decide +kernel) (off := 267) (by rw [c2]; decide +kernel) (by decide) ?_
    refine lv_iconst (v := 1) hx hb dc_X_isHere_268 (by decide) ?_
    exact ck_zret (v := 1) C hP hD hS rfl ⟨by exact ((if_neg c1).trans ((if_pos c2))).symm, rfl⟩ dc_X_isHere_269
  by_cases c3 : p1 = 261
  · refine lv_lookup (tgt := 268) hx hb dc_X_isHere_1 (by decide +kernel) (off := 267) (by rw [c3]; decide +kernel) (by decide) ?_
    refine lv_iconst (v := 1) hx hb dc_X_isHere_268 (by decide) ?_
    exact ck_zret (v := 1) C hP hD hS rfl ⟨by exact ((if_neg c1).trans ((if_neg c2).trans ((if_pos c3)))).symm, rfl⟩ dc_X_isHere_269
  by_cases c4 : p1 = 262
  · refine lv_lookup (tgt := 268) hx hb dc_X_isHere_1 (by decide +kernel) (off := 267) (by rw [c4]; decide +kernel) (by decide) ?_
    refine lv_iconst (v := 1) hx hb dc_X_isHere_268 (by decide) ?_
    exact ck_zret (v := 1) C hP hD hS rfl ⟨by exact ((if_neg c1).trans ((if_neg c2).trans ((if_neg c3).trans ((if_pos c4))))).symm, rfl⟩ dc_X_isHere_269
  by_cases c5 : p1 = 320
  · refine lv_lookup (tgt := 268) hx hb dc_X_isHere_1 (by decide +kernel) (off := 267) (by rw [c5]; decide +kernel) (by decide) ?_
    refine lv_iconst (v := 1) hx hb dc_X_isHere_268 (by decide) ?_
    exact ck_zret (v := 1) C hP hD hS rfl ⟨by exact ((if_neg c1).trans ((if_neg c2).trans ((if_neg c3).trans ((if_neg c4).trans ((if_pos c5)))))).symm, rfl⟩ dc_X_isHere_269
  by_cases c6 : p1 = 321
  · refine lv_lookup (tgt := 268) hx hb dc_X_isHere_1 (by decide +kernel) (off := 267) (by rw [c6]; decide +kernel) (by decide) ?_
    refine lv_iconst (v := 1) hx hb dc_X_isHere_268 (by decide) ?_
    exact ck_zret (v := 1) C hP hD hS rfl ⟨by exact ((if_neg c1).trans ((if_neg c2).trans ((if_neg c3).trans ((if_neg c4).trans ((if_neg c5).trans ((if_pos c6))))))).symm, rfl⟩ dc_X_isHere_269
  by_cases c7 : p1 = 322
  · refine lv_lookup (tgt := 268) hx hb dc_X_isHere_1 (by decide +kernel) (off := 267) (by rw [c7]; decide +kernel) (by decide) ?_
    refine lv_iconst (v := 1) hx hb dc_X_isHere_268 (by decide) ?_
    exact ck_zret (v := 1) C hP hD hS rfl ⟨by exact ((if_neg c1).trans ((if_neg c2).trans ((if_neg c3).trans ((if_neg c4).trans ((if_neg c5).trans ((if_neg c6).trans ((if_pos c7)))))))).symm, rfl⟩ dc_X_isHere_269
  by_cases c8 : p1 = 323
  · refine lv_lookup (tgt := 268) hx hb dc_X_isHere_1 (by decide +kernel) (off := 267) (by rw [c8]; decide +kernel) (by decide) ?_
    refine lv_iconst (v := 1) hx hb dc_X_isHere_268 (by decide) ?_
    exact ck_zret (v := 1) C hP hD hS rfl ⟨by exact ((if_neg c1).trans ((if_neg c2).trans ((if_neg c3).trans ((if_neg c4).trans ((if_neg c5).trans ((if_neg c6).trans ((if_neg c7).trans ((if_pos c8))))))))).symm, rfl⟩ dc_X_isHere_269
  by_cases c9 : p1 = 324
  · refine lv_lookup (tgt := 268) hx hb dc_X_isHere_1 (by decide +kernel) (off := 267) (by rw [c9]; decide +kernel) (by decide) ?_
    refine lv_iconst (v := 1) hx hb dc_X_isHere_268 (by decide) ?_
    exact ck_zret (v := 1) C hP hD hS rfl ⟨by exact ((if_neg c1).trans ((if_neg c2).trans ((if_neg c3).trans ((if_neg c4).trans ((if_neg c5).trans ((if_neg c6).trans ((if_neg c7).trans ((if_neg c8).trans ((if_pos c9)))))))))).symm, rfl⟩ dc_X_isHere_269
  by_cases c10 : p1 = 384
  · refine lv_lookup (tgt := 268) hx hb dc_X_isHere_1 (by decide +kernel) (off := 267) (by rw [c10]; decide +kernel) (by decide) ?_
    refine lv_iconst (v := 1) hx hb dc_X_isHere_268 (by decide) ?_
    exact ck_zret (v := 1) C hP hD hS rfl ⟨by exact ((if_neg c1).trans ((if_neg c2).trans ((if_neg c3).trans ((if_neg c4).trans ((if_neg c5).trans ((if_neg c6).trans ((if_neg c7).trans ((if_neg c8).trans ((if_neg c9).trans ((if_pos c10))))))))))).symm, rfl⟩ dc_X_isHere_269
  by_cases c11 : p1 = 768
  · refine lv_lookup (tgt := 268) hx hb dc_X_isHere_1 (by decide +kernel) (off := 267) (by rw [c11]; decide +kernel) (by decide) ?_
    refine lv_iconst (v := 1) hx hb dc_X_isHere_268 (by decide) ?_
    exact ck_zret (v := 1) C hP hD hS rfl ⟨by exact ((if_neg c1).trans ((if_neg c2).trans ((if_neg c3).trans ((if_neg c4).trans ((if_neg c5).trans ((if_neg c6).trans ((if_neg c7).trans ((if_neg c8).trans ((if_neg c9).trans ((if_neg c10).trans ((if_pos c11)))))))))))).symm, rfl⟩ dc_X_isHere_269
  by_cases c12 : p1 = 769
  · refine lv_lookup (tgt := 268) hx hb dc_X_isHere_1 (by decide +kernel) (off := 267) (by rw [c12]; decide +kernel) (by decide) ?_
    refine lv_iconst (v := 1) hx hb dc_X_isHere_268 (by decide) ?_
    exact ck_zret (v := 1) C hP hD hS rfl ⟨by exact ((if_neg c1).trans ((if_neg c2).trans ((if_neg c3).trans ((if_neg c4).trans ((if_neg c5).trans ((if_neg c6).trans ((if_neg c7).trans ((if_neg c8).trans ((if_neg c9).trans ((if_neg c10).trans ((if_neg c11).trans ((if_pos c12))))))))))))).symm, rfl⟩ dc_X_isHere_269
  by_cases c13 : p1 = 770
  · refine lv_lookup (tgt := 268) hx hb dc_X_isHere_1 (by decide +kernel) (off := 267) (by rw [c13]; decide +kernel) (by decide) ?_
    refine lv_iconst (v := 1) hx hb dc_X_isHere_268 (by decide) ?_
    exact ck_zret (v := 1) C hP hD hS rfl ⟨by exact ((if_neg c1).trans ((if_neg c2).trans ((if_neg c3).trans ((if_neg c4).trans ((if_neg c5).trans ((if_neg c6).trans ((if_neg c7).trans ((if_neg c8).trans ((if_neg c9).trans ((if_neg c10).trans ((if_neg c11).trans ((if_neg c12).trans ((if_pos c13)))))))))))))).symm, rfl⟩ dc_X_isHere_269
  by_cases c14 : p1 = 771
  · refine lv_lookup (tgt := 268) hx hb dc_X_isHere_1 (by decide +kernel) (off := 267) (by rw [c14]; decide +kernel) (by decide) ?_
    refine lv_iconst (v := 1) hx hb dc_X_isHere_268 (by decide) ?_
    exact ck_zret (v := 1) C hP hD hS rfl ⟨by exact ((if_neg c1).trans ((if_neg c2).trans ((if_neg c3).trans ((if_neg c4).trans ((if_neg c5).trans ((if_neg c6).trans ((if_neg c7).trans ((if_neg c8).trans ((if_neg c9).trans ((if_neg c10).trans ((if_neg c11).trans ((if_neg c12).trans ((if_neg c13).trans ((if_pos c14))))))))))))))).symm, rfl⟩ dc_X_isHere_269
  by_cases c15 : p1 = 772
  · refine lv_lookup (tgt := 268) hx hb dc_X_isHere_1 (by decide +kernel) (off := 267) (by rw [c15]; decide +kernel) (by decide) ?_
    refine lv_iconst (v := 1) hx hb dc_X_isHere_268 (by decide) ?_
    exact ck_zret (v := 1) C hP hD hS rfl ⟨by exact ((if_neg c1).trans ((if_neg c2).trans ((if_neg c3).trans ((if_neg c4).trans ((if_neg c5).trans ((if_neg c6).trans ((if_neg c7).trans ((if_neg c8).trans ((if_neg c9).trans ((if_neg c10).trans ((if_neg c11).trans ((if_neg c12).trans ((if_neg c13).trans ((if_neg c14).trans ((if_pos c15)))))))))))))))).symm, rfl⟩ dc_X_isHere_269
  by_cases c16 : p1 = 773
  · refine lv_lookup (tgt := 268) hx hb dc_X_isHere_1 (by decide +kernel) (off := 267) (by rw [c16]; decide +kernel) (by decide) ?_
    refine lv_iconst (v := 1) hx hb dc_X_isHere_268 (by decide) ?_
    exact ck_zret (v := 1) C hP hD hS rfl ⟨by exact ((if_neg c1).trans ((if_neg c2).trans ((if_neg c3).trans ((if_neg c4).trans ((if_neg c5).trans ((if_neg c6).trans ((if_neg c7).trans ((if_neg c8).trans ((if_neg c9).trans ((if_neg c10).trans ((if_neg c11).trans ((if_neg c12).trans ((if_neg c13).trans ((if_neg c14).trans ((if_neg c15).trans ((if_pos c16))))))))))))))))).symm, rfl⟩ dc_X_isHere_269
  by_cases c17 : p1 = 774
  · refine lv_lookup (tgt := 268) hx hb dc_X_isHere_1 (by decide +kernel) (off := 267) (by rw [c17]; decide +kernel) (by decide) ?_
    refine lv_iconst (v := 1) hx hb dc_X_isHere_268 (by decide) ?_
    exact ck_zret (v := 1) C hP hD hS rfl ⟨by exact ((if_neg c1).trans ((if_neg c2).trans ((if_neg c3).trans ((if_neg c4).trans ((if_neg c5).trans ((if_neg c6).trans ((if_neg c7).trans ((if_neg c8).trans ((if_neg c9).trans ((if_neg c10).trans ((if_neg c11).trans ((if_neg c12).trans ((if_neg c13).trans ((if_neg c14).trans ((if_neg c15).trans ((if_neg c16).trans ((if_pos c17)))))))))))))))))).symm, rfl⟩ dc_X_isHere_269
  by_cases c18 : p1 = 832
  · refine lv_lookup (tgt := 268) hx hb dc_X_isHere_1 (by decide +kernel) (off := 267) (by rw [c18]; decide +kernel) (by decide) ?_
    refine lv_iconst (v := 1) hx hb dc_X_isHere_268 (by decide) ?_
    exact ck_zret (v := 1) C hP hD hS rfl ⟨by exact ((if_neg c1).trans ((if_neg c2).trans ((if_neg c3).trans ((if_neg c4).trans ((if_neg c5).trans ((if_neg c6).trans ((if_neg c7).trans ((if_neg c8).trans ((if_neg c9).trans ((if_neg c10).trans ((if_neg c11).trans ((if_neg c12).trans ((if_neg c13).trans ((if_neg c14).trans ((if_neg c15).trans ((if_neg c16).trans ((if_neg c17).trans ((if_pos c18))))))))))))))))))).symm, rfl⟩ dc_X_isHere_269
  by_cases c19 : p1 = 833
  · refine lv_lookup (tgt := 268) hx hb dc_X_isHere_1 (by decide +kernel) (off := 267) (by rw [c19]; decide +kernel) (by decide) ?_
    refine lv_iconst (v := 1) hx hb dc_X_isHere_268 (by decide) ?_
    exact ck_zret (v := 1) C hP hD hS rfl ⟨by exact ((if_neg c1).trans ((if_neg c2).trans ((if_neg c3).trans ((if_neg c4).trans ((if_neg c5).trans ((if_neg c6).trans ((if_neg c7).trans ((if_neg c8).trans ((if_neg c9).trans ((if_neg c10).trans ((if_neg c11).trans ((if_neg c12).trans ((if_neg c13).trans ((if_neg c14).trans ((if_neg c15).trans ((if_neg c16).trans ((if_neg c17).trans ((if_neg c18).trans ((if_pos c19)))))))))))))))))))).symm, rfl⟩ dc_X_isHere_269
  by_cases c20 : p1 = 834
  · refine lv_lookup (tgt := 268) hx hb dc_X_isHere_1 (by decide +kernel) (off := 267) (by rw [c20]; decide +kernel) (by decide) ?_
    refine lv_iconst (v := 1) hx hb dc_X_isHere_268 (by decide) ?_
    exact ck_zret (v := 1) C hP hD hS rfl ⟨by exact ((if_neg c1).trans ((if_neg c2).trans ((if_neg c3).trans ((if_neg c4).trans ((if_neg c5).trans ((if_neg c6).trans ((if_neg c7).trans ((if_neg c8).trans ((if_neg c9).trans ((if_neg c10).trans ((if_neg c11).trans ((if_neg c12).trans ((if_neg c13).trans ((if_neg c14).trans ((if_neg c15).trans ((if_neg c16).trans ((if_neg c17).trans ((if_neg c18).trans ((if_neg c19).trans ((if_pos c20))))))))))))))))))))).symm, rfl⟩ dc_X_isHere_269
  by_cases c21 : p1 = 835
  · refine lv_lookup (tgt := 268) hx hb dc_X_isHere_1 (by decide +kernel) (off := 267) (by rw [c21]; decide +kernel) (by decide) ?_
    refine lv_iconst (v := 1) hx hb dc_X_isHere_268 (by decide) ?_
    exact ck_zret (v := 1) C hP hD hS rfl ⟨by exact ((if_neg c1).trans ((if_neg c2).trans ((if_neg c3).trans ((if_neg c4).trans ((if_neg c5).trans ((if_neg c6).trans ((if_neg c7).trans ((if_neg c8).trans ((if_neg c9).trans ((if_neg c10).trans ((if_neg c11).trans ((if_neg c12).trans ((if_neg c13).trans ((if_neg c14).trans ((if_neg c15).trans ((if_neg c16).trans ((if_neg c17).trans ((if_neg c18).trans ((if_neg c19).trans ((if_neg c20).trans ((if_pos c21)))))))))))))))))))))).symm, rfl⟩ dc_X_isHere_269
  by_cases c22 : p1 = 836
  · refine lv_lookup (tgt := 268) hx hb dc_X_isHere_1 (by decide +kernel) (off := 267) (by rw [c22]; decide +kernel) (by decide) ?_
    refine lv_iconst (v := 1) hx hb dc_X_isHere_268 (by decide) ?_
    exact ck_zret (v := 1) C hP hD hS rfl ⟨by exact ((if_neg c1).trans ((if_neg c2).trans ((if_neg c3).trans ((if_neg c4).trans ((if_neg c5).trans ((if_neg c6).trans ((if_neg c7).trans ((if_neg c8).trans ((if_neg c9).trans ((if_neg c10).trans ((if_neg c11).trans ((if_neg c12).trans ((if_neg c13).trans ((if_neg c14).trans ((if_neg c15).trans ((if_neg c16).trans ((if_neg c17).trans ((if_neg c18).trans ((if_neg c19).trans ((if_neg c20).trans ((if_neg c21).trans ((if_pos c22))))))))))))))))))))))).symm, rfl⟩ dc_X_isHere_269
  by_cases c23 : p1 = 2816
  · refine lv_lookup (tgt := 268) hx hb dc_X_isHere_1 (by decide +kernel) (off := 267) (by rw [c23]; decide +kernel) (by decide) ?_
    refine lv_iconst (v := 1) hx hb dc_X_isHere_268 (by decide) ?_
    exact ck_zret (v := 1) C hP hD hS rfl ⟨by exact ((if_neg c1).trans ((if_neg c2).trans ((if_neg c3).trans ((if_neg c4).trans ((if_neg c5).trans ((if_neg c6).trans ((if_neg c7).trans ((if_neg c8).trans ((if_neg c9).trans ((if_neg c10).trans ((if_neg c11).trans ((if_neg c12).trans ((if_neg c13).trans ((if_neg c14).trans ((if_neg c15).trans ((if_neg c16).trans ((if_neg c17).trans ((if_neg c18).trans ((if_neg c19).trans ((if_neg c20).trans ((if_neg c21).trans ((if_neg c22).trans ((if_pos c23)))))))))))))))))))))))).symm, rfl⟩ dc_X_isHere_269
  by_cases c24 : p1 = 2818
  · refine lv_lookup (tgt := 268) hx hb dc_X_isHere_1 (by decide +kernel) (off := 267) (by rw [c24]; decide +kernel) (by decide) ?_
    refine lv_iconst (v := 1) hx hb dc_X_isHere_268 (by decide) ?_
    exact ck_zret (v := 1) C hP hD hS rfl ⟨by exact ((if_neg c1).trans ((if_neg c2).trans ((if_neg c3).trans ((if_neg c4).trans ((if_neg c5).trans ((if_neg c6).trans ((if_neg c7).trans ((if_neg c8).trans ((if_neg c9).trans ((if_neg c10).trans ((if_neg c11).trans ((if_neg c12).trans ((if_neg c13).trans ((if_neg c14).trans ((if_neg c15).trans ((if_neg c16).trans ((if_neg c17).trans ((if_neg c18).trans ((if_neg c19).trans ((if_neg c20).trans ((if_neg c21).trans ((if_neg c22).trans ((if_neg c23).trans ((if_pos c24))))))))))))))))))))))))).symm, rfl⟩ dc_X_isHere_269
  by_cases c25 : p1 = 3072
  · refine lv_lookup (tgt := 268) hx hb dc_X_isHere_1 (by decide +kernel) (off := 267) (by rw [c25]; decide +kernel) (by decide) ?_
    refine lv_iconst (v := 1) hx hb dc_X_isHere_268 (by decide) ?_
    exact ck_zret (v := 1) C hP hD hS rfl ⟨by exact ((if_neg c1).trans ((if_neg c2).trans ((if_neg c3).trans ((if_neg c4).trans ((if_neg c5).trans ((if_neg c6).trans ((if_neg c7).trans ((if_neg c8).trans ((if_neg c9).trans ((if_neg c10).trans ((if_neg c11).trans ((if_neg c12).trans ((if_neg c13).trans ((if_neg c14).trans ((if_neg c15).trans ((if_neg c16).trans ((if_neg c17).trans ((if_neg c18).trans ((if_neg c19).trans ((if_neg c20).trans ((if_neg c21).trans ((if_neg c22).trans ((if_neg c23).trans ((if_neg c24).trans ((if_pos c25)))))))))))))))))))))))))).symm, rfl⟩ dc_X_isHere_269
  by_cases c26 : p1 = 3073
  · refine lv_lookup (tgt := 268) hx hb dc_X_isHere_1 (by decide +kernel) (off := 267) (by rw [c26]; decide +kernel) (by decide) ?_
    refine lv_iconst (v := 1) hx hb dc_X_isHere_268 (by decide) ?_
    exact ck_zret (v := 1) C hP hD hS rfl ⟨by exact ((if_neg c1).trans ((if_neg c2).trans ((if_neg c3).trans ((if_neg c4).trans ((if_neg c5).trans ((if_neg c6).trans ((if_neg c7).trans ((if_neg c8).trans ((if_neg c9).trans ((if_neg c10).trans ((if_neg c11).trans ((if_neg c12).trans ((if_neg c13).trans ((if_neg c14).trans ((if_neg c15).trans ((if_neg c16).trans ((if_neg c17).trans ((if_neg c18).trans ((if_neg c19).trans ((if_neg c20).trans ((if_neg c21).trans ((if_neg c22).trans ((if_neg c23).trans ((if_neg c24).trans ((if_neg c25).trans ((if_pos c26))))))))))))))))))))))))))).symm, rfl⟩ dc_X_isHere_269
  by_cases c27 : p1 = 3074
  · refine lv_lookup (tgt := 268) hx hb dc_X_isHere_1 (by decide +kernel) (off := 267) (by rw [c27]; decide +kernel) (by decide) ?_
    refine lv_iconst (v := 1) hx hb dc_X_isHere_268 (by decide) ?_
    exact ck_zret (v := 1) C hP hD hS rfl ⟨by exact ((if_neg c1).trans ((if_neg c2).trans ((if_neg c3).trans ((if_neg c4).trans ((if_neg c5).trans ((if_neg c6).trans ((if_neg c7).trans ((if_neg c8).trans ((if_neg c9).trans ((if_neg c10).trans ((if_neg c11).trans ((if_neg c12).trans ((if_neg c13).trans ((if_neg c14).trans ((if_neg c15).trans ((if_neg c16).trans ((if_neg c17).trans ((if_neg c18).trans ((if_neg c19).trans ((if_neg c20).trans ((if_neg c21).trans ((if_neg c22).trans ((if_neg c23).trans ((if_neg c24).trans ((if_neg c25).trans ((if_neg c26).trans ((if_pos c27)))))))))))))))))))))))))))).symm, rfl⟩ dc_X_isHere_269
  by_cases c28 : p1 = 3857
  · refine lv_lookup (tgt := 268) hx hb dc_X_isHere_1 (by decide +kernel) (off := 267) (by rw [c28]; decide +kernel) (by decide) ?_
    refine lv_iconst (v := 1) hx hb dc_X_isHere_268 (by decide) ?_
    exact ck_zret (v := 1) C hP hD hS rfl ⟨by exact ((if_neg c1).trans ((if_neg c2).trans ((if_neg c3).trans ((if_neg c4).trans ((if_neg c5).trans ((if_neg c6).trans ((if_neg c7).trans ((if_neg c8).trans ((if_neg c9).trans ((if_neg c10).trans ((if_neg c11).trans ((if_neg c12).trans ((if_neg c13).trans ((if_neg c14).trans ((if_neg c15).trans ((if_neg c16).trans ((if_neg c17).trans ((if_neg c18).trans ((if_neg c19).trans ((if_neg c20).trans ((if_neg c21).trans ((if_neg c22).trans ((if_neg c23).trans ((if_neg c24).trans ((if_neg c25).trans ((if_neg c26).trans ((if_neg c27).trans ((if_pos c28))))))))))))))))))))))))))))).symm, rfl⟩ dc_X_isHere_269
  by_cases c29 : p1 = 3858
  · refine lv_lookup (tgt := 268) hx hb dc_X_isHere_1 (by decide +kernel) (off := 267) (by rw [c29]; decide +kernel) (by decide) ?_
    refine lv_iconst (v := 1) hx hb dc_X_isHere_268 (by decide) ?_
    exact ck_zret (v := 1) C hP hD hS rfl ⟨by exact ((if_neg c1).trans ((if_neg c2).trans ((if_neg c3).trans ((if_neg c4).trans ((if_neg c5).trans ((if_neg c6).trans ((if_neg c7).trans ((if_neg c8).trans ((if_neg c9).trans ((if_neg c10).trans ((if_neg c11).trans ((if_neg c12).trans ((if_neg c13).trans ((if_neg c14).trans ((if_neg c15).trans ((if_neg c16).trans ((if_neg c17).trans ((if_neg c18).trans ((if_neg c19).trans ((if_neg c20).trans ((if_neg c21).trans ((if_neg c22).trans ((if_neg c23).trans ((if_neg c24).trans ((if_neg c25).trans ((if_neg c26).trans ((if_neg c27).trans ((if_neg c28).trans ((if_pos c29)))))))))))))))))))))))))))))).symm, rfl⟩ dc_X_isHere_269
  by_cases c30 : p1 = 3859
  · refine lv_lookup (tgt := 268) hx hb dc_X_isHere_1 (by decide +kernel) (off := 267) (by rw [c30]; decide +kernel) (by decide) ?_
    refine lv_iconst (v := 1) hx hb dc_X_isHere_268 (by decide) ?_
    exact ck_zret (v := 1) C hP hD hS rfl ⟨by exact ((if_neg c1).trans ((if_neg c2).trans ((if_neg c3).trans ((if_neg c4).trans ((if_neg c5).trans ((if_neg c6).trans ((if_neg c7).trans ((if_neg c8).trans ((if_neg c9).trans ((if_neg c10).trans ((if_neg c11).trans ((if_neg c12).trans ((if_neg c13).trans ((if_neg c14).trans ((if_neg c15).trans ((if_neg c16).trans ((if_neg c17).trans ((if_neg c18).trans ((if_neg c19).trans ((if_neg c20).trans ((if_neg c21).trans ((if_neg c22).trans ((if_neg c23).trans ((if_neg c24).trans ((if_neg c25).trans ((if_neg c26).trans ((if_neg c27).trans ((if_neg c28).trans ((if_neg c29).trans ((if_pos c30))))))))))))))))))))))))))))))).symm, rfl⟩ dc_X_isHere_269
  by_cases c31 : p1 = 3860
  · refine lv_lookup (tgt := 268) hx hb dc_X_isHere_1 (by decide +kernel) (off := 267) (by rw [c31]; decide +kernel) (by decide) ?_
    refine lv_iconst (v := 1) hx hb dc_X_isHere_268 (by decide) ?_
    exact ck_zret (v := 1) C hP hD hS rfl ⟨by exact ((if_neg c1).trans ((if_neg c2).trans ((if_neg c3).trans ((if_neg c4).trans ((if_neg c5).trans ((if_neg c6).trans ((if_neg c7).trans ((if_neg c8).trans ((if_neg c9).trans ((if_neg c10).trans ((if_neg c11).trans ((if_neg c12).trans ((if_neg c13).trans ((if_neg c14).trans ((if_neg c15).trans ((if_neg c16).trans ((if_neg c17).trans ((if_neg c18).trans ((if_neg c19).trans ((if_neg c20).trans ((if_neg c21).trans ((if_neg c22).trans ((if_neg c23).trans ((if_neg c24).trans ((if_neg c25).trans ((if_neg c26).trans ((if_neg c27).trans ((if_neg c28).trans ((if_neg c29).trans ((if_neg c30).trans ((if_pos c31)))))))))))))))))))))))))))))))).symm, rfl⟩ dc_X_isHere_269
  by_cases c32 : p1 = 3861
  · refine lv_lookup (tgt := 268) hx hb dc_X_isHere_1 (by decide +kernel) (off := 267) (by rw [c32]; decide +kernel) (by decide) ?_
    refine lv_iconst (v := 1) hx hb dc_X_isHere_268 (by decide) ?_
    exact ck_zret (v := 1) C hP hD hS rfl ⟨by exact ((if_neg c1).trans ((if_neg c2).trans ((if_neg c3).trans ((if_neg c4).trans ((if_neg c5).trans ((if_neg c6).trans ((if_neg c7).trans ((if_neg c8).trans ((if_neg c9).trans ((if_neg c10).trans ((if_neg c11).trans ((if_neg c12).trans ((if_neg c13).trans ((if_neg c14).trans ((if_neg c15).trans ((if_neg c16).trans ((if_neg c17).trans ((if_neg c18).trans ((if_neg c19).trans ((if_neg c20).trans ((if_neg c21).trans ((if_neg c22).trans ((if_neg c23).trans ((if_neg c24).trans ((if_neg c25).trans ((if_neg c26).trans ((if_neg c27).trans ((if_neg c28).trans ((if_neg c29).trans ((if_neg c30).trans ((if_neg c31).trans ((if_pos c32))))))))))))))))))))))))))))))))).symm, rfl⟩ dc_X_isHere_269
  refine lv_lookup (tgt := 270) hx hb dc_X_isHere_1 (by decide +kernel) (off := 269) ((lv_osw (a := 256) c1 (by decide)).trans ((lv_osw (a := 260) c2 (by decide)).trans ((lv_osw (a := 261) c3 (by decide)).trans ((lv_osw (a := 262) c4 (by decide)).trans ((lv_osw (a := 320) c5 (by decide)).trans ((lv_osw (a := 321) c6 (by decide)).trans ((lv_osw (a := 322) c7 (by decide)).trans ((lv_osw (a := 323) c8 (by decide)).trans ((lv_osw (a := 324) c9 (by decide)).trans ((lv_osw (a := 384) c10 (by decide)).trans ((lv_osw (a := 768) c11 (by decide)).trans ((lv_osw (a := 769) c12 (by decide)).trans ((lv_osw (a := 770) c13 (by decide)).trans ((lv_osw (a := 771) c14 (by decide)).trans ((lv_osw (a := 772) c15 (by decide)).trans ((lv_osw (a := 773) c16 (by decide)).trans ((lv_osw (a := 774) c17 (by decide)).trans ((lv_osw (a := 832) c18 (by decide)).trans ((lv_osw (a := 833) c19 (by decide)).trans ((lv_osw (a := 834) c20 (by decide)).trans ((lv_osw (a := 835) c21 (by decide)).trans ((lv_osw (a := 836) c22 (by decide)).trans ((lv_osw (a := 2816) c23 (by decide)).trans ((lv_osw (a := 2818) c24 (by decide)).trans ((lv_osw (a := 3072) c25 (by decide)).trans ((lv_osw (a := 3073) c26 (by decide)).trans ((lv_osw (a := 3074) c27 (by decide)).trans ((lv_osw (a := 3857) c28 (by decide)).trans ((lv_osw (a := 3858) c29 (by decide)).trans ((lv_osw (a := 3859) c30 (by decide)).trans ((lv_osw (a := 3860) c31 (by decide)).trans ((lv_osw (a := 3861) c32 (by decide)).trans (rfl))))))))))))))))))))))))))))))))) (by decide) ?_
  refine lv_iconst (v := 0) hx hb dc_X_isHere_270 (by decide) ?_
  exact ck_zret (v := 0) C hP hD hS rfl ⟨by exact ((if_neg c1).trans ((if_neg c2).trans ((if_neg c3).trans ((if_neg c4).trans ((if_neg c5).trans ((if_neg c6).trans ((if_neg c7).trans ((if_neg c8).trans ((if_neg c9).trans ((if_neg c10).trans ((if_neg c11).trans ((if_neg c12).trans ((if_neg c13).trans ((if_neg c14).trans ((if_neg c15).trans ((if_neg c16).trans ((if_neg c17).trans ((if_neg c18).trans ((if_neg c19).trans ((if_neg c20).trans ((if_neg c21).trans ((if_neg c22).trans ((if_neg c23).trans ((if_neg c24).trans ((if_neg c25).trans ((if_neg c26).trans ((if_neg c27).trans ((if_neg c28).trans ((if_neg c29).trans ((if_neg c30).trans ((if_neg c31).trans ((if_neg c32))))))))))))))))))))))))))))))))).symm, rfl⟩ dc_X_isHere_271
def f_X_isFloat (u : cs_St) (p1 : Int32) : Int32 := (if p1 < 1 then 0 else (if 3 < p1 then 0 else 1))
set_option maxHeartbeats 4000000 in
set_option maxRecDepth 100000 in
theorem c_X_isFloat (l : Launch) (D : va_G) (tys : List (ClassId × FieldType)) (h0 b1 b2 : Nat) (u : cs_St) (p1 : Int32)  : ck_Mi l D tys (wx h0 b1 b2) yn_X_isFloat w_X_isFloat rm_X_isFloat 0 0 [.int p1] u (f_X_isFloat u p1) u := by
  refine ck_enti (cc := bc_X_isFloat) (maxL := 1) (ret := (some .boolean)) (by decide) rfl (Nat.le_of_ble_eq_true rfl) ?_
  intro p e s m below meth c A ls C hnm hP hD hS hl
  have C : ck_C p s m meth c bc_X_isFloat (some .boolean) 1 #[.int p1] "ControlDesk" A D tys := C
  have hl : lv_has ls 1 [(0, .int p1)] := hl
  have hx := C.1
  have hb := C.2.1
  have hown := C.2.2.2.2.1
  have hT := C.2.2.2.2.2.1
  have hK := C.2.2.2.2.2.2.2.1
  have hN := C.2.2.2.2.2.2.2.2.2.2.2.1
  -- from the entry
  refine lv_iload_n hx hb dc_X_isFloat_0 rfl (lv_at hl 0 rfl) ?_
  refine lv_iconst (v := 1) hx hb dc_X_isFloat_1 (by decide) ?_
  refine lv_icmp_lt (tgt := 14) hx hb dc_X_isFloat_2 (by decide) (fun c1 => ?_) (fun c1 => ?_)
  · refine lv_iconst (v := 0) hx hb dc_X_isFloat_14 (by decide) ?_
    exact ck_zret (v := 0) C hP hD hS rfl ⟨by exact ((if_pos c1)).symm, rfl⟩ dc_X_isFloat_15
  · refine lv_iload_n hx hb dc_X_isFloat_5 rfl (lv_at hl 0 rfl) ?_
    refine lv_iconst (v := 3) hx hb dc_X_isFloat_6 (by decide) ?_
    refine lv_icmp_gt (tgt := 14) hx hb dc_X_isFloat_7 (by decide) (fun c2 => ?_) (fun c2 => ?_)
    · refine lv_iconst (v := 0) hx hb dc_X_isFloat_14 (by decide) ?_
      exact ck_zret (v := 0) C hP hD hS rfl ⟨by exact ((if_neg c1).trans ((if_pos c2))).symm, rfl⟩ dc_X_isFloat_15
    · refine lv_iconst (v := 1) hx hb dc_X_isFloat_10 (by decide) ?_
      refine lv_goto (tgt := 15) hx hb dc_X_isFloat_11 (by decide) ?_
      exact ck_zret (v := 1) C hP hD hS rfl ⟨by exact ((if_neg c1).trans ((if_neg c2))).symm, rfl⟩ dc_X_isFloat_15
def f_X_isElsewhere (u : cs_St) (p1 : Int32) : Int32 := (let v2 : Int32 := f_X_isFloat u p1; (if v2 = 0 then (if p1 = 928 then 1 else (if p1 = 930 then 1 else (if p1 < 944 then 0 else (if 959 < p1 then 0 else 1)))) else 1))
set_option maxHeartbeats 4000000 in
set_option maxRecDepth 100000 in
theorem c_X_isElsewhere (l : Launch) (D : va_G) (tys : List (ClassId × FieldType)) (h0 b1 b2 : Nat) (u : cs_St) (p1 : Int32)  : ck_Mi l D tys (wx h0 b1 b2) yn_X_isElsewhere w_X_isElsewhere rm_X_isElsewhere 0 0 [.int p1] u (f_X_isElsewhere u p1) u := by
  refine ck_enti (cc := bc_X_isElsewhere) (maxL := 1) (ret := (some .boolean)) (by decide) rfl (Nat.le_of_ble_eq_true rfl) ?_
  intro p e s m below meth c A ls C hnm hP hD hS hl
  have C : ck_C p s m meth c bc_X_isElsewhere (some .boolean) 1 #[.int p1] "ControlDesk" A D tys := C
  have hl : lv_has ls 1 [(0, .int p1)] := hl
  have hx := C.1
  have hb := C.2.1
  have hown := C.2.2.2.2.1
  have hT := C.2.2.2.2.2.1
  have hK := C.2.2.2.2.2.2.2.1
  have hN := C.2.2.2.2.2.2.2.2.2.2.2.1
  -- from the entry
  refine lv_iload_n hx hb dc_X_isElsewhere_0 rfl (lv_at hl 0 rfl) ?_
  refine ck_gpi (rest := []) C kt_X hP hD hS (ck_runS C kt_X hK (c_X_isFloat l D tys h0 b1 b2 u p1  _) (cw_X_54 hT ⟨Nat.le_of_ble_eq_true rfl, Nat.le_of_ble_eq_true rfl⟩) hP hD hS rfl hl.1 rfl (Nat.le_of_ble_eq_true rfl) dc_X_isElsewhere_1 ⟨Nat.zero_le _, Nat.zero_le _⟩) (fun v2 H locs e2 hP hD hS => ?_)
  refine lv_if_ne (tgt := 35) hx hb dc_X_isElsewhere_4 (by decide) (fun c3 => ?_) (fun c3 => ?_)
  · refine lv_iconst (v := 1) hx hb dc_X_isElsewhere_35 (by decide) ?_
    refine lv_goto (tgt := 40) hx hb dc_X_isElsewhere_36 (by decide) ?_
    exact ck_zret (v := 1) C hP hD hS rfl ⟨by subst e2; exact ((if_neg c3)).symm, rfl⟩ dc_X_isElsewhere_40
  · refine lv_iload_n hx hb dc_X_isElsewhere_7 rfl (lv_at hl 0 rfl) ?_
    refine lv_sipush (v := 928) hx hb dc_X_isElsewhere_8 (by decide) ?_
    refine lv_icmp_eq (tgt := 35) hx hb dc_X_isElsewhere_11 (by decide) (fun c4 => ?_) (fun c4 => ?_)
    · refine lv_iconst (v := 1) hx hb dc_X_isElsewhere_35 (by decide) ?_
      refine lv_goto (tgt := 40) hx hb dc_X_isElsewhere_36 (by decide) ?_
      exact ck_zret (v := 1) C hP hD hS rfl ⟨by subst e2; exact ((if_pos c3).trans ((if_pos c4))).symm, rfl⟩ dc_X_isElsewhere_40
    · refine lv_iload_n hx hb dc_X_isElsewhere_14 rfl (lv_at hl 0 rfl) ?_
      refine lv_sipush (v := 930) hx hb dc_X_isElsewhere_15 (by decide) ?_
      refine lv_icmp_eq (tgt := 35) hx hb dc_X_isElsewhere_18 (by decide) (fun c5 => ?_) (fun c5 => ?_)
      · refine lv_iconst (v := 1) hx hb dc_X_isElsewhere_35 (by decide) ?_
        refine lv_goto (tgt := 40) hx hb dc_X_isElsewhere_36 (by decide) ?_
        exact ck_zret (v := 1) C hP hD hS rfl ⟨by subst e2; exact ((if_pos c3).trans ((if_neg c4).trans ((if_pos c5)))).symm, rfl⟩ dc_X_isElsewhere_40
      · refine lv_iload_n hx hb dc_X_isElsewhere_21 rfl (lv_at hl 0 rfl) ?_
        refine lv_sipush (v := 944) hx hb dc_X_isElsewhere_22 (by decide) ?_
        refine lv_icmp_lt (tgt := 39) hx hb dc_X_isElsewhere_25 (by decide) (fun c6 => ?_) (fun c6 => ?_)
        · refine lv_iconst (v := 0) hx hb dc_X_isElsewhere_39 (by decide) ?_
          exact ck_zret (v := 0) C hP hD hS rfl ⟨by subst e2; exact ((if_pos c3).trans ((if_neg c4).trans ((if_neg c5).trans ((if_pos c6))))).symm, rfl⟩ dc_X_isElsewhere_40
        · refine lv_iload_n hx hb dc_X_isElsewhere_28 rfl (lv_at hl 0 rfl) ?_
          refine lv_sipush (v := 959) hx hb dc_X_isElsewhere_29 (by decide) ?_
          refine lv_icmp_gt (tgt := 39) hx hb dc_X_isElsewhere_32 (by decide) (fun c7 => ?_) (fun c7 => ?_)
          · refine lv_iconst (v := 0) hx hb dc_X_isElsewhere_39 (by decide) ?_
            exact ck_zret (v := 0) C hP hD hS rfl ⟨by subst e2; exact ((if_pos c3).trans ((if_neg c4).trans ((if_neg c5).trans ((if_neg c6).trans ((if_pos c7)))))).symm, rfl⟩ dc_X_isElsewhere_40
          · refine lv_iconst (v := 1) hx hb dc_X_isElsewhere_35 (by decide) ?_
            refine lv_goto (tgt := 40) hx hb dc_X_isElsewhere_36 (by decide) ?_
            exact ck_zret (v := 1) C hP hD hS rfl ⟨by subst e2; exact ((if_pos c3).trans ((if_neg c4).trans ((if_neg c5).trans ((if_neg c6).trans ((if_neg c7)))))).symm, rfl⟩ dc_X_isElsewhere_40
def f_X_isOpenCount (u : cs_St) (p1 : Int32) : Int32 := (if p1 < 3072 then 0 else (if 3074 < p1 then 0 else 1))
set_option maxHeartbeats 4000000 in
set_option maxRecDepth 100000 in
theorem c_X_isOpenCount (l : Launch) (D : va_G) (tys : List (ClassId × FieldType)) (h0 b1 b2 : Nat) (u : cs_St) (p1 : Int32)  : ck_Mi l D tys (wx h0 b1 b2) yn_X_isOpenCount w_X_isOpenCount rm_X_isOpenCount 0 0 [.int p1] u (f_X_isOpenCount u p1) u := by
  refine ck_enti (cc := bc_X_isOpenCount) (maxL := 1) (ret := (some .boolean)) (by decide) rfl (Nat.le_of_ble_eq_true rfl) ?_
  intro p e s m below meth c A ls C hnm hP hD hS hl
  have C : ck_C p s m meth c bc_X_isOpenCount (some .boolean) 1 #[.int p1] "ControlDesk" A D tys := C
  have hl : lv_has ls 1 [(0, .int p1)] := hl
  have hx := C.1
  have hb := C.2.1
  have hown := C.2.2.2.2.1
  have hT := C.2.2.2.2.2.1
  have hK := C.2.2.2.2.2.2.2.1
  have hN := C.2.2.2.2.2.2.2.2.2.2.2.1
  -- from the entry
  refine lv_iload_n hx hb dc_X_isOpenCount_0 rfl (lv_at hl 0 rfl) ?_
  refine lv_sipush (v := 3072) hx hb dc_X_isOpenCount_1 (by decide) ?_
  refine lv_icmp_lt (tgt := 18) hx hb dc_X_isOpenCount_4 (by decide) (fun c1 => ?_) (fun c1 => ?_)
  · refine lv_iconst (v := 0) hx hb dc_X_isOpenCount_18 (by decide) ?_
    exact ck_zret (v := 0) C hP hD hS rfl ⟨by exact ((if_pos c1)).symm, rfl⟩ dc_X_isOpenCount_19
  · refine lv_iload_n hx hb dc_X_isOpenCount_7 rfl (lv_at hl 0 rfl) ?_
    refine lv_sipush (v := 3074) hx hb dc_X_isOpenCount_8 (by decide) ?_
    refine lv_icmp_gt (tgt := 18) hx hb dc_X_isOpenCount_11 (by decide) (fun c2 => ?_) (fun c2 => ?_)
    · refine lv_iconst (v := 0) hx hb dc_X_isOpenCount_18 (by decide) ?_
      exact ck_zret (v := 0) C hP hD hS rfl ⟨by exact ((if_neg c1).trans ((if_pos c2))).symm, rfl⟩ dc_X_isOpenCount_19
    · refine lv_iconst (v := 1) hx hb dc_X_isOpenCount_14 (by decide) ?_
      refine lv_goto (tgt := 19) hx hb dc_X_isOpenCount_15 (by decide) ?_
      exact ck_zret (v := 1) C hP hD hS rfl ⟨by exact ((if_neg c1).trans ((if_neg c2))).symm, rfl⟩ dc_X_isOpenCount_19
def f_X_isClosed_26 (u : cs_St) (p1 : Int32) (x2 : Int64) : Int32 := (let v1 : Int32 := u.1; (if v1 = 0 then (let v3 : Int64 := u.2 20; let v4 : Int64 := v3 &&& x2; let v5 : Int32 := lg_cmp v4 (0 : Int64); (if v5 = 0 then 1 else 0)) else 0))
def f_X_isClosed (u : cs_St) (p1 : Int32) : Int32 := (let v7 : Int64 := (1 : Int64) <<< (p1.toInt64 &&& 63); let v8 : Int32 := u.1; (if v8 = 3 then (f_X_isClosed_26 u p1 v7) else (let v10 : Int64 := u.2 14; let v11 : Int64 := v10 &&& v7; let v12 : Int32 := lg_cmp v11 (0 : Int64); (if v12 = 0 then 1 else (f_X_isClosed_26 u p1 v7)))))
set_option maxHeartbeats 4000000 in
set_option maxRecDepth 100000 in
theorem c_X_isClosed (l : Launch) (D : va_G) (tys : List (ClassId × FieldType)) (h0 b1 b2 : Nat) (u : cs_St) (p1 : Int32)  : ck_Mi l D tys (wx h0 b1 b2) yn_X_isClosed w_X_isClosed rm_X_isClosed 0 0 [.ref h0, .int p1] u (f_X_isClosed u p1) u := by
  refine ck_enti (cc := bc_X_isClosed) (maxL := 4) (ret := (some .boolean)) (by decide) rfl (Nat.le_of_ble_eq_true rfl) ?_
  intro p e s m below meth c A ls C hnm hP hD hS hl
  have C : ck_C p s m meth c bc_X_isClosed (some .boolean) 4 #[.ref h0, .int p1] "ControlDesk" A D tys := C
  have hl : lv_has ls 4 [(0, .ref h0), (1, .int p1)] := hl
  have hx := C.1
  have hb := C.2.1
  have hown := C.2.2.2.2.1
  have hT := C.2.2.2.2.2.1
  have hK := C.2.2.2.2.2.2.2.1
  have hN := C.2.2.2.2.2.2.2.2.2.2.2.1
  have k26 : ∀ (x2 : Int64) (H : Heap) (locs : List Loc) (ls : Array Slot), va_P D xw_Cl ((wx h0 b1 b2) u) H → va_D A ((wx h0 b1 b2) u) → va_S A s.heap H locs → lv_has ls 4 [(0, .ref h0), (2, .long x2)] → f_X_isClosed u p1 = f_X_isClosed_26 u p1 x2 → W p l e rm_X_isClosed s m #[.ref h0, .int p1] below meth c H locs 0 0 (MQ below (va_Qi (fun r2 u2 => r2 = (f_X_isClosed u p1) ∧ u2 = u) (ck_B D (wx h0 b1 b2) A) A) #[.ref h0, .int p1] s 0 0 A) (F0 m 26 ls []) := by
    intro x2 H locs ls hP hD hS hl hq 
    refine lv_aload_n hx hb dc_X_isClosed_26 rfl (lv_at hl 0 rfl) ?_
    refine gx_currentMode C hP dc_X_isClosed_27 (fun v1 e1 => ?_)
    refine lv_if_ne (tgt := 51) hx hb dc_X_isClosed_30 (by decide) (fun c2 => ?_) (fun c2 => ?_)
    · refine lv_iconst (v := 0) hx hb dc_X_isClosed_51 (by decide) ?_
      exact ck_zret (v := 0) C hP hD hS rfl ⟨by subst e1; exact (hq.trans ((if_neg c2))).symm, rfl⟩ dc_X_isClosed_52
    · refine lv_aload_n hx hb dc_X_isClosed_33 rfl (lv_at hl 0 rfl) ?_
      refine gx_supervisorBank C hP dc_X_isClosed_34 ?_
      refine gn2_openCounts C hP dc_X_isClosed_37 (fun v3 e3 => ?_)
      refine lv_lload_n hx hb dc_X_isClosed_40 rfl (lv_at hl 1 rfl) ?_
      refine xr_land hx hb dc_X_isClosed_41 (fun v4 e4 => ?_)
      refine lv_lconst (v := 0) hx hb dc_X_isClosed_42 (by decide) ?_
      refine xr_lcmp hx hb dc_X_isClosed_43 (fun v5 e5 => ?_)
      refine lv_if_ne (tgt := 51) hx hb dc_X_isClosed_44 (by decide) (fun c6 => ?_) (fun c6 => ?_)
      · refine lv_iconst (v := 0) hx hb dc_X_isClosed_51 (by decide) ?_
        exact ck_zret (v := 0) C hP hD hS rfl ⟨by subst e1 e3 e4 e5; exact (hq.trans ((if_pos c2).trans ((if_neg c6)))).symm, rfl⟩ dc_X_isClosed_52
      · refine lv_iconst (v := 1) hx hb dc_X_isClosed_47 (by decide) ?_
        refine lv_goto (tgt := 52) hx hb dc_X_isClosed_48 (by decide) ?_
        exact ck_zret (v := 1) C hP hD hS rfl ⟨by subst e1 e3 e4 e5; exact (hq.trans ((if_pos c2).trans ((if_pos c6)))).symm, rfl⟩ dc_X_isClosed_52
  -- from the entry
  refine lv_lconst (v := 1) hx hb dc_X_isClosed_0 (by decide) ?_
  refine lv_iload_n hx hb dc_X_isClosed_1 rfl (lv_at hl 1 rfl) ?_
  refine xr_lshl hx hb dc_X_isClosed_2 (fun v7 e7 => ?_)
  refine lv_lstore_n (lv' := [(2, .long v7), (0, .ref h0), (1, .int p1)]) hx hb dc_X_isClosed_3 rfl hl (by decide) rfl (fun ls hl => ?_)
  refine lv_aload_n hx hb dc_X_isClosed_4 rfl (lv_at hl 1 rfl) ?_
  refine gx_currentMode C hP dc_X_isClosed_5 (fun v8 e8 => ?_)
  refine lv_iconst (v := 3) hx hb dc_X_isClosed_8 (by decide) ?_
  refine lv_icmp_eq (tgt := 26) hx hb dc_X_isClosed_9 (by decide) (fun c9 => ?_) (fun c9 => ?_)
  · exact k26 v7 _ _ _ hP hD hS (lv_sub hl [1, 0] rfl) (by subst e7 e8; exact (if_pos c9))
  · refine lv_aload_n hx hb dc_X_isClosed_12 rfl (lv_at hl 1 rfl) ?_
    refine gx_machineBank C hP dc_X_isClosed_13 ?_
    refine gn1_openCounts C hP dc_X_isClosed_16 (fun v10 e10 => ?_)
    refine lv_lload_n hx hb dc_X_isClosed_19 rfl (lv_at hl 0 rfl) ?_
    refine xr_land hx hb dc_X_isClosed_20 (fun v11 e11 => ?_)
    refine lv_lconst (v := 0) hx hb dc_X_isClosed_21 (by decide) ?_
    refine xr_lcmp hx hb dc_X_isClosed_22 (fun v12 e12 => ?_)
    refine lv_if_eq (tgt := 47) hx hb dc_X_isClosed_23 (by decide) (fun c13 => ?_) (fun c13 => ?_)
    · refine lv_iconst (v := 1) hx hb dc_X_isClosed_47 (by decide) ?_
      refine lv_goto (tgt := 52) hx hb dc_X_isClosed_48 (by decide) ?_
      exact ck_zret (v := 1) C hP hD hS rfl ⟨by subst e7 e8 e10 e11 e12; exact ((if_neg c9).trans ((if_pos c13))).symm, rfl⟩ dc_X_isClosed_52
    · exact k26 v7 _ _ _ hP hD hS (lv_sub hl [1, 0] rfl) (by subst e7 e8 e10 e11 e12; exact (if_neg c9).trans ((if_neg c13)))
def f_X_isIllegal_97 (u : cs_St) (p1 : Int32) (p2 : Int32)  : Int32 := (let v2 : Int32 := f_X_isOpenCount u p1; (if v2 = 0 then 0 else (let v4 : Int32 := p1 - (3072 : Int32); let v6 : Int32 := f_X_isClosed u v4; (if v6 = 0 then 0 else 1))))
def f_X_isIllegal_80 (u : cs_St) (p1 : Int32) (p2 : Int32)  : Int32 := (let v9 : Int32 := f_X_isFloat u p1; (if v9 = 0 then (f_X_isIllegal_97 u p1 p2 ) else (let v12 : Int32 := f_X_has u 24576; (if v12 = 0 then 1 else (f_X_isIllegal_97 u p1 p2 )))))
def f_X_isIllegal_55 (u : cs_St) (p1 : Int32) (p2 : Int32)  : Int32 := (if p1 = 384 then (let v15 : Int32 := u.1; (if v15 = 1 then (let v18 : Int32 := f_X_has u 1048576; (if v18 = 0 then (f_X_isIllegal_80 u p1 p2 ) else 1)) else (f_X_isIllegal_80 u p1 p2 ))) else (f_X_isIllegal_80 u p1 p2 ))
def f_X_isIllegal_38 (u : cs_St) (p1 : Int32) (p2 : Int32) (x3 : Int32) (x4 : Int32) : Int32 := (let v20 : Int32 := u.1; (if v20 < x3 then 1 else (if p2 = 0 then (f_X_isIllegal_55 u p1 p2 ) else (if x4 = 0 then (f_X_isIllegal_55 u p1 p2 ) else 1))))
def f_X_isIllegal_22 (u : cs_St) (p1 : Int32) (p2 : Int32) (x3 : Int32) (y0 : Int32) : Int32 := (let v25 : Int32 := f_X_isHere u p1; (if v25 = 0 then (let v28 : Int32 := f_X_isElsewhere u p1; (if v28 = 0 then 1 else (f_X_isIllegal_38 u p1 p2 x3 y0))) else (f_X_isIllegal_38 u p1 p2 x3 y0)))
def f_X_isIllegal (u : cs_St) (p1 : Int32) (p2 : Int32) : Int32 := (let v30 : Int32 := p1 >>> ((8 : Int32) &&& 31); let v31 : Int32 := v30 &&& (3 : Int32); let v32 : Int32 := p1 >>> ((10 : Int32) &&& 31); let v33 : Int32 := v32 &&& (3 : Int32); (if v33 = 3 then (f_X_isIllegal_22 u p1 p2 v31 1) else (f_X_isIllegal_22 u p1 p2 v31 0)))
set_option maxHeartbeats 4000000 in
set_option maxRecDepth 100000 in
theorem c_X_isIllegal (l : Launch) (D : va_G) (tys : List (ClassId × FieldType)) (h0 b1 b2 : Nat) (u : cs_St) (p1 : Int32) (p2 : Int32)  : ck_Mi l D tys (wx h0 b1 b2) yn_X_isIllegal w_X_isIllegal rm_X_isIllegal 0 0 [.ref h0, .int p1, .int p2] u (f_X_isIllegal u p1 p2) u := by
  refine ck_enti (cc := bc_X_isIllegal) (maxL := 5) (ret := (some .boolean)) (by decide) rfl (Nat.le_of_ble_eq_true rfl) ?_
  intro p e s m below meth c A ls C hnm hP hD hS hl
  have C : ck_C p s m meth c bc_X_isIllegal (some .boolean) 5 #[.ref h0, .int p1, .int p2] "ControlDesk" A D tys := C
  have hl : lv_has ls 5 [(0, .ref h0), (1, .int p1), (2, .int p2)] := hl
  have hx := C.1
  have hb := C.2.1
  have hown := C.2.2.2.2.1
  have hT := C.2.2.2.2.2.1
  have hK := C.2.2.2.2.2.2.2.1
  have hN := C.2.2.2.2.2.2.2.2.2.2.2.1
  have k97 : ∀ (H : Heap) (locs : List Loc) (ls : Array Slot), va_P D xw_Cl ((wx h0 b1 b2) u) H → va_D A ((wx h0 b1 b2) u) → va_S A s.heap H locs → lv_has ls 5 [(0, .ref h0), (1, .int p1)] → f_X_isIllegal u p1 p2 = f_X_isIllegal_97 u p1 p2  → W p l e rm_X_isIllegal s m #[.ref h0, .int p1, .int p2] below meth c H locs 0 0 (MQ below (va_Qi (fun r2 u2 => r2 = (f_X_isIllegal u p1 p2) ∧ u2 = u) (ck_B D (wx h0 b1 b2) A) A) #[.ref h0, .int p1, .int p2] s 0 0 A) (F0 m 97 ls []) := by
    intro  H locs ls hP hD hS hl hq 
    refine lv_iload_n hx hb dc_X_isIllegal_97 rfl (lv_at hl 1 rfl) ?_
    refine ck_gpi (rest := []) C kt_X hP hD hS (ck_runS C kt_X hK (c_X_isOpenCount l D tys h0 b1 b2 u p1  _) (cw_X_167 hT ⟨Nat.le_of_ble_eq_true rfl, Nat.le_of_ble_eq_true rfl⟩) hP hD hS rfl hl.1 rfl (Nat.le_of_ble_eq_true rfl) dc_X_isIllegal_98 ⟨Nat.zero_le _, Nat.zero_le _⟩) (fun v2 H locs e2 hP hD hS => ?_)
    refine lv_if_eq (tgt := 120) hx hb dc_X_isIllegal_101 (by decide) (fun c3 => ?_) (fun c3 => ?_)
    · refine lv_iconst (v := 0) hx hb dc_X_isIllegal_120 (by decide) ?_
      exact ck_zret (v := 0) C hP hD hS rfl ⟨by subst e2; exact (hq.trans ((if_pos c3))).symm, rfl⟩ dc_X_isIllegal_121
    · refine lv_aload_n hx hb dc_X_isIllegal_104 rfl (lv_at hl 0 rfl) ?_
      refine lv_iload_n hx hb dc_X_isIllegal_105 rfl (lv_at hl 1 rfl) ?_
      refine lv_sipush (v := 3072) hx hb dc_X_isIllegal_106 (by decide) ?_
      refine xr_isub hx hb dc_X_isIllegal_109 (fun v4 e4 => ?_)
      refine ck_gpi (rest := []) C kt_X hP hD hS (ck_runV (q0 := 0) C kt_X hK (c_X_isClosed l D tys h0 b1 b2 u v4  _) (cw_X_170 hT ⟨Nat.le_of_ble_eq_true rfl, Nat.le_of_ble_eq_true rfl⟩) rfl rfl hP hD hS rfl hl.1 rfl (Nat.le_of_ble_eq_true rfl) dc_X_isIllegal_110 ⟨Nat.zero_le _, Nat.zero_le _⟩) (fun v6 H locs e6 hP hD hS => ?_)
      refine lv_if_eq (tgt := 120) hx hb dc_X_isIllegal_113 (by decide) (fun c7 => ?_) (fun c7 => ?_)
      · refine lv_iconst (v := 0) hx hb dc_X_isIllegal_120 (by decide) ?_
        exact ck_zret (v := 0) C hP hD hS rfl ⟨by subst e2 e4 e6; exact (hq.trans ((if_neg c3).trans ((if_pos c7)))).symm, rfl⟩ dc_X_isIllegal_121
      · refine lv_iconst (v := 1) hx hb dc_X_isIllegal_116 (by decide) ?_
        refine lv_goto (tgt := 121) hx hb dc_X_isIllegal_117 (by decide) ?_
        exact ck_zret (v := 1) C hP hD hS rfl ⟨by subst e2 e4 e6; exact (hq.trans ((if_neg c3).trans ((if_neg c7)))).symm, rfl⟩ dc_X_isIllegal_121
  have k80 : ∀ (H : Heap) (locs : List Loc) (ls : Array Slot), va_P D xw_Cl ((wx h0 b1 b2) u) H → va_D A ((wx h0 b1 b2) u) → va_S A s.heap H locs → lv_has ls 5 [(0, .ref h0), (1, .int p1)] → f_X_isIllegal u p1 p2 = f_X_isIllegal_80 u p1 p2  → W p l e rm_X_isIllegal s m #[.ref h0, .int p1, .int p2] below meth c H locs 0 0 (MQ below (va_Qi (fun r2 u2 => r2 = (f_X_isIllegal u p1 p2) ∧ u2 = u) (ck_B D (wx h0 b1 b2) A) A) #[.ref h0, .int p1, .int p2] s 0 0 A) (F0 m 80 ls []) := by
    intro  H locs ls hP hD hS hl hq 
    refine lv_iload_n hx hb dc_X_isIllegal_80 rfl (lv_at hl 1 rfl) ?_
    refine ck_gpi (rest := []) C kt_X hP hD hS (ck_runS C kt_X hK (c_X_isFloat l D tys h0 b1 b2 u p1  _) (cw_X_54 hT ⟨Nat.le_of_ble_eq_true rfl, Nat.le_of_ble_eq_true rfl⟩) hP hD hS rfl hl.1 rfl (Nat.le_of_ble_eq_true rfl) dc_X_isIllegal_81 ⟨Nat.zero_le _, Nat.zero_le _⟩) (fun v9 H locs e9 hP hD hS => ?_)
    refine lv_if_eq (tgt := 97) hx hb dc_X_isIllegal_84 (by decide) (fun c10 => ?_) (fun c10 => ?_)
    · exact k97  _ _ _ hP hD hS (lv_sub hl [0, 1] rfl) (by subst e9; exact hq.trans ((if_pos c10)))
    · refine lv_aload_n hx hb dc_X_isIllegal_87 rfl (lv_at hl 0 rfl) ?_
      refine lv_ldc2 (v := 24576) hx hb hown (hT _ mw_2) dc_X_isIllegal_88 ?_
      refine ck_gpi (rest := []) C kt_X hP hD hS (ck_runV (q0 := 0) C kt_X hK (c_X_has l D tys h0 b1 b2 u 24576  _) (cw_X_29 hT ⟨Nat.le_of_ble_eq_true rfl, Nat.le_of_ble_eq_true rfl⟩) rfl rfl hP hD hS rfl hl.1 rfl (Nat.le_of_ble_eq_true rfl) dc_X_isIllegal_91 ⟨Nat.zero_le _, Nat.zero_le _⟩) (fun v12 H locs e12 hP hD hS => ?_)
      refine lv_if_eq (tgt := 116) hx hb dc_X_isIllegal_94 (by decide) (fun c13 => ?_) (fun c13 => ?_)
      · refine lv_iconst (v := 1) hx hb dc_X_isIllegal_116 (by decide) ?_
        refine lv_goto (tgt := 121) hx hb dc_X_isIllegal_117 (by decide) ?_
        exact ck_zret (v := 1) C hP hD hS rfl ⟨by subst e9 e12; exact (hq.trans ((if_neg c10).trans ((if_pos c13)))).symm, rfl⟩ dc_X_isIllegal_121
      · exact k97  _ _ _ hP hD hS (lv_sub hl [0, 1] rfl) (by subst e9 e12; exact hq.trans ((if_neg c10).trans ((if_neg c13))))
  have k55 : ∀ (H : Heap) (locs : List Loc) (ls : Array Slot), va_P D xw_Cl ((wx h0 b1 b2) u) H → va_D A ((wx h0 b1 b2) u) → va_S A s.heap H locs → lv_has ls 5 [(0, .ref h0), (1, .int p1)] → f_X_isIllegal u p1 p2 = f_X_isIllegal_55 u p1 p2  → W p l e rm_X_isIllegal s m #[.ref h0, .int p1, .int p2] below meth c H locs 0 0 (MQ below (va_Qi (fun r2 u2 => r2 = (f_X_isIllegal u p1 p2) ∧ u2 = u) (ck_B D (wx h0 b1 b2) A) A) #[.ref h0, .int p1, .int p2] s 0 0 A) (F0 m 55 ls []) := by
    intro  H locs ls hP hD hS hl hq 
    refine lv_iload_n hx hb dc_X_isIllegal_55 rfl (lv_at hl 1 rfl) ?_
    refine lv_sipush (v := 384) hx hb dc_X_isIllegal_56 (by decide) ?_
    refine lv_icmp_ne (tgt := 80) hx hb dc_X_isIllegal_59 (by decide) (fun c14 => ?_) (fun c14 => ?_)
    · exact k80  _ _ _ hP hD hS (lv_sub hl [0, 1] rfl) (by exact hq.trans ((if_neg c14)))
    · refine lv_aload_n hx hb dc_X_isIllegal_62 rfl (lv_at hl 0 rfl) ?_
      refine gx_currentMode C hP dc_X_isIllegal_63 (fun v15 e15 => ?_)
      refine lv_iconst (v := 1) hx hb dc_X_isIllegal_66 (by decide) ?_
      refine lv_icmp_ne (tgt := 80) hx hb dc_X_isIllegal_67 (by decide) (fun c16 => ?_) (fun c16 => ?_)
      · exact k80  _ _ _ hP hD hS (lv_sub hl [0, 1] rfl) (by subst e15; exact hq.trans ((if_pos c14).trans ((if_neg c16))))
      · refine lv_aload_n hx hb dc_X_isIllegal_70 rfl (lv_at hl 0 rfl) ?_
        refine lv_ldc2 (v := 1048576) hx hb hown (hT _ mw_3) dc_X_isIllegal_71 ?_
        refine ck_gpi (rest := []) C kt_X hP hD hS (ck_runV (q0 := 0) C kt_X hK (c_X_has l D tys h0 b1 b2 u 1048576  _) (cw_X_29 hT ⟨Nat.le_of_ble_eq_true rfl, Nat.le_of_ble_eq_true rfl⟩) rfl rfl hP hD hS rfl hl.1 rfl (Nat.le_of_ble_eq_true rfl) dc_X_isIllegal_74 ⟨Nat.zero_le _, Nat.zero_le _⟩) (fun v18 H locs e18 hP hD hS => ?_)
        refine lv_if_ne (tgt := 116) hx hb dc_X_isIllegal_77 (by decide) (fun c19 => ?_) (fun c19 => ?_)
        · refine lv_iconst (v := 1) hx hb dc_X_isIllegal_116 (by decide) ?_
          refine lv_goto (tgt := 121) hx hb dc_X_isIllegal_117 (by decide) ?_
          exact ck_zret (v := 1) C hP hD hS rfl ⟨by subst e15 e18; exact (hq.trans ((if_pos c14).trans ((if_pos c16).trans ((if_neg c19))))).symm, rfl⟩ dc_X_isIllegal_121
        · exact k80  _ _ _ hP hD hS (lv_sub hl [0, 1] rfl) (by subst e15 e18; exact hq.trans ((if_pos c14).trans ((if_pos c16).trans ((if_pos c19)))))
  have k38 : ∀ (x3 : Int32) (x4 : Int32) (H : Heap) (locs : List Loc) (ls : Array Slot), va_P D xw_Cl ((wx h0 b1 b2) u) H → va_D A ((wx h0 b1 b2) u) → va_S A s.heap H locs → lv_has ls 5 [(0, .ref h0), (1, .int p1), (2, .int p2), (3, .int x3), (4, .int x4)] → f_X_isIllegal u p1 p2 = f_X_isIllegal_38 u p1 p2 x3 x4 → W p l e rm_X_isIllegal s m #[.ref h0, .int p1, .int p2] below meth c H locs 0 0 (MQ below (va_Qi (fun r2 u2 => r2 = (f_X_isIllegal u p1 p2) ∧ u2 = u) (ck_B D (wx h0 b1 b2) A) A) #[.ref h0, .int p1, .int p2] s 0 0 A) (F0 m 38 ls []) := by
    intro x3 x4 H locs ls hP hD hS hl hq 
    refine lv_iload_n hx hb dc_X_isIllegal_38 rfl (lv_at hl 3 rfl) ?_
    refine lv_aload_n hx hb dc_X_isIllegal_39 rfl (lv_at hl 0 rfl) ?_
    refine gx_currentMode C hP dc_X_isIllegal_40 (fun v20 e20 => ?_)
    refine lv_icmp_gt (tgt := 116) hx hb dc_X_isIllegal_43 (by decide) (fun c21 => ?_) (fun c21 => ?_)
    · refine lv_iconst (v := 1) hx hb dc_X_isIllegal_116 (by decide) ?_
      refine lv_goto (tgt := 121) hx hb dc_X_isIllegal_117 (by decide) ?_
      exact ck_zret (v := 1) C hP hD hS rfl ⟨by subst e20; exact (hq.trans ((if_pos c21))).symm, rfl⟩ dc_X_isIllegal_121
    · refine lv_iload_n hx hb dc_X_isIllegal_46 rfl (lv_at hl 2 rfl) ?_
      refine lv_if_eq (tgt := 55) hx hb dc_X_isIllegal_47 (by decide) (fun c22 => ?_) (fun c22 => ?_)
      · exact k55  _ _ _ hP hD hS (lv_sub hl [0, 1] rfl) (by subst e20; exact hq.trans ((if_neg c21).trans ((if_pos c22))))
      · refine lv_iload hx hb dc_X_isIllegal_50 (lv_at hl 4 rfl) ?_
        refine lv_if_ne (tgt := 116) hx hb dc_X_isIllegal_52 (by decide) (fun c23 => ?_) (fun c23 => ?_)
        · refine lv_iconst (v := 1) hx hb dc_X_isIllegal_116 (by decide) ?_
          refine lv_goto (tgt := 121) hx hb dc_X_isIllegal_117 (by decide) ?_
          exact ck_zret (v := 1) C hP hD hS rfl ⟨by subst e20; exact (hq.trans ((if_neg c21).trans ((if_neg c22).trans ((if_neg c23))))).symm, rfl⟩ dc_X_isIllegal_121
        · exact k55  _ _ _ hP hD hS (lv_sub hl [0, 1] rfl) (by subst e20; exact hq.trans ((if_neg c21).trans ((if_neg c22).trans ((if_pos c23)))))
  have k22 : ∀ (x3 : Int32) (y0 : Int32) (H : Heap) (locs : List Loc) (ls : Array Slot), va_P D xw_Cl ((wx h0 b1 b2) u) H → va_D A ((wx h0 b1 b2) u) → va_S A s.heap H locs → lv_has ls 5 [(0, .ref h0), (1, .int p1), (2, .int p2), (3, .int x3)] → f_X_isIllegal u p1 p2 = f_X_isIllegal_22 u p1 p2 x3 y0 → W p l e rm_X_isIllegal s m #[.ref h0, .int p1, .int p2] below meth c H locs 0 0 (MQ below (va_Qi (fun r2 u2 => r2 = (f_X_isIllegal u p1 p2) ∧ u2 = u) (ck_B D (wx h0 b1 b2) A) A) #[.ref h0, .int p1, .int p2] s 0 0 A) (F0 m 22 ls [.int y0]) := by
    intro x3 y0 H locs ls hP hD hS hl hq 
    refine lv_istore (lv' := [(4, .int y0), (0, .ref h0), (1, .int p1), (2, .int p2), (3, .int x3)]) hx hb dc_X_isIllegal_22 hl (by decide) rfl (fun ls hl => ?_)
    refine lv_iload_n hx hb dc_X_isIllegal_24 rfl (lv_at hl 2 rfl) ?_
    refine ck_gpi (rest := []) C kt_X hP hD hS (ck_runS C kt_X hK (c_X_isHere l D tys h0 b1 b2 u p1  _) (cw_X_164 hT ⟨Nat.le_of_ble_eq_true rfl, Nat.le_of_ble_eq_true rfl⟩) hP hD hS rfl hl.1 rfl (Nat.le_of_ble_eq_true rfl) dc_X_isIllegal_25 ⟨Nat.zero_le _, Nat.zero_le _⟩) (fun v25 H locs e25 hP hD hS => ?_)
    refine lv_if_ne (tgt := 38) hx hb dc_X_isIllegal_28 (by decide) (fun c26 => ?_) (fun c26 => ?_)
    · exact k38 x3 y0 _ _ _ hP hD hS (lv_sub hl [1, 2, 3, 4, 0] rfl) (by subst e25; exact hq.trans ((if_neg c26)))
    · refine lv_iload_n hx hb dc_X_isIllegal_31 rfl (lv_at hl 2 rfl) ?_
      refine ck_gpi (rest := []) C kt_X hP hD hS (ck_runS C kt_X hK (c_X_isElsewhere l D tys h0 b1 b2 u p1  _) (cw_X_50 hT ⟨Nat.le_of_ble_eq_true rfl, Nat.le_of_ble_eq_true rfl⟩) hP hD hS rfl hl.1 rfl (Nat.le_of_ble_eq_true rfl) dc_X_isIllegal_32 ⟨Nat.zero_le _, Nat.zero_le _⟩) (fun v28 H locs e28 hP hD hS => ?_)
      refine lv_if_eq (tgt := 116) hx hb dc_X_isIllegal_35 (by decide) (fun c29 => ?_) (fun c29 => ?_)
      · refine lv_iconst (v := 1) hx hb dc_X_isIllegal_116 (by decide) ?_
        refine lv_goto (tgt := 121) hx hb dc_X_isIllegal_117 (by decide) ?_
        exact ck_zret (v := 1) C hP hD hS rfl ⟨by subst e25 e28; exact (hq.trans ((if_pos c26).trans ((if_pos c29)))).symm, rfl⟩ dc_X_isIllegal_121
      · exact k38 x3 y0 _ _ _ hP hD hS (lv_sub hl [1, 2, 3, 4, 0] rfl) (by subst e25 e28; exact hq.trans ((if_pos c26).trans ((if_neg c29))))
  -- from the entry
  refine lv_iload_n hx hb dc_X_isIllegal_0 rfl (lv_at hl 1 rfl) ?_
  refine lv_bipush (v := 8) hx hb dc_X_isIllegal_1 (by decide) ?_
  refine xr_ishr hx hb dc_X_isIllegal_3 (fun v30 e30 => ?_)
  refine lv_iconst (v := 3) hx hb dc_X_isIllegal_4 (by decide) ?_
  refine xr_iand hx hb dc_X_isIllegal_5 (fun v31 e31 => ?_)
  refine lv_istore_n (lv' := [(3, .int v31), (0, .ref h0), (1, .int p1), (2, .int p2)]) hx hb dc_X_isIllegal_6 rfl hl (by decide) rfl (fun ls hl => ?_)
  refine lv_iload_n hx hb dc_X_isIllegal_7 rfl (lv_at hl 2 rfl) ?_
  refine lv_bipush (v := 10) hx hb dc_X_isIllegal_8 (by decide) ?_
  refine xr_ishr hx hb dc_X_isIllegal_10 (fun v32 e32 => ?_)
  refine lv_iconst (v := 3) hx hb dc_X_isIllegal_11 (by decide) ?_
  refine xr_iand hx hb dc_X_isIllegal_12 (fun v33 e33 => ?_)
  refine lv_iconst (v := 3) hx hb dc_X_isIllegal_13 (by decide) ?_
  refine lv_icmp_ne (tgt := 21) hx hb dc_X_isIllegal_14 (by decide) (fun c34 => ?_) (fun c34 => ?_)
  · refine lv_iconst (v := 0) hx hb dc_X_isIllegal_21 (by decide) ?_
    exact k22 v31 0 _ _ _ hP hD hS (lv_sub hl [1, 2, 3, 0] rfl) (by subst e30 e31 e32 e33; exact (if_neg c34))
  · refine lv_iconst (v := 1) hx hb dc_X_isIllegal_17 (by decide) ?_
    refine lv_goto (tgt := 22) hx hb dc_X_isIllegal_18 (by decide) ?_
    exact k22 v31 1 _ _ _ hP hD hS (lv_sub hl [1, 2, 3, 0] rfl) (by subst e30 e31 e32 e33; exact (if_pos c34))
