def f_M_thrown (u : ms_St)  : Int32 := (let v1 : Int32 := u.1 0; v1)
set_option maxHeartbeats 4000000 in
set_option maxRecDepth 100000 in
theorem c_M_thrown (l : Launch) (D : va_G) (m0 hd ln : Nat) (cH cZ : ClassId) (u : ms_St)   : ck_Mi l D [(cH, .long), (cZ, .boolean)] (wm m0 hd ln cH cZ) yn_M_thrown w_M_thrown rm_M_thrown 0 0 [.ref m0] u (f_M_thrown u) u := by
  refine ck_enti (cc := bc_M_thrown) (maxL := 1) (ret := (some .int)) (by decide) rfl (Nat.le_of_ble_eq_true rfl) ?_
  intro p e s m below meth c A ls C hnm hP hD hS hl
  have C : ck_C p s m meth c bc_M_thrown (some .int) 1 #[.ref m0] "ControlDeskModel" A D [(cH, .long), (cZ, .boolean)] := C
  have hl : lv_has ls 1 [(0, .ref m0)] := hl
  have hx := C.1
  have hb := C.2.1
  have hown := C.2.2.2.2.1
  have hT := C.2.2.2.2.2.1
  have hK := C.2.2.2.2.2.2.2.1
  have hN := C.2.2.2.2.2.2.2.2.2.2.2.1
  -- from the entry
  refine lv_aload_n hx hb dc_M_thrown_0 rfl (lv_at hl 0 rfl) ?_
  refine gm_thrown C hP dc_M_thrown_1 (fun v1 e1 => ?_)
  exact ck_iret (v := v1) C hP hD hS ⟨by subst e1; exact (rfl).symm, rfl⟩ dc_M_thrown_4
def f_M_status (u : ms_St) (p1 : Int32) : Int32 := (let v1 : Int64 := u.2.1 (768 : Int32).toNatClampNeg; let v2 : Int64 := v1 >>> (p1.toInt64 &&& 63); let v3 : Int64 := v2 &&& (1 : Int64); let v4 : Int32 := v3.toInt32; v4)
set_option maxHeartbeats 4000000 in
set_option maxRecDepth 100000 in
theorem c_M_status (l : Launch) (D : va_G) (m0 hd ln : Nat) (cH cZ : ClassId) (u : ms_St) (p1 : Int32)  : ck_Mi l D [(cH, .long), (cZ, .boolean)] (wm m0 hd ln cH cZ) yn_M_status w_M_status rm_M_status 0 0 [.ref m0, .int p1] u (f_M_status u p1) u := by
  refine ck_enti (cc := bc_M_status) (maxL := 2) (ret := (some .int)) (by decide) rfl (Nat.le_of_ble_eq_true rfl) ?_
  intro p e s m below meth c A ls C hnm hP hD hS hl
  have C : ck_C p s m meth c bc_M_status (some .int) 2 #[.ref m0, .int p1] "ControlDeskModel" A D [(cH, .long), (cZ, .boolean)] := C
  have hl : lv_has ls 2 [(0, .ref m0), (1, .int p1)] := hl
  have hx := C.1
  have hb := C.2.1
  have hown := C.2.2.2.2.1
  have hT := C.2.2.2.2.2.1
  have hK := C.2.2.2.2.2.2.2.1
  have hN := C.2.2.2.2.2.2.2.2.2.2.2.1
  -- from the entry
  refine lv_aload_n hx hb dc_M_status_0 rfl (lv_at hl 0 rfl) ?_
  refine gm_held C hP dc_M_status_1 ?_
  refine lv_sipush (v := 768) hx hb dc_M_status_4 (by decide) ?_
  refine rm_lald C hP (by unfold vp_in; decide) dc_M_status_7 (fun v1 e1 => ?_)
  refine lv_iload_n hx hb dc_M_status_8 rfl (lv_at hl 1 rfl) ?_
  refine xr_lshr hx hb dc_M_status_9 (fun v2 e2 => ?_)
  refine lv_lconst (v := 1) hx hb dc_M_status_10 (by decide) ?_
  refine xr_land hx hb dc_M_status_11 (fun v3 e3 => ?_)
  refine xr_l2i hx hb dc_M_status_12 (fun v4 e4 => ?_)
  exact ck_iret (v := v4) C hP hD hS ⟨by subst e1 e2 e3 e4; exact (rfl).symm, rfl⟩ dc_M_status_13
def f_M_put (u0 : ms_St) (p1 : Int32) (p2 : Int32) : ms_St := (let v1 : Int64 := u0.2.1 (768 : Int32).toNatClampNeg; let v2 : Int64 := (1 : Int64) <<< (p1.toInt64 &&& 63); let v3 : Int64 := v2 ^^^ (-1 : Int64); let v4 : Int64 := v1 &&& v3; let v5 : Int64 := p2.toInt64; let v6 : Int64 := v5 <<< (p1.toInt64 &&& 63); let v7 : Int64 := v4 ||| v6; let w8 : ms_St := (u0.1, vp_updL u0.2.1 (768 : Int32).toNatClampNeg v7, u0.2.2); w8)
set_option maxHeartbeats 4000000 in
set_option maxRecDepth 100000 in
theorem c_M_put (l : Launch) (D : va_G) (m0 hd ln : Nat) (cH cZ : ClassId) (u0 : ms_St) (p1 : Int32) (p2 : Int32)  : ck_Mv l D [(cH, .long), (cZ, .boolean)] (wm m0 hd ln cH cZ) yn_M_put w_M_put rm_M_put 0 0 [.ref m0, .int p1, .int p2] u0 (f_M_put u0 p1 p2) := by
  refine ck_entv (cc := bc_M_put) (maxL := 3) (ret := none) (by decide) rfl (Nat.le_of_ble_eq_true rfl) ?_
  intro p e s m below meth c A ls C hnm hP hD hS hl
  have C : ck_C p s m meth c bc_M_put none 3 #[.ref m0, .int p1, .int p2] "ControlDeskModel" A D [(cH, .long), (cZ, .boolean)] := C
  have hl : lv_has ls 3 [(0, .ref m0), (1, .int p1), (2, .int p2)] := hl
  have hx := C.1
  have hb := C.2.1
  have hown := C.2.2.2.2.1
  have hT := C.2.2.2.2.2.1
  have hK := C.2.2.2.2.2.2.2.1
  have hN := C.2.2.2.2.2.2.2.2.2.2.2.1
  -- from the entry
  refine lv_aload_n hx hb dc_M_put_0 rfl (lv_at hl 0 rfl) ?_
  refine gm_held C hP dc_M_put_1 ?_
  refine lv_sipush (v := 768) hx hb dc_M_put_4 (by decide) ?_
  refine lv_aload_n hx hb dc_M_put_7 rfl (lv_at hl 0 rfl) ?_
  refine gm_held C hP dc_M_put_8 ?_
  refine lv_sipush (v := 768) hx hb dc_M_put_11 (by decide) ?_
  refine rm_lald C hP (by unfold vp_in; decide) dc_M_put_14 (fun v1 e1 => ?_)
  refine lv_lconst (v := 1) hx hb dc_M_put_15 (by decide) ?_
  refine lv_iload_n hx hb dc_M_put_16 rfl (lv_at hl 1 rfl) ?_
  refine xr_lshl hx hb dc_M_put_17 (fun v2 e2 => ?_)
  refine lv_ldc2 (v := (-1)) hx hb hown (hT _ mw_36) dc_M_put_18 ?_
  refine xr_lxor hx hb dc_M_put_21 (fun v3 e3 => ?_)
  refine xr_land hx hb dc_M_put_22 (fun v4 e4 => ?_)
  refine lv_iload_n hx hb dc_M_put_23 rfl (lv_at hl 2 rfl) ?_
  refine xr_i2l hx hb dc_M_put_24 (fun v5 e5 => ?_)
  refine lv_iload_n hx hb dc_M_put_25 rfl (lv_at hl 1 rfl) ?_
  refine xr_lshl hx hb dc_M_put_26 (fun v6 e6 => ?_)
  refine xr_lor hx hb dc_M_put_27 (fun v7 e7 => ?_)
  refine rm_last C hP hD hS (by unfold vp_in; decide) dc_M_put_28 (fun w8 H locs ew8 hP hD hS => ?_)
  exact ck_vret C hP hD hS (by subst e1 e2 e3 e4 e5 e6 e7 ew8; exact (rfl).symm) dc_M_put_29
def f_M_below (u : ms_St)  : Int32 := (let v2 : Int32 := f_M_status u 11; let v4 : Int32 := f_M_status u 12; let v5 : Int32 := (2 : Int32) * v4; let v6 : Int32 := v2 + v5; v6)
set_option maxHeartbeats 4000000 in
set_option maxRecDepth 100000 in
theorem c_M_below (l : Launch) (D : va_G) (m0 hd ln : Nat) (cH cZ : ClassId) (u : ms_St)   : ck_Mi l D [(cH, .long), (cZ, .boolean)] (wm m0 hd ln cH cZ) yn_M_below w_M_below rm_M_below 0 0 [.ref m0] u (f_M_below u) u := by
  refine ck_enti (cc := bc_M_below) (maxL := 1) (ret := (some .int)) (by decide) rfl (Nat.le_of_ble_eq_true rfl) ?_
  intro p e s m below meth c A ls C hnm hP hD hS hl
  have C : ck_C p s m meth c bc_M_below (some .int) 1 #[.ref m0] "ControlDeskModel" A D [(cH, .long), (cZ, .boolean)] := C
  have hl : lv_has ls 1 [(0, .ref m0)] := hl
  have hx := C.1
  have hb := C.2.1
  have hown := C.2.2.2.2.1
  have hT := C.2.2.2.2.2.1
  have hK := C.2.2.2.2.2.2.2.1
  have hN := C.2.2.2.2.2.2.2.2.2.2.2.1
  -- from the entry
  refine lv_aload_n hx hb dc_M_below_0 rfl (lv_at hl 0 rfl) ?_
  refine lv_bipush (v := 11) hx hb dc_M_below_1 (by decide) ?_
  refine ck_gpi (rest := []) C kt_M hP hD hS (ck_runV (q0 := 0) C kt_M hK (c_M_status l D m0 hd ln cH cZ u 11  _) (cw_M_29 hT ⟨Nat.le_of_ble_eq_true rfl, Nat.le_of_ble_eq_true rfl⟩) rfl rfl hP hD hS rfl hl.1 rfl (Nat.le_of_ble_eq_true rfl) dc_M_below_3 ⟨Nat.zero_le _, Nat.zero_le _⟩) (fun v2 H locs e2 hP hD hS => ?_)
  refine lv_iconst (v := 2) hx hb dc_M_below_6 (by decide) ?_
  refine lv_aload_n hx hb dc_M_below_7 rfl (lv_at hl 0 rfl) ?_
  refine lv_bipush (v := 12) hx hb dc_M_below_8 (by decide) ?_
  refine ck_gpi (rest := [.int 2, .int v2]) C kt_M hP hD hS (ck_runV (q0 := 0) C kt_M hK (c_M_status l D m0 hd ln cH cZ u 12  _) (cw_M_29 hT ⟨Nat.le_of_ble_eq_true rfl, Nat.le_of_ble_eq_true rfl⟩) rfl rfl hP hD hS rfl hl.1 rfl (Nat.le_of_ble_eq_true rfl) dc_M_below_10 ⟨Nat.zero_le _, Nat.zero_le _⟩) (fun v4 H locs e4 hP hD hS => ?_)
  refine xr_imul hx hb dc_M_below_13 (fun v5 e5 => ?_)
  refine xr_iadd hx hb dc_M_below_14 (fun v6 e6 => ?_)
  exact ck_iret (v := v6) C hP hD hS ⟨by subst e2 e4 e5 e6; exact (rfl).symm, rfl⟩ dc_M_below_15
def f_M_floating (u : ms_St)  : Int32 := (let v2 : Int32 := f_M_status u 13; let v4 : Int32 := f_M_status u 14; let v5 : Int32 := (2 : Int32) * v4; let v6 : Int32 := v2 + v5; v6)
set_option maxHeartbeats 4000000 in
set_option maxRecDepth 100000 in
theorem c_M_floating (l : Launch) (D : va_G) (m0 hd ln : Nat) (cH cZ : ClassId) (u : ms_St)   : ck_Mi l D [(cH, .long), (cZ, .boolean)] (wm m0 hd ln cH cZ) yn_M_floating w_M_floating rm_M_floating 0 0 [.ref m0] u (f_M_floating u) u := by
  refine ck_enti (cc := bc_M_floating) (maxL := 1) (ret := (some .int)) (by decide) rfl (Nat.le_of_ble_eq_true rfl) ?_
  intro p e s m below meth c A ls C hnm hP hD hS hl
  have C : ck_C p s m meth c bc_M_floating (some .int) 1 #[.ref m0] "ControlDeskModel" A D [(cH, .long), (cZ, .boolean)] := C
  have hl : lv_has ls 1 [(0, .ref m0)] := hl
  have hx := C.1
  have hb := C.2.1
  have hown := C.2.2.2.2.1
  have hT := C.2.2.2.2.2.1
  have hK := C.2.2.2.2.2.2.2.1
  have hN := C.2.2.2.2.2.2.2.2.2.2.2.1
  -- from the entry
  refine lv_aload_n hx hb dc_M_floating_0 rfl (lv_at hl 0 rfl) ?_
  refine lv_bipush (v := 13) hx hb dc_M_floating_1 (by decide) ?_
  refine ck_gpi (rest := []) C kt_M hP hD hS (ck_runV (q0 := 0) C kt_M hK (c_M_status l D m0 hd ln cH cZ u 13  _) (cw_M_29 hT ⟨Nat.le_of_ble_eq_true rfl, Nat.le_of_ble_eq_true rfl⟩) rfl rfl hP hD hS rfl hl.1 rfl (Nat.le_of_ble_eq_true rfl) dc_M_floating_3 ⟨Nat.zero_le _, Nat.zero_le _⟩) (fun v2 H locs e2 hP hD hS => ?_)
  refine lv_iconst (v := 2) hx hb dc_M_floating_6 (by decide) ?_
  refine lv_aload_n hx hb dc_M_floating_7 rfl (lv_at hl 0 rfl) ?_
  refine lv_bipush (v := 14) hx hb dc_M_floating_8 (by decide) ?_
  refine ck_gpi (rest := [.int 2, .int v2]) C kt_M hP hD hS (ck_runV (q0 := 0) C kt_M hK (c_M_status l D m0 hd ln cH cZ u 14  _) (cw_M_29 hT ⟨Nat.le_of_ble_eq_true rfl, Nat.le_of_ble_eq_true rfl⟩) rfl rfl hP hD hS rfl hl.1 rfl (Nat.le_of_ble_eq_true rfl) dc_M_floating_10 ⟨Nat.zero_le _, Nat.zero_le _⟩) (fun v4 H locs e4 hP hD hS => ?_)
  refine xr_imul hx hb dc_M_floating_13 (fun v5 e5 => ?_)
  refine xr_iadd hx hb dc_M_floating_14 (fun v6 e6 => ?_)
  exact ck_iret (v := v6) C hP hD hS ⟨by subst e2 e4 e5 e6; exact (rfl).symm, rfl⟩ dc_M_floating_15
def f_M_mode (u0 : ms_St)  : Int32 × ms_St := (let w1 : ms_St := (upd u0.1 0 0, u0.2); let v2 : Int32 := w1.1 2; (v2, w1))
set_option maxHeartbeats 4000000 in
set_option maxRecDepth 100000 in
theorem c_M_mode (l : Launch) (D : va_G) (m0 hd ln : Nat) (cH cZ : ClassId) (u0 : ms_St)   : ck_Mi l D [(cH, .long), (cZ, .boolean)] (wm m0 hd ln cH cZ) yn_M_mode w_M_mode rm_M_mode 0 0 [.ref m0] u0 (f_M_mode u0).1 (f_M_mode u0).2 := by
  refine ck_enti (cc := bc_M_mode) (maxL := 1) (ret := (some .int)) (by decide) rfl (Nat.le_of_ble_eq_true rfl) ?_
  intro p e s m below meth c A ls C hnm hP hD hS hl
  have C : ck_C p s m meth c bc_M_mode (some .int) 1 #[.ref m0] "ControlDeskModel" A D [(cH, .long), (cZ, .boolean)] := C
  have hl : lv_has ls 1 [(0, .ref m0)] := hl
  have hx := C.1
  have hb := C.2.1
  have hown := C.2.2.2.2.1
  have hT := C.2.2.2.2.2.1
  have hK := C.2.2.2.2.2.2.2.1
  have hN := C.2.2.2.2.2.2.2.2.2.2.2.1
  -- from the entry
  refine lv_aload_n hx hb dc_M_mode_0 rfl (lv_at hl 0 rfl) ?_
  refine lv_iconst (v := 0) hx hb dc_M_mode_1 (by decide) ?_
  refine pm_thrown C hP hD hS dc_M_mode_2 (fun w1 H locs ew1 hP hD hS => ?_)
  refine lv_aload_n hx hb dc_M_mode_5 rfl (lv_at hl 0 rfl) ?_
  refine gm_mode C hP dc_M_mode_6 (fun v2 e2 => ?_)
  exact ck_iret (v := v2) C hP hD hS (by subst ew1 e2; exact ck_pair (rfl)) dc_M_mode_9
def f_M_dataMode (u0 : ms_St)  : Int32 × ms_St := (let w1 : ms_St := (upd u0.1 0 0, u0.2); let v3 : Int32 := f_M_status w1 17; (if v3 = 1 then (let v7 : Int32 := f_M_below w1; (v7, w1)) else (let v5 : Int32 := w1.1 2; (v5, w1))))
set_option maxHeartbeats 4000000 in
set_option maxRecDepth 100000 in
theorem c_M_dataMode (l : Launch) (D : va_G) (m0 hd ln : Nat) (cH cZ : ClassId) (u0 : ms_St)   : ck_Mi l D [(cH, .long), (cZ, .boolean)] (wm m0 hd ln cH cZ) yn_M_dataMode w_M_dataMode rm_M_dataMode 0 0 [.ref m0] u0 (f_M_dataMode u0).1 (f_M_dataMode u0).2 := by
  refine ck_enti (cc := bc_M_dataMode) (maxL := 1) (ret := (some .int)) (by decide) rfl (Nat.le_of_ble_eq_true rfl) ?_
  intro p e s m below meth c A ls C hnm hP hD hS hl
  have C : ck_C p s m meth c bc_M_dataMode (some .int) 1 #[.ref m0] "ControlDeskModel" A D [(cH, .long), (cZ, .boolean)] := C
  have hl : lv_has ls 1 [(0, .ref m0)] := hl
  have hx := C.1
  have hb := C.2.1
  have hown := C.2.2.2.2.1
  have hT := C.2.2.2.2.2.1
  have hK := C.2.2.2.2.2.2.2.1
  have hN := C.2.2.2.2.2.2.2.2.2.2.2.1
  -- from the entry
  refine lv_aload_n hx hb dc_M_dataMode_0 rfl (lv_at hl 0 rfl) ?_
  refine lv_iconst (v := 0) hx hb dc_M_dataMode_1 (by decide) ?_
  refine pm_thrown C hP hD hS dc_M_dataMode_2 (fun w1 H locs ew1 hP hD hS => ?_)
  refine lv_aload_n hx hb dc_M_dataMode_5 rfl (lv_at hl 0 rfl) ?_
  refine lv_bipush (v := 17) hx hb dc_M_dataMode_6 (by decide) ?_
  refine ck_gpi (rest := []) C kt_M hP hD hS (ck_runV (q0 := 0) C kt_M hK (c_M_status l D m0 hd ln cH cZ w1 17  _) (cw_M_29 hT ⟨Nat.le_of_ble_eq_true rfl, Nat.le_of_ble_eq_true rfl⟩) rfl rfl hP hD hS rfl hl.1 rfl (Nat.le_of_ble_eq_true rfl) dc_M_dataMode_8 ⟨Nat.zero_le _, Nat.zero_le _⟩) (fun v3 H locs e3 hP hD hS => ?_)
  refine lv_iconst (v := 1) hx hb dc_M_dataMode_11 (by decide) ?_
  refine lv_icmp_ne (tgt := 22) hx hb dc_M_dataMode_12 (by decide) (fun c4 => ?_) (fun c4 => ?_)
  · refine lv_aload_n hx hb dc_M_dataMode_22 rfl (lv_at hl 0 rfl) ?_
    refine gm_mode C hP dc_M_dataMode_23 (fun v5 e5 => ?_)
    exact ck_iret (v := v5) C hP hD hS (by subst ew1 e3 e5; exact ck_pair ((if_neg c4))) dc_M_dataMode_26
  · refine lv_aload_n hx hb dc_M_dataMode_15 rfl (lv_at hl 0 rfl) ?_
    refine ck_gpi (rest := []) C kt_M hP hD hS (ck_runV (q0 := 0) C kt_M hK (c_M_below l D m0 hd ln cH cZ w1   _) (cw_M_33 hT ⟨Nat.le_of_ble_eq_true rfl, Nat.le_of_ble_eq_true rfl⟩) rfl rfl hP hD hS rfl hl.1 rfl (Nat.le_of_ble_eq_true rfl) dc_M_dataMode_16 ⟨Nat.zero_le _, Nat.zero_le _⟩) (fun v7 H locs e7 hP hD hS => ?_)
    refine lv_goto (tgt := 26) hx hb dc_M_dataMode_19 (by decide) ?_
    exact ck_iret (v := v7) C hP hD hS (by subst ew1 e3 e7; exact ck_pair ((if_pos c4))) dc_M_dataMode_26
def f_M_isElsewhere_9 (u : ms_St) (p1 : Int32)  : Int32 := (if p1 = 928 then 1 else (if p1 = 930 then 1 else (if p1 < 944 then 0 else (if 960 ≤ p1 then 0 else 1))))
def f_M_isElsewhere (u : ms_St) (p1 : Int32) : Int32 := (if p1 ≤ 0 then (f_M_isElsewhere_9 u p1 ) else (if p1 < 4 then 1 else (f_M_isElsewhere_9 u p1 )))
set_option maxHeartbeats 4000000 in
set_option maxRecDepth 100000 in
theorem c_M_isElsewhere (l : Launch) (D : va_G) (m0 hd ln : Nat) (cH cZ : ClassId) (u : ms_St) (p1 : Int32)  : ck_Mi l D [(cH, .long), (cZ, .boolean)] (wm m0 hd ln cH cZ) yn_M_isElsewhere w_M_isElsewhere rm_M_isElsewhere 0 0 [.int p1] u (f_M_isElsewhere u p1) u := by
  refine ck_enti (cc := bc_M_isElsewhere) (maxL := 1) (ret := (some .boolean)) (by decide) rfl (Nat.le_of_ble_eq_true rfl) ?_
  intro p e s m below meth c A ls C hnm hP hD hS hl
  have C : ck_C p s m meth c bc_M_isElsewhere (some .boolean) 1 #[.int p1] "ControlDeskModel" A D [(cH, .long), (cZ, .boolean)] := C
  have hl : lv_has ls 1 [(0, .int p1)] := hl
  have hx := C.1
  have hb := C.2.1
  have hown := C.2.2.2.2.1
  have hT := C.2.2.2.2.2.1
  have hK := C.2.2.2.2.2.2.2.1
  have hN := C.2.2.2.2.2.2.2.2.2.2.2.1
  have k9 : ∀ (H : Heap) (locs : List Loc) (ls : Array Slot), va_P D xw_Cl ((wm m0 hd ln cH cZ) u) H → va_D A ((wm m0 hd ln cH cZ) u) → va_S A s.heap H locs → lv_has ls 1 [(0, .int p1)] → f_M_isElsewhere u p1 = f_M_isElsewhere_9 u p1  → W p l e rm_M_isElsewhere s m #[.int p1] below meth c H locs 0 0 (MQ below (va_Qi (fun r2 u2 => r2 = (f_M_isElsewhere u p1) ∧ u2 = u) (ck_B D (wm m0 hd ln cH cZ) A) A) #[.int p1] s 0 0 A) (F0 m 9 ls []) := by
    intro  H locs ls hP hD hS hl hq 
    refine lv_iload_n hx hb dc_M_isElsewhere_9 rfl (lv_at hl 0 rfl) ?_
    refine lv_sipush (v := 928) hx hb dc_M_isElsewhere_10 (by decide) ?_
    refine lv_icmp_eq (tgt := 37) hx hb dc_M_isElsewhere_13 (by decide) (fun c1 => ?_) (fun c1 => ?_)
    · refine lv_iconst (v := 1) hx hb dc_M_isElsewhere_37 (by decide) ?_
      refine lv_goto (tgt := 42) hx hb dc_M_isElsewhere_38 (by decide) ?_
      exact ck_zret (v := 1) C hP hD hS rfl ⟨by exact (hq.trans ((if_pos c1))).symm, rfl⟩ dc_M_isElsewhere_42
    · refine lv_iload_n hx hb dc_M_isElsewhere_16 rfl (lv_at hl 0 rfl) ?_
      refine lv_sipush (v := 930) hx hb dc_M_isElsewhere_17 (by decide) ?_
      refine lv_icmp_eq (tgt := 37) hx hb dc_M_isElsewhere_20 (by decide) (fun c2 => ?_) (fun c2 => ?_)
      · refine lv_iconst (v := 1) hx hb dc_M_isElsewhere_37 (by decide) ?_
        refine lv_goto (tgt := 42) hx hb dc_M_isElsewhere_38 (by decide) ?_
        exact ck_zret (v := 1) C hP hD hS rfl ⟨by exact (hq.trans ((if_neg c1).trans ((if_pos c2)))).symm, rfl⟩ dc_M_isElsewhere_42
      · refine lv_iload_n hx hb dc_M_isElsewhere_23 rfl (lv_at hl 0 rfl) ?_
        refine lv_sipush (v := 944) hx hb dc_M_isElsewhere_24 (by decide) ?_
        refine lv_icmp_lt (tgt := 41) hx hb dc_M_isElsewhere_27 (by decide) (fun c3 => ?_) (fun c3 => ?_)
        · refine lv_iconst (v := 0) hx hb dc_M_isElsewhere_41 (by decide) ?_
          exact ck_zret (v := 0) C hP hD hS rfl ⟨by exact (hq.trans ((if_neg c1).trans ((if_neg c2).trans ((if_pos c3))))).symm, rfl⟩ dc_M_isElsewhere_42
        · refine lv_iload_n hx hb dc_M_isElsewhere_30 rfl (lv_at hl 0 rfl) ?_
          refine lv_sipush (v := 960) hx hb dc_M_isElsewhere_31 (by decide) ?_
          refine lv_icmp_ge (tgt := 41) hx hb dc_M_isElsewhere_34 (by decide) (fun c4 => ?_) (fun c4 => ?_)
          · refine lv_iconst (v := 0) hx hb dc_M_isElsewhere_41 (by decide) ?_
            exact ck_zret (v := 0) C hP hD hS rfl ⟨by exact (hq.trans ((if_neg c1).trans ((if_neg c2).trans ((if_neg c3).trans ((if_pos c4)))))).symm, rfl⟩ dc_M_isElsewhere_42
          · refine lv_iconst (v := 1) hx hb dc_M_isElsewhere_37 (by decide) ?_
            refine lv_goto (tgt := 42) hx hb dc_M_isElsewhere_38 (by decide) ?_
            exact ck_zret (v := 1) C hP hD hS rfl ⟨by exact (hq.trans ((if_neg c1).trans ((if_neg c2).trans ((if_neg c3).trans ((if_neg c4)))))).symm, rfl⟩ dc_M_isElsewhere_42
  -- from the entry
  refine lv_iload_n hx hb dc_M_isElsewhere_0 rfl (lv_at hl 0 rfl) ?_
  refine lv_if_le (tgt := 9) hx hb dc_M_isElsewhere_1 (by decide) (fun c5 => ?_) (fun c5 => ?_)
  · exact k9  _ _ _ hP hD hS (lv_sub hl [0] rfl) (by exact (if_pos c5))
  · refine lv_iload_n hx hb dc_M_isElsewhere_4 rfl (lv_at hl 0 rfl) ?_
    refine lv_iconst (v := 4) hx hb dc_M_isElsewhere_5 (by decide) ?_
    refine lv_icmp_lt (tgt := 37) hx hb dc_M_isElsewhere_6 (by decide) (fun c6 => ?_) (fun c6 => ?_)
    · refine lv_iconst (v := 1) hx hb dc_M_isElsewhere_37 (by decide) ?_
      refine lv_goto (tgt := 42) hx hb dc_M_isElsewhere_38 (by decide) ?_
      exact ck_zret (v := 1) C hP hD hS rfl ⟨by exact ((if_neg c5).trans ((if_pos c6))).symm, rfl⟩ dc_M_isElsewhere_42
    · exact k9  _ _ _ hP hD hS (lv_sub hl [0] rfl) (by exact (if_neg c5).trans ((if_neg c6)))
def f_M_isCount (u : ms_St) (p1 : Int32) : Int32 := (if p1 < 3072 then 0 else (if 3075 ≤ p1 then 0 else 1))
set_option maxHeartbeats 4000000 in
set_option maxRecDepth 100000 in
theorem c_M_isCount (l : Launch) (D : va_G) (m0 hd ln : Nat) (cH cZ : ClassId) (u : ms_St) (p1 : Int32)  : ck_Mi l D [(cH, .long), (cZ, .boolean)] (wm m0 hd ln cH cZ) yn_M_isCount w_M_isCount rm_M_isCount 0 0 [.int p1] u (f_M_isCount u p1) u := by
  refine ck_enti (cc := bc_M_isCount) (maxL := 1) (ret := (some .boolean)) (by decide) rfl (Nat.le_of_ble_eq_true rfl) ?_
  intro p e s m below meth c A ls C hnm hP hD hS hl
  have C : ck_C p s m meth c bc_M_isCount (some .boolean) 1 #[.int p1] "ControlDeskModel" A D [(cH, .long), (cZ, .boolean)] := C
  have hl : lv_has ls 1 [(0, .int p1)] := hl
  have hx := C.1
  have hb := C.2.1
  have hown := C.2.2.2.2.1
  have hT := C.2.2.2.2.2.1
  have hK := C.2.2.2.2.2.2.2.1
  have hN := C.2.2.2.2.2.2.2.2.2.2.2.1
  -- from the entry
  refine lv_iload_n hx hb dc_M_isCount_0 rfl (lv_at hl 0 rfl) ?_
  refine lv_sipush (v := 3072) hx hb dc_M_isCount_1 (by decide) ?_
  refine lv_icmp_lt (tgt := 18) hx hb dc_M_isCount_4 (by decide) (fun c1 => ?_) (fun c1 => ?_)
  · refine lv_iconst (v := 0) hx hb dc_M_isCount_18 (by decide) ?_
    exact ck_zret (v := 0) C hP hD hS rfl ⟨by exact ((if_pos c1)).symm, rfl⟩ dc_M_isCount_19
  · refine lv_iload_n hx hb dc_M_isCount_7 rfl (lv_at hl 0 rfl) ?_
    refine lv_sipush (v := 3075) hx hb dc_M_isCount_8 (by decide) ?_
    refine lv_icmp_ge (tgt := 18) hx hb dc_M_isCount_11 (by decide) (fun c2 => ?_) (fun c2 => ?_)
    · refine lv_iconst (v := 0) hx hb dc_M_isCount_18 (by decide) ?_
      exact ck_zret (v := 0) C hP hD hS rfl ⟨by exact ((if_neg c1).trans ((if_pos c2))).symm, rfl⟩ dc_M_isCount_19
    · refine lv_iconst (v := 1) hx hb dc_M_isCount_14 (by decide) ?_
      refine lv_goto (tgt := 19) hx hb dc_M_isCount_15 (by decide) ?_
      exact ck_zret (v := 1) C hP hD hS rfl ⟨by exact ((if_neg c1).trans ((if_neg c2))).symm, rfl⟩ dc_M_isCount_19
def f_M_isThere_109 (u : ms_St) (p1 : Int32) (x1 : Int32) (y0 : Int32) : Int32 := (if x1 = 0 then (if y0 = 0 then (let v4 : Int32 := f_M_isCount u p1; (if v4 = 0 then (let v7 : Int32 := f_M_isElsewhere u p1; (if v7 = 0 then 0 else 1)) else 1)) else 1) else 1)
def f_M_isThere_97 (u : ms_St) (p1 : Int32) (x1 : Int32) : Int32 := (if p1 = 384 then (f_M_isThere_109 u p1 x1 1) else (f_M_isThere_109 u p1 x1 0))
def f_M_isThere_83 (u : ms_St) (p1 : Int32) (x1 : Int32) : Int32 := (if p1 < 320 then (f_M_isThere_97 u p1 x1) else (if p1 < 325 then (f_M_isThere_109 u p1 x1 1) else (f_M_isThere_97 u p1 x1)))
def f_M_isThere_61 (u : ms_St) (p1 : Int32) (y0 : Int32) : Int32 := (if p1 = 256 then (f_M_isThere_109 u p1 y0 1) else (if p1 < 260 then (f_M_isThere_83 u p1 y0) else (if p1 < 263 then (f_M_isThere_109 u p1 y0 1) else (f_M_isThere_83 u p1 y0))))
def f_M_isThere_28 (u : ms_St) (p1 : Int32)  : Int32 := (if p1 = 2816 then (f_M_isThere_61 u p1 1) else (if p1 = 2818 then (f_M_isThere_61 u p1 1) else (if p1 < 3857 then (f_M_isThere_61 u p1 0) else (if 3862 ≤ p1 then (f_M_isThere_61 u p1 0) else (f_M_isThere_61 u p1 1)))))
def f_M_isThere_14 (u : ms_St) (p1 : Int32)  : Int32 := (if p1 < 832 then (f_M_isThere_28 u p1 ) else (if p1 < 837 then (f_M_isThere_61 u p1 1) else (f_M_isThere_28 u p1 )))
def f_M_isThere (u : ms_St) (p1 : Int32) : Int32 := (if p1 < 768 then (f_M_isThere_14 u p1 ) else (if p1 < 775 then (f_M_isThere_61 u p1 1) else (f_M_isThere_14 u p1 )))
set_option maxHeartbeats 4000000 in
set_option maxRecDepth 100000 in
theorem c_M_isThere (l : Launch) (D : va_G) (m0 hd ln : Nat) (cH cZ : ClassId) (u : ms_St) (p1 : Int32)  : ck_Mi l D [(cH, .long), (cZ, .boolean)] (wm m0 hd ln cH cZ) yn_M_isThere w_M_isThere rm_M_isThere 0 0 [.int p1] u (f_M_isThere u p1) u := by
  refine ck_enti (cc := bc_M_isThere) (maxL := 3) (ret := (some .boolean)) (by decide) rfl (Nat.le_of_ble_eq_true rfl) ?_
  intro p e s m below meth c A ls C hnm hP hD hS hl
  have C : ck_C p s m meth c bc_M_isThere (some .boolean) 3 #[.int p1] "ControlDeskModel" A D [(cH, .long), (cZ, .boolean)] := C
  have hl : lv_has ls 3 [(0, .int p1)] := hl
  have hx := C.1
  have hb := C.2.1
  have hown := C.2.2.2.2.1
  have hT := C.2.2.2.2.2.1
  have hK := C.2.2.2.2.2.2.2.1
  have hN := C.2.2.2.2.2.2.2.2.2.2.2.1
  have k109 : ∀ (x1 : Int32) (y0 : Int32) (H : Heap) (locs : List Loc) (ls : Array Slot), va_P D xw_Cl ((wm m0 hd ln cH cZ) u) H → va_D A ((wm m0 hd ln cH cZ) u) → va_S A s.heap H locs → lv_has ls 3 [(0, .int p1), (1, .int x1)] → f_M_isThere u p1 = f_M_isThere_109 u p1 x1 y0 → W p l e rm_M_isThere s m #[.int p1] below meth c H locs 0 0 (MQ below (va_Qi (fun r2 u2 => r2 = (f_M_isThere u p1) ∧ u2 = u) (ck_B D (wm m0 hd ln cH cZ) A) A) #[.int p1] s 0 0 A) (F0 m 109 ls [.int y0]) := by
    intro x1 y0 H locs ls hP hD hS hl hq 
    refine lv_istore_n (lv' := [(2, .int y0), (0, .int p1), (1, .int x1)]) hx hb dc_M_isThere_109 rfl hl (by decide) rfl (fun ls hl => ?_)
    refine lv_iload_n hx hb dc_M_isThere_110 rfl (lv_at hl 2 rfl) ?_
    refine lv_if_ne (tgt := 132) hx hb dc_M_isThere_111 (by decide) (fun c1 => ?_) (fun c1 => ?_)
    · refine lv_iconst (v := 1) hx hb dc_M_isThere_132 (by decide) ?_
      refine lv_goto (tgt := 137) hx hb dc_M_isThere_133 (by decide) ?_
      exact ck_zret (v := 1) C hP hD hS rfl ⟨by exact (hq.trans ((if_neg c1))).symm, rfl⟩ dc_M_isThere_137
    · refine lv_iload_n hx hb dc_M_isThere_114 rfl (lv_at hl 0 rfl) ?_
      refine lv_if_ne (tgt := 132) hx hb dc_M_isThere_115 (by decide) (fun c2 => ?_) (fun c2 => ?_)
      · refine lv_iconst (v := 1) hx hb dc_M_isThere_132 (by decide) ?_
        refine lv_goto (tgt := 137) hx hb dc_M_isThere_133 (by decide) ?_
        exact ck_zret (v := 1) C hP hD hS rfl ⟨by exact (hq.trans ((if_pos c1).trans ((if_neg c2)))).symm, rfl⟩ dc_M_isThere_137
      · refine lv_iload_n hx hb dc_M_isThere_118 rfl (lv_at hl 1 rfl) ?_
        refine ck_gpi (rest := []) C kt_M hP hD hS (ck_runS C kt_M hK (c_M_isCount l D m0 hd ln cH cZ u p1  _) (cw_M_37 hT ⟨Nat.le_of_ble_eq_true rfl, Nat.le_of_ble_eq_true rfl⟩) hP hD hS rfl hl.1 rfl (Nat.le_of_ble_eq_true rfl) dc_M_isThere_119 ⟨Nat.zero_le _, Nat.zero_le _⟩) (fun v4 H locs e4 hP hD hS => ?_)
        refine lv_if_ne (tgt := 132) hx hb dc_M_isThere_122 (by decide) (fun c5 => ?_) (fun c5 => ?_)
        · refine lv_iconst (v := 1) hx hb dc_M_isThere_132 (by decide) ?_
          refine lv_goto (tgt := 137) hx hb dc_M_isThere_133 (by decide) ?_
          exact ck_zret (v := 1) C hP hD hS rfl ⟨by subst e4; exact (hq.trans ((if_pos c1).trans ((if_pos c2).trans ((if_neg c5))))).symm, rfl⟩ dc_M_isThere_137
        · refine lv_iload_n hx hb dc_M_isThere_125 rfl (lv_at hl 1 rfl) ?_
          refine ck_gpi (rest := []) C kt_M hP hD hS (ck_runS C kt_M hK (c_M_isElsewhere l D m0 hd ln cH cZ u p1  _) (cw_M_41 hT ⟨Nat.le_of_ble_eq_true rfl, Nat.le_of_ble_eq_true rfl⟩) hP hD hS rfl hl.1 rfl (Nat.le_of_ble_eq_true rfl) dc_M_isThere_126 ⟨Nat.zero_le _, Nat.zero_le _⟩) (fun v7 H locs e7 hP hD hS => ?_)
          refine lv_if_eq (tgt := 136) hx hb dc_M_isThere_129 (by decide) (fun c8 => ?_) (fun c8 => ?_)
          · refine lv_iconst (v := 0) hx hb dc_M_isThere_136 (by decide) ?_
            exact ck_zret (v := 0) C hP hD hS rfl ⟨by subst e4 e7; exact (hq.trans ((if_pos c1).trans ((if_pos c2).trans ((if_pos c5).trans ((if_pos c8)))))).symm, rfl⟩ dc_M_isThere_137
          · refine lv_iconst (v := 1) hx hb dc_M_isThere_132 (by decide) ?_
            refine lv_goto (tgt := 137) hx hb dc_M_isThere_133 (by decide) ?_
            exact ck_zret (v := 1) C hP hD hS rfl ⟨by subst e4 e7; exact (hq.trans ((if_pos c1).trans ((if_pos c2).trans ((if_pos c5).trans ((if_neg c8)))))).symm, rfl⟩ dc_M_isThere_137
  have k97 : ∀ (x1 : Int32) (H : Heap) (locs : List Loc) (ls : Array Slot), va_P D xw_Cl ((wm m0 hd ln cH cZ) u) H → va_D A ((wm m0 hd ln cH cZ) u) → va_S A s.heap H locs → lv_has ls 3 [(0, .int p1), (1, .int x1)] → f_M_isThere u p1 = f_M_isThere_97 u p1 x1 → W p l e rm_M_isThere s m #[.int p1] below meth c H locs 0 0 (MQ below (va_Qi (fun r2 u2 => r2 = (f_M_isThere u p1) ∧ u2 = u) (ck_B D (wm m0 hd ln cH cZ) A) A) #[.int p1] s 0 0 A) (F0 m 97 ls []) := by
    intro x1 H locs ls hP hD hS hl hq 
    refine lv_iload_n hx hb dc_M_isThere_97 rfl (lv_at hl 0 rfl) ?_
    refine lv_sipush (v := 384) hx hb dc_M_isThere_98 (by decide) ?_
    refine lv_icmp_ne (tgt := 108) hx hb dc_M_isThere_101 (by decide) (fun c9 => ?_) (fun c9 => ?_)
    · refine lv_iconst (v := 0) hx hb dc_M_isThere_108 (by decide) ?_
      exact k109 x1 0 _ _ _ hP hD hS (lv_sub hl [0, 1] rfl) (by exact hq.trans ((if_neg c9)))
    · refine lv_iconst (v := 1) hx hb dc_M_isThere_104 (by decide) ?_
      refine lv_goto (tgt := 109) hx hb dc_M_isThere_105 (by decide) ?_
      exact k109 x1 1 _ _ _ hP hD hS (lv_sub hl [0, 1] rfl) (by exact hq.trans ((if_pos c9)))
  have k83 : ∀ (x1 : Int32) (H : Heap) (locs : List Loc) (ls : Array Slot), va_P D xw_Cl ((wm m0 hd ln cH cZ) u) H → va_D A ((wm m0 hd ln cH cZ) u) → va_S A s.heap H locs → lv_has ls 3 [(0, .int p1), (1, .int x1)] → f_M_isThere u p1 = f_M_isThere_83 u p1 x1 → W p l e rm_M_isThere s m #[.int p1] below meth c H locs 0 0 (MQ below (va_Qi (fun r2 u2 => r2 = (f_M_isThere u p1) ∧ u2 = u) (ck_B D (wm m0 hd ln cH cZ) A) A) #[.int p1] s 0 0 A) (F0 m 83 ls []) := by
    intro x1 H locs ls hP hD hS hl hq 
    refine lv_iload_n hx hb dc_M_isThere_83 rfl (lv_at hl 0 rfl) ?_
    refine lv_sipush (v := 320) hx hb dc_M_isThere_84 (by decide) ?_
    refine lv_icmp_lt (tgt := 97) hx hb dc_M_isThere_87 (by decide) (fun c10 => ?_) (fun c10 => ?_)
    · exact k97 x1 _ _ _ hP hD hS (lv_sub hl [0, 1] rfl) (by exact hq.trans ((if_pos c10)))
    · refine lv_iload_n hx hb dc_M_isThere_90 rfl (lv_at hl 0 rfl) ?_
      refine lv_sipush (v := 325) hx hb dc_M_isThere_91 (by decide) ?_
      refine lv_icmp_lt (tgt := 104) hx hb dc_M_isThere_94 (by decide) (fun c11 => ?_) (fun c11 => ?_)
      · refine lv_iconst (v := 1) hx hb dc_M_isThere_104 (by decide) ?_
        refine lv_goto (tgt := 109) hx hb dc_M_isThere_105 (by decide) ?_
        exact k109 x1 1 _ _ _ hP hD hS (lv_sub hl [0, 1] rfl) (by exact hq.trans ((if_neg c10).trans ((if_pos c11))))
      · exact k97 x1 _ _ _ hP hD hS (lv_sub hl [0, 1] rfl) (by exact hq.trans ((if_neg c10).trans ((if_neg c11))))
  have k61 : ∀ (y0 : Int32) (H : Heap) (locs : List Loc) (ls : Array Slot), va_P D xw_Cl ((wm m0 hd ln cH cZ) u) H → va_D A ((wm m0 hd ln cH cZ) u) → va_S A s.heap H locs → lv_has ls 3 [(0, .int p1)] → f_M_isThere u p1 = f_M_isThere_61 u p1 y0 → W p l e rm_M_isThere s m #[.int p1] below meth c H locs 0 0 (MQ below (va_Qi (fun r2 u2 => r2 = (f_M_isThere u p1) ∧ u2 = u) (ck_B D (wm m0 hd ln cH cZ) A) A) #[.int p1] s 0 0 A) (F0 m 61 ls [.int y0]) := by
    intro y0 H locs ls hP hD hS hl hq 
    refine lv_istore_n (lv' := [(1, .int y0), (0, .int p1)]) hx hb dc_M_isThere_61 rfl hl (by decide) rfl (fun ls hl => ?_)
    refine lv_iload_n hx hb dc_M_isThere_62 rfl (lv_at hl 1 rfl) ?_
    refine lv_sipush (v := 256) hx hb dc_M_isThere_63 (by decide) ?_
    refine lv_icmp_eq (tgt := 104) hx hb dc_M_isThere_66 (by decide) (fun c12 => ?_) (fun c12 => ?_)
    · refine lv_iconst (v := 1) hx hb dc_M_isThere_104 (by decide) ?_
      refine lv_goto (tgt := 109) hx hb dc_M_isThere_105 (by decide) ?_
      exact k109 y0 1 _ _ _ hP hD hS (lv_sub hl [1, 0] rfl) (by exact hq.trans ((if_pos c12)))
    · refine lv_iload_n hx hb dc_M_isThere_69 rfl (lv_at hl 1 rfl) ?_
      refine lv_sipush (v := 260) hx hb dc_M_isThere_70 (by decide) ?_
      refine lv_icmp_lt (tgt := 83) hx hb dc_M_isThere_73 (by decide) (fun c13 => ?_) (fun c13 => ?_)
      · exact k83 y0 _ _ _ hP hD hS (lv_sub hl [1, 0] rfl) (by exact hq.trans ((if_neg c12).trans ((if_pos c13))))
      · refine lv_iload_n hx hb dc_M_isThere_76 rfl (lv_at hl 1 rfl) ?_
        refine lv_sipush (v := 263) hx hb dc_M_isThere_77 (by decide) ?_
        refine lv_icmp_lt (tgt := 104) hx hb dc_M_isThere_80 (by decide) (fun c14 => ?_) (fun c14 => ?_)
        · refine lv_iconst (v := 1) hx hb dc_M_isThere_104 (by decide) ?_
          refine lv_goto (tgt := 109) hx hb dc_M_isThere_105 (by decide) ?_
          exact k109 y0 1 _ _ _ hP hD hS (lv_sub hl [1, 0] rfl) (by exact hq.trans ((if_neg c12).trans ((if_neg c13).trans ((if_pos c14)))))
        · exact k83 y0 _ _ _ hP hD hS (lv_sub hl [1, 0] rfl) (by exact hq.trans ((if_neg c12).trans ((if_neg c13).trans ((if_neg c14)))))
  have k28 : ∀ (H : Heap) (locs : List Loc) (ls : Array Slot), va_P D xw_Cl ((wm m0 hd ln cH cZ) u) H → va_D A ((wm m0 hd ln cH cZ) u) → va_S A s.heap H locs → lv_has ls 3 [(0, .int p1)] → f_M_isThere u p1 = f_M_isThere_28 u p1  → W p l e rm_M_isThere s m #[.int p1] below meth c H locs 0 0 (MQ below (va_Qi (fun r2 u2 => r2 = (f_M_isThere u p1) ∧ u2 = u) (ck_B D (wm m0 hd ln cH cZ) A) A) #[.int p1] s 0 0 A) (F0 m 28 ls []) := by
    intro  H locs ls hP hD hS hl hq 
    refine lv_iload_n hx hb dc_M_isThere_28 rfl (lv_at hl 0 rfl) ?_
    refine lv_sipush (v := 2816) hx hb dc_M_isThere_29 (by decide) ?_
    refine lv_icmp_eq (tgt := 56) hx hb dc_M_isThere_32 (by decide) (fun c15 => ?_) (fun c15 => ?_)
    · refine lv_iconst (v := 1) hx hb dc_M_isThere_56 (by decide) ?_
      refine lv_goto (tgt := 61) hx hb dc_M_isThere_57 (by decide) ?_
      exact k61 1 _ _ _ hP hD hS (lv_sub hl [0] rfl) (by exact hq.trans ((if_pos c15)))
    · refine lv_iload_n hx hb dc_M_isThere_35 rfl (lv_at hl 0 rfl) ?_
      refine lv_sipush (v := 2818) hx hb dc_M_isThere_36 (by decide) ?_
      refine lv_icmp_eq (tgt := 56) hx hb dc_M_isThere_39 (by decide) (fun c16 => ?_) (fun c16 => ?_)
      · refine lv_iconst (v := 1) hx hb dc_M_isThere_56 (by decide) ?_
        refine lv_goto (tgt := 61) hx hb dc_M_isThere_57 (by decide) ?_
        exact k61 1 _ _ _ hP hD hS (lv_sub hl [0] rfl) (by exact hq.trans ((if_neg c15).trans ((if_pos c16))))
      · refine lv_iload_n hx hb dc_M_isThere_42 rfl (lv_at hl 0 rfl) ?_
        refine lv_sipush (v := 3857) hx hb dc_M_isThere_43 (by decide) ?_
        refine lv_icmp_lt (tgt := 60) hx hb dc_M_isThere_46 (by decide) (fun c17 => ?_) (fun c17 => ?_)
        · refine lv_iconst (v := 0) hx hb dc_M_isThere_60 (by decide) ?_
          exact k61 0 _ _ _ hP hD hS (lv_sub hl [0] rfl) (by exact hq.trans ((if_neg c15).trans ((if_neg c16).trans ((if_pos c17)))))
        · refine lv_iload_n hx hb dc_M_isThere_49 rfl (lv_at hl 0 rfl) ?_
          refine lv_sipush (v := 3862) hx hb dc_M_isThere_50 (by decide) ?_
          refine lv_icmp_ge (tgt := 60) hx hb dc_M_isThere_53 (by decide) (fun c18 => ?_) (fun c18 => ?_)
          · refine lv_iconst (v := 0) hx hb dc_M_isThere_60 (by decide) ?_
            exact k61 0 _ _ _ hP hD hS (lv_sub hl [0] rfl) (by exact hq.trans ((if_neg c15).trans ((if_neg c16).trans ((if_neg c17).trans ((if_pos c18))))))
          · refine lv_iconst (v := 1) hx hb dc_M_isThere_56 (by decide) ?_
            refine lv_goto (tgt := 61) hx hb dc_M_isThere_57 (by decide) ?_
            exact k61 1 _ _ _ hP hD hS (lv_sub hl [0] rfl) (by exact hq.trans ((if_neg c15).trans ((if_neg c16).trans ((if_neg c17).trans ((if_neg c18))))))
  have k14 : ∀ (H : Heap) (locs : List Loc) (ls : Array Slot), va_P D xw_Cl ((wm m0 hd ln cH cZ) u) H → va_D A ((wm m0 hd ln cH cZ) u) → va_S A s.heap H locs → lv_has ls 3 [(0, .int p1)] → f_M_isThere u p1 = f_M_isThere_14 u p1  → W p l e rm_M_isThere s m #[.int p1] below meth c H locs 0 0 (MQ below (va_Qi (fun r2 u2 => r2 = (f_M_isThere u p1) ∧ u2 = u) (ck_B D (wm m0 hd ln cH cZ) A) A) #[.int p1] s 0 0 A) (F0 m 14 ls []) := by
    intro  H locs ls hP hD hS hl hq 
    refine lv_iload_n hx hb dc_M_isThere_14 rfl (lv_at hl 0 rfl) ?_
    refine lv_sipush (v := 832) hx hb dc_M_isThere_15 (by decide) ?_
    refine lv_icmp_lt (tgt := 28) hx hb dc_M_isThere_18 (by decide) (fun c19 => ?_) (fun c19 => ?_)
    · exact k28  _ _ _ hP hD hS (lv_sub hl [0] rfl) (by exact hq.trans ((if_pos c19)))
    · refine lv_iload_n hx hb dc_M_isThere_21 rfl (lv_at hl 0 rfl) ?_
      refine lv_sipush (v := 837) hx hb dc_M_isThere_22 (by decide) ?_
      refine lv_icmp_lt (tgt := 56) hx hb dc_M_isThere_25 (by decide) (fun c20 => ?_) (fun c20 => ?_)
      · refine lv_iconst (v := 1) hx hb dc_M_isThere_56 (by decide) ?_
        refine lv_goto (tgt := 61) hx hb dc_M_isThere_57 (by decide) ?_
        exact k61 1 _ _ _ hP hD hS (lv_sub hl [0] rfl) (by exact hq.trans ((if_neg c19).trans ((if_pos c20))))
      · exact k28  _ _ _ hP hD hS (lv_sub hl [0] rfl) (by exact hq.trans ((if_neg c19).trans ((if_neg c20))))
  -- from the entry
  refine lv_iload_n hx hb dc_M_isThere_0 rfl (lv_at hl 0 rfl) ?_
  refine lv_sipush (v := 768) hx hb dc_M_isThere_1 (by decide) ?_
  refine lv_icmp_lt (tgt := 14) hx hb dc_M_isThere_4 (by decide) (fun c21 => ?_) (fun c21 => ?_)
  · exact k14  _ _ _ hP hD hS (lv_sub hl [0] rfl) (by exact (if_pos c21))
  · refine lv_iload_n hx hb dc_M_isThere_7 rfl (lv_at hl 0 rfl) ?_
    refine lv_sipush (v := 775) hx hb dc_M_isThere_8 (by decide) ?_
    refine lv_icmp_lt (tgt := 56) hx hb dc_M_isThere_11 (by decide) (fun c22 => ?_) (fun c22 => ?_)
    · refine lv_iconst (v := 1) hx hb dc_M_isThere_56 (by decide) ?_
      refine lv_goto (tgt := 61) hx hb dc_M_isThere_57 (by decide) ?_
      exact k61 1 _ _ _ hP hD hS (lv_sub hl [0] rfl) (by exact (if_neg c21).trans ((if_pos c22)))
    · exact k14  _ _ _ hP hD hS (lv_sub hl [0] rfl) (by exact (if_neg c21).trans ((if_neg c22)))
def f_M_lineBits_4 (u : ms_St)  : Nat → Int64 → Int32 → Int64
  | 0, _, _ => 0
  | n + 1, x1, x3 => (if 12 ≤ x3 then x1 else (let v2 : Int32 := u.2.2.1 x3.toNatClampNeg; (if v2 = 0 then (let v4 : Int32 := x3 + 1; (f_M_lineBits_4 u  n x1 v4)) else (let v5 : Int64 := (1 : Int64) <<< (x3.toInt64 &&& 63); let v6 : Int64 := x1 ||| v5; let v7 : Int32 := x3 + 1; (f_M_lineBits_4 u  n v6 v7)))))
def f_M_lineBits (u : ms_St)  : Int64 := (f_M_lineBits_4 u  10 0 3)
set_option maxHeartbeats 4000000 in
set_option maxRecDepth 100000 in
theorem c_M_lineBits (l : Launch) (D : va_G) (m0 hd ln : Nat) (cH cZ : ClassId) (u : ms_St)   : ck_Ml l D [(cH, .long), (cZ, .boolean)] (wm m0 hd ln cH cZ) yn_M_lineBits w_M_lineBits rm_M_lineBits 0 0 [.ref m0] u (f_M_lineBits u) u := by
  refine ck_entl (cc := bc_M_lineBits) (maxL := 4) (ret := (some .long)) (by decide) rfl (Nat.le_of_ble_eq_true rfl) ?_
  intro p e s m below meth c A ls C hnm hP hD hS hl
  have C : ck_C p s m meth c bc_M_lineBits (some .long) 4 #[.ref m0] "ControlDeskModel" A D [(cH, .long), (cZ, .boolean)] := C
  have hl : lv_has ls 4 [(0, .ref m0)] := hl
  have hx := C.1
  have hb := C.2.1
  have hown := C.2.2.2.2.1
  have hT := C.2.2.2.2.2.1
  have hK := C.2.2.2.2.2.2.2.1
  have hN := C.2.2.2.2.2.2.2.2.2.2.2.1
  have k4 : ∀ (n : Nat) (x1 : Int64) (x3 : Int32) (H : Heap) (locs : List Loc) (ls : Array Slot), va_P D xw_Cl ((wm m0 hd ln cH cZ) u) H → va_D A ((wm m0 hd ln cH cZ) u) → va_S A s.heap H locs → lv_has ls 4 [(0, .ref m0), (1, .long x1), (3, .int x3)] → f_M_lineBits u = f_M_lineBits_4 u  n x1 x3 → (1 ≤ n ∧ n ≤ 10 ∧ x3 = nI (12 + 1 - n)) → W p l e rm_M_lineBits s m #[.ref m0] below meth c H locs 0 0 (MQ below (va_Ql (fun r2 u2 => r2 = (f_M_lineBits u) ∧ u2 = u) (ck_B D (wm m0 hd ln cH cZ) A) A) #[.ref m0] s 0 0 A) (F0 m 4 ls []) := by
    intro n
    induction n with
    | zero =>
      intro x1 x3 H locs ls hP hD hS hl hq g1
      exact absurd g1.1 (by decide)
    | succ n ih =>
      intro x1 x3 H locs ls hP hD hS hl hq g1
      refine lv_iload_n hx hb dc_M_lineBits_4 rfl (lv_at hl 2 rfl) ?_
      refine lv_bipush (v := 12) hx hb dc_M_lineBits_5 (by decide) ?_
      refine lv_icmp_ge (tgt := 35) hx hb dc_M_lineBits_7 (by decide) (fun c1 => ?_) (fun c1 => ?_)
      · refine lv_lload_n hx hb dc_M_lineBits_35 rfl (lv_at hl 1 rfl) ?_
        exact ck_lret (v := x1) C hP hD hS ⟨by exact (hq.trans ((if_pos c1))).symm, rfl⟩ dc_M_lineBits_36
      · refine lv_aload_n hx hb dc_M_lineBits_10 rfl (lv_at hl 0 rfl) ?_
        refine gm_lines C hP dc_M_lineBits_11 ?_
        refine lv_iload_n hx hb dc_M_lineBits_14 rfl (lv_at hl 2 rfl) ?_
        refine rm_zald C hP (lp_in (E := 12) (B := 10) (by decide) (by decide) (lp_mid (E := 12) (B := 10) rfl (by decide) (by decide) g1 c1)) dc_M_lineBits_15 (fun v2 e2 => ?_)
        refine lv_if_eq (tgt := 27) hx hb dc_M_lineBits_16 (by decide) (fun c3 => ?_) (fun c3 => ?_)
        · refine lv_lload_n hx hb dc_M_lineBits_27 rfl (lv_at hl 1 rfl) ?_
          refine lv_lstore_n (lv' := [(1, .long x1), (0, .ref m0), (3, .int x3)]) hx hb dc_M_lineBits_28 rfl hl (by decide) rfl (fun ls hl => ?_)
          obtain ⟨v4, e4⟩ : ∃ z : Int32, z = x3 + 1 := ⟨_, rfl⟩
          refine lv_iinc (v := v4) (lv' := [(3, .int v4), (1, .long x1), (0, .ref m0)]) hx hb dc_M_lineBits_29 hl (k := 2) rfl (by rw [e4]; rfl) (by decide) rfl (fun ls hl => ?_)
          refine lv_goto (tgt := 4) hx hb dc_M_lineBits_32 (by decide) ?_
          exact ih x1 v4 _ _ _ hP hD hS (lv_sub hl [2, 1, 0] rfl) (by subst e2 e4; exact hq.trans ((if_neg c1).trans ((if_pos c3)))) (lp_back (E := 12) (B := 10) (by decide) (lp_mid (E := 12) (B := 10) rfl (by decide) (by decide) g1 c1) e4)
        · refine lv_lload_n hx hb dc_M_lineBits_19 rfl (lv_at hl 1 rfl) ?_
          refine lv_lconst (v := 1) hx hb dc_M_lineBits_20 (by decide) ?_
          refine lv_iload_n hx hb dc_M_lineBits_21 rfl (lv_at hl 2 rfl) ?_
          refine xr_lshl hx hb dc_M_lineBits_22 (fun v5 e5 => ?_)
          refine xr_lor hx hb dc_M_lineBits_23 (fun v6 e6 => ?_)
          refine lv_goto (tgt := 28) hx hb dc_M_lineBits_24 (by decide) ?_
          refine lv_lstore_n (lv' := [(1, .long v6), (0, .ref m0), (3, .int x3)]) hx hb dc_M_lineBits_28 rfl hl (by decide) rfl (fun ls hl => ?_)
          obtain ⟨v7, e7⟩ : ∃ z : Int32, z = x3 + 1 := ⟨_, rfl⟩
          refine lv_iinc (v := v7) (lv' := [(3, .int v7), (1, .long v6), (0, .ref m0)]) hx hb dc_M_lineBits_29 hl (k := 2) rfl (by rw [e7]; rfl) (by decide) rfl (fun ls hl => ?_)
          refine lv_goto (tgt := 4) hx hb dc_M_lineBits_32 (by decide) ?_
          exact ih v6 v7 _ _ _ hP hD hS (lv_sub hl [2, 1, 0] rfl) (by subst e2 e5 e6 e7; exact hq.trans ((if_neg c1).trans ((if_neg c3)))) (lp_back (E := 12) (B := 10) (by decide) (lp_mid (E := 12) (B := 10) rfl (by decide) (by decide) g1 c1) e7)
  -- from the entry
  refine lv_lconst (v := 0) hx hb dc_M_lineBits_0 (by decide) ?_
  refine lv_lstore_n (lv' := [(1, .long 0), (0, .ref m0)]) hx hb dc_M_lineBits_1 rfl hl (by decide) rfl (fun ls hl => ?_)
  refine lv_iconst (v := 3) hx hb dc_M_lineBits_2 (by decide) ?_
  refine lv_istore_n (lv' := [(3, .int 3), (1, .long 0), (0, .ref m0)]) hx hb dc_M_lineBits_3 rfl hl (by decide) rfl (fun ls hl => ?_)
  exact k4 (10) 0 3 _ _ _ hP hD hS (lv_sub hl [2, 1, 0] rfl) (by exact rfl) (⟨by decide, by decide, rfl⟩)
def f_M_statusSeen_125 (F : Int64 → Int32 → Int64) (u : ms_St) (p1 : Int32) (x1 : Int64) (x3 : Int32) : Int64 := (let v1 : Int64 := (1 : Int64) <<< (x3.toInt64 &&& 63); let v2 : Int64 := x1 ||| v1; let v3 : Int32 := x3 + 1; (F v2 v3))
def f_M_statusSeen_109 (F : Int64 → Int32 → Int64) (u : ms_St) (p1 : Int32) (x1 : Int64) (x3 : Int32) (x4 : Int32) (y0 : Int32) : Int64 := (if x4 = 0 then (if p1 = 0 then (let v6 : Int32 := x3 + 1; (F x1 v6)) else (if y0 = 0 then (let v8 : Int32 := x3 + 1; (F x1 v8)) else (f_M_statusSeen_125 F u p1 x1 x3))) else (f_M_statusSeen_125 F u p1 x1 x3))
def f_M_statusSeen_55 (F : Int64 → Int32 → Int64) (u : ms_St) (p1 : Int32) (x1 : Int64) (x3 : Int32) (y0 : Int32) : Int64 := (if x3 = 3 then (f_M_statusSeen_109 F u p1 x1 x3 y0 1) else (if x3 = 7 then (f_M_statusSeen_109 F u p1 x1 x3 y0 1) else (if x3 = 11 then (f_M_statusSeen_109 F u p1 x1 x3 y0 1) else (if x3 = 12 then (f_M_statusSeen_109 F u p1 x1 x3 y0 1) else (if x3 = 17 then (f_M_statusSeen_109 F u p1 x1 x3 y0 1) else (if x3 = 20 then (f_M_statusSeen_109 F u p1 x1 x3 y0 1) else (if x3 = 21 then (f_M_statusSeen_109 F u p1 x1 x3 y0 1) else (if x3 = 22 then (f_M_statusSeen_109 F u p1 x1 x3 y0 1) else (f_M_statusSeen_109 F u p1 x1 x3 y0 0)))))))))
def f_M_statusSeen_4 (u : ms_St) (p1 : Int32) : Nat → Int64 → Int32 → Int64
  | 0, _, _ => 0
  | n + 1, x1, x3 => (if 23 ≤ x3 then x1 else (if x3 = 1 then (f_M_statusSeen_55 (f_M_statusSeen_4 u p1 n) u p1 x1 x3 1) else (if x3 = 5 then (f_M_statusSeen_55 (f_M_statusSeen_4 u p1 n) u p1 x1 x3 1) else (if x3 = 8 then (f_M_statusSeen_55 (f_M_statusSeen_4 u p1 n) u p1 x1 x3 1) else (if x3 = 13 then (f_M_statusSeen_55 (f_M_statusSeen_4 u p1 n) u p1 x1 x3 1) else (if x3 = 14 then (f_M_statusSeen_55 (f_M_statusSeen_4 u p1 n) u p1 x1 x3 1) else (if x3 = 18 then (f_M_statusSeen_55 (f_M_statusSeen_4 u p1 n) u p1 x1 x3 1) else (if x3 = 19 then (f_M_statusSeen_55 (f_M_statusSeen_4 u p1 n) u p1 x1 x3 1) else (f_M_statusSeen_55 (f_M_statusSeen_4 u p1 n) u p1 x1 x3 0)))))))))
def f_M_statusSeen (u : ms_St) (p1 : Int32) : Int64 := (f_M_statusSeen_4 u p1 24 0 0)
set_option maxHeartbeats 4000000 in
set_option maxRecDepth 100000 in
theorem c_M_statusSeen (l : Launch) (D : va_G) (m0 hd ln : Nat) (cH cZ : ClassId) (u : ms_St) (p1 : Int32)  : ck_Ml l D [(cH, .long), (cZ, .boolean)] (wm m0 hd ln cH cZ) yn_M_statusSeen w_M_statusSeen rm_M_statusSeen 0 0 [.int p1] u (f_M_statusSeen u p1) u := by
  refine ck_entl (cc := bc_M_statusSeen) (maxL := 6) (ret := (some .long)) (by decide) rfl (Nat.le_of_ble_eq_true rfl) ?_
  intro p e s m below meth c A ls C hnm hP hD hS hl
  have C : ck_C p s m meth c bc_M_statusSeen (some .long) 6 #[.int p1] "ControlDeskModel" A D [(cH, .long), (cZ, .boolean)] := C
  have hl : lv_has ls 6 [(0, .int p1)] := hl
  have hx := C.1
  have hb := C.2.1
  have hown := C.2.2.2.2.1
  have hT := C.2.2.2.2.2.1
  have hK := C.2.2.2.2.2.2.2.1
  have hN := C.2.2.2.2.2.2.2.2.2.2.2.1
  have k4 : ∀ (n : Nat) (x1 : Int64) (x3 : Int32) (H : Heap) (locs : List Loc) (ls : Array Slot), va_P D xw_Cl ((wm m0 hd ln cH cZ) u) H → va_D A ((wm m0 hd ln cH cZ) u) → va_S A s.heap H locs → lv_has ls 6 [(0, .int p1), (1, .long x1), (3, .int x3)] → f_M_statusSeen u p1 = f_M_statusSeen_4 u p1 n x1 x3 → (1 ≤ n ∧ n ≤ 24 ∧ x3 = nI (23 + 1 - n)) → W p l e rm_M_statusSeen s m #[.int p1] below meth c H locs 0 0 (MQ below (va_Ql (fun r2 u2 => r2 = (f_M_statusSeen u p1) ∧ u2 = u) (ck_B D (wm m0 hd ln cH cZ) A) A) #[.int p1] s 0 0 A) (F0 m 4 ls []) := by
    intro n
    induction n with
    | zero =>
      intro x1 x3 H locs ls hP hD hS hl hq g1
      exact absurd g1.1 (by decide)
    | succ n ih =>
      have k125 : ∀ (x1 : Int64) (x3 : Int32) (H : Heap) (locs : List Loc) (ls : Array Slot), va_P D xw_Cl ((wm m0 hd ln cH cZ) u) H → va_D A ((wm m0 hd ln cH cZ) u) → va_S A s.heap H locs → lv_has ls 6 [(0, .int p1), (1, .long x1), (3, .int x3)] → f_M_statusSeen u p1 = f_M_statusSeen_125 (f_M_statusSeen_4 u p1 n) u p1 x1 x3 → (1 ≤ n ∧ n + 1 ≤ 24 ∧ x3 = nI (23 - n)) → W p l e rm_M_statusSeen s m #[.int p1] below meth c H locs 0 0 (MQ below (va_Ql (fun r2 u2 => r2 = (f_M_statusSeen u p1) ∧ u2 = u) (ck_B D (wm m0 hd ln cH cZ) A) A) #[.int p1] s 0 0 A) (F0 m 125 ls []) := by
        intro x1 x3 H locs ls hP hD hS hl hq g2
        refine lv_lload_n hx hb dc_M_statusSeen_125 rfl (lv_at hl 1 rfl) ?_
        refine lv_lconst (v := 1) hx hb dc_M_statusSeen_126 (by decide) ?_
        refine lv_iload_n hx hb dc_M_statusSeen_127 rfl (lv_at hl 2 rfl) ?_
        refine xr_lshl hx hb dc_M_statusSeen_128 (fun v1 e1 => ?_)
        refine xr_lor hx hb dc_M_statusSeen_129 (fun v2 e2 => ?_)
        refine lv_goto (tgt := 134) hx hb dc_M_statusSeen_130 (by decide) ?_
        refine lv_lstore_n (lv' := [(1, .long v2), (0, .int p1), (3, .int x3)]) hx hb dc_M_statusSeen_134 rfl hl (by decide) rfl (fun ls hl => ?_)
        obtain ⟨v3, e3⟩ : ∃ z : Int32, z = x3 + 1 := ⟨_, rfl⟩
        refine lv_iinc (v := v3) (lv' := [(3, .int v3), (1, .long v2), (0, .int p1)]) hx hb dc_M_statusSeen_135 hl (k := 2) rfl (by rw [e3]; rfl) (by decide) rfl (fun ls hl => ?_)
        refine lv_goto (tgt := 4) hx hb dc_M_statusSeen_138 (by decide) ?_
        exact ih v2 v3 _ _ _ hP hD hS (lv_sub hl [2, 1, 0] rfl) (by subst e1 e2 e3; exact hq.trans (rfl)) (lp_back (E := 23) (B := 24) (by decide) g2 e3)
      have k109 : ∀ (x1 : Int64) (x3 : Int32) (x4 : Int32) (y0 : Int32) (H : Heap) (locs : List Loc) (ls : Array Slot), va_P D xw_Cl ((wm m0 hd ln cH cZ) u) H → va_D A ((wm m0 hd ln cH cZ) u) → va_S A s.heap H locs → lv_has ls 6 [(0, .int p1), (1, .long x1), (3, .int x3), (4, .int x4)] → f_M_statusSeen u p1 = f_M_statusSeen_109 (f_M_statusSeen_4 u p1 n) u p1 x1 x3 x4 y0 → (1 ≤ n ∧ n + 1 ≤ 24 ∧ x3 = nI (23 - n)) → W p l e rm_M_statusSeen s m #[.int p1] below meth c H locs 0 0 (MQ below (va_Ql (fun r2 u2 => r2 = (f_M_statusSeen u p1) ∧ u2 = u) (ck_B D (wm m0 hd ln cH cZ) A) A) #[.int p1] s 0 0 A) (F0 m 109 ls [.int y0]) := by
        intro x1 x3 x4 y0 H locs ls hP hD hS hl hq g2
        refine lv_istore (lv' := [(5, .int y0), (0, .int p1), (1, .long x1), (3, .int x3), (4, .int x4)]) hx hb dc_M_statusSeen_109 hl (by decide) rfl (fun ls hl => ?_)
        refine lv_iload hx hb dc_M_statusSeen_111 (lv_at hl 4 rfl) ?_
        refine lv_if_ne (tgt := 125) hx hb dc_M_statusSeen_113 (by decide) (fun c4 => ?_) (fun c4 => ?_)
        · exact k125 x1 x3 _ _ _ hP hD hS (lv_sub hl [1, 2, 3] rfl) (by exact hq.trans ((if_neg c4))) (g2)
        · refine lv_iload_n hx hb dc_M_statusSeen_116 rfl (lv_at hl 1 rfl) ?_
          refine lv_if_eq (tgt := 133) hx hb dc_M_statusSeen_117 (by decide) (fun c5 => ?_) (fun c5 => ?_)
          · refine lv_lload_n hx hb dc_M_statusSeen_133 rfl (lv_at hl 2 rfl) ?_
            refine lv_lstore_n (lv' := [(1, .long x1), (5, .int y0), (0, .int p1), (3, .int x3), (4, .int x4)]) hx hb dc_M_statusSeen_134 rfl hl (by decide) rfl (fun ls hl => ?_)
            obtain ⟨v6, e6⟩ : ∃ z : Int32, z = x3 + 1 := ⟨_, rfl⟩
            refine lv_iinc (v := v6) (lv' := [(3, .int v6), (1, .long x1), (5, .int y0), (0, .int p1), (4, .int x4)]) hx hb dc_M_statusSeen_135 hl (k := 3) rfl (by rw [e6]; rfl) (by decide) rfl (fun ls hl => ?_)
            refine lv_goto (tgt := 4) hx hb dc_M_statusSeen_138 (by decide) ?_
            exact ih x1 v6 _ _ _ hP hD hS (lv_sub hl [3, 1, 0] rfl) (by subst e6; exact hq.trans ((if_pos c4).trans ((if_pos c5)))) (lp_back (E := 23) (B := 24) (by decide) g2 e6)
          · refine lv_iload hx hb dc_M_statusSeen_120 (lv_at hl 0 rfl) ?_
            refine lv_if_eq (tgt := 133) hx hb dc_M_statusSeen_122 (by decide) (fun c7 => ?_) (fun c7 => ?_)
            · refine lv_lload_n hx hb dc_M_statusSeen_133 rfl (lv_at hl 2 rfl) ?_
              refine lv_lstore_n (lv' := [(1, .long x1), (5, .int y0), (0, .int p1), (3, .int x3), (4, .int x4)]) hx hb dc_M_statusSeen_134 rfl hl (by decide) rfl (fun ls hl => ?_)
              obtain ⟨v8, e8⟩ : ∃ z : Int32, z = x3 + 1 := ⟨_, rfl⟩
              refine lv_iinc (v := v8) (lv' := [(3, .int v8), (1, .long x1), (5, .int y0), (0, .int p1), (4, .int x4)]) hx hb dc_M_statusSeen_135 hl (k := 3) rfl (by rw [e8]; rfl) (by decide) rfl (fun ls hl => ?_)
              refine lv_goto (tgt := 4) hx hb dc_M_statusSeen_138 (by decide) ?_
              exact ih x1 v8 _ _ _ hP hD hS (lv_sub hl [3, 1, 0] rfl) (by subst e8; exact hq.trans ((if_pos c4).trans ((if_neg c5).trans ((if_pos c7))))) (lp_back (E := 23) (B := 24) (by decide) g2 e8)
            · exact k125 x1 x3 _ _ _ hP hD hS (lv_sub hl [1, 2, 3] rfl) (by exact hq.trans ((if_pos c4).trans ((if_neg c5).trans ((if_neg c7))))) (g2)
      have k55 : ∀ (x1 : Int64) (x3 : Int32) (y0 : Int32) (H : Heap) (locs : List Loc) (ls : Array Slot), va_P D xw_Cl ((wm m0 hd ln cH cZ) u) H → va_D A ((wm m0 hd ln cH cZ) u) → va_S A s.heap H locs → lv_has ls 6 [(0, .int p1), (1, .long x1), (3, .int x3)] → f_M_statusSeen u p1 = f_M_statusSeen_55 (f_M_statusSeen_4 u p1 n) u p1 x1 x3 y0 → (1 ≤ n ∧ n + 1 ≤ 24 ∧ x3 = nI (23 - n)) → W p l e rm_M_statusSeen s m #[.int p1] below meth c H locs 0 0 (MQ below (va_Ql (fun r2 u2 => r2 = (f_M_statusSeen u p1) ∧ u2 = u) (ck_B D (wm m0 hd ln cH cZ) A) A) #[.int p1] s 0 0 A) (F0 m 55 ls [.int y0]) := by
        intro x1 x3 y0 H locs ls hP hD hS hl hq g2
        refine lv_istore (lv' := [(4, .int y0), (0, .int p1), (1, .long x1), (3, .int x3)]) hx hb dc_M_statusSeen_55 hl (by decide) rfl (fun ls hl => ?_)
        refine lv_iload_n hx hb dc_M_statusSeen_57 rfl (lv_at hl 3 rfl) ?_
        refine lv_iconst (v := 3) hx hb dc_M_statusSeen_58 (by decide) ?_
        refine lv_icmp_eq (tgt := 104) hx hb dc_M_statusSeen_59 (by decide) (fun c9 => ?_) (fun c9 => ?_)
        · refine lv_iconst (v := 1) hx hb dc_M_statusSeen_104 (by decide) ?_
          refine lv_goto (tgt := 109) hx hb dc_M_statusSeen_105 (by decide) ?_
          exact k109 x1 x3 y0 1 _ _ _ hP hD hS (lv_sub hl [1, 2, 3, 0] rfl) (by exact hq.trans ((if_pos c9))) (g2)
        · refine lv_iload_n hx hb dc_M_statusSeen_62 rfl (lv_at hl 3 rfl) ?_
          refine lv_bipush (v := 7) hx hb dc_M_statusSeen_63 (by decide) ?_
          refine lv_icmp_eq (tgt := 104) hx hb dc_M_statusSeen_65 (by decide) (fun c10 => ?_) (fun c10 => ?_)
          · refine lv_iconst (v := 1) hx hb dc_M_statusSeen_104 (by decide) ?_
            refine lv_goto (tgt := 109) hx hb dc_M_statusSeen_105 (by decide) ?_
            exact k109 x1 x3 y0 1 _ _ _ hP hD hS (lv_sub hl [1, 2, 3, 0] rfl) (by exact hq.trans ((if_neg c9).trans ((if_pos c10)))) (g2)
          · refine lv_iload_n hx hb dc_M_statusSeen_68 rfl (lv_at hl 3 rfl) ?_
            refine lv_bipush (v := 11) hx hb dc_M_statusSeen_69 (by decide) ?_
            refine lv_icmp_eq (tgt := 104) hx hb dc_M_statusSeen_71 (by decide) (fun c11 => ?_) (fun c11 => ?_)
            · refine lv_iconst (v := 1) hx hb dc_M_statusSeen_104 (by decide) ?_
              refine lv_goto (tgt := 109) hx hb dc_M_statusSeen_105 (by decide) ?_
              exact k109 x1 x3 y0 1 _ _ _ hP hD hS (lv_sub hl [1, 2, 3, 0] rfl) (by exact hq.trans ((if_neg c9).trans ((if_neg c10).trans ((if_pos c11))))) (g2)
            · refine lv_iload_n hx hb dc_M_statusSeen_74 rfl (lv_at hl 3 rfl) ?_
              refine lv_bipush (v := 12) hx hb dc_M_statusSeen_75 (by decide) ?_
              refine lv_icmp_eq (tgt := 104) hx hb dc_M_statusSeen_77 (by decide) (fun c12 => ?_) (fun c12 => ?_)
              · refine lv_iconst (v := 1) hx hb dc_M_statusSeen_104 (by decide) ?_
                refine lv_goto (tgt := 109) hx hb dc_M_statusSeen_105 (by decide) ?_
                exact k109 x1 x3 y0 1 _ _ _ hP hD hS (lv_sub hl [1, 2, 3, 0] rfl) (by exact hq.trans ((if_neg c9).trans ((if_neg c10).trans ((if_neg c11).trans ((if_pos c12)))))) (g2)
              · refine lv_iload_n hx hb dc_M_statusSeen_80 rfl (lv_at hl 3 rfl) ?_
                refine lv_bipush (v := 17) hx hb dc_M_statusSeen_81 (by decide) ?_
                refine lv_icmp_eq (tgt := 104) hx hb dc_M_statusSeen_83 (by decide) (fun c13 => ?_) (fun c13 => ?_)
                · refine lv_iconst (v := 1) hx hb dc_M_statusSeen_104 (by decide) ?_
                  refine lv_goto (tgt := 109) hx hb dc_M_statusSeen_105 (by decide) ?_
                  exact k109 x1 x3 y0 1 _ _ _ hP hD hS (lv_sub hl [1, 2, 3, 0] rfl) (by exact hq.trans ((if_neg c9).trans ((if_neg c10).trans ((if_neg c11).trans ((if_neg c12).trans ((if_pos c13))))))) (g2)
                · refine lv_iload_n hx hb dc_M_statusSeen_86 rfl (lv_at hl 3 rfl) ?_
                  refine lv_bipush (v := 20) hx hb dc_M_statusSeen_87 (by decide) ?_
                  refine lv_icmp_eq (tgt := 104) hx hb dc_M_statusSeen_89 (by decide) (fun c14 => ?_) (fun c14 => ?_)
                  · refine lv_iconst (v := 1) hx hb dc_M_statusSeen_104 (by decide) ?_
                    refine lv_goto (tgt := 109) hx hb dc_M_statusSeen_105 (by decide) ?_
                    exact k109 x1 x3 y0 1 _ _ _ hP hD hS (lv_sub hl [1, 2, 3, 0] rfl) (by exact hq.trans ((if_neg c9).trans ((if_neg c10).trans ((if_neg c11).trans ((if_neg c12).trans ((if_neg c13).trans ((if_pos c14)))))))) (g2)
                  · refine lv_iload_n hx hb dc_M_statusSeen_92 rfl (lv_at hl 3 rfl) ?_
                    refine lv_bipush (v := 21) hx hb dc_M_statusSeen_93 (by decide) ?_
                    refine lv_icmp_eq (tgt := 104) hx hb dc_M_statusSeen_95 (by decide) (fun c15 => ?_) (fun c15 => ?_)
                    · refine lv_iconst (v := 1) hx hb dc_M_statusSeen_104 (by decide) ?_
                      refine lv_goto (tgt := 109) hx hb dc_M_statusSeen_105 (by decide) ?_
                      exact k109 x1 x3 y0 1 _ _ _ hP hD hS (lv_sub hl [1, 2, 3, 0] rfl) (by exact hq.trans ((if_neg c9).trans ((if_neg c10).trans ((if_neg c11).trans ((if_neg c12).trans ((if_neg c13).trans ((if_neg c14).trans ((if_pos c15))))))))) (g2)
                    · refine lv_iload_n hx hb dc_M_statusSeen_98 rfl (lv_at hl 3 rfl) ?_
                      refine lv_bipush (v := 22) hx hb dc_M_statusSeen_99 (by decide) ?_
                      refine lv_icmp_ne (tgt := 108) hx hb dc_M_statusSeen_101 (by decide) (fun c16 => ?_) (fun c16 => ?_)
                      · refine lv_iconst (v := 0) hx hb dc_M_statusSeen_108 (by decide) ?_
                        exact k109 x1 x3 y0 0 _ _ _ hP hD hS (lv_sub hl [1, 2, 3, 0] rfl) (by exact hq.trans ((if_neg c9).trans ((if_neg c10).trans ((if_neg c11).trans ((if_neg c12).trans ((if_neg c13).trans ((if_neg c14).trans ((if_neg c15).trans ((if_neg c16)))))))))) (g2)
                      · refine lv_iconst (v := 1) hx hb dc_M_statusSeen_104 (by decide) ?_
                        refine lv_goto (tgt := 109) hx hb dc_M_statusSeen_105 (by decide) ?_
                        exact k109 x1 x3 y0 1 _ _ _ hP hD hS (lv_sub hl [1, 2, 3, 0] rfl) (by exact hq.trans ((if_neg c9).trans ((if_neg c10).trans ((if_neg c11).trans ((if_neg c12).trans ((if_neg c13).trans ((if_neg c14).trans ((if_neg c15).trans ((if_pos c16)))))))))) (g2)
      intro x1 x3 H locs ls hP hD hS hl hq g1
      refine lv_iload_n hx hb dc_M_statusSeen_4 rfl (lv_at hl 2 rfl) ?_
      refine lv_bipush (v := 23) hx hb dc_M_statusSeen_5 (by decide) ?_
      refine lv_icmp_ge (tgt := 141) hx hb dc_M_statusSeen_7 (by decide) (fun c17 => ?_) (fun c17 => ?_)
      · refine lv_lload_n hx hb dc_M_statusSeen_141 rfl (lv_at hl 1 rfl) ?_
        exact ck_lret (v := x1) C hP hD hS ⟨by exact (hq.trans ((if_pos c17))).symm, rfl⟩ dc_M_statusSeen_142
      · refine lv_iload_n hx hb dc_M_statusSeen_10 rfl (lv_at hl 2 rfl) ?_
        refine lv_iconst (v := 1) hx hb dc_M_statusSeen_11 (by decide) ?_
        refine lv_icmp_eq (tgt := 50) hx hb dc_M_statusSeen_12 (by decide) (fun c18 => ?_) (fun c18 => ?_)
        · refine lv_iconst (v := 1) hx hb dc_M_statusSeen_50 (by decide) ?_
          refine lv_goto (tgt := 55) hx hb dc_M_statusSeen_51 (by decide) ?_
          exact k55 x1 x3 1 _ _ _ hP hD hS (lv_sub hl [0, 1, 2] rfl) (by exact hq.trans ((if_neg c17).trans ((if_pos c18)))) ((lp_mid (E := 23) (B := 24) rfl (by decide) (by decide) g1 c17))
        · refine lv_iload_n hx hb dc_M_statusSeen_15 rfl (lv_at hl 2 rfl) ?_
          refine lv_iconst (v := 5) hx hb dc_M_statusSeen_16 (by decide) ?_
          refine lv_icmp_eq (tgt := 50) hx hb dc_M_statusSeen_17 (by decide) (fun c19 => ?_) (fun c19 => ?_)
          · refine lv_iconst (v := 1) hx hb dc_M_statusSeen_50 (by decide) ?_
            refine lv_goto (tgt := 55) hx hb dc_M_statusSeen_51 (by decide) ?_
            exact k55 x1 x3 1 _ _ _ hP hD hS (lv_sub hl [0, 1, 2] rfl) (by exact hq.trans ((if_neg c17).trans ((if_neg c18).trans ((if_pos c19))))) ((lp_mid (E := 23) (B := 24) rfl (by decide) (by decide) g1 c17))
          · refine lv_iload_n hx hb dc_M_statusSeen_20 rfl (lv_at hl 2 rfl) ?_
            refine lv_bipush (v := 8) hx hb dc_M_statusSeen_21 (by decide) ?_
            refine lv_icmp_eq (tgt := 50) hx hb dc_M_statusSeen_23 (by decide) (fun c20 => ?_) (fun c20 => ?_)
            · refine lv_iconst (v := 1) hx hb dc_M_statusSeen_50 (by decide) ?_
              refine lv_goto (tgt := 55) hx hb dc_M_statusSeen_51 (by decide) ?_
              exact k55 x1 x3 1 _ _ _ hP hD hS (lv_sub hl [0, 1, 2] rfl) (by exact hq.trans ((if_neg c17).trans ((if_neg c18).trans ((if_neg c19).trans ((if_pos c20)))))) ((lp_mid (E := 23) (B := 24) rfl (by decide) (by decide) g1 c17))
            · refine lv_iload_n hx hb dc_M_statusSeen_26 rfl (lv_at hl 2 rfl) ?_
              refine lv_bipush (v := 13) hx hb dc_M_statusSeen_27 (by decide) ?_
              refine lv_icmp_eq (tgt := 50) hx hb dc_M_statusSeen_29 (by decide) (fun c21 => ?_) (fun c21 => ?_)
              · refine lv_iconst (v := 1) hx hb dc_M_statusSeen_50 (by decide) ?_
                refine lv_goto (tgt := 55) hx hb dc_M_statusSeen_51 (by decide) ?_
                exact k55 x1 x3 1 _ _ _ hP hD hS (lv_sub hl [0, 1, 2] rfl) (by exact hq.trans ((if_neg c17).trans ((if_neg c18).trans ((if_neg c19).trans ((if_neg c20).trans ((if_pos c21))))))) ((lp_mid (E := 23) (B := 24) rfl (by decide) (by decide) g1 c17))
              · refine lv_iload_n hx hb dc_M_statusSeen_32 rfl (lv_at hl 2 rfl) ?_
                refine lv_bipush (v := 14) hx hb dc_M_statusSeen_33 (by decide) ?_
                refine lv_icmp_eq (tgt := 50) hx hb dc_M_statusSeen_35 (by decide) (fun c22 => ?_) (fun c22 => ?_)
                · refine lv_iconst (v := 1) hx hb dc_M_statusSeen_50 (by decide) ?_
                  refine lv_goto (tgt := 55) hx hb dc_M_statusSeen_51 (by decide) ?_
                  exact k55 x1 x3 1 _ _ _ hP hD hS (lv_sub hl [0, 1, 2] rfl) (by exact hq.trans ((if_neg c17).trans ((if_neg c18).trans ((if_neg c19).trans ((if_neg c20).trans ((if_neg c21).trans ((if_pos c22)))))))) ((lp_mid (E := 23) (B := 24) rfl (by decide) (by decide) g1 c17))
                · refine lv_iload_n hx hb dc_M_statusSeen_38 rfl (lv_at hl 2 rfl) ?_
                  refine lv_bipush (v := 18) hx hb dc_M_statusSeen_39 (by decide) ?_
                  refine lv_icmp_eq (tgt := 50) hx hb dc_M_statusSeen_41 (by decide) (fun c23 => ?_) (fun c23 => ?_)
                  · refine lv_iconst (v := 1) hx hb dc_M_statusSeen_50 (by decide) ?_
                    refine lv_goto (tgt := 55) hx hb dc_M_statusSeen_51 (by decide) ?_
                    exact k55 x1 x3 1 _ _ _ hP hD hS (lv_sub hl [0, 1, 2] rfl) (by exact hq.trans ((if_neg c17).trans ((if_neg c18).trans ((if_neg c19).trans ((if_neg c20).trans ((if_neg c21).trans ((if_neg c22).trans ((if_pos c23))))))))) ((lp_mid (E := 23) (B := 24) rfl (by decide) (by decide) g1 c17))
                  · refine lv_iload_n hx hb dc_M_statusSeen_44 rfl (lv_at hl 2 rfl) ?_
                    refine lv_bipush (v := 19) hx hb dc_M_statusSeen_45 (by decide) ?_
                    refine lv_icmp_ne (tgt := 54) hx hb dc_M_statusSeen_47 (by decide) (fun c24 => ?_) (fun c24 => ?_)
                    · refine lv_iconst (v := 0) hx hb dc_M_statusSeen_54 (by decide) ?_
                      exact k55 x1 x3 0 _ _ _ hP hD hS (lv_sub hl [0, 1, 2] rfl) (by exact hq.trans ((if_neg c17).trans ((if_neg c18).trans ((if_neg c19).trans ((if_neg c20).trans ((if_neg c21).trans ((if_neg c22).trans ((if_neg c23).trans ((if_neg c24)))))))))) ((lp_mid (E := 23) (B := 24) rfl (by decide) (by decide) g1 c17))
                    · refine lv_iconst (v := 1) hx hb dc_M_statusSeen_50 (by decide) ?_
                      refine lv_goto (tgt := 55) hx hb dc_M_statusSeen_51 (by decide) ?_
                      exact k55 x1 x3 1 _ _ _ hP hD hS (lv_sub hl [0, 1, 2] rfl) (by exact hq.trans ((if_neg c17).trans ((if_neg c18).trans ((if_neg c19).trans ((if_neg c20).trans ((if_neg c21).trans ((if_neg c22).trans ((if_neg c23).trans ((if_pos c24)))))))))) ((lp_mid (E := 23) (B := 24) rfl (by decide) (by decide) g1 c17))
  -- from the entry
  refine lv_lconst (v := 0) hx hb dc_M_statusSeen_0 (by decide) ?_
  refine lv_lstore_n (lv' := [(1, .long 0), (0, .int p1)]) hx hb dc_M_statusSeen_1 rfl hl (by decide) rfl (fun ls hl => ?_)
  refine lv_iconst (v := 0) hx hb dc_M_statusSeen_2 (by decide) ?_
  refine lv_istore_n (lv' := [(3, .int 0), (1, .long 0), (0, .int p1)]) hx hb dc_M_statusSeen_3 rfl hl (by decide) rfl (fun ls hl => ?_)
  exact k4 (24) 0 0 _ _ _ hP hD hS (lv_sub hl [2, 1, 0] rfl) (by exact rfl) (⟨by decide, by decide, rfl⟩)
