def f_B2_keepVectors (u0 : cs_St) (p1 : Int64) : cs_St := (let v1 : Int64 := p1 &&& (-3 : Int64); let w2 : cs_St := (u0.1, vp_updL u0.2 19 v1); w2)
set_option maxHeartbeats 4000000 in
set_option maxRecDepth 100000 in
theorem c_B2_keepVectors (l : Launch) (D : va_G) (tys : List (ClassId × FieldType)) (h0 b1 b2 : Nat) (u0 : cs_St) (p1 : Int64)  : ck_Mv l D tys (wx h0 b1 b2) yn_B_keepVectors w_B2_keepVectors rm_B2_keepVectors 0 0 [.ref b2, .long p1] u0 (f_B2_keepVectors u0 p1) := by
  refine ck_entv (cc := bc_B_keepVectors) (maxL := 3) (ret := none) (by decide) rfl (Nat.le_of_ble_eq_true rfl) ?_
  intro p e s m below meth c A ls C hnm hP hD hS hl
  have C : ck_C p s m meth c bc_B_keepVectors none 3 #[.ref b2, .long p1] "ControlDesk$Bank" A D tys := C
  have hl : lv_has ls 3 [(0, .ref b2), (1, .long p1)] := hl
  have hx := C.1
  have hb := C.2.1
  have hown := C.2.2.2.2.1
  have hT := C.2.2.2.2.2.1
  have hK := C.2.2.2.2.2.2.2.1
  have hN := C.2.2.2.2.2.2.2.2.2.2.2.1
  -- from the entry
  refine lv_aload_n hx hb dc_B_keepVectors_0 rfl (lv_at hl 0 rfl) ?_
  refine lv_lload_n hx hb dc_B_keepVectors_1 rfl (lv_at hl 1 rfl) ?_
  refine lv_ldc2 (v := (-3)) hx hb hown (hT _ mw_12) dc_B_keepVectors_2 ?_
  refine xr_land hx hb dc_B_keepVectors_5 (fun v1 e1 => ?_)
  refine pb2_vectors C hP hD hS dc_B_keepVectors_6 (fun w2 H locs ew2 hP hD hS => ?_)
  exact ck_vret C hP hD hS (by subst e1 ew2; exact (rfl).symm) dc_B_keepVectors_9
def f_B1_keepResume (u0 : cs_St) (p1 : Int64) : cs_St := (let v1 : Int64 := p1 &&& (-2 : Int64); let w2 : cs_St := (u0.1, vp_updL u0.2 16 v1); w2)
set_option maxHeartbeats 4000000 in
set_option maxRecDepth 100000 in
theorem c_B1_keepResume (l : Launch) (D : va_G) (tys : List (ClassId × FieldType)) (h0 b1 b2 : Nat) (u0 : cs_St) (p1 : Int64)  : ck_Mv l D tys (wx h0 b1 b2) yn_B_keepResume w_B1_keepResume rm_B1_keepResume 0 0 [.ref b1, .long p1] u0 (f_B1_keepResume u0 p1) := by
  refine ck_entv (cc := bc_B_keepResume) (maxL := 3) (ret := none) (by decide) rfl (Nat.le_of_ble_eq_true rfl) ?_
  intro p e s m below meth c A ls C hnm hP hD hS hl
  have C : ck_C p s m meth c bc_B_keepResume none 3 #[.ref b1, .long p1] "ControlDesk$Bank" A D tys := C
  have hl : lv_has ls 3 [(0, .ref b1), (1, .long p1)] := hl
  have hx := C.1
  have hb := C.2.1
  have hown := C.2.2.2.2.1
  have hT := C.2.2.2.2.2.1
  have hK := C.2.2.2.2.2.2.2.1
  have hN := C.2.2.2.2.2.2.2.2.2.2.2.1
  -- from the entry
  refine lv_aload_n hx hb dc_B_keepResume_0 rfl (lv_at hl 0 rfl) ?_
  refine lv_lload_n hx hb dc_B_keepResume_1 rfl (lv_at hl 1 rfl) ?_
  refine lv_ldc2 (v := (-2)) hx hb hown (hT _ mw_13) dc_B_keepResume_2 ?_
  refine xr_land hx hb dc_B_keepResume_5 (fun v1 e1 => ?_)
  refine pb1_resume C hP hD hS dc_B_keepResume_6 (fun w2 H locs ew2 hP hD hS => ?_)
  exact ck_vret C hP hD hS (by subst e1 ew2; exact (rfl).symm) dc_B_keepResume_9
def f_B2_keepResume (u0 : cs_St) (p1 : Int64) : cs_St := (let v1 : Int64 := p1 &&& (-2 : Int64); let w2 : cs_St := (u0.1, vp_updL u0.2 22 v1); w2)
set_option maxHeartbeats 4000000 in
set_option maxRecDepth 100000 in
theorem c_B2_keepResume (l : Launch) (D : va_G) (tys : List (ClassId × FieldType)) (h0 b1 b2 : Nat) (u0 : cs_St) (p1 : Int64)  : ck_Mv l D tys (wx h0 b1 b2) yn_B_keepResume w_B2_keepResume rm_B2_keepResume 0 0 [.ref b2, .long p1] u0 (f_B2_keepResume u0 p1) := by
  refine ck_entv (cc := bc_B_keepResume) (maxL := 3) (ret := none) (by decide) rfl (Nat.le_of_ble_eq_true rfl) ?_
  intro p e s m below meth c A ls C hnm hP hD hS hl
  have C : ck_C p s m meth c bc_B_keepResume none 3 #[.ref b2, .long p1] "ControlDesk$Bank" A D tys := C
  have hl : lv_has ls 3 [(0, .ref b2), (1, .long p1)] := hl
  have hx := C.1
  have hb := C.2.1
  have hown := C.2.2.2.2.1
  have hT := C.2.2.2.2.2.1
  have hK := C.2.2.2.2.2.2.2.1
  have hN := C.2.2.2.2.2.2.2.2.2.2.2.1
  -- from the entry
  refine lv_aload_n hx hb dc_B_keepResume_0 rfl (lv_at hl 0 rfl) ?_
  refine lv_lload_n hx hb dc_B_keepResume_1 rfl (lv_at hl 1 rfl) ?_
  refine lv_ldc2 (v := (-2)) hx hb hown (hT _ mw_13) dc_B_keepResume_2 ?_
  refine xr_land hx hb dc_B_keepResume_5 (fun v1 e1 => ?_)
  refine pb2_resume C hP hD hS dc_B_keepResume_6 (fun w2 H locs ew2 hP hD hS => ?_)
  exact ck_vret C hP hD hS (by subst e1 ew2; exact (rfl).symm) dc_B_keepResume_9
def f_X_storeTable_27 (u : cs_St) (p1 : Int64)  : cs_St := (let w1 : cs_St := (u.1, vp_updL u.2 7 p1); w1)
def f_X_storeTable (u0 : cs_St) (p1 : Int64) : cs_St := (let v2 : Int64 := (p1.toUInt64 >>> ((60 : Int32).toInt64.toUInt64 &&& Int64.toUInt64 63)).toInt64; let v3 : Int32 := lg_cmp v2 (0 : Int64); (if v3 = 0 then (f_X_storeTable_27 u0 p1 ) else (let v5 : Int32 := lg_cmp v2 (8 : Int64); (if v5 = 0 then (f_X_storeTable_27 u0 p1 ) else (let v7 : Int32 := lg_cmp v2 (9 : Int64); (if v7 = 0 then (f_X_storeTable_27 u0 p1 ) else u0))))))
set_option maxHeartbeats 4000000 in
set_option maxRecDepth 100000 in
theorem c_X_storeTable (l : Launch) (D : va_G) (tys : List (ClassId × FieldType)) (h0 b1 b2 : Nat) (u0 : cs_St) (p1 : Int64)  : ck_Mv l D tys (wx h0 b1 b2) yn_X_storeTable w_X_storeTable rm_X_storeTable 0 0 [.ref h0, .long p1] u0 (f_X_storeTable u0 p1) := by
  refine ck_entv (cc := bc_X_storeTable) (maxL := 5) (ret := none) (by decide) rfl (Nat.le_of_ble_eq_true rfl) ?_
  intro p e s m below meth c A ls C hnm hP hD hS hl
  have C : ck_C p s m meth c bc_X_storeTable none 5 #[.ref h0, .long p1] "ControlDesk" A D tys := C
  have hl : lv_has ls 5 [(0, .ref h0), (1, .long p1)] := hl
  have hx := C.1
  have hb := C.2.1
  have hown := C.2.2.2.2.1
  have hT := C.2.2.2.2.2.1
  have hK := C.2.2.2.2.2.2.2.1
  have hN := C.2.2.2.2.2.2.2.2.2.2.2.1
  have k27 : ∀ (u : cs_St) (H : Heap) (locs : List Loc) (ls : Array Slot), va_P D xw_Cl ((wx h0 b1 b2) u) H → va_D A ((wx h0 b1 b2) u) → va_S A s.heap H locs → lv_has ls 5 [(0, .ref h0), (1, .long p1)] → f_X_storeTable u0 p1 = f_X_storeTable_27 u p1  → W p l e rm_X_storeTable s m #[.ref h0, .long p1] below meth c H locs 0 0 (MQ below (va_Qv (fun u2 => u2 = (f_X_storeTable u0 p1)) (ck_B D (wx h0 b1 b2) A) A) #[.ref h0, .long p1] s 0 0 A) (F0 m 27 ls []) := by
    intro u  H locs ls hP hD hS hl hq 
    refine lv_aload_n hx hb dc_X_storeTable_27 rfl (lv_at hl 0 rfl) ?_
    refine lv_lload_n hx hb dc_X_storeTable_28 rfl (lv_at hl 1 rfl) ?_
    refine px_table C hP hD hS dc_X_storeTable_29 (fun w1 H locs ew1 hP hD hS => ?_)
    exact ck_vret C hP hD hS (by subst ew1; exact (hq.trans (rfl)).symm) dc_X_storeTable_32
  -- from the entry
  refine lv_lload_n hx hb dc_X_storeTable_0 rfl (lv_at hl 1 rfl) ?_
  refine lv_bipush (v := 60) hx hb dc_X_storeTable_1 (by decide) ?_
  refine xr_lushr hx hb dc_X_storeTable_3 (fun v2 e2 => ?_)
  refine lv_lstore_n (lv' := [(3, .long v2), (0, .ref h0), (1, .long p1)]) hx hb dc_X_storeTable_4 rfl hl (by decide) rfl (fun ls hl => ?_)
  refine lv_lload_n hx hb dc_X_storeTable_5 rfl (lv_at hl 0 rfl) ?_
  refine lv_lconst (v := 0) hx hb dc_X_storeTable_6 (by decide) ?_
  refine xr_lcmp hx hb dc_X_storeTable_7 (fun v3 e3 => ?_)
  refine lv_if_eq (tgt := 27) hx hb dc_X_storeTable_8 (by decide) (fun c4 => ?_) (fun c4 => ?_)
  · exact k27 u0  _ _ _ hP hD hS (lv_sub hl [1, 2] rfl) (by subst e2 e3; exact (if_pos c4))
  · refine lv_lload_n hx hb dc_X_storeTable_11 rfl (lv_at hl 0 rfl) ?_
    refine lv_ldc2 (v := 8) hx hb hown (hT _ mw_14) dc_X_storeTable_12 ?_
    refine xr_lcmp hx hb dc_X_storeTable_15 (fun v5 e5 => ?_)
    refine lv_if_eq (tgt := 27) hx hb dc_X_storeTable_16 (by decide) (fun c6 => ?_) (fun c6 => ?_)
    · exact k27 u0  _ _ _ hP hD hS (lv_sub hl [1, 2] rfl) (by subst e2 e3 e5; exact (if_neg c4).trans ((if_pos c6)))
    · refine lv_lload_n hx hb dc_X_storeTable_19 rfl (lv_at hl 0 rfl) ?_
      refine lv_ldc2 (v := 9) hx hb hown (hT _ mw_15) dc_X_storeTable_20 ?_
      refine xr_lcmp hx hb dc_X_storeTable_23 (fun v7 e7 => ?_)
      refine lv_if_ne (tgt := 32) hx hb dc_X_storeTable_24 (by decide) (fun c8 => ?_) (fun c8 => ?_)
      · exact ck_vret C hP hD hS (by subst e2 e3 e5 e7; exact ((if_neg c4).trans ((if_neg c6).trans ((if_neg c8)))).symm) dc_X_storeTable_32
      · exact k27 u0  _ _ _ hP hD hS (lv_sub hl [1, 2] rfl) (by subst e2 e3 e5 e7; exact (if_neg c4).trans ((if_neg c6).trans ((if_pos c8))))
def f_X_store (u0 : cs_St) (p1 : Int32) (p2 : Int64) : cs_St := (if p1 = 256 then (let w2 : cs_St := f_X_storeStatus u0 p2 811298; w2) else (if p1 = 260 then (let v4 : Int64 := u0.2 4; let v5 : Int64 := u0.2 3; let v7 : Int64 := f_X_merged u0 v4 p2 v5; let w8 : cs_St := (u0.1, vp_updL u0.2 4 v7); w8) else (if p1 = 261 then (let w10 : cs_St := f_B2_keepVectors u0 p2; w10) else (if p1 = 262 then (let v12 : Int64 := p2 &&& (7 : Int64); let w13 : cs_St := (u0.1, vp_updL u0.2 20 v12); w13) else (if p1 = 320 then (let w15 : cs_St := (u0.1, vp_updL u0.2 21 p2); w15) else (if p1 = 321 then (let w17 : cs_St := f_B2_keepResume u0 p2; w17) else (if p1 = 322 then (let w19 : cs_St := (u0.1, vp_updL u0.2 23 p2); w19) else (if p1 = 323 then (let w21 : cs_St := (u0.1, vp_updL u0.2 24 p2); w21) else (if p1 = 324 then (let w23 : cs_St := f_X_storeSupervisorPending u0 p2; w23) else (if p1 = 384 then (let w25 : cs_St := f_X_storeTable u0 p2; w25) else (if p1 = 768 then (let w27 : cs_St := f_X_storeStatus u0 p2 8288682; w27) else (if p1 = 770 then (let v29 : Int64 := p2 &&& (46079 : Int64); let w30 : cs_St := (u0.1, vp_updL u0.2 2 v29); w30) else (if p1 = 771 then (let v32 : Int64 := p2 &&& (546 : Int64); let w33 : cs_St := (u0.1, vp_updL u0.2 3 v32); w33) else (if p1 = 772 then (let v35 : Int64 := p2 &&& (2730 : Int64); let w36 : cs_St := (u0.1, vp_updL u0.2 4 v35); w36) else (if p1 = 773 then (let w38 : cs_St := f_B1_keepVectors u0 p2; w38) else (if p1 = 774 then (let v40 : Int64 := p2 &&& (7 : Int64); let w41 : cs_St := (u0.1, vp_updL u0.2 14 v40); w41) else (if p1 = 832 then (let w43 : cs_St := (u0.1, vp_updL u0.2 15 p2); w43) else (if p1 = 833 then (let w45 : cs_St := f_B1_keepResume u0 p2; w45) else (if p1 = 834 then (let w47 : cs_St := (u0.1, vp_updL u0.2 17 p2); w47) else (if p1 = 835 then (let w49 : cs_St := (u0.1, vp_updL u0.2 18 p2); w49) else (if p1 = 836 then (let v51 : Int64 := p2 &&& (546 : Int64); let w52 : cs_St := (u0.1, vp_updL u0.2 5 v51); w52) else (if p1 = 2816 then (let w54 : cs_St := (u0.1, vp_updL u0.2 8 p2); w54) else (if p1 = 2818 then (let w56 : cs_St := (u0.1, vp_updL u0.2 9 p2); w56) else u0)))))))))))))))))))))))
set_option maxHeartbeats 4000000 in
set_option maxRecDepth 100000 in
theorem c_X_store (l : Launch) (D : va_G) (tys : List (ClassId × FieldType)) (h0 b1 b2 : Nat) (u0 : cs_St) (p1 : Int32) (p2 : Int64)  : ck_Mv l D tys (wx h0 b1 b2) yn_X_store w_X_store rm_X_store 0 0 [.ref h0, .int p1, .long p2] u0 (f_X_store u0 p1 p2) := by
  refine ck_entv (cc := bc_X_store) (maxL := 4) (ret := none) (by decide) rfl (Nat.le_of_ble_eq_true rfl) ?_
  intro p e s m below meth c A ls C hnm hP hD hS hl
  have C : ck_C p s m meth c bc_X_store none 4 #[.ref h0, .int p1, .long p2] "ControlDesk" A D tys := C
  have hl : lv_has ls 4 [(0, .ref h0), (1, .int p1), (2, .long p2)] := hl
  have hx := C.1
  have hb := C.2.1
  have hown := C.2.2.2.2.1
  have hT := C.2.2.2.2.2.1
  have hK := C.2.2.2.2.2.2.2.1
  have hN := C.2.2.2.2.2.2.2.2.2.2.2.1
  -- from the entry
  refine lv_iload_n hx hb dc_X_store_0 rfl (lv_at hl 1 rfl) ?_
  by_cases c1 : p1 = 256
  · refine lv_lookup (tgt := 207) hx hb dc_X_store_1 (by decide +kernel) (off := 206) (by rw [c1]; decide +kernel) (by decide) ?_
    refine lv_aload_n hx hb dc_X_store_207 rfl (lv_at hl 0 rfl) ?_
    refine lv_lload_n hx hb dc_X_store_208 rfl (lv_at hl 2 rfl) ?_
    refine lv_ldc2 (v := 811298) hx hb hown (hT _ mw_16) dc_X_store_209 ?_
    refine ck_gov (rest := []) C kt_X hP hD hS (ck_runV (q0 := 0) C kt_X hK (c_X_storeStatus l D tys h0 b1 b2 u0 p2 811298  _) (cw_X_219 hT ⟨Nat.le_of_ble_eq_true rfl, Nat.le_of_ble_eq_true rfl⟩) rfl rfl hP hD hS rfl hl.1 rfl (Nat.le_of_ble_eq_true rfl) dc_X_store_212 ⟨Nat.zero_le _, Nat.zero_le _⟩) (fun w2 H locs ew2 hP hD hS => ?_)
    refine lv_goto (tgt := 457) hx hb dc_X_store_215 (by decide) ?_
    exact ck_vret C hP hD hS (by subst ew2; exact ((if_pos c1)).symm) dc_X_store_457
  by_cases c3 : p1 = 260
  · refine lv_lookup (tgt := 254) hx hb dc_X_store_1 (by decide +kernel) (off := 253) (by rw [c3]; decide +kernel) (by decide) ?_
    refine lv_aload_n hx hb dc_X_store_254 rfl (lv_at hl 0 rfl) ?_
    refine lv_aload_n hx hb dc_X_store_255 rfl (lv_at hl 0 rfl) ?_
    refine gx_enabled C hP dc_X_store_256 (fun v4 e4 => ?_)
    refine lv_lload_n hx hb dc_X_store_259 rfl (lv_at hl 2 rfl) ?_
    refine lv_aload_n hx hb dc_X_store_260 rfl (lv_at hl 0 rfl) ?_
    refine gx_delegatedInterrupts C hP dc_X_store_261 (fun v5 e5 => ?_)
    refine ck_gpl (rest := [.ref h0]) C kt_X hP hD hS (ck_runS C kt_X hK (c_X_merged l D tys h0 b1 b2 u0 v4 p2 v5  _) (cw_X_213 hT ⟨Nat.le_of_ble_eq_true rfl, Nat.le_of_ble_eq_true rfl⟩) hP hD hS rfl hl.1 rfl (Nat.le_of_ble_eq_true rfl) dc_X_store_264 ⟨Nat.zero_le _, Nat.zero_le _⟩) (fun v7 H locs e7 hP hD hS => ?_)
    refine px_enabled C hP hD hS dc_X_store_267 (fun w8 H locs ew8 hP hD hS => ?_)
    refine lv_goto (tgt := 457) hx hb dc_X_store_270 (by decide) ?_
    exact ck_vret C hP hD hS (by subst e4 e5 e7 ew8; exact ((if_neg c1).trans ((if_pos c3))).symm) dc_X_store_457
  by_cases c9 : p1 = 261
  · refine lv_lookup (tgt := 363) hx hb dc_X_store_1 (by decide +kernel) (off := 362) (by rw [c9]; decide +kernel) (by decide) ?_
    refine lv_aload_n hx hb dc_X_store_363 rfl (lv_at hl 0 rfl) ?_
    refine gx_supervisorBank C hP dc_X_store_364 ?_
    refine lv_lload_n hx hb dc_X_store_367 rfl (lv_at hl 2 rfl) ?_
    refine ck_gov (rest := []) C kt_X hP hD hS (ck_runVN (q0 := 2) C kt_X hK (c_B2_keepVectors l D tys h0 b1 b2 u0 p2  _) (cw_X_235 hT hN ⟨Nat.le_of_ble_eq_true rfl, Nat.le_of_ble_eq_true rfl⟩) rfl rfl hP hD hS rfl hl.1 rfl (Nat.le_of_ble_eq_true rfl) dc_X_store_368 ⟨Nat.zero_le _, Nat.zero_le _⟩) (fun w10 H locs ew10 hP hD hS => ?_)
    refine lv_goto (tgt := 457) hx hb dc_X_store_371 (by decide) ?_
    exact ck_vret C hP hD hS (by subst ew10; exact ((if_neg c1).trans ((if_neg c3).trans ((if_pos c9)))).symm) dc_X_store_457
  by_cases c11 : p1 = 262
  · refine lv_lookup (tgt := 374) hx hb dc_X_store_1 (by decide +kernel) (off := 373) (by rw [c11]; decide +kernel) (by decide) ?_
    refine lv_aload_n hx hb dc_X_store_374 rfl (lv_at hl 0 rfl) ?_
    refine gx_supervisorBank C hP dc_X_store_375 ?_
    refine lv_lload_n hx hb dc_X_store_378 rfl (lv_at hl 2 rfl) ?_
    refine lv_ldc2 (v := 7) hx hb hown (hT _ mw_17) dc_X_store_379 ?_
    refine xr_land hx hb dc_X_store_382 (fun v12 e12 => ?_)
    refine pn2_openCounts C hP hD hS dc_X_store_383 (fun w13 H locs ew13 hP hD hS => ?_)
    refine lv_goto (tgt := 457) hx hb dc_X_store_386 (by decide) ?_
    exact ck_vret C hP hD hS (by subst e12 ew13; exact ((if_neg c1).trans ((if_neg c3).trans ((if_neg c9).trans ((if_pos c11))))).symm) dc_X_store_457
  by_cases c14 : p1 = 320
  · refine lv_lookup (tgt := 389) hx hb dc_X_store_1 (by decide +kernel) (off := 388) (by rw [c14]; decide +kernel) (by decide) ?_
    refine lv_aload_n hx hb dc_X_store_389 rfl (lv_at hl 0 rfl) ?_
    refine gx_supervisorBank C hP dc_X_store_390 ?_
    refine lv_lload_n hx hb dc_X_store_393 rfl (lv_at hl 2 rfl) ?_
    refine pn2_scratch C hP hD hS dc_X_store_394 (fun w15 H locs ew15 hP hD hS => ?_)
    refine lv_goto (tgt := 457) hx hb dc_X_store_397 (by decide) ?_
    exact ck_vret C hP hD hS (by subst ew15; exact ((if_neg c1).trans ((if_neg c3).trans ((if_neg c9).trans ((if_neg c11).trans ((if_pos c14)))))).symm) dc_X_store_457
  by_cases c16 : p1 = 321
  · refine lv_lookup (tgt := 400) hx hb dc_X_store_1 (by decide +kernel) (off := 399) (by rw [c16]; decide +kernel) (by decide) ?_
    refine lv_aload_n hx hb dc_X_store_400 rfl (lv_at hl 0 rfl) ?_
    refine gx_supervisorBank C hP dc_X_store_401 ?_
    refine lv_lload_n hx hb dc_X_store_404 rfl (lv_at hl 2 rfl) ?_
    refine ck_gov (rest := []) C kt_X hP hD hS (ck_runVN (q0 := 2) C kt_X hK (c_B2_keepResume l D tys h0 b1 b2 u0 p2  _) (cw_X_240 hT hN ⟨Nat.le_of_ble_eq_true rfl, Nat.le_of_ble_eq_true rfl⟩) rfl rfl hP hD hS rfl hl.1 rfl (Nat.le_of_ble_eq_true rfl) dc_X_store_405 ⟨Nat.zero_le _, Nat.zero_le _⟩) (fun w17 H locs ew17 hP hD hS => ?_)
    refine lv_goto (tgt := 457) hx hb dc_X_store_408 (by decide) ?_
    exact ck_vret C hP hD hS (by subst ew17; exact ((if_neg c1).trans ((if_neg c3).trans ((if_neg c9).trans ((if_neg c11).trans ((if_neg c14).trans ((if_pos c16))))))).symm) dc_X_store_457
  by_cases c18 : p1 = 322
  · refine lv_lookup (tgt := 411) hx hb dc_X_store_1 (by decide +kernel) (off := 410) (by rw [c18]; decide +kernel) (by decide) ?_
    refine lv_aload_n hx hb dc_X_store_411 rfl (lv_at hl 0 rfl) ?_
    refine gx_supervisorBank C hP dc_X_store_412 ?_
    refine lv_lload_n hx hb dc_X_store_415 rfl (lv_at hl 2 rfl) ?_
    refine pn2_cause C hP hD hS dc_X_store_416 (fun w19 H locs ew19 hP hD hS => ?_)
    refine lv_goto (tgt := 457) hx hb dc_X_store_419 (by decide) ?_
    exact ck_vret C hP hD hS (by subst ew19; exact ((if_neg c1).trans ((if_neg c3).trans ((if_neg c9).trans ((if_neg c11).trans ((if_neg c14).trans ((if_neg c16).trans ((if_pos c18)))))))).symm) dc_X_store_457
  by_cases c20 : p1 = 323
  · refine lv_lookup (tgt := 422) hx hb dc_X_store_1 (by decide +kernel) (off := 421) (by rw [c20]; decide +kernel) (by decide) ?_
    refine lv_aload_n hx hb dc_X_store_422 rfl (lv_at hl 0 rfl) ?_
    refine gx_supervisorBank C hP dc_X_store_423 ?_
    refine lv_lload_n hx hb dc_X_store_426 rfl (lv_at hl 2 rfl) ?_
    refine pn2_value C hP hD hS dc_X_store_427 (fun w21 H locs ew21 hP hD hS => ?_)
    refine lv_goto (tgt := 457) hx hb dc_X_store_430 (by decide) ?_
    exact ck_vret C hP hD hS (by subst ew21; exact ((if_neg c1).trans ((if_neg c3).trans ((if_neg c9).trans ((if_neg c11).trans ((if_neg c14).trans ((if_neg c16).trans ((if_neg c18).trans ((if_pos c20))))))))).symm) dc_X_store_457
  by_cases c22 : p1 = 324
  · refine lv_lookup (tgt := 285) hx hb dc_X_store_1 (by decide +kernel) (off := 284) (by rw [c22]; decide +kernel) (by decide) ?_
    refine lv_aload_n hx hb dc_X_store_285 rfl (lv_at hl 0 rfl) ?_
    refine lv_lload_n hx hb dc_X_store_286 rfl (lv_at hl 2 rfl) ?_
    refine ck_gov (rest := []) C kt_X hP hD hS (ck_runV (q0 := 0) C kt_X hK (c_X_storeSupervisorPending l D tys h0 b1 b2 u0 p2  _) (cw_X_231 hT ⟨Nat.le_of_ble_eq_true rfl, Nat.le_of_ble_eq_true rfl⟩) rfl rfl hP hD hS rfl hl.1 rfl (Nat.le_of_ble_eq_true rfl) dc_X_store_287 ⟨Nat.zero_le _, Nat.zero_le _⟩) (fun w23 H locs ew23 hP hD hS => ?_)
    refine lv_goto (tgt := 457) hx hb dc_X_store_290 (by decide) ?_
    exact ck_vret C hP hD hS (by subst ew23; exact ((if_neg c1).trans ((if_neg c3).trans ((if_neg c9).trans ((if_neg c11).trans ((if_neg c14).trans ((if_neg c16).trans ((if_neg c18).trans ((if_neg c20).trans ((if_pos c22)))))))))).symm) dc_X_store_457
  by_cases c24 : p1 = 384
  · refine lv_lookup (tgt := 433) hx hb dc_X_store_1 (by decide +kernel) (off := 432) (by rw [c24]; decide +kernel) (by decide) ?_
    refine lv_aload_n hx hb dc_X_store_433 rfl (lv_at hl 0 rfl) ?_
    refine lv_lload_n hx hb dc_X_store_434 rfl (lv_at hl 2 rfl) ?_
    refine ck_gov (rest := []) C kt_X hP hD hS (ck_runV (q0 := 0) C kt_X hK (c_X_storeTable l D tys h0 b1 b2 u0 p2  _) (cw_X_243 hT ⟨Nat.le_of_ble_eq_true rfl, Nat.le_of_ble_eq_true rfl⟩) rfl rfl hP hD hS rfl hl.1 rfl (Nat.le_of_ble_eq_true rfl) dc_X_store_435 ⟨Nat.zero_le _, Nat.zero_le _⟩) (fun w25 H locs ew25 hP hD hS => ?_)
    refine lv_goto (tgt := 457) hx hb dc_X_store_438 (by decide) ?_
    exact ck_vret C hP hD hS (by subst ew25; exact ((if_neg c1).trans ((if_neg c3).trans ((if_neg c9).trans ((if_neg c11).trans ((if_neg c14).trans ((if_neg c16).trans ((if_neg c18).trans ((if_neg c20).trans ((if_neg c22).trans ((if_pos c24))))))))))).symm) dc_X_store_457
  by_cases c26 : p1 = 768
  · refine lv_lookup (tgt := 196) hx hb dc_X_store_1 (by decide +kernel) (off := 195) (by rw [c26]; decide +kernel) (by decide) ?_
    refine lv_aload_n hx hb dc_X_store_196 rfl (lv_at hl 0 rfl) ?_
    refine lv_lload_n hx hb dc_X_store_197 rfl (lv_at hl 2 rfl) ?_
    refine lv_ldc2 (v := 8288682) hx hb hown (hT _ mw_18) dc_X_store_198 ?_
    refine ck_gov (rest := []) C kt_X hP hD hS (ck_runV (q0 := 0) C kt_X hK (c_X_storeStatus l D tys h0 b1 b2 u0 p2 8288682  _) (cw_X_219 hT ⟨Nat.le_of_ble_eq_true rfl, Nat.le_of_ble_eq_true rfl⟩) rfl rfl hP hD hS rfl hl.1 rfl (Nat.le_of_ble_eq_true rfl) dc_X_store_201 ⟨Nat.zero_le _, Nat.zero_le _⟩) (fun w27 H locs ew27 hP hD hS => ?_)
    refine lv_goto (tgt := 457) hx hb dc_X_store_204 (by decide) ?_
    exact ck_vret C hP hD hS (by subst ew27; exact ((if_neg c1).trans ((if_neg c3).trans ((if_neg c9).trans ((if_neg c11).trans ((if_neg c14).trans ((if_neg c16).trans ((if_neg c18).trans ((if_neg c20).trans ((if_neg c22).trans ((if_neg c24).trans ((if_pos c26)))))))))))).symm) dc_X_store_457
  by_cases c28 : p1 = 770
  · refine lv_lookup (tgt := 218) hx hb dc_X_store_1 (by decide +kernel) (off := 217) (by rw [c28]; decide +kernel) (by decide) ?_
    refine lv_aload_n hx hb dc_X_store_218 rfl (lv_at hl 0 rfl) ?_
    refine lv_lload_n hx hb dc_X_store_219 rfl (lv_at hl 2 rfl) ?_
    refine lv_ldc2 (v := 46079) hx hb hown (hT _ mw_19) dc_X_store_220 ?_
    refine xr_land hx hb dc_X_store_223 (fun v29 e29 => ?_)
    refine px_delegatedExceptions C hP hD hS dc_X_store_224 (fun w30 H locs ew30 hP hD hS => ?_)
    refine lv_goto (tgt := 457) hx hb dc_X_store_227 (by decide) ?_
    exact ck_vret C hP hD hS (by subst e29 ew30; exact ((if_neg c1).trans ((if_neg c3).trans ((if_neg c9).trans ((if_neg c11).trans ((if_neg c14).trans ((if_neg c16).trans ((if_neg c18).trans ((if_neg c20).trans ((if_neg c22).trans ((if_neg c24).trans ((if_neg c26).trans ((if_pos c28))))))))))))).symm) dc_X_store_457
  by_cases c31 : p1 = 771
  · refine lv_lookup (tgt := 230) hx hb dc_X_store_1 (by decide +kernel) (off := 229) (by rw [c31]; decide +kernel) (by decide) ?_
    refine lv_aload_n hx hb dc_X_store_230 rfl (lv_at hl 0 rfl) ?_
    refine lv_lload_n hx hb dc_X_store_231 rfl (lv_at hl 2 rfl) ?_
    refine lv_ldc2 (v := 546) hx hb hown (hT _ mw_20) dc_X_store_232 ?_
    refine xr_land hx hb dc_X_store_235 (fun v32 e32 => ?_)
    refine px_delegatedInterrupts C hP hD hS dc_X_store_236 (fun w33 H locs ew33 hP hD hS => ?_)
    refine lv_goto (tgt := 457) hx hb dc_X_store_239 (by decide) ?_
    exact ck_vret C hP hD hS (by subst e32 ew33; exact ((if_neg c1).trans ((if_neg c3).trans ((if_neg c9).trans ((if_neg c11).trans ((if_neg c14).trans ((if_neg c16).trans ((if_neg c18).trans ((if_neg c20).trans ((if_neg c22).trans ((if_neg c24).trans ((if_neg c26).trans ((if_neg c28).trans ((if_pos c31)))))))))))))).symm) dc_X_store_457
  by_cases c34 : p1 = 772
  · refine lv_lookup (tgt := 242) hx hb dc_X_store_1 (by decide +kernel) (off := 241) (by rw [c34]; decide +kernel) (by decide) ?_
    refine lv_aload_n hx hb dc_X_store_242 rfl (lv_at hl 0 rfl) ?_
    refine lv_lload_n hx hb dc_X_store_243 rfl (lv_at hl 2 rfl) ?_
    refine lv_ldc2 (v := 2730) hx hb hown (hT _ mw_21) dc_X_store_244 ?_
    refine xr_land hx hb dc_X_store_247 (fun v35 e35 => ?_)
    refine px_enabled C hP hD hS dc_X_store_248 (fun w36 H locs ew36 hP hD hS => ?_)
    refine lv_goto (tgt := 457) hx hb dc_X_store_251 (by decide) ?_
    exact ck_vret C hP hD hS (by subst e35 ew36; exact ((if_neg c1).trans ((if_neg c3).trans ((if_neg c9).trans ((if_neg c11).trans ((if_neg c14).trans ((if_neg c16).trans ((if_neg c18).trans ((if_neg c20).trans ((if_neg c22).trans ((if_neg c24).trans ((if_neg c26).trans ((if_neg c28).trans ((if_neg c31).trans ((if_pos c34))))))))))))))).symm) dc_X_store_457
  by_cases c37 : p1 = 773
  · refine lv_lookup (tgt := 293) hx hb dc_X_store_1 (by decide +kernel) (off := 292) (by rw [c37]; decide +kernel) (by decide) ?_
    refine lv_aload_n hx hb dc_X_store_293 rfl (lv_at hl 0 rfl) ?_
    refine gx_machineBank C hP dc_X_store_294 ?_
    refine lv_lload_n hx hb dc_X_store_297 rfl (lv_at hl 2 rfl) ?_
    refine ck_gov (rest := []) C kt_X hP hD hS (ck_runVN (q0 := 1) C kt_X hK (c_B1_keepVectors l D tys h0 b1 b2 u0 p2  _) (cw_X_235 hT hN ⟨Nat.le_of_ble_eq_true rfl, Nat.le_of_ble_eq_true rfl⟩) rfl rfl hP hD hS rfl hl.1 rfl (Nat.le_of_ble_eq_true rfl) dc_X_store_298 ⟨Nat.zero_le _, Nat.zero_le _⟩) (fun w38 H locs ew38 hP hD hS => ?_)
    refine lv_goto (tgt := 457) hx hb dc_X_store_301 (by decide) ?_
    exact ck_vret C hP hD hS (by subst ew38; exact ((if_neg c1).trans ((if_neg c3).trans ((if_neg c9).trans ((if_neg c11).trans ((if_neg c14).trans ((if_neg c16).trans ((if_neg c18).trans ((if_neg c20).trans ((if_neg c22).trans ((if_neg c24).trans ((if_neg c26).trans ((if_neg c28).trans ((if_neg c31).trans ((if_neg c34).trans ((if_pos c37)))))))))))))))).symm) dc_X_store_457
  by_cases c39 : p1 = 774
  · refine lv_lookup (tgt := 304) hx hb dc_X_store_1 (by decide +kernel) (off := 303) (by rw [c39]; decide +kernel) (by decide) ?_
    refine lv_aload_n hx hb dc_X_store_304 rfl (lv_at hl 0 rfl) ?_
    refine gx_machineBank C hP dc_X_store_305 ?_
    refine lv_lload_n hx hb dc_X_store_308 rfl (lv_at hl 2 rfl) ?_
    refine lv_ldc2 (v := 7) hx hb hown (hT _ mw_17) dc_X_store_309 ?_
    refine xr_land hx hb dc_X_store_312 (fun v40 e40 => ?_)
    refine pn1_openCounts C hP hD hS dc_X_store_313 (fun w41 H locs ew41 hP hD hS => ?_)
    refine lv_goto (tgt := 457) hx hb dc_X_store_316 (by decide) ?_
    exact ck_vret C hP hD hS (by subst e40 ew41; exact ((if_neg c1).trans ((if_neg c3).trans ((if_neg c9).trans ((if_neg c11).trans ((if_neg c14).trans ((if_neg c16).trans ((if_neg c18).trans ((if_neg c20).trans ((if_neg c22).trans ((if_neg c24).trans ((if_neg c26).trans ((if_neg c28).trans ((if_neg c31).trans ((if_neg c34).trans ((if_neg c37).trans ((if_pos c39))))))))))))))))).symm) dc_X_store_457
  by_cases c42 : p1 = 832
  · refine lv_lookup (tgt := 319) hx hb dc_X_store_1 (by decide +kernel) (off := 318) (by rw [c42]; decide +kernel) (by decide) ?_
    refine lv_aload_n hx hb dc_X_store_319 rfl (lv_at hl 0 rfl) ?_
    refine gx_machineBank C hP dc_X_store_320 ?_
    refine lv_lload_n hx hb dc_X_store_323 rfl (lv_at hl 2 rfl) ?_
    refine pn1_scratch C hP hD hS dc_X_store_324 (fun w43 H locs ew43 hP hD hS => ?_)
    refine lv_goto (tgt := 457) hx hb dc_X_store_327 (by decide) ?_
    exact ck_vret C hP hD hS (by subst ew43; exact ((if_neg c1).trans ((if_neg c3).trans ((if_neg c9).trans ((if_neg c11).trans ((if_neg c14).trans ((if_neg c16).trans ((if_neg c18).trans ((if_neg c20).trans ((if_neg c22).trans ((if_neg c24).trans ((if_neg c26).trans ((if_neg c28).trans ((if_neg c31).trans ((if_neg c34).trans ((if_neg c37).trans ((if_neg c39).trans ((if_pos c42)))))))))))))))))).symm) dc_X_store_457
  by_cases c44 : p1 = 833
  · refine lv_lookup (tgt := 330) hx hb dc_X_store_1 (by decide +kernel) (off := 329) (by rw [c44]; decide +kernel) (by decide) ?_
    refine lv_aload_n hx hb dc_X_store_330 rfl (lv_at hl 0 rfl) ?_
    refine gx_machineBank C hP dc_X_store_331 ?_
    refine lv_lload_n hx hb dc_X_store_334 rfl (lv_at hl 2 rfl) ?_
    refine ck_gov (rest := []) C kt_X hP hD hS (ck_runVN (q0 := 1) C kt_X hK (c_B1_keepResume l D tys h0 b1 b2 u0 p2  _) (cw_X_240 hT hN ⟨Nat.le_of_ble_eq_true rfl, Nat.le_of_ble_eq_true rfl⟩) rfl rfl hP hD hS rfl hl.1 rfl (Nat.le_of_ble_eq_true rfl) dc_X_store_335 ⟨Nat.zero_le _, Nat.zero_le _⟩) (fun w45 H locs ew45 hP hD hS => ?_)
    refine lv_goto (tgt := 457) hx hb dc_X_store_338 (by decide) ?_
    exact ck_vret C hP hD hS (by subst ew45; exact ((if_neg c1).trans ((if_neg c3).trans ((if_neg c9).trans ((if_neg c11).trans ((if_neg c14).trans ((if_neg c16).trans ((if_neg c18).trans ((if_neg c20).trans ((if_neg c22).trans ((if_neg c24).trans ((if_neg c26).trans ((if_neg c28).trans ((if_neg c31).trans ((if_neg c34).trans ((if_neg c37).trans ((if_neg c39).trans ((if_neg c42).trans ((if_pos c44))))))))))))))))))).symm) dc_X_store_457
  by_cases c46 : p1 = 834
  · refine lv_lookup (tgt := 341) hx hb dc_X_store_1 (by decide +kernel) (off := 340) (by rw [c46]; decide +kernel) (by decide) ?_
    refine lv_aload_n hx hb dc_X_store_341 rfl (lv_at hl 0 rfl) ?_
    refine gx_machineBank C hP dc_X_store_342 ?_
    refine lv_lload_n hx hb dc_X_store_345 rfl (lv_at hl 2 rfl) ?_
    refine pn1_cause C hP hD hS dc_X_store_346 (fun w47 H locs ew47 hP hD hS => ?_)
    refine lv_goto (tgt := 457) hx hb dc_X_store_349 (by decide) ?_
    exact ck_vret C hP hD hS (by subst ew47; exact ((if_neg c1).trans ((if_neg c3).trans ((if_neg c9).trans ((if_neg c11).trans ((if_neg c14).trans ((if_neg c16).trans ((if_neg c18).trans ((if_neg c20).trans ((if_neg c22).trans ((if_neg c24).trans ((if_neg c26).trans ((if_neg c28).trans ((if_neg c31).trans ((if_neg c34).trans ((if_neg c37).trans ((if_neg c39).trans ((if_neg c42).trans ((if_neg c44).trans ((if_pos c46)))))))))))))))))))).symm) dc_X_store_457
  by_cases c48 : p1 = 835
  · refine lv_lookup (tgt := 352) hx hb dc_X_store_1 (by decide +kernel) (off := 351) (by rw [c48]; decide +kernel) (by decide) ?_
    refine lv_aload_n hx hb dc_X_store_352 rfl (lv_at hl 0 rfl) ?_
    refine gx_machineBank C hP dc_X_store_353 ?_
    refine lv_lload_n hx hb dc_X_store_356 rfl (lv_at hl 2 rfl) ?_
    refine pn1_value C hP hD hS dc_X_store_357 (fun w49 H locs ew49 hP hD hS => ?_)
    refine lv_goto (tgt := 457) hx hb dc_X_store_360 (by decide) ?_
    exact ck_vret C hP hD hS (by subst ew49; exact ((if_neg c1).trans ((if_neg c3).trans ((if_neg c9).trans ((if_neg c11).trans ((if_neg c14).trans ((if_neg c16).trans ((if_neg c18).trans ((if_neg c20).trans ((if_neg c22).trans ((if_neg c24).trans ((if_neg c26).trans ((if_neg c28).trans ((if_neg c31).trans ((if_neg c34).trans ((if_neg c37).trans ((if_neg c39).trans ((if_neg c42).trans ((if_neg c44).trans ((if_neg c46).trans ((if_pos c48))))))))))))))))))))).symm) dc_X_store_457
  by_cases c50 : p1 = 836
  · refine lv_lookup (tgt := 273) hx hb dc_X_store_1 (by decide +kernel) (off := 272) (by rw [c50]; decide +kernel) (by decide) ?_
    refine lv_aload_n hx hb dc_X_store_273 rfl (lv_at hl 0 rfl) ?_
    refine lv_lload_n hx hb dc_X_store_274 rfl (lv_at hl 2 rfl) ?_
    refine lv_ldc2 (v := 546) hx hb hown (hT _ mw_20) dc_X_store_275 ?_
    refine xr_land hx hb dc_X_store_278 (fun v51 e51 => ?_)
    refine px_pendingWritten C hP hD hS dc_X_store_279 (fun w52 H locs ew52 hP hD hS => ?_)
    refine lv_goto (tgt := 457) hx hb dc_X_store_282 (by decide) ?_
    exact ck_vret C hP hD hS (by subst e51 ew52; exact ((if_neg c1).trans ((if_neg c3).trans ((if_neg c9).trans ((if_neg c11).trans ((if_neg c14).trans ((if_neg c16).trans ((if_neg c18).trans ((if_neg c20).trans ((if_neg c22).trans ((if_neg c24).trans ((if_neg c26).trans ((if_neg c28).trans ((if_neg c31).trans ((if_neg c34).trans ((if_neg c37).trans ((if_neg c39).trans ((if_neg c42).trans ((if_neg c44).trans ((if_neg c46).trans ((if_neg c48).trans ((if_pos c50)))))))))))))))))))))).symm) dc_X_store_457
  by_cases c53 : p1 = 2816
  · refine lv_lookup (tgt := 441) hx hb dc_X_store_1 (by decide +kernel) (off := 440) (by rw [c53]; decide +kernel) (by decide) ?_
    refine lv_aload_n hx hb dc_X_store_441 rfl (lv_at hl 0 rfl) ?_
    refine lv_lload_n hx hb dc_X_store_442 rfl (lv_at hl 2 rfl) ?_
    refine px_cycleCount C hP hD hS dc_X_store_443 (fun w54 H locs ew54 hP hD hS => ?_)
    refine lv_goto (tgt := 457) hx hb dc_X_store_446 (by decide) ?_
    exact ck_vret C hP hD hS (by subst ew54; exact ((if_neg c1).trans ((if_neg c3).trans ((if_neg c9).trans ((if_neg c11).trans ((if_neg c14).trans ((if_neg c16).trans ((if_neg c18).trans ((if_neg c20).trans ((if_neg c22).trans ((if_neg c24).trans ((if_neg c26).trans ((if_neg c28).trans ((if_neg c31).trans ((if_neg c34).trans ((if_neg c37).trans ((if_neg c39).trans ((if_neg c42).trans ((if_neg c44).trans ((if_neg c46).trans ((if_neg c48).trans ((if_neg c50).trans ((if_pos c53))))))))))))))))))))))).symm) dc_X_store_457
  by_cases c55 : p1 = 2818
  · refine lv_lookup (tgt := 449) hx hb dc_X_store_1 (by decide +kernel) (off := 448) (by rw [c55]; decide +kernel) (by decide) ?_
    refine lv_aload_n hx hb dc_X_store_449 rfl (lv_at hl 0 rfl) ?_
    refine lv_lload_n hx hb dc_X_store_450 rfl (lv_at hl 2 rfl) ?_
    refine px_instructionCount C hP hD hS dc_X_store_451 (fun w56 H locs ew56 hP hD hS => ?_)
    refine lv_goto (tgt := 457) hx hb dc_X_store_454 (by decide) ?_
    exact ck_vret C hP hD hS (by subst ew56; exact ((if_neg c1).trans ((if_neg c3).trans ((if_neg c9).trans ((if_neg c11).trans ((if_neg c14).trans ((if_neg c16).trans ((if_neg c18).trans ((if_neg c20).trans ((if_neg c22).trans ((if_neg c24).trans ((if_neg c26).trans ((if_neg c28).trans ((if_neg c31).trans ((if_neg c34).trans ((if_neg c37).trans ((if_neg c39).trans ((if_neg c42).trans ((if_neg c44).trans ((if_neg c46).trans ((if_neg c48).trans ((if_neg c50).trans ((if_neg c53).trans ((if_pos c55)))))))))))))))))))))))).symm) dc_X_store_457
  refine lv_lookup (tgt := 457) hx hb dc_X_store_1 (by decide +kernel) (off := 456) ((lv_osw (a := 256) c1 (by decide)).trans ((lv_osw (a := 260) c3 (by decide)).trans ((lv_osw (a := 261) c9 (by decide)).trans ((lv_osw (a := 262) c11 (by decide)).trans ((lv_osw (a := 320) c14 (by decide)).trans ((lv_osw (a := 321) c16 (by decide)).trans ((lv_osw (a := 322) c18 (by decide)).trans ((lv_osw (a := 323) c20 (by decide)).trans ((lv_osw (a := 324) c22 (by decide)).trans ((lv_osw (a := 384) c24 (by decide)).trans ((lv_osw (a := 768) c26 (by decide)).trans ((lv_osw (a := 770) c28 (by decide)).trans ((lv_osw (a := 771) c31 (by decide)).trans ((lv_osw (a := 772) c34 (by decide)).trans ((lv_osw (a := 773) c37 (by decide)).trans ((lv_osw (a := 774) c39 (by decide)).trans ((lv_osw (a := 832) c42 (by decide)).trans ((lv_osw (a := 833) c44 (by decide)).trans ((lv_osw (a := 834) c46 (by decide)).trans ((lv_osw (a := 835) c48 (by decide)).trans ((lv_osw (a := 836) c50 (by decide)).trans ((lv_osw (a := 2816) c53 (by decide)).trans ((lv_osw (a := 2818) c55 (by decide)).trans (rfl)))))))))))))))))))))))) (by decide) ?_
  exact ck_vret C hP hD hS (by exact ((if_neg c1).trans ((if_neg c3).trans ((if_neg c9).trans ((if_neg c11).trans ((if_neg c14).trans ((if_neg c16).trans ((if_neg c18).trans ((if_neg c20).trans ((if_neg c22).trans ((if_neg c24).trans ((if_neg c26).trans ((if_neg c28).trans ((if_neg c31).trans ((if_neg c34).trans ((if_neg c37).trans ((if_neg c39).trans ((if_neg c42).trans ((if_neg c44).trans ((if_neg c46).trans ((if_neg c48).trans ((if_neg c50).trans ((if_neg c53).trans ((if_neg c55)))))))))))))))))))))))).symm) dc_X_store_457
def f_X_access_113 (u : cs_St) (p1 : Int32) (p2 : Int32) (p3 : Int32) (p4 : Int64) (x6 : Int64) : Int32 × cs_St := (let w1 : cs_St := (u.1, vp_updL u.2 11 x6); (0, w1))
def f_X_access (u0 : cs_St) (p1 : Int32) (p2 : Int32) (p3 : Int32) (p4 : Int64) : Int32 × cs_St := (let v7 : Int32 := f_X_isIllegal u0 p1 p3; (if v7 = 0 then (let v10 : Int32 := f_X_isElsewhere u0 p1; (if v10 = 0 then (let v13 : Int64 := f_X_shown u0 p1; (if p3 = 0 then (f_X_access_113 u0 p1 p2 p3 p4 v13) else (let v16 : Int64 := f_X_changeable u0 p1 v13; let v18 : Int64 := f_X_combined u0 p2 v16 p4; let w19 : cs_St := f_X_store u0 p1 v18; (f_X_access_113 w19 p1 p2 p3 p4 v13)))) else (if p3 = 0 then (1, u0) else (let v22 : Int32 := f_X_isFloat u0 p1; (if v22 = 0 then (1, u0) else (let v24 : Int64 := u0.2 1; let v25 : Int64 := v24 ||| (24576 : Int64); let w26 : cs_St := (u0.1, vp_updL u0.2 1 v25); (1, w26))))))) else (2, u0)))
set_option maxHeartbeats 4000000 in
set_option maxRecDepth 100000 in
theorem c_X_access (l : Launch) (D : va_G) (tys : List (ClassId × FieldType)) (h0 b1 b2 : Nat) (u0 : cs_St) (p1 : Int32) (p2 : Int32) (p3 : Int32) (p4 : Int64) (g1 : ¬ p1 < 0) (g2 : p1 ≤ 4095) (g3 : ¬ p2 < 1) (g4 : p2 ≤ 3) : ck_Mi l D tys (wx h0 b1 b2) yn_X_access w_X_access rm_X_access 0 0 [.ref h0, .int p1, .int p2, .int p3, .long p4] u0 (f_X_access u0 p1 p2 p3 p4).1 (f_X_access u0 p1 p2 p3 p4).2 := by
  refine ck_enti (cc := bc_X_access) (maxL := 8) (ret := (some .int)) (by decide) rfl (Nat.le_of_ble_eq_true rfl) ?_
  intro p e s m below meth c A ls C hnm hP hD hS hl
  have C : ck_C p s m meth c bc_X_access (some .int) 8 #[.ref h0, .int p1, .int p2, .int p3, .long p4] "ControlDesk" A D tys := C
  have hl : lv_has ls 8 [(0, .ref h0), (1, .int p1), (2, .int p2), (3, .int p3), (4, .long p4)] := hl
  have hx := C.1
  have hb := C.2.1
  have hown := C.2.2.2.2.1
  have hT := C.2.2.2.2.2.1
  have hK := C.2.2.2.2.2.2.2.1
  have hN := C.2.2.2.2.2.2.2.2.2.2.2.1
  have k113 : ∀ (u : cs_St) (x6 : Int64) (H : Heap) (locs : List Loc) (ls : Array Slot), va_P D xw_Cl ((wx h0 b1 b2) u) H → va_D A ((wx h0 b1 b2) u) → va_S A s.heap H locs → lv_has ls 8 [(0, .ref h0), (6, .long x6)] → f_X_access u0 p1 p2 p3 p4 = f_X_access_113 u p1 p2 p3 p4 x6 → W p l e rm_X_access s m #[.ref h0, .int p1, .int p2, .int p3, .long p4] below meth c H locs 0 0 (MQ below (va_Qi (fun r2 u2 => r2 = (f_X_access u0 p1 p2 p3 p4).1 ∧ u2 = (f_X_access u0 p1 p2 p3 p4).2) (ck_B D (wx h0 b1 b2) A) A) #[.ref h0, .int p1, .int p2, .int p3, .long p4] s 0 0 A) (F0 m 113 ls []) := by
    intro u x6 H locs ls hP hD hS hl hq 
    refine lv_aload_n hx hb dc_X_access_113 rfl (lv_at hl 0 rfl) ?_
    refine lv_lload hx hb dc_X_access_114 (lv_at hl 1 rfl) ?_
    refine px_lastHad C hP hD hS dc_X_access_116 (fun w1 H locs ew1 hP hD hS => ?_)
    refine lv_iconst (v := 0) hx hb dc_X_access_119 (by decide) ?_
    exact ck_iret (v := 0) C hP hD hS (by subst ew1; exact ck_pair (hq.trans (rfl))) dc_X_access_120
  -- from the entry
  refine lv_iload_n hx hb dc_X_access_0 rfl (lv_at hl 1 rfl) ?_
  refine lv_if_lt (tgt := 11) hx hb dc_X_access_1 (by decide) (fun c2 => ?_) (fun c2 => ?_)
  · exact absurd c2 g1
  · refine lv_iload_n hx hb dc_X_access_4 rfl (lv_at hl 1 rfl) ?_
    refine lv_sipush (v := 4095) hx hb dc_X_access_5 (by decide) ?_
    refine lv_icmp_le (tgt := 21) hx hb dc_X_access_8 (by decide) (fun c3 => ?_) (fun c3 => ?_)
    · refine lv_iload_n hx hb dc_X_access_21 rfl (lv_at hl 2 rfl) ?_
      refine lv_iconst (v := 1) hx hb dc_X_access_22 (by decide) ?_
      refine lv_icmp_lt (tgt := 31) hx hb dc_X_access_23 (by decide) (fun c4 => ?_) (fun c4 => ?_)
      · exact absurd c4 g3
      · refine lv_iload_n hx hb dc_X_access_26 rfl (lv_at hl 2 rfl) ?_
        refine lv_iconst (v := 3) hx hb dc_X_access_27 (by decide) ?_
        refine lv_icmp_le (tgt := 41) hx hb dc_X_access_28 (by decide) (fun c5 => ?_) (fun c5 => ?_)
        · refine lv_aload_n hx hb dc_X_access_41 rfl (lv_at hl 0 rfl) ?_
          refine lv_iload_n hx hb dc_X_access_42 rfl (lv_at hl 1 rfl) ?_
          refine lv_iload_n hx hb dc_X_access_43 rfl (lv_at hl 3 rfl) ?_
          refine ck_gpi (rest := []) C kt_X hP hD hS (ck_runV (q0 := 0) C kt_X hK (c_X_isIllegal l D tys h0 b1 b2 u0 p1 p3  _) (cw_X_46 hT ⟨Nat.le_of_ble_eq_true rfl, Nat.le_of_ble_eq_true rfl⟩) rfl rfl hP hD hS rfl hl.1 rfl (Nat.le_of_ble_eq_true rfl) dc_X_access_44 ⟨Nat.zero_le _, Nat.zero_le _⟩) (fun v7 H locs e7 hP hD hS => ?_)
          refine lv_if_eq (tgt := 52) hx hb dc_X_access_47 (by decide) (fun c8 => ?_) (fun c8 => ?_)
          · refine lv_iload_n hx hb dc_X_access_52 rfl (lv_at hl 1 rfl) ?_
            refine ck_gpi (rest := []) C kt_X hP hD hS (ck_runS C kt_X hK (c_X_isElsewhere l D tys h0 b1 b2 u0 p1  _) (cw_X_50 hT ⟨Nat.le_of_ble_eq_true rfl, Nat.le_of_ble_eq_true rfl⟩) hP hD hS rfl hl.1 rfl (Nat.le_of_ble_eq_true rfl) dc_X_access_53 ⟨Nat.zero_le _, Nat.zero_le _⟩) (fun v10 H locs e10 hP hD hS => ?_)
            refine lv_if_eq (tgt := 84) hx hb dc_X_access_56 (by decide) (fun c11 => ?_) (fun c11 => ?_)
            · refine lv_aload_n hx hb dc_X_access_84 rfl (lv_at hl 0 rfl) ?_
              refine lv_iload_n hx hb dc_X_access_85 rfl (lv_at hl 1 rfl) ?_
              refine ck_gpl (rest := []) C kt_X hP hD hS (ck_runV (q0 := 0) C kt_X hK (c_X_shown l D tys h0 b1 b2 u0 p1  _) (cw_X_62 hT ⟨Nat.le_of_ble_eq_true rfl, Nat.le_of_ble_eq_true rfl⟩) rfl rfl hP hD hS rfl hl.1 rfl (Nat.le_of_ble_eq_true rfl) dc_X_access_86 ⟨Nat.zero_le _, Nat.zero_le _⟩) (fun v13 H locs e13 hP hD hS => ?_)
              refine lv_lstore (lv' := [(6, .long v13), (0, .ref h0), (1, .int p1), (2, .int p2), (3, .int p3), (4, .long p4)]) hx hb dc_X_access_89 hl (by decide) rfl (fun ls hl => ?_)
              refine lv_iload_n hx hb dc_X_access_91 rfl (lv_at hl 4 rfl) ?_
              refine lv_if_eq (tgt := 113) hx hb dc_X_access_92 (by decide) (fun c14 => ?_) (fun c14 => ?_)
              · exact k113 u0 v13 _ _ _ hP hD hS (lv_sub hl [1, 0] rfl) (by subst e7 e10 e13; exact (if_pos c8).trans ((if_pos c11).trans ((if_pos c14))))
              · refine lv_aload_n hx hb dc_X_access_95 rfl (lv_at hl 1 rfl) ?_
                refine lv_iload_n hx hb dc_X_access_96 rfl (lv_at hl 2 rfl) ?_
                refine lv_iload_n hx hb dc_X_access_97 rfl (lv_at hl 3 rfl) ?_
                refine lv_aload_n hx hb dc_X_access_98 rfl (lv_at hl 1 rfl) ?_
                refine lv_iload_n hx hb dc_X_access_99 rfl (lv_at hl 2 rfl) ?_
                refine lv_lload hx hb dc_X_access_100 (lv_at hl 0 rfl) ?_
                refine ck_gpl (rest := [.int p2, .int p1, .ref h0]) C kt_X hP hD hS (ck_runV (q0 := 0) C kt_X hK (c_X_changeable l D tys h0 b1 b2 u0 p1 v13  _) (cw_X_66 hT ⟨Nat.le_of_ble_eq_true rfl, Nat.le_of_ble_eq_true rfl⟩) rfl rfl hP hD hS rfl hl.1 rfl (Nat.le_of_ble_eq_true rfl) dc_X_access_102 ⟨Nat.zero_le _, Nat.zero_le _⟩) (fun v16 H locs e16 hP hD hS => ?_)
                refine lv_lload hx hb dc_X_access_105 (lv_at hl 5 rfl) ?_
                refine ck_gpl (rest := [.int p1, .ref h0]) C kt_X hP hD hS (ck_runS C kt_X hK (c_X_combined l D tys h0 b1 b2 u0 p2 v16 p4  _) (cw_X_70 hT ⟨Nat.le_of_ble_eq_true rfl, Nat.le_of_ble_eq_true rfl⟩) hP hD hS rfl hl.1 rfl (Nat.le_of_ble_eq_true rfl) dc_X_access_107 ⟨Nat.zero_le _, Nat.zero_le _⟩) (fun v18 H locs e18 hP hD hS => ?_)
                refine ck_gov (rest := []) C kt_X hP hD hS (ck_runV (q0 := 0) C kt_X hK (c_X_store l D tys h0 b1 b2 u0 p1 v18  _) (cw_X_74 hT ⟨Nat.le_of_ble_eq_true rfl, Nat.le_of_ble_eq_true rfl⟩) rfl rfl hP hD hS rfl hl.1 rfl (Nat.le_of_ble_eq_true rfl) dc_X_access_110 ⟨Nat.zero_le _, Nat.zero_le _⟩) (fun w19 H locs ew19 hP hD hS => ?_)
                exact k113 w19 v13 _ _ _ hP hD hS (lv_sub hl [1, 0] rfl) (by subst e7 e10 e13 e16 e18 ew19; exact (if_pos c8).trans ((if_pos c11).trans ((if_neg c14))))
            · refine lv_iload_n hx hb dc_X_access_59 rfl (lv_at hl 3 rfl) ?_
              refine lv_if_eq (tgt := 82) hx hb dc_X_access_60 (by decide) (fun c20 => ?_) (fun c20 => ?_)
              · refine lv_iconst (v := 1) hx hb dc_X_access_82 (by decide) ?_
                exact ck_iret (v := 1) C hP hD hS (by subst e7 e10; exact ck_pair ((if_pos c8).trans ((if_neg c11).trans ((if_pos c20))))) dc_X_access_83
              · refine lv_iload_n hx hb dc_X_access_63 rfl (lv_at hl 1 rfl) ?_
                refine ck_gpi (rest := []) C kt_X hP hD hS (ck_runS C kt_X hK (c_X_isFloat l D tys h0 b1 b2 u0 p1  _) (cw_X_54 hT ⟨Nat.le_of_ble_eq_true rfl, Nat.le_of_ble_eq_true rfl⟩) hP hD hS rfl hl.1 rfl (Nat.le_of_ble_eq_true rfl) dc_X_access_64 ⟨Nat.zero_le _, Nat.zero_le _⟩) (fun v22 H locs e22 hP hD hS => ?_)
                refine lv_if_eq (tgt := 82) hx hb dc_X_access_67 (by decide) (fun c23 => ?_) (fun c23 => ?_)
                · refine lv_iconst (v := 1) hx hb dc_X_access_82 (by decide) ?_
                  exact ck_iret (v := 1) C hP hD hS (by subst e7 e10 e22; exact ck_pair ((if_pos c8).trans ((if_neg c11).trans ((if_neg c20).trans ((if_pos c23)))))) dc_X_access_83
                · refine lv_aload_n hx hb dc_X_access_70 rfl (lv_at hl 0 rfl) ?_
                  refine lv_dup hx hb dc_X_access_71 rfl ?_
                  refine gx_status C hP dc_X_access_72 (fun v24 e24 => ?_)
                  refine lv_ldc2 (v := 24576) hx hb hown (hT _ mw_2) dc_X_access_75 ?_
                  refine xr_lor hx hb dc_X_access_78 (fun v25 e25 => ?_)
                  refine px_status C hP hD hS dc_X_access_79 (fun w26 H locs ew26 hP hD hS => ?_)
                  refine lv_iconst (v := 1) hx hb dc_X_access_82 (by decide) ?_
                  exact ck_iret (v := 1) C hP hD hS (by subst e7 e10 e22 e24 e25 ew26; exact ck_pair ((if_pos c8).trans ((if_neg c11).trans ((if_neg c20).trans ((if_neg c23)))))) dc_X_access_83
          · refine lv_iconst (v := 2) hx hb dc_X_access_50 (by decide) ?_
            exact ck_iret (v := 2) C hP hD hS (by subst e7; exact ck_pair ((if_neg c8))) dc_X_access_51
        · exact absurd g4 c5
    · exact absurd g2 c3
def f_X_had (u : cs_St)  : Int64 := (let v1 : Int64 := u.2 11; v1)
set_option maxHeartbeats 4000000 in
set_option maxRecDepth 100000 in
theorem c_X_had (l : Launch) (D : va_G) (tys : List (ClassId × FieldType)) (h0 b1 b2 : Nat) (u : cs_St)   : ck_Ml l D tys (wx h0 b1 b2) yn_X_had w_X_had rm_X_had 0 0 [.ref h0] u (f_X_had u) u := by
  refine ck_entl (cc := bc_X_had) (maxL := 1) (ret := (some .long)) (by decide) rfl (Nat.le_of_ble_eq_true rfl) ?_
  intro p e s m below meth c A ls C hnm hP hD hS hl
  have C : ck_C p s m meth c bc_X_had (some .long) 1 #[.ref h0] "ControlDesk" A D tys := C
  have hl : lv_has ls 1 [(0, .ref h0)] := hl
  have hx := C.1
  have hb := C.2.1
  have hown := C.2.2.2.2.1
  have hT := C.2.2.2.2.2.1
  have hK := C.2.2.2.2.2.2.2.1
  have hN := C.2.2.2.2.2.2.2.2.2.2.2.1
  -- from the entry
  refine lv_aload_n hx hb dc_X_had_0 rfl (lv_at hl 0 rfl) ?_
  refine gx_lastHad C hP dc_X_had_1 (fun v1 e1 => ?_)
  exact ck_lret (v := v1) C hP hD hS ⟨by subst e1; exact (rfl).symm, rfl⟩ dc_X_had_4
