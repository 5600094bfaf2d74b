def f_X_shownStatus (u : cs_St)  : Int64 := (let v1 : Int64 := u.2 1; let v2 : Int64 := v1 ||| (42949672960 : Int64); let v3 : Int64 := u.2 1; let v4 : Int64 := v3 &&& (24576 : Int64); let v5 : Int32 := lg_cmp v4 (24576 : Int64); (if v5 = 0 then (let v7 : Int64 := v2 ||| (-9223372036854775808 : Int64); v7) else v2))
set_option maxHeartbeats 4000000 in
set_option maxRecDepth 100000 in
theorem c_X_shownStatus (l : Launch) (D : va_G) (tys : List (ClassId × FieldType)) (h0 b1 b2 : Nat) (u : cs_St)   : ck_Ml l D tys (wx h0 b1 b2) yn_X_shownStatus w_X_shownStatus rm_X_shownStatus 0 0 [.ref h0] u (f_X_shownStatus u) u := by
  refine ck_entl (cc := bc_X_shownStatus) (maxL := 3) (ret := (some .long)) (by decide) rfl (Nat.le_of_ble_eq_true rfl) ?_
  intro p e s m below meth c A ls C hnm hP hD hS hl
  have C : ck_C p s m meth c bc_X_shownStatus (some .long) 3 #[.ref h0] "ControlDesk" A D tys := C
  have hl : lv_has ls 3 [(0, .ref h0)] := hl
  have hx := C.1
  have hb := C.2.1
  have hown := C.2.2.2.2.1
  have hT := C.2.2.2.2.2.1
  have hK := C.2.2.2.2.2.2.2.1
  have hN := C.2.2.2.2.2.2.2.2.2.2.2.1
  -- from the entry
  refine lv_aload_n hx hb dc_X_shownStatus_0 rfl (lv_at hl 0 rfl) ?_
  refine gx_status C hP dc_X_shownStatus_1 (fun v1 e1 => ?_)
  refine lv_ldc2 (v := 42949672960) hx hb hown (hT _ mw_4) dc_X_shownStatus_4 ?_
  refine xr_lor hx hb dc_X_shownStatus_7 (fun v2 e2 => ?_)
  refine lv_lstore_n (lv' := [(1, .long v2), (0, .ref h0)]) hx hb dc_X_shownStatus_8 rfl hl (by decide) rfl (fun ls hl => ?_)
  refine lv_aload_n hx hb dc_X_shownStatus_9 rfl (lv_at hl 1 rfl) ?_
  refine gx_status C hP dc_X_shownStatus_10 (fun v3 e3 => ?_)
  refine lv_ldc2 (v := 24576) hx hb hown (hT _ mw_2) dc_X_shownStatus_13 ?_
  refine xr_land hx hb dc_X_shownStatus_16 (fun v4 e4 => ?_)
  refine lv_ldc2 (v := 24576) hx hb hown (hT _ mw_2) dc_X_shownStatus_17 ?_
  refine xr_lcmp hx hb dc_X_shownStatus_20 (fun v5 e5 => ?_)
  refine lv_if_ne (tgt := 32) hx hb dc_X_shownStatus_21 (by decide) (fun c6 => ?_) (fun c6 => ?_)
  · refine lv_lload_n hx hb dc_X_shownStatus_32 rfl (lv_at hl 0 rfl) ?_
    exact ck_lret (v := v2) C hP hD hS ⟨by subst e1 e2 e3 e4 e5; exact ((if_neg c6)).symm, rfl⟩ dc_X_shownStatus_33
  · refine lv_lload_n hx hb dc_X_shownStatus_24 rfl (lv_at hl 0 rfl) ?_
    refine lv_ldc2 (v := (-9223372036854775808)) hx hb hown (hT _ mw_5) dc_X_shownStatus_25 ?_
    refine xr_lor hx hb dc_X_shownStatus_28 (fun v7 e7 => ?_)
    refine lv_goto (tgt := 33) hx hb dc_X_shownStatus_29 (by decide) ?_
    exact ck_lret (v := v7) C hP hD hS ⟨by subst e1 e2 e3 e4 e5 e7; exact ((if_pos c6)).symm, rfl⟩ dc_X_shownStatus_33
def f_X_pending (u : cs_St)  : Int64 := (let v1 : Int64 := u.2 5; let v2 : Int64 := u.2 6; let v3 : Int64 := v1 ||| v2; v3)
set_option maxHeartbeats 4000000 in
set_option maxRecDepth 100000 in
theorem c_X_pending (l : Launch) (D : va_G) (tys : List (ClassId × FieldType)) (h0 b1 b2 : Nat) (u : cs_St)   : ck_Ml l D tys (wx h0 b1 b2) yn_X_pending w_X_pending rm_X_pending 0 0 [.ref h0] u (f_X_pending u) u := by
  refine ck_entl (cc := bc_X_pending) (maxL := 1) (ret := (some .long)) (by decide) rfl (Nat.le_of_ble_eq_true rfl) ?_
  intro p e s m below meth c A ls C hnm hP hD hS hl
  have C : ck_C p s m meth c bc_X_pending (some .long) 1 #[.ref h0] "ControlDesk" A D tys := C
  have hl : lv_has ls 1 [(0, .ref h0)] := hl
  have hx := C.1
  have hb := C.2.1
  have hown := C.2.2.2.2.1
  have hT := C.2.2.2.2.2.1
  have hK := C.2.2.2.2.2.2.2.1
  have hN := C.2.2.2.2.2.2.2.2.2.2.2.1
  -- from the entry
  refine lv_aload_n hx hb dc_X_pending_0 rfl (lv_at hl 0 rfl) ?_
  refine gx_pendingWritten C hP dc_X_pending_1 (fun v1 e1 => ?_)
  refine lv_aload_n hx hb dc_X_pending_4 rfl (lv_at hl 0 rfl) ?_
  refine gx_lines C hP dc_X_pending_5 (fun v2 e2 => ?_)
  refine xr_lor hx hb dc_X_pending_8 (fun v3 e3 => ?_)
  exact ck_lret (v := v3) C hP hD hS ⟨by subst e1 e2 e3; exact (rfl).symm, rfl⟩ dc_X_pending_9
def f_X_shown (u : cs_St) (p1 : Int32) : Int64 := (if p1 = 256 then (let v3 : Int64 := f_X_shownStatus u; let v4 : Int64 := v3 &&& (-9223372028264029918 : Int64); v4) else (if p1 = 260 then (let v6 : Int64 := u.2 4; let v7 : Int64 := u.2 3; let v8 : Int64 := v6 &&& v7; v8) else (if p1 = 261 then (let v10 : Int64 := u.2 19; v10) else (if p1 = 262 then (let v12 : Int64 := u.2 20; v12) else (if p1 = 320 then (let v14 : Int64 := u.2 21; v14) else (if p1 = 321 then (let v16 : Int64 := u.2 22; v16) else (if p1 = 322 then (let v18 : Int64 := u.2 23; v18) else (if p1 = 323 then (let v20 : Int64 := u.2 24; v20) else (if p1 = 324 then (let v23 : Int64 := f_X_pending u; let v24 : Int64 := u.2 3; let v25 : Int64 := v23 &&& v24; v25) else (if p1 = 384 then (let v27 : Int64 := u.2 7; v27) else (if p1 = 768 then (let v30 : Int64 := f_X_shownStatus u; v30) else (if p1 = 769 then (-9223372036853460691) else (if p1 = 770 then (let v33 : Int64 := u.2 2; v33) else (if p1 = 771 then (let v35 : Int64 := u.2 3; v35) else (if p1 = 772 then (let v37 : Int64 := u.2 4; v37) else (if p1 = 773 then (let v39 : Int64 := u.2 13; v39) else (if p1 = 774 then (let v41 : Int64 := u.2 14; v41) else (if p1 = 832 then (let v43 : Int64 := u.2 15; v43) else (if p1 = 833 then (let v45 : Int64 := u.2 16; v45) else (if p1 = 834 then (let v47 : Int64 := u.2 17; v47) else (if p1 = 835 then (let v49 : Int64 := u.2 18; v49) else (if p1 = 836 then (let v52 : Int64 := f_X_pending u; v52) else (if p1 = 2816 then (let v54 : Int64 := u.2 8; v54) else (if p1 = 2818 then (let v56 : Int64 := u.2 9; v56) else (if p1 = 3072 then (let v58 : Int64 := u.2 8; v58) else (if p1 = 3073 then (let v60 : Int64 := u.2 10; v60) else (if p1 = 3074 then (let v62 : Int64 := u.2 9; v62) else (if p1 = 3860 then (let v64 : Int64 := u.2 0; v64) else 0))))))))))))))))))))))))))))
set_option maxHeartbeats 4000000 in
set_option maxRecDepth 100000 in
theorem c_X_shown (l : Launch) (D : va_G) (tys : List (ClassId × FieldType)) (h0 b1 b2 : Nat) (u : cs_St) (p1 : Int32)  : ck_Ml l D tys (wx h0 b1 b2) yn_X_shown w_X_shown rm_X_shown 0 0 [.ref h0, .int p1] u (f_X_shown u p1) u := by
  refine ck_entl (cc := bc_X_shown) (maxL := 2) (ret := (some .long)) (by decide) rfl (Nat.le_of_ble_eq_true rfl) ?_
  intro p e s m below meth c A ls C hnm hP hD hS hl
  have C : ck_C p s m meth c bc_X_shown (some .long) 2 #[.ref h0, .int p1] "ControlDesk" A D tys := C
  have hl : lv_has ls 2 [(0, .ref h0), (1, .int p1)] := hl
  have hx := C.1
  have hb := C.2.1
  have hown := C.2.2.2.2.1
  have hT := C.2.2.2.2.2.1
  have hK := C.2.2.2.2.2.2.2.1
  have hN := C.2.2.2.2.2.2.2.2.2.2.2.1
  -- from the entry
  refine lv_iload_n hx hb dc_X_shown_0 rfl (lv_at hl 1 rfl) ?_
  by_cases c1 : p1 = 256
  · refine lv_lookup (tgt := 241) hx hb dc_X_shown_1 (by decide +kernel) (off := 240) (by rw [c1]; decide +kernel) (by decide) ?_
    refine lv_aload_n hx hb dc_X_shown_241 rfl (lv_at hl 0 rfl) ?_
    refine ck_gpl (rest := []) C kt_X hP hD hS (ck_runV (q0 := 0) C kt_X hK (c_X_shownStatus l D tys h0 b1 b2 u   _) (cw_X_183 hT ⟨Nat.le_of_ble_eq_true rfl, Nat.le_of_ble_eq_true rfl⟩) rfl rfl hP hD hS rfl hl.1 rfl (Nat.le_of_ble_eq_true rfl) dc_X_shown_242 ⟨Nat.zero_le _, Nat.zero_le _⟩) (fun v3 H locs e3 hP hD hS => ?_)
    refine lv_ldc2 (v := (-9223372028264029918)) hx hb hown (hT _ mw_6) dc_X_shown_245 ?_
    refine xr_land hx hb dc_X_shown_248 (fun v4 e4 => ?_)
    exact ck_lret (v := v4) C hP hD hS ⟨by subst e3 e4; exact ((if_pos c1)).symm, rfl⟩ dc_X_shown_249
  by_cases c5 : p1 = 260
  · refine lv_lookup (tgt := 269) hx hb dc_X_shown_1 (by decide +kernel) (off := 268) (by rw [c5]; decide +kernel) (by decide) ?_
    refine lv_aload_n hx hb dc_X_shown_269 rfl (lv_at hl 0 rfl) ?_
    refine gx_enabled C hP dc_X_shown_270 (fun v6 e6 => ?_)
    refine lv_aload_n hx hb dc_X_shown_273 rfl (lv_at hl 0 rfl) ?_
    refine gx_delegatedInterrupts C hP dc_X_shown_274 (fun v7 e7 => ?_)
    refine xr_land hx hb dc_X_shown_277 (fun v8 e8 => ?_)
    exact ck_lret (v := v8) C hP hD hS ⟨by subst e6 e7 e8; exact ((if_neg c1).trans ((if_pos c5))).symm, rfl⟩ dc_X_shown_278
  by_cases c9 : p1 = 261
  · refine lv_lookup (tgt := 342) hx hb dc_X_shown_1 (by decide +kernel) (off := 341) (by rw [c9]; decide +kernel) (by decide) ?_
    refine lv_aload_n hx hb dc_X_shown_342 rfl (lv_at hl 0 rfl) ?_
    refine gx_supervisorBank C hP dc_X_shown_343 ?_
    refine gn2_vectors C hP dc_X_shown_346 (fun v10 e10 => ?_)
    exact ck_lret (v := v10) C hP hD hS ⟨by subst e10; exact ((if_neg c1).trans ((if_neg c5).trans ((if_pos c9)))).symm, rfl⟩ dc_X_shown_349
  by_cases c11 : p1 = 262
  · refine lv_lookup (tgt := 350) hx hb dc_X_shown_1 (by decide +kernel) (off := 349) (by rw [c11]; decide +kernel) (by decide) ?_
    refine lv_aload_n hx hb dc_X_shown_350 rfl (lv_at hl 0 rfl) ?_
    refine gx_supervisorBank C hP dc_X_shown_351 ?_
    refine gn2_openCounts C hP dc_X_shown_354 (fun v12 e12 => ?_)
    exact ck_lret (v := v12) C hP hD hS ⟨by subst e12; exact ((if_neg c1).trans ((if_neg c5).trans ((if_neg c9).trans ((if_pos c11))))).symm, rfl⟩ dc_X_shown_357
  by_cases c13 : p1 = 320
  · refine lv_lookup (tgt := 358) hx hb dc_X_shown_1 (by decide +kernel) (off := 357) (by rw [c13]; decide +kernel) (by decide) ?_
    refine lv_aload_n hx hb dc_X_shown_358 rfl (lv_at hl 0 rfl) ?_
    refine gx_supervisorBank C hP dc_X_shown_359 ?_
    refine gn2_scratch C hP dc_X_shown_362 (fun v14 e14 => ?_)
    exact ck_lret (v := v14) C hP hD hS ⟨by subst e14; exact ((if_neg c1).trans ((if_neg c5).trans ((if_neg c9).trans ((if_neg c11).trans ((if_pos c13)))))).symm, rfl⟩ dc_X_shown_365
  by_cases c15 : p1 = 321
  · refine lv_lookup (tgt := 366) hx hb dc_X_shown_1 (by decide +kernel) (off := 365) (by rw [c15]; decide +kernel) (by decide) ?_
    refine lv_aload_n hx hb dc_X_shown_366 rfl (lv_at hl 0 rfl) ?_
    refine gx_supervisorBank C hP dc_X_shown_367 ?_
    refine gn2_resume C hP dc_X_shown_370 (fun v16 e16 => ?_)
    exact ck_lret (v := v16) C hP hD hS ⟨by subst e16; exact ((if_neg c1).trans ((if_neg c5).trans ((if_neg c9).trans ((if_neg c11).trans ((if_neg c13).trans ((if_pos c15))))))).symm, rfl⟩ dc_X_shown_373
  by_cases c17 : p1 = 322
  · refine lv_lookup (tgt := 374) hx hb dc_X_shown_1 (by decide +kernel) (off := 373) (by rw [c17]; decide +kernel) (by decide) ?_
    refine lv_aload_n hx hb dc_X_shown_374 rfl (lv_at hl 0 rfl) ?_
    refine gx_supervisorBank C hP dc_X_shown_375 ?_
    refine gn2_cause C hP dc_X_shown_378 (fun v18 e18 => ?_)
    exact ck_lret (v := v18) C hP hD hS ⟨by subst e18; exact ((if_neg c1).trans ((if_neg c5).trans ((if_neg c9).trans ((if_neg c11).trans ((if_neg c13).trans ((if_neg c15).trans ((if_pos c17)))))))).symm, rfl⟩ dc_X_shown_381
  by_cases c19 : p1 = 323
  · refine lv_lookup (tgt := 382) hx hb dc_X_shown_1 (by decide +kernel) (off := 381) (by rw [c19]; decide +kernel) (by decide) ?_
    refine lv_aload_n hx hb dc_X_shown_382 rfl (lv_at hl 0 rfl) ?_
    refine gx_supervisorBank C hP dc_X_shown_383 ?_
    refine gn2_value C hP dc_X_shown_386 (fun v20 e20 => ?_)
    exact ck_lret (v := v20) C hP hD hS ⟨by subst e20; exact ((if_neg c1).trans ((if_neg c5).trans ((if_neg c9).trans ((if_neg c11).trans ((if_neg c13).trans ((if_neg c15).trans ((if_neg c17).trans ((if_pos c19))))))))).symm, rfl⟩ dc_X_shown_389
  by_cases c21 : p1 = 324
  · refine lv_lookup (tgt := 284) hx hb dc_X_shown_1 (by decide +kernel) (off := 283) (by rw [c21]; decide +kernel) (by decide) ?_
    refine lv_aload_n hx hb dc_X_shown_284 rfl (lv_at hl 0 rfl) ?_
    refine ck_gpl (rest := []) C kt_X hP hD hS (ck_runV (q0 := 0) C kt_X hK (c_X_pending l D tys h0 b1 b2 u   _) (cw_X_116 hT ⟨Nat.le_of_ble_eq_true rfl, Nat.le_of_ble_eq_true rfl⟩) rfl rfl hP hD hS rfl hl.1 rfl (Nat.le_of_ble_eq_true rfl) dc_X_shown_285 ⟨Nat.zero_le _, Nat.zero_le _⟩) (fun v23 H locs e23 hP hD hS => ?_)
    refine lv_aload_n hx hb dc_X_shown_288 rfl (lv_at hl 0 rfl) ?_
    refine gx_delegatedInterrupts C hP dc_X_shown_289 (fun v24 e24 => ?_)
    refine xr_land hx hb dc_X_shown_292 (fun v25 e25 => ?_)
    exact ck_lret (v := v25) C hP hD hS ⟨by subst e23 e24 e25; exact ((if_neg c1).trans ((if_neg c5).trans ((if_neg c9).trans ((if_neg c11).trans ((if_neg c13).trans ((if_neg c15).trans ((if_neg c17).trans ((if_neg c19).trans ((if_pos c21)))))))))).symm, rfl⟩ dc_X_shown_293
  by_cases c26 : p1 = 384
  · refine lv_lookup (tgt := 390) hx hb dc_X_shown_1 (by decide +kernel) (off := 389) (by rw [c26]; decide +kernel) (by decide) ?_
    refine lv_aload_n hx hb dc_X_shown_390 rfl (lv_at hl 0 rfl) ?_
    refine gx_table C hP dc_X_shown_391 (fun v27 e27 => ?_)
    exact ck_lret (v := v27) C hP hD hS ⟨by subst e27; exact ((if_neg c1).trans ((if_neg c5).trans ((if_neg c9).trans ((if_neg c11).trans ((if_neg c13).trans ((if_neg c15).trans ((if_neg c17).trans ((if_neg c19).trans ((if_neg c21).trans ((if_pos c26))))))))))).symm, rfl⟩ dc_X_shown_394
  by_cases c28 : p1 = 768
  · refine lv_lookup (tgt := 236) hx hb dc_X_shown_1 (by decide +kernel) (off := 235) (by rw [c28]; decide +kernel) (by decide) ?_
    refine lv_aload_n hx hb dc_X_shown_236 rfl (lv_at hl 0 rfl) ?_
    refine ck_gpl (rest := []) C kt_X hP hD hS (ck_runV (q0 := 0) C kt_X hK (c_X_shownStatus l D tys h0 b1 b2 u   _) (cw_X_183 hT ⟨Nat.le_of_ble_eq_true rfl, Nat.le_of_ble_eq_true rfl⟩) rfl rfl hP hD hS rfl hl.1 rfl (Nat.le_of_ble_eq_true rfl) dc_X_shown_237 ⟨Nat.zero_le _, Nat.zero_le _⟩) (fun v30 H locs e30 hP hD hS => ?_)
    exact ck_lret (v := v30) C hP hD hS ⟨by subst e30; exact ((if_neg c1).trans ((if_neg c5).trans ((if_neg c9).trans ((if_neg c11).trans ((if_neg c13).trans ((if_neg c15).trans ((if_neg c17).trans ((if_neg c19).trans ((if_neg c21).trans ((if_neg c26).trans ((if_pos c28)))))))))))).symm, rfl⟩ dc_X_shown_240
  by_cases c31 : p1 = 769
  · refine lv_lookup (tgt := 250) hx hb dc_X_shown_1 (by decide +kernel) (off := 249) (by rw [c31]; decide +kernel) (by decide) ?_
    refine lv_ldc2 (v := (-9223372036853460691)) hx hb hown (hT _ mw_7) dc_X_shown_250 ?_
    exact ck_lret (v := (-9223372036853460691)) C hP hD hS ⟨by exact ((if_neg c1).trans ((if_neg c5).trans ((if_neg c9).trans ((if_neg c11).trans ((if_neg c13).trans ((if_neg c15).trans ((if_neg c17).trans ((if_neg c19).trans ((if_neg c21).trans ((if_neg c26).trans ((if_neg c28).trans ((if_pos c31))))))))))))).symm, rfl⟩ dc_X_shown_253
  by_cases c32 : p1 = 770
  · refine lv_lookup (tgt := 254) hx hb dc_X_shown_1 (by decide +kernel) (off := 253) (by rw [c32]; decide +kernel) (by decide) ?_
    refine lv_aload_n hx hb dc_X_shown_254 rfl (lv_at hl 0 rfl) ?_
    refine gx_delegatedExceptions C hP dc_X_shown_255 (fun v33 e33 => ?_)
    exact ck_lret (v := v33) C hP hD hS ⟨by subst e33; exact ((if_neg c1).trans ((if_neg c5).trans ((if_neg c9).trans ((if_neg c11).trans ((if_neg c13).trans ((if_neg c15).trans ((if_neg c17).trans ((if_neg c19).trans ((if_neg c21).trans ((if_neg c26).trans ((if_neg c28).trans ((if_neg c31).trans ((if_pos c32)))))))))))))).symm, rfl⟩ dc_X_shown_258
  by_cases c34 : p1 = 771
  · refine lv_lookup (tgt := 259) hx hb dc_X_shown_1 (by decide +kernel) (off := 258) (by rw [c34]; decide +kernel) (by decide) ?_
    refine lv_aload_n hx hb dc_X_shown_259 rfl (lv_at hl 0 rfl) ?_
    refine gx_delegatedInterrupts C hP dc_X_shown_260 (fun v35 e35 => ?_)
    exact ck_lret (v := v35) C hP hD hS ⟨by subst e35; exact ((if_neg c1).trans ((if_neg c5).trans ((if_neg c9).trans ((if_neg c11).trans ((if_neg c13).trans ((if_neg c15).trans ((if_neg c17).trans ((if_neg c19).trans ((if_neg c21).trans ((if_neg c26).trans ((if_neg c28).trans ((if_neg c31).trans ((if_neg c32).trans ((if_pos c34))))))))))))))).symm, rfl⟩ dc_X_shown_263
  by_cases c36 : p1 = 772
  · refine lv_lookup (tgt := 264) hx hb dc_X_shown_1 (by decide +kernel) (off := 263) (by rw [c36]; decide +kernel) (by decide) ?_
    refine lv_aload_n hx hb dc_X_shown_264 rfl (lv_at hl 0 rfl) ?_
    refine gx_enabled C hP dc_X_shown_265 (fun v37 e37 => ?_)
    exact ck_lret (v := v37) C hP hD hS ⟨by subst e37; exact ((if_neg c1).trans ((if_neg c5).trans ((if_neg c9).trans ((if_neg c11).trans ((if_neg c13).trans ((if_neg c15).trans ((if_neg c17).trans ((if_neg c19).trans ((if_neg c21).trans ((if_neg c26).trans ((if_neg c28).trans ((if_neg c31).trans ((if_neg c32).trans ((if_neg c34).trans ((if_pos c36)))))))))))))))).symm, rfl⟩ dc_X_shown_268
  by_cases c38 : p1 = 773
  · refine lv_lookup (tgt := 294) hx hb dc_X_shown_1 (by decide +kernel) (off := 293) (by rw [c38]; decide +kernel) (by decide) ?_
    refine lv_aload_n hx hb dc_X_shown_294 rfl (lv_at hl 0 rfl) ?_
    refine gx_machineBank C hP dc_X_shown_295 ?_
    refine gn1_vectors C hP dc_X_shown_298 (fun v39 e39 => ?_)
    exact ck_lret (v := v39) C hP hD hS ⟨by subst e39; exact ((if_neg c1).trans ((if_neg c5).trans ((if_neg c9).trans ((if_neg c11).trans ((if_neg c13).trans ((if_neg c15).trans ((if_neg c17).trans ((if_neg c19).trans ((if_neg c21).trans ((if_neg c26).trans ((if_neg c28).trans ((if_neg c31).trans ((if_neg c32).trans ((if_neg c34).trans ((if_neg c36).trans ((if_pos c38))))))))))))))))).symm, rfl⟩ dc_X_shown_301
  by_cases c40 : p1 = 774
  · refine lv_lookup (tgt := 302) hx hb dc_X_shown_1 (by decide +kernel) (off := 301) (by rw [c40]; decide +kernel) (by decide) ?_
    refine lv_aload_n hx hb dc_X_shown_302 rfl (lv_at hl 0 rfl) ?_
    refine gx_machineBank C hP dc_X_shown_303 ?_
    refine gn1_openCounts C hP dc_X_shown_306 (fun v41 e41 => ?_)
    exact ck_lret (v := v41) C hP hD hS ⟨by subst e41; exact ((if_neg c1).trans ((if_neg c5).trans ((if_neg c9).trans ((if_neg c11).trans ((if_neg c13).trans ((if_neg c15).trans ((if_neg c17).trans ((if_neg c19).trans ((if_neg c21).trans ((if_neg c26).trans ((if_neg c28).trans ((if_neg c31).trans ((if_neg c32).trans ((if_neg c34).trans ((if_neg c36).trans ((if_neg c38).trans ((if_pos c40)))))))))))))))))).symm, rfl⟩ dc_X_shown_309
  by_cases c42 : p1 = 832
  · refine lv_lookup (tgt := 310) hx hb dc_X_shown_1 (by decide +kernel) (off := 309) (by rw [c42]; decide +kernel) (by decide) ?_
    refine lv_aload_n hx hb dc_X_shown_310 rfl (lv_at hl 0 rfl) ?_
    refine gx_machineBank C hP dc_X_shown_311 ?_
    refine gn1_scratch C hP dc_X_shown_314 (fun v43 e43 => ?_)
    exact ck_lret (v := v43) C hP hD hS ⟨by subst e43; exact ((if_neg c1).trans ((if_neg c5).trans ((if_neg c9).trans ((if_neg c11).trans ((if_neg c13).trans ((if_neg c15).trans ((if_neg c17).trans ((if_neg c19).trans ((if_neg c21).trans ((if_neg c26).trans ((if_neg c28).trans ((if_neg c31).trans ((if_neg c32).trans ((if_neg c34).trans ((if_neg c36).trans ((if_neg c38).trans ((if_neg c40).trans ((if_pos c42))))))))))))))))))).symm, rfl⟩ dc_X_shown_317
  by_cases c44 : p1 = 833
  · refine lv_lookup (tgt := 318) hx hb dc_X_shown_1 (by decide +kernel) (off := 317) (by rw [c44]; decide +kernel) (by decide) ?_
    refine lv_aload_n hx hb dc_X_shown_318 rfl (lv_at hl 0 rfl) ?_
    refine gx_machineBank C hP dc_X_shown_319 ?_
    refine gn1_resume C hP dc_X_shown_322 (fun v45 e45 => ?_)
    exact ck_lret (v := v45) C hP hD hS ⟨by subst e45; exact ((if_neg c1).trans ((if_neg c5).trans ((if_neg c9).trans ((if_neg c11).trans ((if_neg c13).trans ((if_neg c15).trans ((if_neg c17).trans ((if_neg c19).trans ((if_neg c21).trans ((if_neg c26).trans ((if_neg c28).trans ((if_neg c31).trans ((if_neg c32).trans ((if_neg c34).trans ((if_neg c36).trans ((if_neg c38).trans ((if_neg c40).trans ((if_neg c42).trans ((if_pos c44)))))))))))))))))))).symm, rfl⟩ dc_X_shown_325
  by_cases c46 : p1 = 834
  · refine lv_lookup (tgt := 326) hx hb dc_X_shown_1 (by decide +kernel) (off := 325) (by rw [c46]; decide +kernel) (by decide) ?_
    refine lv_aload_n hx hb dc_X_shown_326 rfl (lv_at hl 0 rfl) ?_
    refine gx_machineBank C hP dc_X_shown_327 ?_
    refine gn1_cause C hP dc_X_shown_330 (fun v47 e47 => ?_)
    exact ck_lret (v := v47) C hP hD hS ⟨by subst e47; exact ((if_neg c1).trans ((if_neg c5).trans ((if_neg c9).trans ((if_neg c11).trans ((if_neg c13).trans ((if_neg c15).trans ((if_neg c17).trans ((if_neg c19).trans ((if_neg c21).trans ((if_neg c26).trans ((if_neg c28).trans ((if_neg c31).trans ((if_neg c32).trans ((if_neg c34).trans ((if_neg c36).trans ((if_neg c38).trans ((if_neg c40).trans ((if_neg c42).trans ((if_neg c44).trans ((if_pos c46))))))))))))))))))))).symm, rfl⟩ dc_X_shown_333
  by_cases c48 : p1 = 835
  · refine lv_lookup (tgt := 334) hx hb dc_X_shown_1 (by decide +kernel) (off := 333) (by rw [c48]; decide +kernel) (by decide) ?_
    refine lv_aload_n hx hb dc_X_shown_334 rfl (lv_at hl 0 rfl) ?_
    refine gx_machineBank C hP dc_X_shown_335 ?_
    refine gn1_value C hP dc_X_shown_338 (fun v49 e49 => ?_)
    exact ck_lret (v := v49) C hP hD hS ⟨by subst e49; exact ((if_neg c1).trans ((if_neg c5).trans ((if_neg c9).trans ((if_neg c11).trans ((if_neg c13).trans ((if_neg c15).trans ((if_neg c17).trans ((if_neg c19).trans ((if_neg c21).trans ((if_neg c26).trans ((if_neg c28).trans ((if_neg c31).trans ((if_neg c32).trans ((if_neg c34).trans ((if_neg c36).trans ((if_neg c38).trans ((if_neg c40).trans ((if_neg c42).trans ((if_neg c44).trans ((if_neg c46).trans ((if_pos c48)))))))))))))))))))))).symm, rfl⟩ dc_X_shown_341
  by_cases c50 : p1 = 836
  · refine lv_lookup (tgt := 279) hx hb dc_X_shown_1 (by decide +kernel) (off := 278) (by rw [c50]; decide +kernel) (by decide) ?_
    refine lv_aload_n hx hb dc_X_shown_279 rfl (lv_at hl 0 rfl) ?_
    refine ck_gpl (rest := []) C kt_X hP hD hS (ck_runV (q0 := 0) C kt_X hK (c_X_pending l D tys h0 b1 b2 u   _) (cw_X_116 hT ⟨Nat.le_of_ble_eq_true rfl, Nat.le_of_ble_eq_true rfl⟩) rfl rfl hP hD hS rfl hl.1 rfl (Nat.le_of_ble_eq_true rfl) dc_X_shown_280 ⟨Nat.zero_le _, Nat.zero_le _⟩) (fun v52 H locs e52 hP hD hS => ?_)
    exact ck_lret (v := v52) C hP hD hS ⟨by subst e52; exact ((if_neg c1).trans ((if_neg c5).trans ((if_neg c9).trans ((if_neg c11).trans ((if_neg c13).trans ((if_neg c15).trans ((if_neg c17).trans ((if_neg c19).trans ((if_neg c21).trans ((if_neg c26).trans ((if_neg c28).trans ((if_neg c31).trans ((if_neg c32).trans ((if_neg c34).trans ((if_neg c36).trans ((if_neg c38).trans ((if_neg c40).trans ((if_neg c42).trans ((if_neg c44).trans ((if_neg c46).trans ((if_neg c48).trans ((if_pos c50))))))))))))))))))))))).symm, rfl⟩ dc_X_shown_283
  by_cases c53 : p1 = 2816
  · refine lv_lookup (tgt := 395) hx hb dc_X_shown_1 (by decide +kernel) (off := 394) (by rw [c53]; decide +kernel) (by decide) ?_
    refine lv_aload_n hx hb dc_X_shown_395 rfl (lv_at hl 0 rfl) ?_
    refine gx_cycleCount C hP dc_X_shown_396 (fun v54 e54 => ?_)
    exact ck_lret (v := v54) C hP hD hS ⟨by subst e54; exact ((if_neg c1).trans ((if_neg c5).trans ((if_neg c9).trans ((if_neg c11).trans ((if_neg c13).trans ((if_neg c15).trans ((if_neg c17).trans ((if_neg c19).trans ((if_neg c21).trans ((if_neg c26).trans ((if_neg c28).trans ((if_neg c31).trans ((if_neg c32).trans ((if_neg c34).trans ((if_neg c36).trans ((if_neg c38).trans ((if_neg c40).trans ((if_neg c42).trans ((if_neg c44).trans ((if_neg c46).trans ((if_neg c48).trans ((if_neg c50).trans ((if_pos c53)))))))))))))))))))))))).symm, rfl⟩ dc_X_shown_399
  by_cases c55 : p1 = 2818
  · refine lv_lookup (tgt := 400) hx hb dc_X_shown_1 (by decide +kernel) (off := 399) (by rw [c55]; decide +kernel) (by decide) ?_
    refine lv_aload_n hx hb dc_X_shown_400 rfl (lv_at hl 0 rfl) ?_
    refine gx_instructionCount C hP dc_X_shown_401 (fun v56 e56 => ?_)
    exact ck_lret (v := v56) C hP hD hS ⟨by subst e56; exact ((if_neg c1).trans ((if_neg c5).trans ((if_neg c9).trans ((if_neg c11).trans ((if_neg c13).trans ((if_neg c15).trans ((if_neg c17).trans ((if_neg c19).trans ((if_neg c21).trans ((if_neg c26).trans ((if_neg c28).trans ((if_neg c31).trans ((if_neg c32).trans ((if_neg c34).trans ((if_neg c36).trans ((if_neg c38).trans ((if_neg c40).trans ((if_neg c42).trans ((if_neg c44).trans ((if_neg c46).trans ((if_neg c48).trans ((if_neg c50).trans ((if_neg c53).trans ((if_pos c55))))))))))))))))))))))))).symm, rfl⟩ dc_X_shown_404
  by_cases c57 : p1 = 3072
  · refine lv_lookup (tgt := 395) hx hb dc_X_shown_1 (by decide +kernel) (off := 394) (by rw [c57]; decide +kernel) (by decide) ?_
    refine lv_aload_n hx hb dc_X_shown_395 rfl (lv_at hl 0 rfl) ?_
    refine gx_cycleCount C hP dc_X_shown_396 (fun v58 e58 => ?_)
    exact ck_lret (v := v58) C hP hD hS ⟨by subst e58; exact ((if_neg c1).trans ((if_neg c5).trans ((if_neg c9).trans ((if_neg c11).trans ((if_neg c13).trans ((if_neg c15).trans ((if_neg c17).trans ((if_neg c19).trans ((if_neg c21).trans ((if_neg c26).trans ((if_neg c28).trans ((if_neg c31).trans ((if_neg c32).trans ((if_neg c34).trans ((if_neg c36).trans ((if_neg c38).trans ((if_neg c40).trans ((if_neg c42).trans ((if_neg c44).trans ((if_neg c46).trans ((if_neg c48).trans ((if_neg c50).trans ((if_neg c53).trans ((if_neg c55).trans ((if_pos c57)))))))))))))))))))))))))).symm, rfl⟩ dc_X_shown_399
  by_cases c59 : p1 = 3073
  · refine lv_lookup (tgt := 405) hx hb dc_X_shown_1 (by decide +kernel) (off := 404) (by rw [c59]; decide +kernel) (by decide) ?_
    refine lv_aload_n hx hb dc_X_shown_405 rfl (lv_at hl 0 rfl) ?_
    refine gx_clock C hP dc_X_shown_406 (fun v60 e60 => ?_)
    exact ck_lret (v := v60) C hP hD hS ⟨by subst e60; exact ((if_neg c1).trans ((if_neg c5).trans ((if_neg c9).trans ((if_neg c11).trans ((if_neg c13).trans ((if_neg c15).trans ((if_neg c17).trans ((if_neg c19).trans ((if_neg c21).trans ((if_neg c26).trans ((if_neg c28).trans ((if_neg c31).trans ((if_neg c32).trans ((if_neg c34).trans ((if_neg c36).trans ((if_neg c38).trans ((if_neg c40).trans ((if_neg c42).trans ((if_neg c44).trans ((if_neg c46).trans ((if_neg c48).trans ((if_neg c50).trans ((if_neg c53).trans ((if_neg c55).trans ((if_neg c57).trans ((if_pos c59))))))))))))))))))))))))))).symm, rfl⟩ dc_X_shown_409
  by_cases c61 : p1 = 3074
  · refine lv_lookup (tgt := 400) hx hb dc_X_shown_1 (by decide +kernel) (off := 399) (by rw [c61]; decide +kernel) (by decide) ?_
    refine lv_aload_n hx hb dc_X_shown_400 rfl (lv_at hl 0 rfl) ?_
    refine gx_instructionCount C hP dc_X_shown_401 (fun v62 e62 => ?_)
    exact ck_lret (v := v62) C hP hD hS ⟨by subst e62; exact ((if_neg c1).trans ((if_neg c5).trans ((if_neg c9).trans ((if_neg c11).trans ((if_neg c13).trans ((if_neg c15).trans ((if_neg c17).trans ((if_neg c19).trans ((if_neg c21).trans ((if_neg c26).trans ((if_neg c28).trans ((if_neg c31).trans ((if_neg c32).trans ((if_neg c34).trans ((if_neg c36).trans ((if_neg c38).trans ((if_neg c40).trans ((if_neg c42).trans ((if_neg c44).trans ((if_neg c46).trans ((if_neg c48).trans ((if_neg c50).trans ((if_neg c53).trans ((if_neg c55).trans ((if_neg c57).trans ((if_neg c59).trans ((if_pos c61)))))))))))))))))))))))))))).symm, rfl⟩ dc_X_shown_404
  by_cases c63 : p1 = 3860
  · refine lv_lookup (tgt := 410) hx hb dc_X_shown_1 (by decide +kernel) (off := 409) (by rw [c63]; decide +kernel) (by decide) ?_
    refine lv_aload_n hx hb dc_X_shown_410 rfl (lv_at hl 0 rfl) ?_
    refine gx_processor C hP dc_X_shown_411 (fun v64 e64 => ?_)
    exact ck_lret (v := v64) C hP hD hS ⟨by subst e64; exact ((if_neg c1).trans ((if_neg c5).trans ((if_neg c9).trans ((if_neg c11).trans ((if_neg c13).trans ((if_neg c15).trans ((if_neg c17).trans ((if_neg c19).trans ((if_neg c21).trans ((if_neg c26).trans ((if_neg c28).trans ((if_neg c31).trans ((if_neg c32).trans ((if_neg c34).trans ((if_neg c36).trans ((if_neg c38).trans ((if_neg c40).trans ((if_neg c42).trans ((if_neg c44).trans ((if_neg c46).trans ((if_neg c48).trans ((if_neg c50).trans ((if_neg c53).trans ((if_neg c55).trans ((if_neg c57).trans ((if_neg c59).trans ((if_neg c61).trans ((if_pos c63))))))))))))))))))))))))))))).symm, rfl⟩ dc_X_shown_414
  refine lv_lookup (tgt := 415) hx hb dc_X_shown_1 (by decide +kernel) (off := 414) ((lv_osw (a := 256) c1 (by decide)).trans ((lv_osw (a := 260) c5 (by decide)).trans ((lv_osw (a := 261) c9 (by decide)).trans ((lv_osw (a := 262) c11 (by decide)).trans ((lv_osw (a := 320) c13 (by decide)).trans ((lv_osw (a := 321) c15 (by decide)).trans ((lv_osw (a := 322) c17 (by decide)).trans ((lv_osw (a := 323) c19 (by decide)).trans ((lv_osw (a := 324) c21 (by decide)).trans ((lv_osw (a := 384) c26 (by decide)).trans ((lv_osw (a := 768) c28 (by decide)).trans ((lv_osw (a := 769) c31 (by decide)).trans ((lv_osw (a := 770) c32 (by decide)).trans ((lv_osw (a := 771) c34 (by decide)).trans ((lv_osw (a := 772) c36 (by decide)).trans ((lv_osw (a := 773) c38 (by decide)).trans ((lv_osw (a := 774) c40 (by decide)).trans ((lv_osw (a := 832) c42 (by decide)).trans ((lv_osw (a := 833) c44 (by decide)).trans ((lv_osw (a := 834) c46 (by decide)).trans ((lv_osw (a := 835) c48 (by decide)).trans ((lv_osw (a := 836) c50 (by decide)).trans ((lv_osw (a := 2816) c53 (by decide)).trans ((lv_osw (a := 2818) c55 (by decide)).trans ((lv_osw (a := 3072) c57 (by decide)).trans ((lv_osw (a := 3073) c59 (by decide)).trans ((lv_osw (a := 3074) c61 (by decide)).trans ((lv_osw (a := 3860) c63 (by decide)).trans (rfl))))))))))))))))))))))))))))) (by decide) ?_
  refine lv_lconst (v := 0) hx hb dc_X_shown_415 (by decide) ?_
  exact ck_lret (v := 0) C hP hD hS ⟨by exact ((if_neg c1).trans ((if_neg c5).trans ((if_neg c9).trans ((if_neg c11).trans ((if_neg c13).trans ((if_neg c15).trans ((if_neg c17).trans ((if_neg c19).trans ((if_neg c21).trans ((if_neg c26).trans ((if_neg c28).trans ((if_neg c31).trans ((if_neg c32).trans ((if_neg c34).trans ((if_neg c36).trans ((if_neg c38).trans ((if_neg c40).trans ((if_neg c42).trans ((if_neg c44).trans ((if_neg c46).trans ((if_neg c48).trans ((if_neg c50).trans ((if_neg c53).trans ((if_neg c55).trans ((if_neg c57).trans ((if_neg c59).trans ((if_neg c61).trans ((if_neg c63))))))))))))))))))))))))))))).symm, rfl⟩ dc_X_shown_416
def f_X_merged (u : cs_St) (p1 : Int64) (p2 : Int64) (p3 : Int64) : Int64 := (let v1 : Int64 := p3 ^^^ (-1 : Int64); let v2 : Int64 := p1 &&& v1; let v3 : Int64 := p2 &&& p3; let v4 : Int64 := v2 ||| v3; v4)
set_option maxHeartbeats 4000000 in
set_option maxRecDepth 100000 in
theorem c_X_merged (l : Launch) (D : va_G) (tys : List (ClassId × FieldType)) (h0 b1 b2 : Nat) (u : cs_St) (p1 : Int64) (p2 : Int64) (p3 : Int64)  : ck_Ml l D tys (wx h0 b1 b2) yn_X_merged w_X_merged rm_X_merged 0 0 [.long p1, .long p2, .long p3] u (f_X_merged u p1 p2 p3) u := by
  refine ck_entl (cc := bc_X_merged) (maxL := 6) (ret := (some .long)) (by decide) rfl (Nat.le_of_ble_eq_true rfl) ?_
  intro p e s m below meth c A ls C hnm hP hD hS hl
  have C : ck_C p s m meth c bc_X_merged (some .long) 6 #[.long p1, .long p2, .long p3] "ControlDesk" A D tys := C
  have hl : lv_has ls 6 [(0, .long p1), (2, .long p2), (4, .long p3)] := hl
  have hx := C.1
  have hb := C.2.1
  have hown := C.2.2.2.2.1
  have hT := C.2.2.2.2.2.1
  have hK := C.2.2.2.2.2.2.2.1
  have hN := C.2.2.2.2.2.2.2.2.2.2.2.1
  -- from the entry
  refine lv_lload_n hx hb dc_X_merged_0 rfl (lv_at hl 0 rfl) ?_
  refine lv_lload hx hb dc_X_merged_1 (lv_at hl 2 rfl) ?_
  refine lv_ldc2 (v := (-1)) hx hb hown (hT _ mw_8) dc_X_merged_3 ?_
  refine xr_lxor hx hb dc_X_merged_6 (fun v1 e1 => ?_)
  refine xr_land hx hb dc_X_merged_7 (fun v2 e2 => ?_)
  refine lv_lload_n hx hb dc_X_merged_8 rfl (lv_at hl 1 rfl) ?_
  refine lv_lload hx hb dc_X_merged_9 (lv_at hl 2 rfl) ?_
  refine xr_land hx hb dc_X_merged_11 (fun v3 e3 => ?_)
  refine xr_lor hx hb dc_X_merged_12 (fun v4 e4 => ?_)
  exact ck_lret (v := v4) C hP hD hS ⟨by subst e1 e2 e3 e4; exact (rfl).symm, rfl⟩ dc_X_merged_13
def f_X_changeable (u : cs_St) (p1 : Int32) (p2 : Int64) : Int64 := (if p1 = 836 then (let v2 : Int64 := u.2 5; let v4 : Int64 := f_X_merged u p2 v2 512; v4) else p2)
set_option maxHeartbeats 4000000 in
set_option maxRecDepth 100000 in
theorem c_X_changeable (l : Launch) (D : va_G) (tys : List (ClassId × FieldType)) (h0 b1 b2 : Nat) (u : cs_St) (p1 : Int32) (p2 : Int64)  : ck_Ml l D tys (wx h0 b1 b2) yn_X_changeable w_X_changeable rm_X_changeable 0 0 [.ref h0, .int p1, .long p2] u (f_X_changeable u p1 p2) u := by
  refine ck_entl (cc := bc_X_changeable) (maxL := 4) (ret := (some .long)) (by decide) rfl (Nat.le_of_ble_eq_true rfl) ?_
  intro p e s m below meth c A ls C hnm hP hD hS hl
  have C : ck_C p s m meth c bc_X_changeable (some .long) 4 #[.ref h0, .int p1, .long p2] "ControlDesk" A D tys := C
  have hl : lv_has ls 4 [(0, .ref h0), (1, .int p1), (2, .long p2)] := hl
  have hx := C.1
  have hb := C.2.1
  have hown := C.2.2.2.2.1
  have hT := C.2.2.2.2.2.1
  have hK := C.2.2.2.2.2.2.2.1
  have hN := C.2.2.2.2.2.2.2.2.2.2.2.1
  -- from the entry
  refine lv_iload_n hx hb dc_X_changeable_0 rfl (lv_at hl 1 rfl) ?_
  refine lv_sipush (v := 836) hx hb dc_X_changeable_1 (by decide) ?_
  refine lv_icmp_ne (tgt := 21) hx hb dc_X_changeable_4 (by decide) (fun c1 => ?_) (fun c1 => ?_)
  · refine lv_lload_n hx hb dc_X_changeable_21 rfl (lv_at hl 2 rfl) ?_
    exact ck_lret (v := p2) C hP hD hS ⟨by exact ((if_neg c1)).symm, rfl⟩ dc_X_changeable_22
  · refine lv_lload_n hx hb dc_X_changeable_7 rfl (lv_at hl 2 rfl) ?_
    refine lv_aload_n hx hb dc_X_changeable_8 rfl (lv_at hl 0 rfl) ?_
    refine gx_pendingWritten C hP dc_X_changeable_9 (fun v2 e2 => ?_)
    refine lv_ldc2 (v := 512) hx hb hown (hT _ mw_9) dc_X_changeable_12 ?_
    refine ck_gpl (rest := []) C kt_X hP hD hS (ck_runS C kt_X hK (c_X_merged l D tys h0 b1 b2 u p2 v2 512  _) (cw_X_213 hT ⟨Nat.le_of_ble_eq_true rfl, Nat.le_of_ble_eq_true rfl⟩) hP hD hS rfl hl.1 rfl (Nat.le_of_ble_eq_true rfl) dc_X_changeable_15 ⟨Nat.zero_le _, Nat.zero_le _⟩) (fun v4 H locs e4 hP hD hS => ?_)
    refine lv_goto (tgt := 22) hx hb dc_X_changeable_18 (by decide) ?_
    exact ck_lret (v := v4) C hP hD hS ⟨by subst e2 e4; exact ((if_pos c1)).symm, rfl⟩ dc_X_changeable_22
def f_X_combined (u : cs_St) (p1 : Int32) (p2 : Int64) (p3 : Int64) : Int64 := (if p1 = 2 then (let v2 : Int64 := p2 ||| p3; v2) else (if p1 = 3 then (let v4 : Int64 := p3 ^^^ (-1 : Int64); let v5 : Int64 := p2 &&& v4; v5) else p3))
set_option maxHeartbeats 4000000 in
set_option maxRecDepth 100000 in
theorem c_X_combined (l : Launch) (D : va_G) (tys : List (ClassId × FieldType)) (h0 b1 b2 : Nat) (u : cs_St) (p1 : Int32) (p2 : Int64) (p3 : Int64)  : ck_Ml l D tys (wx h0 b1 b2) yn_X_combined w_X_combined rm_X_combined 0 0 [.int p1, .long p2, .long p3] u (f_X_combined u p1 p2 p3) u := by
  refine ck_entl (cc := bc_X_combined) (maxL := 5) (ret := (some .long)) (by decide) rfl (Nat.le_of_ble_eq_true rfl) ?_
  intro p e s m below meth c A ls C hnm hP hD hS hl
  have C : ck_C p s m meth c bc_X_combined (some .long) 5 #[.int p1, .long p2, .long p3] "ControlDesk" A D tys := C
  have hl : lv_has ls 5 [(0, .int p1), (1, .long p2), (3, .long p3)] := hl
  have hx := C.1
  have hb := C.2.1
  have hown := C.2.2.2.2.1
  have hT := C.2.2.2.2.2.1
  have hK := C.2.2.2.2.2.2.2.1
  have hN := C.2.2.2.2.2.2.2.2.2.2.2.1
  -- from the entry
  refine lv_iload_n hx hb dc_X_combined_0 rfl (lv_at hl 0 rfl) ?_
  by_cases c1 : p1 = 2
  · refine lv_lookup (tgt := 28) hx hb dc_X_combined_1 (by decide +kernel) (off := 27) (by rw [c1]; decide +kernel) (by decide) ?_
    refine lv_lload_n hx hb dc_X_combined_28 rfl (lv_at hl 1 rfl) ?_
    refine lv_lload_n hx hb dc_X_combined_29 rfl (lv_at hl 2 rfl) ?_
    refine xr_lor hx hb dc_X_combined_30 (fun v2 e2 => ?_)
    exact ck_lret (v := v2) C hP hD hS ⟨by subst e2; exact ((if_pos c1)).symm, rfl⟩ dc_X_combined_31
  by_cases c3 : p1 = 3
  · refine lv_lookup (tgt := 32) hx hb dc_X_combined_1 (by decide +kernel) (off := 31) (by rw [c3]; decide +kernel) (by decide) ?_
    refine lv_lload_n hx hb dc_X_combined_32 rfl (lv_at hl 1 rfl) ?_
    refine lv_lload_n hx hb dc_X_combined_33 rfl (lv_at hl 2 rfl) ?_
    refine lv_ldc2 (v := (-1)) hx hb hown (hT _ mw_8) dc_X_combined_34 ?_
    refine xr_lxor hx hb dc_X_combined_37 (fun v4 e4 => ?_)
    refine xr_land hx hb dc_X_combined_38 (fun v5 e5 => ?_)
    exact ck_lret (v := v5) C hP hD hS ⟨by subst e4 e5; exact ((if_neg c1).trans ((if_pos c3))).symm, rfl⟩ dc_X_combined_39
  refine lv_lookup (tgt := 40) hx hb dc_X_combined_1 (by decide +kernel) (off := 39) ((lv_osw (a := 2) c1 (by decide)).trans ((lv_osw (a := 3) c3 (by decide)).trans (rfl))) (by decide) ?_
  refine lv_lload_n hx hb dc_X_combined_40 rfl (lv_at hl 2 rfl) ?_
  exact ck_lret (v := p3) C hP hD hS ⟨by exact ((if_neg c1).trans ((if_neg c3))).symm, rfl⟩ dc_X_combined_41
def f_X_storeStatus_54 (u : cs_St) (p1 : Int64) (p2 : Int64) (y1 : Int64) : cs_St := (let w1 : cs_St := (u.1, vp_updL u.2 1 y1); w1)
def f_X_storeStatus_29 (u : cs_St) (p1 : Int64) (p2 : Int64) (x5 : Int64) (y0 : Int32) : cs_St := (if y0 = 0 then (f_X_storeStatus_54 u p1 p2 x5) else (let v3 : Int64 := u.2 1; let v5 : Int64 := f_X_merged u x5 v3 6144; (f_X_storeStatus_54 u p1 p2 v5)))
def f_X_storeStatus (u0 : cs_St) (p1 : Int64) (p2 : Int64) : cs_St := (let v6 : Int64 := u0.2 1; let v8 : Int64 := f_X_merged u0 v6 p1 p2; let v9 : Int64 := v8 &&& (6144 : Int64); let v10 : Int32 := lg_cmp v9 (4096 : Int64); (if v10 = 0 then (f_X_storeStatus_29 u0 p1 p2 v8 1) else (f_X_storeStatus_29 u0 p1 p2 v8 0)))
set_option maxHeartbeats 4000000 in
set_option maxRecDepth 100000 in
theorem c_X_storeStatus (l : Launch) (D : va_G) (tys : List (ClassId × FieldType)) (h0 b1 b2 : Nat) (u0 : cs_St) (p1 : Int64) (p2 : Int64)  : ck_Mv l D tys (wx h0 b1 b2) yn_X_storeStatus w_X_storeStatus rm_X_storeStatus 0 0 [.ref h0, .long p1, .long p2] u0 (f_X_storeStatus u0 p1 p2) := by
  refine ck_entv (cc := bc_X_storeStatus) (maxL := 8) (ret := none) (by decide) rfl (Nat.le_of_ble_eq_true rfl) ?_
  intro p e s m below meth c A ls C hnm hP hD hS hl
  have C : ck_C p s m meth c bc_X_storeStatus none 8 #[.ref h0, .long p1, .long p2] "ControlDesk" A D tys := C
  have hl : lv_has ls 8 [(0, .ref h0), (1, .long p1), (3, .long p2)] := hl
  have hx := C.1
  have hb := C.2.1
  have hown := C.2.2.2.2.1
  have hT := C.2.2.2.2.2.1
  have hK := C.2.2.2.2.2.2.2.1
  have hN := C.2.2.2.2.2.2.2.2.2.2.2.1
  have k54 : ∀ (u : cs_St) (y1 : Int64) (H : Heap) (locs : List Loc) (ls : Array Slot), va_P D xw_Cl ((wx h0 b1 b2) u) H → va_D A ((wx h0 b1 b2) u) → va_S A s.heap H locs → lv_has ls 8 [] → f_X_storeStatus u0 p1 p2 = f_X_storeStatus_54 u p1 p2 y1 → W p l e rm_X_storeStatus s m #[.ref h0, .long p1, .long p2] below meth c H locs 0 0 (MQ below (va_Qv (fun u2 => u2 = (f_X_storeStatus u0 p1 p2)) (ck_B D (wx h0 b1 b2) A) A) #[.ref h0, .long p1, .long p2] s 0 0 A) (F0 m 54 ls [.long y1, .ref h0]) := by
    intro u y1 H locs ls hP hD hS hl hq 
    refine px_status C hP hD hS dc_X_storeStatus_54 (fun w1 H locs ew1 hP hD hS => ?_)
    exact ck_vret C hP hD hS (by subst ew1; exact (hq.trans (rfl)).symm) dc_X_storeStatus_57
  have k29 : ∀ (u : cs_St) (x5 : Int64) (y0 : Int32) (H : Heap) (locs : List Loc) (ls : Array Slot), va_P D xw_Cl ((wx h0 b1 b2) u) H → va_D A ((wx h0 b1 b2) u) → va_S A s.heap H locs → lv_has ls 8 [(0, .ref h0), (5, .long x5)] → f_X_storeStatus u0 p1 p2 = f_X_storeStatus_29 u p1 p2 x5 y0 → W p l e rm_X_storeStatus s m #[.ref h0, .long p1, .long p2] below meth c H locs 0 0 (MQ below (va_Qv (fun u2 => u2 = (f_X_storeStatus u0 p1 p2)) (ck_B D (wx h0 b1 b2) A) A) #[.ref h0, .long p1, .long p2] s 0 0 A) (F0 m 29 ls [.int y0]) := by
    intro u x5 y0 H locs ls hP hD hS hl hq 
    refine lv_istore (lv' := [(7, .int y0), (0, .ref h0), (5, .long x5)]) hx hb dc_X_storeStatus_29 hl (by decide) rfl (fun ls hl => ?_)
    refine lv_aload_n hx hb dc_X_storeStatus_31 rfl (lv_at hl 1 rfl) ?_
    refine lv_iload hx hb dc_X_storeStatus_32 (lv_at hl 0 rfl) ?_
    refine lv_if_eq (tgt := 52) hx hb dc_X_storeStatus_34 (by decide) (fun c2 => ?_) (fun c2 => ?_)
    · refine lv_lload hx hb dc_X_storeStatus_52 (lv_at hl 2 rfl) ?_
      exact k54 u x5 _ _ _ hP hD hS (lv_sub hl [] rfl) (by exact hq.trans ((if_pos c2)))
    · refine lv_lload hx hb dc_X_storeStatus_37 (lv_at hl 2 rfl) ?_
      refine lv_aload_n hx hb dc_X_storeStatus_39 rfl (lv_at hl 1 rfl) ?_
      refine gx_status C hP dc_X_storeStatus_40 (fun v3 e3 => ?_)
      refine lv_ldc2 (v := 6144) hx hb hown (hT _ mw_0) dc_X_storeStatus_43 ?_
      refine ck_gpl (rest := [.ref h0]) C kt_X hP hD hS (ck_runS C kt_X hK (c_X_merged l D tys h0 b1 b2 u x5 v3 6144  _) (cw_X_213 hT ⟨Nat.le_of_ble_eq_true rfl, Nat.le_of_ble_eq_true rfl⟩) hP hD hS rfl hl.1 rfl (Nat.le_of_ble_eq_true rfl) dc_X_storeStatus_46 ⟨Nat.zero_le _, Nat.zero_le _⟩) (fun v5 H locs e5 hP hD hS => ?_)
      refine lv_goto (tgt := 54) hx hb dc_X_storeStatus_49 (by decide) ?_
      exact k54 u v5 _ _ _ hP hD hS (lv_sub hl [] rfl) (by subst e3 e5; exact hq.trans ((if_neg c2)))
  -- from the entry
  refine lv_aload_n hx hb dc_X_storeStatus_0 rfl (lv_at hl 0 rfl) ?_
  refine gx_status C hP dc_X_storeStatus_1 (fun v6 e6 => ?_)
  refine lv_lload_n hx hb dc_X_storeStatus_4 rfl (lv_at hl 1 rfl) ?_
  refine lv_lload_n hx hb dc_X_storeStatus_5 rfl (lv_at hl 2 rfl) ?_
  refine ck_gpl (rest := []) C kt_X hP hD hS (ck_runS C kt_X hK (c_X_merged l D tys h0 b1 b2 u0 v6 p1 p2  _) (cw_X_213 hT ⟨Nat.le_of_ble_eq_true rfl, Nat.le_of_ble_eq_true rfl⟩) hP hD hS rfl hl.1 rfl (Nat.le_of_ble_eq_true rfl) dc_X_storeStatus_6 ⟨Nat.zero_le _, Nat.zero_le _⟩) (fun v8 H locs e8 hP hD hS => ?_)
  refine lv_lstore (lv' := [(5, .long v8), (0, .ref h0), (1, .long p1), (3, .long p2)]) hx hb dc_X_storeStatus_9 hl (by decide) rfl (fun ls hl => ?_)
  refine lv_lload hx hb dc_X_storeStatus_11 (lv_at hl 0 rfl) ?_
  refine lv_ldc2 (v := 6144) hx hb hown (hT _ mw_0) dc_X_storeStatus_13 ?_
  refine xr_land hx hb dc_X_storeStatus_16 (fun v9 e9 => ?_)
  refine lv_ldc2 (v := 4096) hx hb hown (hT _ mw_10) dc_X_storeStatus_17 ?_
  refine xr_lcmp hx hb dc_X_storeStatus_20 (fun v10 e10 => ?_)
  refine lv_if_ne (tgt := 28) hx hb dc_X_storeStatus_21 (by decide) (fun c11 => ?_) (fun c11 => ?_)
  · refine lv_iconst (v := 0) hx hb dc_X_storeStatus_28 (by decide) ?_
    exact k29 u0 v8 0 _ _ _ hP hD hS (lv_sub hl [1, 0] rfl) (by subst e6 e8 e9 e10; exact (if_neg c11))
  · refine lv_iconst (v := 1) hx hb dc_X_storeStatus_24 (by decide) ?_
    refine lv_goto (tgt := 29) hx hb dc_X_storeStatus_25 (by decide) ?_
    exact k29 u0 v8 1 _ _ _ hP hD hS (lv_sub hl [1, 0] rfl) (by subst e6 e8 e9 e10; exact (if_pos c11))
def f_X_storeSupervisorPending (u0 : cs_St) (p1 : Int64) : cs_St := (let v1 : Int64 := u0.2 5; let v2 : Int64 := u0.2 3; let v3 : Int64 := (2 : Int64) &&& v2; let v5 : Int64 := f_X_merged u0 v1 p1 v3; let w6 : cs_St := (u0.1, vp_updL u0.2 5 v5); w6)
set_option maxHeartbeats 4000000 in
set_option maxRecDepth 100000 in
theorem c_X_storeSupervisorPending (l : Launch) (D : va_G) (tys : List (ClassId × FieldType)) (h0 b1 b2 : Nat) (u0 : cs_St) (p1 : Int64)  : ck_Mv l D tys (wx h0 b1 b2) yn_X_storeSupervisorPending w_X_storeSupervisorPending rm_X_storeSupervisorPending 0 0 [.ref h0, .long p1] u0 (f_X_storeSupervisorPending u0 p1) := by
  refine ck_entv (cc := bc_X_storeSupervisorPending) (maxL := 3) (ret := none) (by decide) rfl (Nat.le_of_ble_eq_true rfl) ?_
  intro p e s m below meth c A ls C hnm hP hD hS hl
  have C : ck_C p s m meth c bc_X_storeSupervisorPending none 3 #[.ref h0, .long p1] "ControlDesk" A D tys := C
  have hl : lv_has ls 3 [(0, .ref h0), (1, .long p1)] := hl
  have hx := C.1
  have hb := C.2.1
  have hown := C.2.2.2.2.1
  have hT := C.2.2.2.2.2.1
  have hK := C.2.2.2.2.2.2.2.1
  have hN := C.2.2.2.2.2.2.2.2.2.2.2.1
  -- from the entry
  refine lv_aload_n hx hb dc_X_storeSupervisorPending_0 rfl (lv_at hl 0 rfl) ?_
  refine lv_aload_n hx hb dc_X_storeSupervisorPending_1 rfl (lv_at hl 0 rfl) ?_
  refine gx_pendingWritten C hP dc_X_storeSupervisorPending_2 (fun v1 e1 => ?_)
  refine lv_lload_n hx hb dc_X_storeSupervisorPending_5 rfl (lv_at hl 1 rfl) ?_
  refine lv_ldc2 (v := 2) hx hb hown (hT _ mw_11) dc_X_storeSupervisorPending_6 ?_
  refine lv_aload_n hx hb dc_X_storeSupervisorPending_9 rfl (lv_at hl 0 rfl) ?_
  refine gx_delegatedInterrupts C hP dc_X_storeSupervisorPending_10 (fun v2 e2 => ?_)
  refine xr_land hx hb dc_X_storeSupervisorPending_13 (fun v3 e3 => ?_)
  refine ck_gpl (rest := [.ref h0]) C kt_X hP hD hS (ck_runS C kt_X hK (c_X_merged l D tys h0 b1 b2 u0 v1 p1 v3  _) (cw_X_213 hT ⟨Nat.le_of_ble_eq_true rfl, Nat.le_of_ble_eq_true rfl⟩) hP hD hS rfl hl.1 rfl (Nat.le_of_ble_eq_true rfl) dc_X_storeSupervisorPending_14 ⟨Nat.zero_le _, Nat.zero_le _⟩) (fun v5 H locs e5 hP hD hS => ?_)
  refine px_pendingWritten C hP hD hS dc_X_storeSupervisorPending_17 (fun w6 H locs ew6 hP hD hS => ?_)
  exact ck_vret C hP hD hS (by subst e1 e2 e3 e5 ew6; exact (rfl).symm) dc_X_storeSupervisorPending_20
def f_B1_keepVectors (u0 : cs_St) (p1 : Int64) : cs_St := (let v1 : Int64 := p1 &&& (-3 : Int64); let w2 : cs_St := (u0.1, vp_updL u0.2 13 v1); w2)
set_option maxHeartbeats 4000000 in
set_option maxRecDepth 100000 in
theorem c_B1_keepVectors (l : Launch) (D : va_G) (tys : List (ClassId × FieldType)) (h0 b1 b2 : Nat) (u0 : cs_St) (p1 : Int64)  : ck_Mv l D tys (wx h0 b1 b2) yn_B_keepVectors w_B1_keepVectors rm_B1_keepVectors 0 0 [.ref b1, .long p1] u0 (f_B1_keepVectors u0 p1) := by
  refine ck_entv (cc := bc_B_keepVectors) (maxL := 3) (ret := none) (by decide) rfl (Nat.le_of_ble_eq_true rfl) ?_
  intro p e s m below meth c A ls C hnm hP hD hS hl
  have C : ck_C p s m meth c bc_B_keepVectors none 3 #[.ref b1, .long p1] "ControlDesk$Bank" A D tys := C
  have hl : lv_has ls 3 [(0, .ref b1), (1, .long p1)] := hl
  have hx := C.1
  have hb := C.2.1
  have hown := C.2.2.2.2.1
  have hT := C.2.2.2.2.2.1
  have hK := C.2.2.2.2.2.2.2.1
  have hN := C.2.2.2.2.2.2.2.2.2.2.2.1
  -- from the entry
  refine lv_aload_n hx hb dc_B_keepVectors_0 rfl (lv_at hl 0 rfl) ?_
  refine lv_lload_n hx hb dc_B_keepVectors_1 rfl (lv_at hl 1 rfl) ?_
  refine lv_ldc2 (v := (-3)) hx hb hown (hT _ mw_12) dc_B_keepVectors_2 ?_
  refine xr_land hx hb dc_B_keepVectors_5 (fun v1 e1 => ?_)
  refine pb1_vectors C hP hD hS dc_B_keepVectors_6 (fun w2 H locs ew2 hP hD hS => ?_)
  exact ck_vret C hP hD hS (by subst e1 ew2; exact (rfl).symm) dc_B_keepVectors_9
