set_option maxHeartbeats 4000000 in
set_option maxRecDepth 100000 in
theorem lk_5 {p : Program} {l : Launch} {e : Env} {s : State} {m : MethodId} {below : List Frame} {meth : Method} {c : Code} {H : Heap} {locs : List Loc} {cells slots : Nat} {Q : State → Prop} {ls : Array Slot} {D : va_G} {b L : Nat} {xs : Nat → Int32} {h0 b1 b2 m0 hd ln ot : Nat} {cH cZ cO : ClassId} {u : cs_St} {w : ms_St} {o : Nat → Int64} {x4 : Int32} (hl9 : l.stackTraces = false) (C : ck_C p s m meth c code ret 8 #[.ref b] "ControlDeskLaw" (fun q : Nat => s.heap.size ≤ q) D [(cH, .long), (cZ, .boolean), (cO, .long)]) (hX : va_X b L xs s s.heap) (hbl : b < s.heap.size) (hi : ∀ j : Int32, 1 ≤ j → j ≤ 6 → vp_in (x4 + j) L) (hc1 : cells + 1 ≤ 1036) (hc2 : slots + 6 ≤ 12367) (hR : rr_R u w) (hP : va_P D xw_Cl (wl h0 b1 b2 m0 hd ln ot cH cZ cO (u, w, o)) H) (hD : va_D (fun q : Nat => s.heap.size ≤ q) (wl h0 b1 b2 m0 hd ln ot cH cZ cO (u, w, o))) (hS : va_S (fun q : Nat => s.heap.size ≤ q) s.heap H locs) (hl : lv_has ls 8 [(0, .ref b), (1, .ref h0), (2, .ref m0), (3, .ref ot), (4, .int x4)])
    (next : ∀ (u' : cs_St) (w' : ms_St) (o' : Nat → Int64) (H1 : Heap) (locs1 : List Loc) (ls1 : Array Slot), rr_R u' w' → va_P D xw_Cl (wl h0 b1 b2 m0 hd ln ot cH cZ cO (u', w', o')) H1 → va_D (fun q : Nat => s.heap.size ≤ q) (wl h0 b1 b2 m0 hd ln ot cH cZ cO (u', w', o')) → va_S (fun q : Nat => s.heap.size ≤ q) s.heap H1 locs1 → lv_has ls1 8 [(0, .ref b), (1, .ref h0), (2, .ref m0), (3, .ref ot), (4, .int x4)] → W p l e room_1 s m #[.ref b] below meth c H1 locs1 (cells + 1) (slots + 6) Q (F0 m 893 ls1 [])) :
    W p l e room_1 s m #[.ref b] below meth c H locs cells slots Q (F0 m 334 ls []) := by
  have hx := C.1
  have hb := C.2.1
  have hown := C.2.2.2.2.1
  have hT := C.2.2.2.2.2.1
  have hK := C.2.2.2.2.2.2.2.1
  have hbA : ¬ (fun q : Nat => s.heap.size ≤ q) b := Nat.not_le.mpr hbl
  have hc1 : cells + 1 ≤ room_1.cells := hc1
  have hc2 : slots + 6 ≤ room_1.slots := hc2
  refine lv_aload_n hx hb dc_L_law_334 rfl (lv_at hl 1 rfl) ?_
  refine lv_aload_n hx hb dc_L_law_335 rfl (lv_at hl 0 rfl) ?_
  refine lv_iload hx hb dc_L_law_336 (lv_at hl 4 rfl) ?_
  refine lv_iconst (v := 1) hx hb dc_L_law_338 (by decide) ?_
  refine lv_iadd hx hb dc_L_law_339 ?_
  refine va_sld hx hb hX hbl hbA hS (hi 1 (by decide) (by decide)) dc_L_law_340 ?_
  refine lv_if_eq (tgt := 348) hx hb dc_L_law_341 (by decide) (fun c1 => ?_) (fun c1 => ?_)
  · refine lv_iconst (v := 0) hx hb dc_L_law_348 (by decide) ?_
    refine lv_aload_n hx hb dc_L_law_349 rfl (lv_at hl 0 rfl) ?_
    refine lv_iload hx hb dc_L_law_350 (lv_at hl 4 rfl) ?_
    refine lv_iconst (v := 2) hx hb dc_L_law_352 (by decide) ?_
    refine lv_iadd hx hb dc_L_law_353 ?_
    refine va_sld hx hb hX hbl hbA hS (hi 2 (by decide) (by decide)) dc_L_law_354 ?_
    refine lv_aload_n hx hb dc_L_law_355 rfl (lv_at hl 0 rfl) ?_
    refine lv_iload hx hb dc_L_law_356 (lv_at hl 4 rfl) ?_
    refine lv_iconst (v := 3) hx hb dc_L_law_358 (by decide) ?_
    refine lv_iadd hx hb dc_L_law_359 ?_
    refine va_sld hx hb hX hbl hbA hS (hi 3 (by decide) (by decide)) dc_L_law_360 ?_
    refine lv_i2l hx hb dc_L_law_361 rfl ?_
    refine lv_bipush (v := 32) hx hb dc_L_law_362 (by decide) ?_
    refine lv_lshl hx hb dc_L_law_364 rfl ?_
    refine lv_aload_n hx hb dc_L_law_365 rfl (lv_at hl 0 rfl) ?_
    refine lv_iload hx hb dc_L_law_366 (lv_at hl 4 rfl) ?_
    refine lv_iconst (v := 4) hx hb dc_L_law_368 (by decide) ?_
    refine lv_iadd hx hb dc_L_law_369 ?_
    refine va_sld hx hb hX hbl hbA hS (hi 4 (by decide) (by decide)) dc_L_law_370 ?_
    refine lv_i2l hx hb dc_L_law_371 rfl ?_
    refine lv_ldc2 (v := 4294967295) hx hb hown (hT _ mw_315) dc_L_law_372 ?_
    refine lv_land hx hb dc_L_law_375 ?_
    refine lv_lor hx hb dc_L_law_376 ?_
    refine lv_aload_n hx hb dc_L_law_377 rfl (lv_at hl 0 rfl) ?_
    refine lv_iload hx hb dc_L_law_378 (lv_at hl 4 rfl) ?_
    refine lv_iconst (v := 5) hx hb dc_L_law_380 (by decide) ?_
    refine lv_iadd hx hb dc_L_law_381 ?_
    refine va_sld hx hb hX hbl hbA hS (hi 5 (by decide) (by decide)) dc_L_law_382 ?_
    refine lv_i2l hx hb dc_L_law_383 rfl ?_
    refine lv_bipush (v := 32) hx hb dc_L_law_384 (by decide) ?_
    refine lv_lshl hx hb dc_L_law_386 rfl ?_
    refine lv_aload_n hx hb dc_L_law_387 rfl (lv_at hl 0 rfl) ?_
    refine lv_iload hx hb dc_L_law_388 (lv_at hl 4 rfl) ?_
    refine lv_bipush (v := 6) hx hb dc_L_law_390 (by decide) ?_
    refine lv_iadd hx hb dc_L_law_392 ?_
    refine va_sld hx hb hX hbl hbA hS (hi 6 (by decide) (by decide)) dc_L_law_393 ?_
    refine lv_i2l hx hb dc_L_law_394 rfl ?_
    refine lv_ldc2 (v := 4294967295) hx hb hown (hT _ mw_315) dc_L_law_395 ?_
    refine lv_land hx hb dc_L_law_398 ?_
    refine lv_lor hx hb dc_L_law_399 ?_
    refine lv_aload_n hx hb dc_L_law_400 rfl (lv_at hl 3 rfl) ?_
    by_cases hg : ¬ (xs (x4 + 2).toNatClampNeg) < 0 ∧ (xs (x4 + 2).toNatClampNeg) ≤ 63
    · refine ck_goi (rest := []) C kl_O hP hD hS (ck_runSW C kl_O (hK.sub [2] rfl) (c_L_trap l D h0 b1 b2 ot cO u o (0) ((xs (x4 + 2).toNatClampNeg)) ((((xs (x4 + 3).toNatClampNeg).toInt64 <<< ((32 : Int32).toInt64 &&& 63)) ||| ((xs (x4 + 4).toNatClampNeg).toInt64 &&& 4294967295))) ((((xs (x4 + 5).toNatClampNeg).toInt64 <<< ((32 : Int32).toInt64 &&& 63)) ||| ((xs (x4 + 6).toNatClampNeg).toInt64 &&& 4294967295))) hg.1 hg.2 _) (cl_L_trap hT) hP hD hS rfl hl.1 rfl (Nat.le_of_ble_eq_true rfl) dc_L_law_401 ⟨by omega, by omega⟩) (fun v2 z2 H locs e2 ez2 hP hD hS => ?_)
      refine lv_istore (lv' := [(5, .int v2), (0, .ref b), (1, .ref h0), (2, .ref m0), (3, .ref ot), (4, .int x4)]) hx hb dc_L_law_404 hl (by decide) rfl (fun ls hl => ?_)
      refine lv_aload_n hx hb dc_L_law_406 rfl (lv_at hl 3 rfl) ?_
      refine lv_aload_n hx hb dc_L_law_407 rfl (lv_at hl 1 rfl) ?_
      refine lv_iload hx hb dc_L_law_408 (lv_at hl 5 rfl) ?_
      refine lv_iconst (v := 1) hx hb dc_L_law_410 (by decide) ?_
      refine lv_iadd hx hb dc_L_law_411 ?_
      refine va_sld hx hb hX hbl hbA hS (hi 1 (by decide) (by decide)) dc_L_law_412 ?_
      refine lv_if_eq (tgt := 420) hx hb dc_L_law_413 (by decide) (fun c3 => ?_) (fun c3 => absurd c1 c3)
      refine lv_iconst (v := 0) hx hb dc_L_law_420 (by decide) ?_
      refine lv_aload_n hx hb dc_L_law_421 rfl (lv_at hl 1 rfl) ?_
      refine lv_iload hx hb dc_L_law_422 (lv_at hl 5 rfl) ?_
      refine lv_iconst (v := 2) hx hb dc_L_law_424 (by decide) ?_
      refine lv_iadd hx hb dc_L_law_425 ?_
      refine va_sld hx hb hX hbl hbA hS (hi 2 (by decide) (by decide)) dc_L_law_426 ?_
      refine lv_aload_n hx hb dc_L_law_427 rfl (lv_at hl 1 rfl) ?_
      refine lv_iload hx hb dc_L_law_428 (lv_at hl 5 rfl) ?_
      refine lv_iconst (v := 3) hx hb dc_L_law_430 (by decide) ?_
      refine lv_iadd hx hb dc_L_law_431 ?_
      refine va_sld hx hb hX hbl hbA hS (hi 3 (by decide) (by decide)) dc_L_law_432 ?_
      refine lv_i2l hx hb dc_L_law_433 rfl ?_
      refine lv_bipush (v := 32) hx hb dc_L_law_434 (by decide) ?_
      refine lv_lshl hx hb dc_L_law_436 rfl ?_
      refine lv_aload_n hx hb dc_L_law_437 rfl (lv_at hl 1 rfl) ?_
      refine lv_iload hx hb dc_L_law_438 (lv_at hl 5 rfl) ?_
      refine lv_iconst (v := 4) hx hb dc_L_law_440 (by decide) ?_
      refine lv_iadd hx hb dc_L_law_441 ?_
      refine va_sld hx hb hX hbl hbA hS (hi 4 (by decide) (by decide)) dc_L_law_442 ?_
      refine lv_i2l hx hb dc_L_law_443 rfl ?_
      refine lv_ldc2 (v := 4294967295) hx hb hown (hT _ mw_315) dc_L_law_444 ?_
      refine lv_land hx hb dc_L_law_447 ?_
      refine lv_lor hx hb dc_L_law_448 ?_
      refine lv_aload_n hx hb dc_L_law_449 rfl (lv_at hl 1 rfl) ?_
      refine lv_iload hx hb dc_L_law_450 (lv_at hl 5 rfl) ?_
      refine lv_iconst (v := 5) hx hb dc_L_law_452 (by decide) ?_
      refine lv_iadd hx hb dc_L_law_453 ?_
      refine va_sld hx hb hX hbl hbA hS (hi 5 (by decide) (by decide)) dc_L_law_454 ?_
      refine lv_i2l hx hb dc_L_law_455 rfl ?_
      refine lv_bipush (v := 32) hx hb dc_L_law_456 (by decide) ?_
      refine lv_lshl hx hb dc_L_law_458 rfl ?_
      refine lv_aload_n hx hb dc_L_law_459 rfl (lv_at hl 1 rfl) ?_
      refine lv_iload hx hb dc_L_law_460 (lv_at hl 5 rfl) ?_
      refine lv_bipush (v := 6) hx hb dc_L_law_462 (by decide) ?_
      refine lv_iadd hx hb dc_L_law_464 ?_
      refine va_sld hx hb hX hbl hbA hS (hi 6 (by decide) (by decide)) dc_L_law_465 ?_
      refine lv_i2l hx hb dc_L_law_466 rfl ?_
      refine lv_ldc2 (v := 4294967295) hx hb hown (hT _ mw_315) dc_L_law_467 ?_
      refine lv_land hx hb dc_L_law_470 ?_
      refine lv_lor hx hb dc_L_law_471 ?_
      refine ck_gol (rest := []) C kl_M hP hD hS (ck_runV (q0 := 0) C kl_M (hK.sub [0, 1] rfl) (c_M_trap l D m0 hd ln cH cZ w (0) ((xs (x4 + 2).toNatClampNeg)) ((((xs (x4 + 3).toNatClampNeg).toInt64 <<< ((32 : Int32).toInt64 &&& 63)) ||| ((xs (x4 + 4).toNatClampNeg).toInt64 &&& 4294967295))) ((((xs (x4 + 5).toNatClampNeg).toInt64 <<< ((32 : Int32).toInt64 &&& 63)) ||| ((xs (x4 + 6).toNatClampNeg).toInt64 &&& 4294967295))) _) (cl_M_trap hT ⟨Nat.le_of_ble_eq_true rfl, Nat.le_of_ble_eq_true rfl⟩) rfl rfl hP hD hS rfl hl.1 rfl (Nat.le_of_ble_eq_true rfl) dc_L_law_472 ⟨by omega, by omega⟩) (fun v4 z4 H locs e4 ez4 hP hD hS => ?_)
      refine lv_lstore (lv' := [(6, .long v4), (5, .int v2), (0, .ref b), (1, .ref h0), (2, .ref m0), (3, .ref ot), (4, .int x4)]) hx hb dc_L_law_475 hl (by decide) rfl (fun ls hl => ?_)
      refine lv_aload_n hx hb dc_L_law_477 rfl (lv_at hl 4 rfl) ?_
      refine ck_gpi (rest := []) C kl_M hP hD hS (ck_runV (q0 := 0) C kl_M (hK.sub [0, 1] rfl) (c_M_thrown l D m0 hd ln cH cZ z4  _) (cl_M_thrown hT ⟨Nat.le_of_ble_eq_true rfl, Nat.le_of_ble_eq_true rfl⟩) rfl rfl hP hD hS rfl hl.1 rfl (Nat.le_of_ble_eq_true rfl) dc_L_law_478 ⟨by omega, by omega⟩) (fun v5 H locs e5 hP hD hS => ?_)
      refine lv_iload hx hb dc_L_law_481 (lv_at hl 1 rfl) ?_
      refine lv_icmp_eq (tgt := 488) hx hb dc_L_law_483 (by decide) (fun c6 => ?_) (fun c6 => absurd (by rw [e5, ez4, e2]; exact (pl_trap (0) ((xs (x4 + 2).toNatClampNeg)) ((((xs (x4 + 3).toNatClampNeg).toInt64 <<< ((32 : Int32).toInt64 &&& 63)) ||| ((xs (x4 + 4).toNatClampNeg).toInt64 &&& 4294967295))) ((((xs (x4 + 5).toNatClampNeg).toInt64 <<< ((32 : Int32).toInt64 &&& 63)) ||| ((xs (x4 + 6).toNatClampNeg).toInt64 &&& 4294967295))) hg.1 hg.2 hR).1) c6)
      refine lv_iload hx hb dc_L_law_488 (lv_at hl 1 rfl) ?_
      refine lv_if_ne (tgt := 504) hx hb dc_L_law_490 (by decide) (fun c7 => absurd e2 c7) (fun c7 => ?_)
      refine lv_aload_n hx hb dc_L_law_493 rfl (lv_at hl 5 rfl) ?_
      refine lv_iconst (v := 0) hx hb dc_L_law_494 (by decide) ?_
      refine va_lald (f := z2.2) hx hb hK hP 6 2 rfl rfl (by unfold vp_in; decide) dc_L_law_495 ?_
      refine lv_topl (fun v8 e8 => ?_)
      refine lv_lload hx hb dc_L_law_496 (lv_at hl 0 rfl) ?_
      refine W.lcmp hx hb dc_L_law_498 ?_
      refine lv_if_eq (tgt := 504) hx hb dc_L_law_499 (by decide) (fun c9 => ?_) (fun c9 => absurd (by rw [lg_cmp_eq, e8, ez2, e4]; show vp_updL o (0 : Int32).toNatClampNeg _ (0 : Int32).toNatClampNeg = _; rw [pk_uLs]; exact (pl_trap (0) ((xs (x4 + 2).toNatClampNeg)) ((((xs (x4 + 3).toNatClampNeg).toInt64 <<< ((32 : Int32).toInt64 &&& 63)) ||| ((xs (x4 + 4).toNatClampNeg).toInt64 &&& 4294967295))) ((((xs (x4 + 5).toNatClampNeg).toInt64 <<< ((32 : Int32).toInt64 &&& 63)) ||| ((xs (x4 + 6).toNatClampNeg).toInt64 &&& 4294967295))) hg.1 hg.2 hR).2.1) c9)
      refine lv_goto (tgt := 893) hx hb dc_L_law_504 (by decide) ?_
      refine W.widen (k := cells + 1) (n := slots + 6) (by omega) (by omega) ?_
      exact next z2.1 z4 z2.2 _ _ _ (by rw [ez2, ez4]; exact (pl_trap (0) ((xs (x4 + 2).toNatClampNeg)) ((((xs (x4 + 3).toNatClampNeg).toInt64 <<< ((32 : Int32).toInt64 &&& 63)) ||| ((xs (x4 + 4).toNatClampNeg).toInt64 &&& 4294967295))) ((((xs (x4 + 5).toNatClampNeg).toInt64 <<< ((32 : Int32).toInt64 &&& 63)) ||| ((xs (x4 + 6).toNatClampNeg).toInt64 &&& 4294967295))) hg.1 hg.2 hR).2.2) hP hD hS (lv_sub hl [2, 3, 4, 5, 6] rfl)
    · replace hg := pb_trap hg
      refine ck_goi (rest := []) C kl_O hP hD hS (ck_runSW C kl_O (hK.sub [2] rfl) (cy_L_trap l hl9 D h0 b1 b2 ot cO u o (0) ((xs (x4 + 2).toNatClampNeg)) ((((xs (x4 + 3).toNatClampNeg).toInt64 <<< ((32 : Int32).toInt64 &&& 63)) ||| ((xs (x4 + 4).toNatClampNeg).toInt64 &&& 4294967295))) ((((xs (x4 + 5).toNatClampNeg).toInt64 <<< ((32 : Int32).toInt64 &&& 63)) ||| ((xs (x4 + 6).toNatClampNeg).toInt64 &&& 4294967295))) hg _) (cq_L_trap hT) hP hD hS rfl hl.1 rfl (Nat.le_of_ble_eq_true rfl) dc_L_law_401 ⟨by omega, by omega⟩) (fun v2 z2 H locs e2 ez2 hP hD hS => ?_)
      refine lv_istore (lv' := [(5, .int v2), (0, .ref b), (1, .ref h0), (2, .ref m0), (3, .ref ot), (4, .int x4)]) hx hb dc_L_law_404 hl (by decide) rfl (fun ls hl => ?_)
      refine lv_aload_n hx hb dc_L_law_406 rfl (lv_at hl 3 rfl) ?_
      refine lv_aload_n hx hb dc_L_law_407 rfl (lv_at hl 1 rfl) ?_
      refine lv_iload hx hb dc_L_law_408 (lv_at hl 5 rfl) ?_
      refine lv_iconst (v := 1) hx hb dc_L_law_410 (by decide) ?_
      refine lv_iadd hx hb dc_L_law_411 ?_
      refine va_sld hx hb hX hbl hbA hS (hi 1 (by decide) (by decide)) dc_L_law_412 ?_
      refine lv_if_eq (tgt := 420) hx hb dc_L_law_413 (by decide) (fun c10 => ?_) (fun c10 => absurd c1 c10)
      refine lv_iconst (v := 0) hx hb dc_L_law_420 (by decide) ?_
      refine lv_aload_n hx hb dc_L_law_421 rfl (lv_at hl 1 rfl) ?_
      refine lv_iload hx hb dc_L_law_422 (lv_at hl 5 rfl) ?_
      refine lv_iconst (v := 2) hx hb dc_L_law_424 (by decide) ?_
      refine lv_iadd hx hb dc_L_law_425 ?_
      refine va_sld hx hb hX hbl hbA hS (hi 2 (by decide) (by decide)) dc_L_law_426 ?_
      refine lv_aload_n hx hb dc_L_law_427 rfl (lv_at hl 1 rfl) ?_
      refine lv_iload hx hb dc_L_law_428 (lv_at hl 5 rfl) ?_
      refine lv_iconst (v := 3) hx hb dc_L_law_430 (by decide) ?_
      refine lv_iadd hx hb dc_L_law_431 ?_
      refine va_sld hx hb hX hbl hbA hS (hi 3 (by decide) (by decide)) dc_L_law_432 ?_
      refine lv_i2l hx hb dc_L_law_433 rfl ?_
      refine lv_bipush (v := 32) hx hb dc_L_law_434 (by decide) ?_
      refine lv_lshl hx hb dc_L_law_436 rfl ?_
      refine lv_aload_n hx hb dc_L_law_437 rfl (lv_at hl 1 rfl) ?_
      refine lv_iload hx hb dc_L_law_438 (lv_at hl 5 rfl) ?_
      refine lv_iconst (v := 4) hx hb dc_L_law_440 (by decide) ?_
      refine lv_iadd hx hb dc_L_law_441 ?_
      refine va_sld hx hb hX hbl hbA hS (hi 4 (by decide) (by decide)) dc_L_law_442 ?_
      refine lv_i2l hx hb dc_L_law_443 rfl ?_
      refine lv_ldc2 (v := 4294967295) hx hb hown (hT _ mw_315) dc_L_law_444 ?_
      refine lv_land hx hb dc_L_law_447 ?_
      refine lv_lor hx hb dc_L_law_448 ?_
      refine lv_aload_n hx hb dc_L_law_449 rfl (lv_at hl 1 rfl) ?_
      refine lv_iload hx hb dc_L_law_450 (lv_at hl 5 rfl) ?_
      refine lv_iconst (v := 5) hx hb dc_L_law_452 (by decide) ?_
      refine lv_iadd hx hb dc_L_law_453 ?_
      refine va_sld hx hb hX hbl hbA hS (hi 5 (by decide) (by decide)) dc_L_law_454 ?_
      refine lv_i2l hx hb dc_L_law_455 rfl ?_
      refine lv_bipush (v := 32) hx hb dc_L_law_456 (by decide) ?_
      refine lv_lshl hx hb dc_L_law_458 rfl ?_
      refine lv_aload_n hx hb dc_L_law_459 rfl (lv_at hl 1 rfl) ?_
      refine lv_iload hx hb dc_L_law_460 (lv_at hl 5 rfl) ?_
      refine lv_bipush (v := 6) hx hb dc_L_law_462 (by decide) ?_
      refine lv_iadd hx hb dc_L_law_464 ?_
      refine va_sld hx hb hX hbl hbA hS (hi 6 (by decide) (by decide)) dc_L_law_465 ?_
      refine lv_i2l hx hb dc_L_law_466 rfl ?_
      refine lv_ldc2 (v := 4294967295) hx hb hown (hT _ mw_315) dc_L_law_467 ?_
      refine lv_land hx hb dc_L_law_470 ?_
      refine lv_lor hx hb dc_L_law_471 ?_
      refine ck_gol (rest := []) C kl_M hP hD hS (ck_runV (q0 := 0) C kl_M (hK.sub [0, 1] rfl) (c_M_trap l D m0 hd ln cH cZ w (0) ((xs (x4 + 2).toNatClampNeg)) ((((xs (x4 + 3).toNatClampNeg).toInt64 <<< ((32 : Int32).toInt64 &&& 63)) ||| ((xs (x4 + 4).toNatClampNeg).toInt64 &&& 4294967295))) ((((xs (x4 + 5).toNatClampNeg).toInt64 <<< ((32 : Int32).toInt64 &&& 63)) ||| ((xs (x4 + 6).toNatClampNeg).toInt64 &&& 4294967295))) _) (cl_M_trap hT ⟨Nat.le_of_ble_eq_true rfl, Nat.le_of_ble_eq_true rfl⟩) rfl rfl hP hD hS rfl hl.1 rfl (Nat.le_of_ble_eq_true rfl) dc_L_law_472 ⟨by omega, by omega⟩) (fun v11 z11 H locs e11 ez11 hP hD hS => ?_)
      refine lv_lstore (lv' := [(6, .long v11), (5, .int v2), (0, .ref b), (1, .ref h0), (2, .ref m0), (3, .ref ot), (4, .int x4)]) hx hb dc_L_law_475 hl (by decide) rfl (fun ls hl => ?_)
      refine lv_aload_n hx hb dc_L_law_477 rfl (lv_at hl 4 rfl) ?_
      refine ck_gpi (rest := []) C kl_M hP hD hS (ck_runV (q0 := 0) C kl_M (hK.sub [0, 1] rfl) (c_M_thrown l D m0 hd ln cH cZ z11  _) (cl_M_thrown hT ⟨Nat.le_of_ble_eq_true rfl, Nat.le_of_ble_eq_true rfl⟩) rfl rfl hP hD hS rfl hl.1 rfl (Nat.le_of_ble_eq_true rfl) dc_L_law_478 ⟨by omega, by omega⟩) (fun v12 H locs e12 hP hD hS => ?_)
      refine lv_iload hx hb dc_L_law_481 (lv_at hl 1 rfl) ?_
      refine lv_icmp_eq (tgt := 488) hx hb dc_L_law_483 (by decide) (fun c13 => ?_) (fun c13 => absurd (by rw [e12, ez11, e2]; exact (px_trap (0) ((xs (x4 + 2).toNatClampNeg)) ((((xs (x4 + 3).toNatClampNeg).toInt64 <<< ((32 : Int32).toInt64 &&& 63)) ||| ((xs (x4 + 4).toNatClampNeg).toInt64 &&& 4294967295))) ((((xs (x4 + 5).toNatClampNeg).toInt64 <<< ((32 : Int32).toInt64 &&& 63)) ||| ((xs (x4 + 6).toNatClampNeg).toInt64 &&& 4294967295))) hg hR).1) c13)
      refine lv_iload hx hb dc_L_law_488 (lv_at hl 1 rfl) ?_
      refine lv_if_ne (tgt := 504) hx hb dc_L_law_490 (by decide) (fun c14 => ?_) (fun c14 => absurd (e2.symm.trans c14) (by decide))
      refine lv_goto (tgt := 893) hx hb dc_L_law_504 (by decide) ?_
      refine W.widen (k := cells + 1) (n := slots + 6) (by omega) (by omega) ?_
      exact next z2.1 z11 z2.2 _ _ _ (by rw [ez2, ez11]; exact (px_trap (0) ((xs (x4 + 2).toNatClampNeg)) ((((xs (x4 + 3).toNatClampNeg).toInt64 <<< ((32 : Int32).toInt64 &&& 63)) ||| ((xs (x4 + 4).toNatClampNeg).toInt64 &&& 4294967295))) ((((xs (x4 + 5).toNatClampNeg).toInt64 <<< ((32 : Int32).toInt64 &&& 63)) ||| ((xs (x4 + 6).toNatClampNeg).toInt64 &&& 4294967295))) hg hR).2) hP hD hS (lv_sub hl [2, 3, 4, 5, 6] rfl)
  · refine lv_iconst (v := 1) hx hb dc_L_law_344 (by decide) ?_
    refine lv_goto (tgt := 349) hx hb dc_L_law_345 (by decide) ?_
    refine lv_aload_n hx hb dc_L_law_349 rfl (lv_at hl 0 rfl) ?_
    refine lv_iload hx hb dc_L_law_350 (lv_at hl 4 rfl) ?_
    refine lv_iconst (v := 2) hx hb dc_L_law_352 (by decide) ?_
    refine lv_iadd hx hb dc_L_law_353 ?_
    refine va_sld hx hb hX hbl hbA hS (hi 2 (by decide) (by decide)) dc_L_law_354 ?_
    refine lv_aload_n hx hb dc_L_law_355 rfl (lv_at hl 0 rfl) ?_
    refine lv_iload hx hb dc_L_law_356 (lv_at hl 4 rfl) ?_
    refine lv_iconst (v := 3) hx hb dc_L_law_358 (by decide) ?_
    refine lv_iadd hx hb dc_L_law_359 ?_
    refine va_sld hx hb hX hbl hbA hS (hi 3 (by decide) (by decide)) dc_L_law_360 ?_
    refine lv_i2l hx hb dc_L_law_361 rfl ?_
    refine lv_bipush (v := 32) hx hb dc_L_law_362 (by decide) ?_
    refine lv_lshl hx hb dc_L_law_364 rfl ?_
    refine lv_aload_n hx hb dc_L_law_365 rfl (lv_at hl 0 rfl) ?_
    refine lv_iload hx hb dc_L_law_366 (lv_at hl 4 rfl) ?_
    refine lv_iconst (v := 4) hx hb dc_L_law_368 (by decide) ?_
    refine lv_iadd hx hb dc_L_law_369 ?_
    refine va_sld hx hb hX hbl hbA hS (hi 4 (by decide) (by decide)) dc_L_law_370 ?_
    refine lv_i2l hx hb dc_L_law_371 rfl ?_
    refine lv_ldc2 (v := 4294967295) hx hb hown (hT _ mw_315) dc_L_law_372 ?_
    refine lv_land hx hb dc_L_law_375 ?_
    refine lv_lor hx hb dc_L_law_376 ?_
    refine lv_aload_n hx hb dc_L_law_377 rfl (lv_at hl 0 rfl) ?_
    refine lv_iload hx hb dc_L_law_378 (lv_at hl 4 rfl) ?_
    refine lv_iconst (v := 5) hx hb dc_L_law_380 (by decide) ?_
    refine lv_iadd hx hb dc_L_law_381 ?_
    refine va_sld hx hb hX hbl hbA hS (hi 5 (by decide) (by decide)) dc_L_law_382 ?_
    refine lv_i2l hx hb dc_L_law_383 rfl ?_
    refine lv_bipush (v := 32) hx hb dc_L_law_384 (by decide) ?_
    refine lv_lshl hx hb dc_L_law_386 rfl ?_
    refine lv_aload_n hx hb dc_L_law_387 rfl (lv_at hl 0 rfl) ?_
    refine lv_iload hx hb dc_L_law_388 (lv_at hl 4 rfl) ?_
    refine lv_bipush (v := 6) hx hb dc_L_law_390 (by decide) ?_
    refine lv_iadd hx hb dc_L_law_392 ?_
    refine va_sld hx hb hX hbl hbA hS (hi 6 (by decide) (by decide)) dc_L_law_393 ?_
    refine lv_i2l hx hb dc_L_law_394 rfl ?_
    refine lv_ldc2 (v := 4294967295) hx hb hown (hT _ mw_315) dc_L_law_395 ?_
    refine lv_land hx hb dc_L_law_398 ?_
    refine lv_lor hx hb dc_L_law_399 ?_
    refine lv_aload_n hx hb dc_L_law_400 rfl (lv_at hl 3 rfl) ?_
    by_cases hg : ¬ (xs (x4 + 2).toNatClampNeg) < 0 ∧ (xs (x4 + 2).toNatClampNeg) ≤ 63
    · refine ck_goi (rest := []) C kl_O hP hD hS (ck_runSW C kl_O (hK.sub [2] rfl) (c_L_trap l D h0 b1 b2 ot cO u o (1) ((xs (x4 + 2).toNatClampNeg)) ((((xs (x4 + 3).toNatClampNeg).toInt64 <<< ((32 : Int32).toInt64 &&& 63)) ||| ((xs (x4 + 4).toNatClampNeg).toInt64 &&& 4294967295))) ((((xs (x4 + 5).toNatClampNeg).toInt64 <<< ((32 : Int32).toInt64 &&& 63)) ||| ((xs (x4 + 6).toNatClampNeg).toInt64 &&& 4294967295))) hg.1 hg.2 _) (cl_L_trap hT) hP hD hS rfl hl.1 rfl (Nat.le_of_ble_eq_true rfl) dc_L_law_401 ⟨by omega, by omega⟩) (fun v15 z15 H locs e15 ez15 hP hD hS => ?_)
      refine lv_istore (lv' := [(5, .int v15), (0, .ref b), (1, .ref h0), (2, .ref m0), (3, .ref ot), (4, .int x4)]) hx hb dc_L_law_404 hl (by decide) rfl (fun ls hl => ?_)
      refine lv_aload_n hx hb dc_L_law_406 rfl (lv_at hl 3 rfl) ?_
      refine lv_aload_n hx hb dc_L_law_407 rfl (lv_at hl 1 rfl) ?_
      refine lv_iload hx hb dc_L_law_408 (lv_at hl 5 rfl) ?_
      refine lv_iconst (v := 1) hx hb dc_L_law_410 (by decide) ?_
      refine lv_iadd hx hb dc_L_law_411 ?_
      refine va_sld hx hb hX hbl hbA hS (hi 1 (by decide) (by decide)) dc_L_law_412 ?_
      refine lv_if_eq (tgt := 420) hx hb dc_L_law_413 (by decide) (fun c16 => absurd c16 c1) (fun c16 => ?_)
      refine lv_iconst (v := 1) hx hb dc_L_law_416 (by decide) ?_
      refine lv_goto (tgt := 421) hx hb dc_L_law_417 (by decide) ?_
      refine lv_aload_n hx hb dc_L_law_421 rfl (lv_at hl 1 rfl) ?_
      refine lv_iload hx hb dc_L_law_422 (lv_at hl 5 rfl) ?_
      refine lv_iconst (v := 2) hx hb dc_L_law_424 (by decide) ?_
      refine lv_iadd hx hb dc_L_law_425 ?_
      refine va_sld hx hb hX hbl hbA hS (hi 2 (by decide) (by decide)) dc_L_law_426 ?_
      refine lv_aload_n hx hb dc_L_law_427 rfl (lv_at hl 1 rfl) ?_
      refine lv_iload hx hb dc_L_law_428 (lv_at hl 5 rfl) ?_
      refine lv_iconst (v := 3) hx hb dc_L_law_430 (by decide) ?_
      refine lv_iadd hx hb dc_L_law_431 ?_
      refine va_sld hx hb hX hbl hbA hS (hi 3 (by decide) (by decide)) dc_L_law_432 ?_
      refine lv_i2l hx hb dc_L_law_433 rfl ?_
      refine lv_bipush (v := 32) hx hb dc_L_law_434 (by decide) ?_
      refine lv_lshl hx hb dc_L_law_436 rfl ?_
      refine lv_aload_n hx hb dc_L_law_437 rfl (lv_at hl 1 rfl) ?_
      refine lv_iload hx hb dc_L_law_438 (lv_at hl 5 rfl) ?_
      refine lv_iconst (v := 4) hx hb dc_L_law_440 (by decide) ?_
      refine lv_iadd hx hb dc_L_law_441 ?_
      refine va_sld hx hb hX hbl hbA hS (hi 4 (by decide) (by decide)) dc_L_law_442 ?_
      refine lv_i2l hx hb dc_L_law_443 rfl ?_
      refine lv_ldc2 (v := 4294967295) hx hb hown (hT _ mw_315) dc_L_law_444 ?_
      refine lv_land hx hb dc_L_law_447 ?_
      refine lv_lor hx hb dc_L_law_448 ?_
      refine lv_aload_n hx hb dc_L_law_449 rfl (lv_at hl 1 rfl) ?_
      refine lv_iload hx hb dc_L_law_450 (lv_at hl 5 rfl) ?_
      refine lv_iconst (v := 5) hx hb dc_L_law_452 (by decide) ?_
      refine lv_iadd hx hb dc_L_law_453 ?_
      refine va_sld hx hb hX hbl hbA hS (hi 5 (by decide) (by decide)) dc_L_law_454 ?_
      refine lv_i2l hx hb dc_L_law_455 rfl ?_
      refine lv_bipush (v := 32) hx hb dc_L_law_456 (by decide) ?_
      refine lv_lshl hx hb dc_L_law_458 rfl ?_
      refine lv_aload_n hx hb dc_L_law_459 rfl (lv_at hl 1 rfl) ?_
      refine lv_iload hx hb dc_L_law_460 (lv_at hl 5 rfl) ?_
      refine lv_bipush (v := 6) hx hb dc_L_law_462 (by decide) ?_
      refine lv_iadd hx hb dc_L_law_464 ?_
      refine va_sld hx hb hX hbl hbA hS (hi 6 (by decide) (by decide)) dc_L_law_465 ?_
      refine lv_i2l hx hb dc_L_law_466 rfl ?_
      refine lv_ldc2 (v := 4294967295) hx hb hown (hT _ mw_315) dc_L_law_467 ?_
      refine lv_land hx hb dc_L_law_470 ?_
      refine lv_lor hx hb dc_L_law_471 ?_
      refine ck_gol (rest := []) C kl_M hP hD hS (ck_runV (q0 := 0) C kl_M (hK.sub [0, 1] rfl) (c_M_trap l D m0 hd ln cH cZ w (1) ((xs (x4 + 2).toNatClampNeg)) ((((xs (x4 + 3).toNatClampNeg).toInt64 <<< ((32 : Int32).toInt64 &&& 63)) ||| ((xs (x4 + 4).toNatClampNeg).toInt64 &&& 4294967295))) ((((xs (x4 + 5).toNatClampNeg).toInt64 <<< ((32 : Int32).toInt64 &&& 63)) ||| ((xs (x4 + 6).toNatClampNeg).toInt64 &&& 4294967295))) _) (cl_M_trap hT ⟨Nat.le_of_ble_eq_true rfl, Nat.le_of_ble_eq_true rfl⟩) rfl rfl hP hD hS rfl hl.1 rfl (Nat.le_of_ble_eq_true rfl) dc_L_law_472 ⟨by omega, by omega⟩) (fun v17 z17 H locs e17 ez17 hP hD hS => ?_)
      refine lv_lstore (lv' := [(6, .long v17), (5, .int v15), (0, .ref b), (1, .ref h0), (2, .ref m0), (3, .ref ot), (4, .int x4)]) hx hb dc_L_law_475 hl (by decide) rfl (fun ls hl => ?_)
      refine lv_aload_n hx hb dc_L_law_477 rfl (lv_at hl 4 rfl) ?_
      refine ck_gpi (rest := []) C kl_M hP hD hS (ck_runV (q0 := 0) C kl_M (hK.sub [0, 1] rfl) (c_M_thrown l D m0 hd ln cH cZ z17  _) (cl_M_thrown hT ⟨Nat.le_of_ble_eq_true rfl, Nat.le_of_ble_eq_true rfl⟩) rfl rfl hP hD hS rfl hl.1 rfl (Nat.le_of_ble_eq_true rfl) dc_L_law_478 ⟨by omega, by omega⟩) (fun v18 H locs e18 hP hD hS => ?_)
      refine lv_iload hx hb dc_L_law_481 (lv_at hl 1 rfl) ?_
      refine lv_icmp_eq (tgt := 488) hx hb dc_L_law_483 (by decide) (fun c19 => ?_) (fun c19 => absurd (by rw [e18, ez17, e15]; exact (pl_trap (1) ((xs (x4 + 2).toNatClampNeg)) ((((xs (x4 + 3).toNatClampNeg).toInt64 <<< ((32 : Int32).toInt64 &&& 63)) ||| ((xs (x4 + 4).toNatClampNeg).toInt64 &&& 4294967295))) ((((xs (x4 + 5).toNatClampNeg).toInt64 <<< ((32 : Int32).toInt64 &&& 63)) ||| ((xs (x4 + 6).toNatClampNeg).toInt64 &&& 4294967295))) hg.1 hg.2 hR).1) c19)
      refine lv_iload hx hb dc_L_law_488 (lv_at hl 1 rfl) ?_
      refine lv_if_ne (tgt := 504) hx hb dc_L_law_490 (by decide) (fun c20 => absurd e15 c20) (fun c20 => ?_)
      refine lv_aload_n hx hb dc_L_law_493 rfl (lv_at hl 5 rfl) ?_
      refine lv_iconst (v := 0) hx hb dc_L_law_494 (by decide) ?_
      refine va_lald (f := z15.2) hx hb hK hP 6 2 rfl rfl (by unfold vp_in; decide) dc_L_law_495 ?_
      refine lv_topl (fun v21 e21 => ?_)
      refine lv_lload hx hb dc_L_law_496 (lv_at hl 0 rfl) ?_
      refine W.lcmp hx hb dc_L_law_498 ?_
      refine lv_if_eq (tgt := 504) hx hb dc_L_law_499 (by decide) (fun c22 => ?_) (fun c22 => absurd (by rw [lg_cmp_eq, e21, ez15, e17]; show vp_updL o (0 : Int32).toNatClampNeg _ (0 : Int32).toNatClampNeg = _; rw [pk_uLs]; exact (pl_trap (1) ((xs (x4 + 2).toNatClampNeg)) ((((xs (x4 + 3).toNatClampNeg).toInt64 <<< ((32 : Int32).toInt64 &&& 63)) ||| ((xs (x4 + 4).toNatClampNeg).toInt64 &&& 4294967295))) ((((xs (x4 + 5).toNatClampNeg).toInt64 <<< ((32 : Int32).toInt64 &&& 63)) ||| ((xs (x4 + 6).toNatClampNeg).toInt64 &&& 4294967295))) hg.1 hg.2 hR).2.1) c22)
      refine lv_goto (tgt := 893) hx hb dc_L_law_504 (by decide) ?_
      refine W.widen (k := cells + 1) (n := slots + 6) (by omega) (by omega) ?_
      exact next z15.1 z17 z15.2 _ _ _ (by rw [ez15, ez17]; exact (pl_trap (1) ((xs (x4 + 2).toNatClampNeg)) ((((xs (x4 + 3).toNatClampNeg).toInt64 <<< ((32 : Int32).toInt64 &&& 63)) ||| ((xs (x4 + 4).toNatClampNeg).toInt64 &&& 4294967295))) ((((xs (x4 + 5).toNatClampNeg).toInt64 <<< ((32 : Int32).toInt64 &&& 63)) ||| ((xs (x4 + 6).toNatClampNeg).toInt64 &&& 4294967295))) hg.1 hg.2 hR).2.2) hP hD hS (lv_sub hl [2, 3, 4, 5, 6] rfl)
    · replace hg := pb_trap hg
      refine ck_goi (rest := []) C kl_O hP hD hS (ck_runSW C kl_O (hK.sub [2] rfl) (cy_L_trap l hl9 D h0 b1 b2 ot cO u o (1) ((xs (x4 + 2).toNatClampNeg)) ((((xs (x4 + 3).toNatClampNeg).toInt64 <<< ((32 : Int32).toInt64 &&& 63)) ||| ((xs (x4 + 4).toNatClampNeg).toInt64 &&& 4294967295))) ((((xs (x4 + 5).toNatClampNeg).toInt64 <<< ((32 : Int32).toInt64 &&& 63)) ||| ((xs (x4 + 6).toNatClampNeg).toInt64 &&& 4294967295))) hg _) (cq_L_trap hT) hP hD hS rfl hl.1 rfl (Nat.le_of_ble_eq_true rfl) dc_L_law_401 ⟨by omega, by omega⟩) (fun v15 z15 H locs e15 ez15 hP hD hS => ?_)
      refine lv_istore (lv' := [(5, .int v15), (0, .ref b), (1, .ref h0), (2, .ref m0), (3, .ref ot), (4, .int x4)]) hx hb dc_L_law_404 hl (by decide) rfl (fun ls hl => ?_)
      refine lv_aload_n hx hb dc_L_law_406 rfl (lv_at hl 3 rfl) ?_
      refine lv_aload_n hx hb dc_L_law_407 rfl (lv_at hl 1 rfl) ?_
      refine lv_iload hx hb dc_L_law_408 (lv_at hl 5 rfl) ?_
      refine lv_iconst (v := 1) hx hb dc_L_law_410 (by decide) ?_
      refine lv_iadd hx hb dc_L_law_411 ?_
      refine va_sld hx hb hX hbl hbA hS (hi 1 (by decide) (by decide)) dc_L_law_412 ?_
      refine lv_if_eq (tgt := 420) hx hb dc_L_law_413 (by decide) (fun c23 => absurd c23 c1) (fun c23 => ?_)
      refine lv_iconst (v := 1) hx hb dc_L_law_416 (by decide) ?_
      refine lv_goto (tgt := 421) hx hb dc_L_law_417 (by decide) ?_
      refine lv_aload_n hx hb dc_L_law_421 rfl (lv_at hl 1 rfl) ?_
      refine lv_iload hx hb dc_L_law_422 (lv_at hl 5 rfl) ?_
      refine lv_iconst (v := 2) hx hb dc_L_law_424 (by decide) ?_
      refine lv_iadd hx hb dc_L_law_425 ?_
      refine va_sld hx hb hX hbl hbA hS (hi 2 (by decide) (by decide)) dc_L_law_426 ?_
      refine lv_aload_n hx hb dc_L_law_427 rfl (lv_at hl 1 rfl) ?_
      refine lv_iload hx hb dc_L_law_428 (lv_at hl 5 rfl) ?_
      refine lv_iconst (v := 3) hx hb dc_L_law_430 (by decide) ?_
      refine lv_iadd hx hb dc_L_law_431 ?_
      refine va_sld hx hb hX hbl hbA hS (hi 3 (by decide) (by decide)) dc_L_law_432 ?_
      refine lv_i2l hx hb dc_L_law_433 rfl ?_
      refine lv_bipush (v := 32) hx hb dc_L_law_434 (by decide) ?_
      refine lv_lshl hx hb dc_L_law_436 rfl ?_
      refine lv_aload_n hx hb dc_L_law_437 rfl (lv_at hl 1 rfl) ?_
      refine lv_iload hx hb dc_L_law_438 (lv_at hl 5 rfl) ?_
      refine lv_iconst (v := 4) hx hb dc_L_law_440 (by decide) ?_
      refine lv_iadd hx hb dc_L_law_441 ?_
      refine va_sld hx hb hX hbl hbA hS (hi 4 (by decide) (by decide)) dc_L_law_442 ?_
      refine lv_i2l hx hb dc_L_law_443 rfl ?_
      refine lv_ldc2 (v := 4294967295) hx hb hown (hT _ mw_315) dc_L_law_444 ?_
      refine lv_land hx hb dc_L_law_447 ?_
      refine lv_lor hx hb dc_L_law_448 ?_
      refine lv_aload_n hx hb dc_L_law_449 rfl (lv_at hl 1 rfl) ?_
      refine lv_iload hx hb dc_L_law_450 (lv_at hl 5 rfl) ?_
      refine lv_iconst (v := 5) hx hb dc_L_law_452 (by decide) ?_
      refine lv_iadd hx hb dc_L_law_453 ?_
      refine va_sld hx hb hX hbl hbA hS (hi 5 (by decide) (by decide)) dc_L_law_454 ?_
      refine lv_i2l hx hb dc_L_law_455 rfl ?_
      refine lv_bipush (v := 32) hx hb dc_L_law_456 (by decide) ?_
      refine lv_lshl hx hb dc_L_law_458 rfl ?_
      refine lv_aload_n hx hb dc_L_law_459 rfl (lv_at hl 1 rfl) ?_
      refine lv_iload hx hb dc_L_law_460 (lv_at hl 5 rfl) ?_
      refine lv_bipush (v := 6) hx hb dc_L_law_462 (by decide) ?_
      refine lv_iadd hx hb dc_L_law_464 ?_
      refine va_sld hx hb hX hbl hbA hS (hi 6 (by decide) (by decide)) dc_L_law_465 ?_
      refine lv_i2l hx hb dc_L_law_466 rfl ?_
      refine lv_ldc2 (v := 4294967295) hx hb hown (hT _ mw_315) dc_L_law_467 ?_
      refine lv_land hx hb dc_L_law_470 ?_
      refine lv_lor hx hb dc_L_law_471 ?_
      refine ck_gol (rest := []) C kl_M hP hD hS (ck_runV (q0 := 0) C kl_M (hK.sub [0, 1] rfl) (c_M_trap l D m0 hd ln cH cZ w (1) ((xs (x4 + 2).toNatClampNeg)) ((((xs (x4 + 3).toNatClampNeg).toInt64 <<< ((32 : Int32).toInt64 &&& 63)) ||| ((xs (x4 + 4).toNatClampNeg).toInt64 &&& 4294967295))) ((((xs (x4 + 5).toNatClampNeg).toInt64 <<< ((32 : Int32).toInt64 &&& 63)) ||| ((xs (x4 + 6).toNatClampNeg).toInt64 &&& 4294967295))) _) (cl_M_trap hT ⟨Nat.le_of_ble_eq_true rfl, Nat.le_of_ble_eq_true rfl⟩) rfl rfl hP hD hS rfl hl.1 rfl (Nat.le_of_ble_eq_true rfl) dc_L_law_472 ⟨by omega, by omega⟩) (fun v24 z24 H locs e24 ez24 hP hD hS => ?_)
      refine lv_lstore (lv' := [(6, .long v24), (5, .int v15), (0, .ref b), (1, .ref h0), (2, .ref m0), (3, .ref ot), (4, .int x4)]) hx hb dc_L_law_475 hl (by decide) rfl (fun ls hl => ?_)
      refine lv_aload_n hx hb dc_L_law_477 rfl (lv_at hl 4 rfl) ?_
      refine ck_gpi (rest := []) C kl_M hP hD hS (ck_runV (q0 := 0) C kl_M (hK.sub [0, 1] rfl) (c_M_thrown l D m0 hd ln cH cZ z24  _) (cl_M_thrown hT ⟨Nat.le_of_ble_eq_true rfl, Nat.le_of_ble_eq_true rfl⟩) rfl rfl hP hD hS rfl hl.1 rfl (Nat.le_of_ble_eq_true rfl) dc_L_law_478 ⟨by omega, by omega⟩) (fun v25 H locs e25 hP hD hS => ?_)
      refine lv_iload hx hb dc_L_law_481 (lv_at hl 1 rfl) ?_
      refine lv_icmp_eq (tgt := 488) hx hb dc_L_law_483 (by decide) (fun c26 => ?_) (fun c26 => absurd (by rw [e25, ez24, e15]; exact (px_trap (1) ((xs (x4 + 2).toNatClampNeg)) ((((xs (x4 + 3).toNatClampNeg).toInt64 <<< ((32 : Int32).toInt64 &&& 63)) ||| ((xs (x4 + 4).toNatClampNeg).toInt64 &&& 4294967295))) ((((xs (x4 + 5).toNatClampNeg).toInt64 <<< ((32 : Int32).toInt64 &&& 63)) ||| ((xs (x4 + 6).toNatClampNeg).toInt64 &&& 4294967295))) hg hR).1) c26)
      refine lv_iload hx hb dc_L_law_488 (lv_at hl 1 rfl) ?_
      refine lv_if_ne (tgt := 504) hx hb dc_L_law_490 (by decide) (fun c27 => ?_) (fun c27 => absurd (e15.symm.trans c27) (by decide))
      refine lv_goto (tgt := 893) hx hb dc_L_law_504 (by decide) ?_
      refine W.widen (k := cells + 1) (n := slots + 6) (by omega) (by omega) ?_
      exact next z15.1 z24 z15.2 _ _ _ (by rw [ez15, ez24]; exact (px_trap (1) ((xs (x4 + 2).toNatClampNeg)) ((((xs (x4 + 3).toNatClampNeg).toInt64 <<< ((32 : Int32).toInt64 &&& 63)) ||| ((xs (x4 + 4).toNatClampNeg).toInt64 &&& 4294967295))) ((((xs (x4 + 5).toNatClampNeg).toInt64 <<< ((32 : Int32).toInt64 &&& 63)) ||| ((xs (x4 + 6).toNatClampNeg).toInt64 &&& 4294967295))) hg hR).2) hP hD hS (lv_sub hl [2, 3, 4, 5, 6] rfl)
set_option maxHeartbeats 4000000 in
set_option maxRecDepth 100000 in
theorem lk_6 {p : Program} {l : Launch} {e : Env} {s : State} {m : MethodId} {below : List Frame} {meth : Method} {c : Code} {H : Heap} {locs : List Loc} {cells slots : Nat} {Q : State → Prop} {ls : Array Slot} {D : va_G} {b L : Nat} {xs : Nat → Int32} {h0 b1 b2 m0 hd ln ot : Nat} {cH cZ cO : ClassId} {u : cs_St} {w : ms_St} {o : Nat → Int64} {x4 : Int32} (hl9 : l.stackTraces = false) (C : ck_C p s m meth c code ret 8 #[.ref b] "ControlDeskLaw" (fun q : Nat => s.heap.size ≤ q) D [(cH, .long), (cZ, .boolean), (cO, .long)]) (hX : va_X b L xs s s.heap) (hbl : b < s.heap.size) (hi : ∀ j : Int32, 1 ≤ j → j ≤ 6 → vp_in (x4 + j) L) (hc1 : cells + 1 ≤ 1036) (hc2 : slots + 6 ≤ 12367) (hR : rr_R u w) (hP : va_P D xw_Cl (wl h0 b1 b2 m0 hd ln ot cH cZ cO (u, w, o)) H) (hD : va_D (fun q : Nat => s.heap.size ≤ q) (wl h0 b1 b2 m0 hd ln ot cH cZ cO (u, w, o))) (hS : va_S (fun q : Nat => s.heap.size ≤ q) s.heap H locs) (hl : lv_has ls 8 [(0, .ref b), (1, .ref h0), (2, .ref m0), (3, .ref ot), (4, .int x4)])
    (next : ∀ (u' : cs_St) (w' : ms_St) (o' : Nat → Int64) (H1 : Heap) (locs1 : List Loc) (ls1 : Array Slot), rr_R u' w' → va_P D xw_Cl (wl h0 b1 b2 m0 hd ln ot cH cZ cO (u', w', o')) H1 → va_D (fun q : Nat => s.heap.size ≤ q) (wl h0 b1 b2 m0 hd ln ot cH cZ cO (u', w', o')) → va_S (fun q : Nat => s.heap.size ≤ q) s.heap H1 locs1 → lv_has ls1 8 [(0, .ref b), (1, .ref h0), (2, .ref m0), (3, .ref ot), (4, .int x4)] → W p l e room_1 s m #[.ref b] below meth c H1 locs1 (cells + 1) (slots + 6) Q (F0 m 893 ls1 [])) :
    W p l e room_1 s m #[.ref b] below meth c H locs cells slots Q (F0 m 507 ls []) := by
  have hx := C.1
  have hb := C.2.1
  have hown := C.2.2.2.2.1
  have hT := C.2.2.2.2.2.1
  have hK := C.2.2.2.2.2.2.2.1
  have hbA : ¬ (fun q : Nat => s.heap.size ≤ q) b := Nat.not_le.mpr hbl
  have hc1 : cells + 1 ≤ room_1.cells := hc1
  have hc2 : slots + 6 ≤ room_1.slots := hc2
  refine lv_aload_n hx hb dc_L_law_507 rfl (lv_at hl 1 rfl) ?_
  refine lv_aload_n hx hb dc_L_law_508 rfl (lv_at hl 0 rfl) ?_
  refine lv_iload hx hb dc_L_law_509 (lv_at hl 4 rfl) ?_
  refine lv_iconst (v := 1) hx hb dc_L_law_511 (by decide) ?_
  refine lv_iadd hx hb dc_L_law_512 ?_
  refine va_sld hx hb hX hbl hbA hS (hi 1 (by decide) (by decide)) dc_L_law_513 ?_
  refine lv_if_eq (tgt := 521) hx hb dc_L_law_514 (by decide) (fun c1 => ?_) (fun c1 => ?_)
  · refine lv_iconst (v := 0) hx hb dc_L_law_521 (by decide) ?_
    refine ck_goi (rest := []) C kl_X hP hD hS (ck_runV (q0 := 0) C kl_X (hK.sub [] rfl) (c_X_back l D [] h0 b1 b2 u (0) _) (cl_X_back hT ⟨Nat.le_of_ble_eq_true rfl, Nat.le_of_ble_eq_true rfl⟩) rfl rfl hP hD hS rfl hl.1 rfl (Nat.le_of_ble_eq_true rfl) dc_L_law_522 ⟨by omega, by omega⟩) (fun v2 z2 H locs e2 ez2 hP hD hS => ?_)
    refine lv_aload_n hx hb dc_L_law_525 rfl (lv_at hl 2 rfl) ?_
    refine lv_aload_n hx hb dc_L_law_526 rfl (lv_at hl 0 rfl) ?_
    refine lv_iload hx hb dc_L_law_527 (lv_at hl 4 rfl) ?_
    refine lv_iconst (v := 1) hx hb dc_L_law_529 (by decide) ?_
    refine lv_iadd hx hb dc_L_law_530 ?_
    refine va_sld hx hb hX hbl hbA hS (hi 1 (by decide) (by decide)) dc_L_law_531 ?_
    refine lv_if_eq (tgt := 539) hx hb dc_L_law_532 (by decide) (fun c3 => ?_) (fun c3 => absurd c1 c3)
    refine lv_iconst (v := 0) hx hb dc_L_law_539 (by decide) ?_
    refine ck_goi (rest := [.int v2]) C kl_M hP hD hS (ck_runV (q0 := 0) C kl_M (hK.sub [0, 1] rfl) (c_M_back l D m0 hd ln cH cZ w (0) _) (cl_M_back hT ⟨Nat.le_of_ble_eq_true rfl, Nat.le_of_ble_eq_true rfl⟩) rfl rfl hP hD hS rfl hl.1 rfl (Nat.le_of_ble_eq_true rfl) dc_L_law_540 ⟨by omega, by omega⟩) (fun v4 z4 H locs e4 ez4 hP hD hS => ?_)
    refine lv_icmp_eq (tgt := 893) hx hb dc_L_law_543 (by decide) (fun c5 => ?_) (fun c5 => absurd (by rw [e2, e4]; exact (pl_back (0) hR).1) c5)
    refine W.widen (k := cells + 1) (n := slots + 6) (by omega) (by omega) ?_
    exact next z2 z4 o _ _ _ (by rw [ez2, ez4]; exact (pl_back (0) hR).2) hP hD hS (lv_sub hl [0, 1, 2, 3, 4] rfl)
  · refine lv_iconst (v := 1) hx hb dc_L_law_517 (by decide) ?_
    refine lv_goto (tgt := 522) hx hb dc_L_law_518 (by decide) ?_
    refine ck_goi (rest := []) C kl_X hP hD hS (ck_runV (q0 := 0) C kl_X (hK.sub [] rfl) (c_X_back l D [] h0 b1 b2 u (1) _) (cl_X_back hT ⟨Nat.le_of_ble_eq_true rfl, Nat.le_of_ble_eq_true rfl⟩) rfl rfl hP hD hS rfl hl.1 rfl (Nat.le_of_ble_eq_true rfl) dc_L_law_522 ⟨by omega, by omega⟩) (fun v6 z6 H locs e6 ez6 hP hD hS => ?_)
    refine lv_aload_n hx hb dc_L_law_525 rfl (lv_at hl 2 rfl) ?_
    refine lv_aload_n hx hb dc_L_law_526 rfl (lv_at hl 0 rfl) ?_
    refine lv_iload hx hb dc_L_law_527 (lv_at hl 4 rfl) ?_
    refine lv_iconst (v := 1) hx hb dc_L_law_529 (by decide) ?_
    refine lv_iadd hx hb dc_L_law_530 ?_
    refine va_sld hx hb hX hbl hbA hS (hi 1 (by decide) (by decide)) dc_L_law_531 ?_
    refine lv_if_eq (tgt := 539) hx hb dc_L_law_532 (by decide) (fun c7 => absurd c7 c1) (fun c7 => ?_)
    refine lv_iconst (v := 1) hx hb dc_L_law_535 (by decide) ?_
    refine lv_goto (tgt := 540) hx hb dc_L_law_536 (by decide) ?_
    refine ck_goi (rest := [.int v6]) C kl_M hP hD hS (ck_runV (q0 := 0) C kl_M (hK.sub [0, 1] rfl) (c_M_back l D m0 hd ln cH cZ w (1) _) (cl_M_back hT ⟨Nat.le_of_ble_eq_true rfl, Nat.le_of_ble_eq_true rfl⟩) rfl rfl hP hD hS rfl hl.1 rfl (Nat.le_of_ble_eq_true rfl) dc_L_law_540 ⟨by omega, by omega⟩) (fun v8 z8 H locs e8 ez8 hP hD hS => ?_)
    refine lv_icmp_eq (tgt := 893) hx hb dc_L_law_543 (by decide) (fun c9 => ?_) (fun c9 => absurd (by rw [e6, e8]; exact (pl_back (1) hR).1) c9)
    refine W.widen (k := cells + 1) (n := slots + 6) (by omega) (by omega) ?_
    exact next z6 z8 o _ _ _ (by rw [ez6, ez8]; exact (pl_back (1) hR).2) hP hD hS (lv_sub hl [0, 1, 2, 3, 4] rfl)
