-- PART: THE LAW'S LOOP AND ITS START
theorem ll_in {k L : Nat} {x4 : Int32} (hL : L ≤ 3585) (hk : k ≤ 512) (hx4 : x4 = nI (1 + 7 * k)) (hc : ¬ Int32.ofNat L - 7 < x4) : 1 + 7 * k + 7 ≤ L := by
  have e : (Int32.ofNat L - 7).toInt = (L : Int) - 7 := by
    show (nI L - nI 7).toInt = _
    exact pk_sub_toInt (by omega) (by omega)
  have e2 : x4.toInt = ((1 + 7 * k : Nat) : Int) := by rw [hx4]; exact nI_toInt (by omega)
  have h3 : ¬ (Int32.ofNat L - 7).toInt < x4.toInt := fun h => hc (Int32.lt_iff_toInt_lt.mpr h)
  rw [e, e2] at h3
  omega
theorem ll_hi {k L : Nat} {x4 : Int32} (hL : L ≤ 3585) (hx4 : x4 = nI (1 + 7 * k)) (h : 1 + 7 * k + 7 ≤ L) : ∀ j : Int32, 1 ≤ j → j ≤ 6 → vp_in (x4 + j) L := by
  intro j h1 h2
  have h0 : ¬ j < 0 := fun h3 => by
    have a1 := Int32.lt_iff_toInt_lt.mp h3
    have a2 := Int32.le_iff_toInt_le.mp h1
    have e0 : (0 : Int32).toInt = 0 := rfl
    have e1 : (1 : Int32).toInt = 1 := rfl
    omega
  obtain ⟨n, hn, rfl⟩ := nI_of2 (n := 6) (M := 6) (by decide) h0 h2
  rw [hx4, nI_add]
  exact vp_in_nI (by omega) (by omega)
set_option maxHeartbeats 4000000 in
set_option maxRecDepth 100000 in
theorem law_loop {p : Program} {l : Launch} {e : Env} {s : State} {m : MethodId} {below : List Frame} {meth : Method} {c : Code} {D : va_G} {b L : Nat} {xs : Nat → Int32} {h0 b1 b2 m0 hd ln ot : Nat} {cH cZ cO : ClassId} (hl9 : l.stackTraces = false) (hL : L ≤ 3585) (C : ck_C p s m meth c code ret 8 #[.ref b] "ControlDeskLaw" (fun q : Nat => s.heap.size ≤ q) D [(cH, .long), (cZ, .boolean), (cO, .long)]) (hX : va_X b L xs s s.heap) (hbl : b < s.heap.size) :
    ∀ (n k : Nat) (x4 : Int32) (u : cs_St) (w : ms_St) (o : Nat → Int64) (H : Heap) (locs : List Loc) (ls : Array Slot), k + n = 512 → x4 = nI (1 + 7 * k) → rr_R u w → va_P D xw_Cl (wl h0 b1 b2 m0 hd ln ot cH cZ cO (u, w, o)) H → va_D (fun q : Nat => s.heap.size ≤ q) (wl h0 b1 b2 m0 hd ln ot cH cZ cO (u, w, o)) → va_S (fun q : Nat => s.heap.size ≤ q) s.heap H locs → lv_has ls 8 [(0, .ref b), (1, .ref h0), (2, .ref m0), (3, .ref ot), (4, .int x4)] → W p l e room_1 s m #[.ref b] below meth c H locs (7 + k) (4145 + 6 * k) (lw_Z below #[.ref b] s) (F0 m 33 ls []) := by
  have hx := C.1
  have hb := C.2.1
  have hbA : ¬ (fun q : Nat => s.heap.size ≤ q) b := Nat.not_le.mpr hbl
  intro n
  induction n with
  | zero =>
    intro k x4 u w o H locs ls hkn hx4 hR hP hD hS hl
    refine lv_iload hx hb dc_L_law_33 (lv_at hl 4 rfl) ?_
    refine lv_aload_n hx hb dc_L_law_35 rfl (lv_at hl 0 rfl) ?_
    refine va_slen hx hb hX hbl hbA hS dc_L_law_36 ?_
    refine lv_bipush (v := 7) hx hb dc_L_law_37 (by decide) ?_
    refine lv_isub hx hb dc_L_law_39 ?_
    refine lv_icmp_gt (tgt := 899) hx hb dc_L_law_40 (by decide) (fun c1 => ?_) (fun c1 => ?_)
    · refine lv_iconst (v := 1) hx hb dc_L_law_899 (by decide) ?_
      refine va_forget (fun q hq => hS.2.2 q hq) ?_
      refine W.widen (k := 1036) (n := 12367) (by omega) (by omega) ?_
      exact lw_ret hx hb C.2.2.1 C.2.2.2.2.2.2.1 dc_L_law_900
    · have h9 := ll_in hL (by omega) hx4 c1
      exact absurd h9 (by omega)
  | succ n ih =>
    intro k x4 u w o H locs ls hkn hx4 hR hP hD hS hl
    refine lv_iload hx hb dc_L_law_33 (lv_at hl 4 rfl) ?_
    refine lv_aload_n hx hb dc_L_law_35 rfl (lv_at hl 0 rfl) ?_
    refine va_slen hx hb hX hbl hbA hS dc_L_law_36 ?_
    refine lv_bipush (v := 7) hx hb dc_L_law_37 (by decide) ?_
    refine lv_isub hx hb dc_L_law_39 ?_
    refine lv_icmp_gt (tgt := 899) hx hb dc_L_law_40 (by decide) (fun c1 => ?_) (fun c1 => ?_)
    · refine lv_iconst (v := 1) hx hb dc_L_law_899 (by decide) ?_
      refine va_forget (fun q hq => hS.2.2 q hq) ?_
      refine W.widen (k := 1036) (n := 12367) (by omega) (by omega) ?_
      exact lw_ret hx hb C.2.2.1 C.2.2.2.2.2.2.1 dc_L_law_900
    · have h9 := ll_in hL (by omega) hx4 c1
      have hi := ll_hi hL hx4 h9
      have hv0 : vp_in x4 L := by rw [hx4]; exact vp_in_nI (by omega) (by omega)
      have nx : ∀ (u' : cs_St) (w' : ms_St) (o' : Nat → Int64) (H1 : Heap) (locs1 : List Loc) (ls1 : Array Slot), rr_R u' w' → va_P D xw_Cl (wl h0 b1 b2 m0 hd ln ot cH cZ cO (u', w', o')) H1 → va_D (fun q : Nat => s.heap.size ≤ q) (wl h0 b1 b2 m0 hd ln ot cH cZ cO (u', w', o')) → va_S (fun q : Nat => s.heap.size ≤ q) s.heap H1 locs1 → lv_has ls1 8 [(0, .ref b), (1, .ref h0), (2, .ref m0), (3, .ref ot), (4, .int x4)] → W p l e room_1 s m #[.ref b] below meth c H1 locs1 (7 + k + 1) (4145 + 6 * k + 6) (lw_Z below #[.ref b] s) (F0 m 893 ls1 []) := by
        intro u' w' o' H1 locs1 ls1 hR hP hD hS hl
        obtain ⟨x5, ex5⟩ : ∃ z : Int32, z = x4 + 7 := ⟨_, rfl⟩
        refine lv_iinc (v := x5) (lv' := [(4, .int x5), (0, .ref b), (1, .ref h0), (2, .ref m0), (3, .ref ot)]) hx hb dc_L_law_893 hl (k := 4) rfl (by rw [ex5]; rfl) (by decide) rfl (fun ls hl => ?_)
        refine lv_goto (tgt := 33) hx hb dc_L_law_896 (by decide) ?_
        refine W.widen (k := 7 + (k + 1)) (n := 4145 + 6 * (k + 1)) (by omega) (by omega) ?_
        exact ih (k + 1) x5 u' w' o' H1 locs1 ls (by omega) (by rw [ex5, hx4]; show nI _ + nI 7 = _; rw [nI_add]; congr 1) hR hP hD hS (lv_sub hl [1, 2, 3, 4, 0] rfl)
      refine lv_aload_n hx hb dc_L_law_43 rfl (lv_at hl 0 rfl) ?_
      refine lv_iload hx hb dc_L_law_44 (lv_at hl 4 rfl) ?_
      refine va_sld hx hb hX hbl hbA hS hv0 dc_L_law_46 ?_
      refine lv_bipush (v := 15) hx hb dc_L_law_47 (by decide) ?_
      refine lv_iand hx hb dc_L_law_49 ?_
      refine lv_topi (fun v ev => ?_)
      obtain ⟨j, hj, ej⟩ := pk_andE (xs x4.toNatClampNeg) (m := 15) 4 (by decide)
      rw [ej] at ev
      rcases (show j = 0 ∨ j = 1 ∨ j = 2 ∨ j = 3 ∨ j = 4 ∨ j = 5 ∨ j = 6 ∨ j = 7 ∨ j = 8 ∨ j = 9 ∨ j = 10 ∨ j = 11 ∨ j = 12 ∨ j = 13 ∨ j = 14 ∨ j = 15 by omega) with rfl | rfl | rfl | rfl | rfl | rfl | rfl | rfl | rfl | rfl | rfl | rfl | rfl | rfl | rfl | rfl
      · subst ev
        refine lv_tableIn (tgt := 128) hx hb dc_L_law_50 (by decide) (by decide) (off := 78) (by decide +kernel) (by decide) ?_
        exact lk_0 hl9 C hX hbl hi (by omega) (by omega) hR hP hD hS hl nx
      · subst ev
        refine lv_tableIn (tgt := 141) hx hb dc_L_law_50 (by decide) (by decide) (off := 91) (by decide +kernel) (by decide) ?_
        exact lk_1 hl9 C hX hbl hi (by omega) (by omega) hR hP hD hS hl nx
      · subst ev
        refine lv_tableIn (tgt := 154) hx hb dc_L_law_50 (by decide) (by decide) (off := 104) (by decide +kernel) (by decide) ?_
        exact lk_2 hl9 C hX hbl hi (by omega) (by omega) hR hP hD hS hl nx
      · subst ev
        refine lv_tableIn (tgt := 294) hx hb dc_L_law_50 (by decide) (by decide) (off := 244) (by decide +kernel) (by decide) ?_
        exact lk_3 hl9 C hX hbl hi (by omega) (by omega) hR hP hD hS hl nx
      · subst ev
        refine lv_tableIn (tgt := 308) hx hb dc_L_law_50 (by decide) (by decide) (off := 258) (by decide +kernel) (by decide) ?_
        exact lk_4 hl9 C hX hbl hi (by omega) (by omega) hR hP hD hS hl nx
      · subst ev
        refine lv_tableIn (tgt := 334) hx hb dc_L_law_50 (by decide) (by decide) (off := 284) (by decide +kernel) (by decide) ?_
        exact lk_5 hl9 C hX hbl hi (by omega) (by omega) hR hP hD hS hl nx
      · subst ev
        refine lv_tableIn (tgt := 507) hx hb dc_L_law_50 (by decide) (by decide) (off := 457) (by decide +kernel) (by decide) ?_
        exact lk_6 hl9 C hX hbl hi (by omega) (by omega) hR hP hD hS hl nx
      · subst ev
        refine lv_tableIn (tgt := 548) hx hb dc_L_law_50 (by decide) (by decide) (off := 498) (by decide +kernel) (by decide) ?_
        exact lk_7 hl9 C hX hbl hi (by omega) (by omega) hR hP hD hS hl nx
      · subst ev
        refine lv_tableIn (tgt := 562) hx hb dc_L_law_50 (by decide) (by decide) (off := 512) (by decide +kernel) (by decide) ?_
        exact lk_8 hl9 C hX hbl hi (by omega) (by omega) hR hP hD hS hl nx
      · subst ev
        refine lv_tableIn (tgt := 575) hx hb dc_L_law_50 (by decide) (by decide) (off := 525) (by decide +kernel) (by decide) ?_
        exact lk_9 hl9 C hX hbl hi (by omega) (by omega) hR hP hD hS hl nx
      · subst ev
        refine lv_tableIn (tgt := 588) hx hb dc_L_law_50 (by decide) (by decide) (off := 538) (by decide +kernel) (by decide) ?_
        exact lk_10 hl9 C hX hbl hi (by omega) (by omega) hR hP hD hS hl nx
      · subst ev
        refine lv_tableIn (tgt := 652) hx hb dc_L_law_50 (by decide) (by decide) (off := 602) (by decide +kernel) (by decide) ?_
        exact lk_11 hl9 C hX hbl hi (by omega) (by omega) hR hP hD hS hl nx
      · subst ev
        refine lv_tableIn (tgt := 715) hx hb dc_L_law_50 (by decide) (by decide) (off := 665) (by decide +kernel) (by decide) ?_
        exact lk_12 hl9 C hX hbl hi (by omega) (by omega) hR hP hD hS hl nx
      · subst ev
        refine lv_tableIn (tgt := 728) hx hb dc_L_law_50 (by decide) (by decide) (off := 678) (by decide +kernel) (by decide) ?_
        exact lk_13 hl9 C hX hbl hi (by omega) (by omega) hR hP hD hS hl nx
      · subst ev
        refine lv_tableIn (tgt := 739) hx hb dc_L_law_50 (by decide) (by decide) (off := 689) (by decide +kernel) (by decide) ?_
        exact lk_14 hl9 C hX hbl hi (by omega) (by omega) hR hP hD hS hl nx
      · subst ev
        refine lv_tableIn (tgt := 838) hx hb dc_L_law_50 (by decide) (by decide) (off := 788) (by decide +kernel) (by decide) ?_
        exact lk_15 hl9 C hX hbl hi (by omega) (by omega) hR hP hD hS hl nx
theorem cl_cell_ {s : State} {args : Array Value} (hT : ∀ w ∈ xw_T, w.before args s = true) : CallB room_1 s args "ControlDeskLaw" 27 yn_L_cell bc_L_cell 2 (some .int) w_L_cell rm_L_cell 0 0 2 ∧ (Cond.static yn_L_cell).before args s = true :=
  ⟨callB_of 2 hT (xw_good mc_L_cell) rfl rfl rfl (hT _ mw_318) (hT _ mw_426) (by decide +kernel) ⟨Nat.le_of_ble_eq_true rfl, Nat.le_of_ble_eq_true rfl⟩, (hT _ mw_427)⟩
theorem cl_Xi {s : State} {args : Array Value} (hT : ∀ w ∈ xw_T, w.before args s = true) : CallB room_1 s args "ControlDeskLaw" 33 yn_X_init bc_X_init 2 none w_X_init rm_X_init 2 12 1 ∧ yn_X_init.name = "<init>" ∧ (Cond.instanceMethod yn_X_init).before args s = true :=
  ⟨callB_of 1 hT (xw_good mc_X_init) rfl rfl rfl (hT _ mw_156) (hT _ mw_429) (by decide +kernel) ⟨Nat.le_of_ble_eq_true rfl, Nat.le_of_ble_eq_true rfl⟩, rfl, (hT _ mw_430)⟩
theorem cl_Mi {s : State} {args : Array Value} (hT : ∀ w ∈ xw_T, w.before args s = true) : CallB room_1 s args "ControlDeskLaw" 38 yn_M_init bc_M_init 2 none w_M_init rm_M_init 2 4108 1 ∧ yn_M_init.name = "<init>" ∧ (Cond.instanceMethod yn_M_init).before args s = true :=
  ⟨callB_of 1 hT (xw_good mc_M_init) rfl rfl rfl (hT _ mw_88) (hT _ mw_432) (by decide +kernel) ⟨Nat.le_of_ble_eq_true rfl, Nat.le_of_ble_eq_true rfl⟩, rfl, (hT _ mw_433)⟩
set_option maxRecDepth 100000 in
set_option maxHeartbeats 4000000 in
/-- what the start says of statics and String constants -/
theorem ws_E {s : State} {b : Nat} (hts : ∀ w ∈ lw_tbl, w.before #[Value.ref b] s = true) (hgv : (Jvm.Cond.and given_1 narrow_1).before #[Value.ref b] s = true) : xe_E (fun q : Nat => s.heap.size ≤ q) s s.heap := by
  have hg := flat_of_before _ hgv
  have hA : ∀ a : Nat, a < s.heap.size → ¬ (fun q : Nat => s.heap.size ≤ q) a := fun a h => Nat.not_le.mpr h
  obtain ⟨t, ht, hT6⟩ := va_Tof (args := #[Value.ref b]) (s := s) (tm := .static "ControlDesk" "INTERRUPT_ORDER" "[I") (ty := .int) (N := 6) (f := fun j => .int (xe_ord j)) (A := (fun q : Nat => s.heap.size ≤ q)) (by decide) (hg _ (by decide +kernel)) (va_eqt (hg (.eq (.length (.static "ControlDesk" "INTERRUPT_ORDER" "[I")) (.int 6)) (by decide +kernel)))
    (fun j hj => by
      rcases (show j = 0 ∨ j = 1 ∨ j = 2 ∨ j = 3 ∨ j = 4 ∨ j = 5 by omega) with rfl | rfl | rfl | rfl | rfl | rfl
      · exact va_eqt (hg (.eq (.elem (.static "ControlDesk" "INTERRUPT_ORDER" "[I") (.int 0)) (.int 11)) (by decide +kernel))
      · exact va_eqt (hg (.eq (.elem (.static "ControlDesk" "INTERRUPT_ORDER" "[I") (.int 1)) (.int 3)) (by decide +kernel))
      · exact va_eqt (hg (.eq (.elem (.static "ControlDesk" "INTERRUPT_ORDER" "[I") (.int 2)) (.int 7)) (by decide +kernel))
      · exact va_eqt (hg (.eq (.elem (.static "ControlDesk" "INTERRUPT_ORDER" "[I") (.int 3)) (.int 9)) (by decide +kernel))
      · exact va_eqt (hg (.eq (.elem (.static "ControlDesk" "INTERRUPT_ORDER" "[I") (.int 4)) (.int 1)) (by decide +kernel))
      · exact va_eqt (hg (.eq (.elem (.static "ControlDesk" "INTERRUPT_ORDER" "[I") (.int 5)) (.int 5)) (by decide +kernel))) hA
  have hZ := va_Zref (hts (.laysStatic "ControlDesk" "INTERRUPT_ORDER" "[I") (by decide +kernel)) (hts (.initialized "ControlDesk") (by decide +kernel)) ht hA
  have hU := vx_Zqof (hts (.laysStatic Bundle.tN "UNASSIGNED_STACK" Bundle.steD) (by decide +kernel)) (hts (.initialized Bundle.tN) (by decide +kernel)) (hg (.isRef (.static Bundle.tN "UNASSIGNED_STACK" Bundle.steD)) (by decide +kernel)) hA
  have hV := vx_Zqof (hts (.laysStatic Bundle.tN "SUPPRESSED_SENTINEL" Bundle.listD) (by decide +kernel)) (hts (.initialized Bundle.tN) (by decide +kernel)) (hg (.isRef (.static Bundle.tN "SUPPRESSED_SENTINEL" Bundle.listD)) (by decide +kernel)) hA
  obtain ⟨a39, -, -, -, ha39, -⟩ := Cond.exactly_spec (hg (.exactly (.string "ControlDesk" 39) "java/lang/String") (by decide +kernel))
  have hs39 : vk_R "ControlDesk" 39 "no register has this number" a39 s := vk_R.of (hts (.stringRef "ControlDesk" 39 "no register has this number") (by decide +kernel)) ha39
  obtain ⟨a44, -, -, -, ha44, -⟩ := Cond.exactly_spec (hg (.exactly (.string "ControlDesk" 44) "java/lang/String") (by decide +kernel))
  have hs44 : vk_R "ControlDesk" 44 "no such operation" a44 s := vk_R.of (hts (.stringRef "ControlDesk" 44 "no such operation") (by decide +kernel)) ha44
  obtain ⟨a81, -, -, -, ha81, -⟩ := Cond.exactly_spec (hg (.exactly (.string "ControlDesk" 81) "java/lang/String") (by decide +kernel))
  have hs81 : vk_R "ControlDesk" 81 "a cause is 0 to 63" a81 s := vk_R.of (hts (.stringRef "ControlDesk" 81 "a cause is 0 to 63") (by decide +kernel)) ha81
  obtain ⟨a139, -, -, -, ha139, -⟩ := Cond.exactly_spec (hg (.exactly (.string "ControlDesk" 139) "java/lang/String") (by decide +kernel))
  have hs139 : vk_R "ControlDesk" 139 "this interrupt has no line" a139 s := vk_R.of (hts (.stringRef "ControlDesk" 139 "this interrupt has no line") (by decide +kernel)) ha139
  obtain ⟨a144, -, -, -, ha144, -⟩ := Cond.exactly_spec (hg (.exactly (.string "ControlDesk" 144) "java/lang/String") (by decide +kernel))
  have hs144 : vk_R "ControlDesk" 144 "neither WAIT nor FENCE" a144 s := vk_R.of (hts (.stringRef "ControlDesk" 144 "neither WAIT nor FENCE") (by decide +kernel)) ha144
  exact ⟨⟨t, hZ, hT6⟩, ⟨hU, hV⟩, fun w h => va_Nw.of (xe_N_ot w h) (hts w (xe_N_in w h)), ⟨_, hs39⟩, ⟨_, hs44⟩, ⟨_, hs81⟩, ⟨_, hs139⟩, _, hs144⟩
