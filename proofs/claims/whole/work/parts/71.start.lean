-- PART: THE LAW'S START
set_option maxHeartbeats 4000000 in
set_option maxRecDepth 100000 in
/-- THE LAW, from its entry -/
theorem whole_start {p : Program} {e : Env} {s : State} {m : MethodId} {below : List Frame} {meth : Method} {c : Code} (l : Launch) (hl9 : l.stackTraces = false) {b L : Nat} {xs : Nat → Int32} (hL : L ≤ 3585) (C0 : lw_At p s m meth c b L xs) : W p l e room_1 s m #[Value.ref b] below meth c s.heap [] 0 0 (lw_Z below #[Value.ref b] s) (entryFrame m ([Value.ref b] : List Value).toArray 8) := by
  obtain ⟨hx, hb, hr, hml, hown, hts, hX, hbl, hlocks, hgv⟩ := id C0
  have hT : ∀ w ∈ xw_T, w.before #[Value.ref b] s = true := fun w h => hts w (List.mem_filter.mp h).1
  have hA : ∀ q : Nat, s.heap.size ≤ q → (fun q : Nat => s.heap.size ≤ q) q := fun _ h => h
  have hbA : ¬ (fun q : Nat => s.heap.size ≤ q) b := Nat.not_le.mpr hbl
  have hE : xe_E (fun q : Nat => s.heap.size ≤ q) s s.heap := ws_E hts hgv
  obtain ⟨c0, iS0, hKn0⟩ := u_known (C := cn_B) (T := ft_B) (N := 6) (n := 6) hT in_B (hT _ mw_276)
  obtain ⟨c1, iS1, hKn1⟩ := u_known (C := cn_X) (T := ft_X) (N := 16) (n := 16) hT in_X (hT _ mw_434)
  obtain ⟨c2, iS2, hKn2⟩ := u_known (C := cn_M) (T := ft_M) (N := 8) (n := 8) hT in_M (hT _ mw_435)
  obtain ⟨dC, dI, hKc⟩ : ∃ (dC : Nat → ClassId) (dI : Nat → Nat → Nat), ∀ (k : Nat) (q : vw_C), xw_Cl[k]? = some q → u_Kn s q.1 q.2.1 q.2.2 (dC k) (dI k) := by
    refine ⟨fun k => if k = 0 then c0 else if k = 1 then c1 else c2, fun k => if k = 0 then iS0 else if k = 1 then iS1 else iS2, ?_⟩
    intro k q hq
    match k, hq with
    | 0, hq => cases hq; exact hKn0
    | 1, hq => cases hq; exact hKn1
    | 2, hq => cases hq; exact hKn2
    | k + 3, hq => simp [xw_Cl] at hq
  obtain ⟨D, hDe⟩ : ∃ z : va_G, z = (dC, dI) := ⟨_, rfl⟩
  have hK : va_K D xw_Cl [] s := by rw [hDe]; exact ⟨hKc, fun k q h => by simp at h⟩
  have hS : va_S (fun q : Nat => s.heap.size ≤ q) s.heap s.heap [] := va_S.rf
  have hP : va_P D xw_Cl [] s.heap := fun k q h => by simp at h
  have hD : va_D (fun q : Nat => s.heap.size ≤ q) [] := ⟨fun i j p q h => by simp at h, fun k q h => by simp at h⟩
  have C : ck_C p s m meth c code ret 8 #[.ref b] "ControlDeskLaw" (fun q : Nat => s.heap.size ≤ q) D [] := ⟨hx, hb, hr, hml, hown, hT, hlocks, hK, hA, hE⟩
  have cl_cell := cl_cell_ hT
  have hbl_blind : FrameBlind (va_Pc [.ref b, .int 0] (fun U => va_X b L xs U U.heap ∧ b < U.heap.size)) := fun a U g mk q => ⟨q.1, va_X.moved (u := U) (U := U.calling g mk a) (Vm.Alike.refl U.vm) q.2.1, q.2.2⟩
  have hl := lv_entry ([.ref b]) (n := 8) (Nat.le_of_ble_eq_true rfl)
  rw [lg_entry_eq]
  generalize (lg_sl ([.ref b]) ++ List.replicate (8 - (lg_sl ([.ref b])).length) Slot.unset).toArray = ls at hl ⊢
  have hl : lv_has ls 8 [(0, .ref b)] := hl
  refine va_new (ci := 1) (fs := [.null, .null, .long 0, .int 0, .long 0, .long 0, .long 0, .long 0, .long 0, .long 0, .long 0, .long 0, .long 0, .long 0, .long 0, .long 0]) (C := cn_X) (T := ft_X) (N := 16) hx hb hT in_X ty_X tk_X hown (hT _ mw_436) (hT _ mw_434) (hT _ mw_156) hK hP hD hS hA rfl (fun j hj => by rcases (show j = 0 ∨ j = 1 ∨ j = 2 ∨ j = 3 ∨ j = 4 ∨ j = 5 ∨ j = 6 ∨ j = 7 ∨ j = 8 ∨ j = 9 ∨ j = 10 ∨ j = 11 ∨ j = 12 ∨ j = 13 ∨ j = 14 ∨ j = 15 by omega) with rfl | rfl | rfl | rfl | rfl | rfl | rfl | rfl | rfl | rfl | rfl | rfl | rfl | rfl | rfl | rfl <;> rfl) (Nat.le_of_ble_eq_true rfl) (Nat.le_of_ble_eq_true rfl) dc_L_law_0 (fun h0 H hP hD hS => ?_)
  have hP : va_P D xw_Cl [(h0, .inr (1, [.null, .null, .long 0, .int 0, .long 0, .long 0, .long 0, .long 0, .long 0, .long 0, .long 0, .long 0, .long 0, .long 0, .long 0, .long 0]))] H := hP
  have hD : va_D (fun q : Nat => s.heap.size ≤ q) [(h0, .inr (1, [.null, .null, .long 0, .int 0, .long 0, .long 0, .long 0, .long 0, .long 0, .long 0, .long 0, .long 0, .long 0, .long 0, .long 0, .long 0]))] := hD
  refine W.widen (k := 1) (n := 16) (Nat.le_of_ble_eq_true rfl) (Nat.le_of_ble_eq_true rfl) ?_
  refine lv_dup hx hb dc_L_law_3 rfl ?_
  refine lv_aload_n hx hb dc_L_law_4 rfl (lv_at hl 0 rfl) ?_
  refine lv_iconst (v := 0) hx hb dc_L_law_5 (by decide) ?_
  refine va_calli (S := Unit) (A1 := fun _ => False) (rest := [.ref h0, .ref h0]) (va_runS (As := [.ref b, .int 0]) (rest := [.ref h0, .ref h0]) ⟨hx, hb, C0.2.2.2.1, hown, hT⟩ (c_L_cell l b L xs) cl_cell ⟨hbl_blind, fun U hU hW => ⟨rfl, by rw [hU]; exact (va_X.moved hW.alike (hX.kept (hS.2.1 b hbl hbA))), by rw [hU]; exact Nat.lt_of_lt_of_le hbl hS.1⟩⟩ rfl rfl hl.1 rfl (lv_room (Nat.le_of_ble_eq_true rfl)) dc_L_law_6 ⟨Nat.le_of_ble_eq_true rfl, Nat.le_of_ble_eq_true rfl⟩) hS (fun q _ h => absurd h id) (fun q h => absurd h id) (fun v_6 u_ t_6 H1 locs ht hvm hw hB hz1 hk1 hS => ?_)
  have hP := hP.kept (H1 := H1) (fun k q hq => hk1 q.1 (hP k q hq).lt id)
  have hw : v_6 = lc_0 L xs := hw
  subst hw
  clear hk1 hz1 ht
  generalize H1 = H at hP hS ⊢
  have kx : ck_cut (wx0 h0) (fun _ => [(h0, .inr (1, [.null, .null, .long 0, .int 0, .long 0, .long 0, .long 0, .long 0, .long 0, .long 0, .long 0, .long 0, .long 0, .long 0, .long 0, .long 0]))]) [] () [0] [] [0] := ⟨rfl, rfl, rfl, rfl, (by decide), (fun _ => rfl), rfl⟩
  have hF := va_free (wc := wx0 h0 ()) (ws := [(h0, .inr (1, [.null, .null, .long 0, .int 0, .long 0, .long 0, .long 0, .long 0, .long 0, .long 0, .long 0, .long 0, .long 0, .long 0, .long 0, .long 0]))]) hD hS hA [0] rfl
  refine va_callv (rest := [.ref h0]) (ck_runI C kx hK (c_X_init l D [] h0 (lc_0 L xs) _) (cl_Xi hT) hP hD hS rfl hl.1 rfl (Nat.le_of_ble_eq_true rfl) dc_L_law_9 ⟨Nat.le_of_ble_eq_true rfl, Nat.le_of_ble_eq_true rfl⟩) hS (fun q _ h => hF q h) hF (fun z t H1 locs ht hvm hw hB hz1 hk1 hS => ?_)
  obtain ⟨b1, b2⟩ := z
  obtain ⟨hP1, hD1⟩ := hB
  rw [ht] at hP1
  have hP1 : va_P D xw_Cl (wx h0 b1 b2 (cx_i (lc_0 L xs))) H1 := hP1
  have hD1 : va_D (fun q : Nat => s.heap.size ≤ q) (wx h0 b1 b2 (cx_i (lc_0 L xs))) := hD1.weaken (fun k q _ h => hF q.1 h)
  generalize H1 = H at hP1 hS ⊢
  refine W.widen (k := 3) (n := 28) (Nat.le_of_ble_eq_true rfl) (Nat.le_of_ble_eq_true rfl) ?_
  refine lv_astore_n (lv' := [(1, .ref h0), (0, .ref b)]) hx hb dc_L_law_12 rfl hl (by decide) rfl (fun ls hl => ?_)
  refine va_new (ci := 2) (fs := [.int 0, .int 0, .int 0, .null, .null, .long 0, .long 0, .long 0]) (C := cn_M) (T := ft_M) (N := 8) hx hb hT in_M ty_M tk_M hown (hT _ mw_437) (hT _ mw_435) (hT _ mw_88) hK hP1 hD1 hS hA rfl (fun j hj => by rcases (show j = 0 ∨ j = 1 ∨ j = 2 ∨ j = 3 ∨ j = 4 ∨ j = 5 ∨ j = 6 ∨ j = 7 by omega) with rfl | rfl | rfl | rfl | rfl | rfl | rfl | rfl <;> rfl) (Nat.le_of_ble_eq_true rfl) (Nat.le_of_ble_eq_true rfl) dc_L_law_13 (fun m0 H hP hD hS => ?_)
  refine W.widen (k := 4) (n := 36) (Nat.le_of_ble_eq_true rfl) (Nat.le_of_ble_eq_true rfl) ?_
  refine lv_dup hx hb dc_L_law_16 rfl ?_
  refine lv_aload_n hx hb dc_L_law_17 rfl (lv_at hl 1 rfl) ?_
  refine lv_iconst (v := 0) hx hb dc_L_law_18 (by decide) ?_
  refine va_calli (S := Unit) (A1 := fun _ => False) (rest := [.ref m0, .ref m0]) (va_runS (As := [.ref b, .int 0]) (rest := [.ref m0, .ref m0]) ⟨hx, hb, C0.2.2.2.1, hown, hT⟩ (c_L_cell l b L xs) cl_cell ⟨hbl_blind, fun U hU hW => ⟨rfl, by rw [hU]; exact (va_X.moved hW.alike (hX.kept (hS.2.1 b hbl hbA))), by rw [hU]; exact Nat.lt_of_lt_of_le hbl hS.1⟩⟩ rfl rfl hl.1 rfl (lv_room (Nat.le_of_ble_eq_true rfl)) dc_L_law_19 ⟨Nat.le_of_ble_eq_true rfl, Nat.le_of_ble_eq_true rfl⟩) hS (fun q _ h => absurd h id) (fun q h => absurd h id) (fun v_19 u_ t_19 H1 locs ht hvm hw hB hz1 hk1 hS => ?_)
  have hP := hP.kept (H1 := H1) (fun k q hq => hk1 q.1 (hP k q hq).lt id)
  have hw : v_19 = lc_0 L xs := hw
  subst hw
  clear hk1 hz1 ht
  generalize H1 = H at hP hS ⊢
  have km : ck_cut (wm0 m0) (fun _ => wx h0 b1 b2 (cx_i (lc_0 L xs)) ++ [(m0, .inr (2, [.int 0, .int 0, .int 0, .null, .null, .long 0, .long 0, .long 0]))]) (wx h0 b1 b2 (cx_i (lc_0 L xs))) () [3] [0, 1, 2] [0, 1, 2, 3] := ⟨rfl, rfl, rfl, rfl, (by decide), (fun _ => rfl), rfl⟩
  have hF := va_free (wc := wm0 m0 ()) (ws := wx h0 b1 b2 (cx_i (lc_0 L xs)) ++ [(m0, .inr (2, [.int 0, .int 0, .int 0, .null, .null, .long 0, .long 0, .long 0]))]) hD hS hA [3] rfl
  refine va_callv (rest := [.ref m0]) (ck_runI C km hK (c_M_init l D m0 (lc_0 L xs) _) (cl_Mi hT) hP hD hS rfl hl.1 rfl (Nat.le_of_ble_eq_true rfl) dc_L_law_22 ⟨Nat.le_of_ble_eq_true rfl, Nat.le_of_ble_eq_true rfl⟩) hS (fun q _ h => hF q h) hF (fun z t H1 locs ht hvm hw hB hz1 hk1 hS => ?_)
  obtain ⟨⟨hd, ln⟩, cH, cZ⟩ := z
  obtain ⟨hP1, hD1, hK1⟩ := hB
  rw [ht] at hP1
  have hK : va_K D xw_Cl [(cH, .long), (cZ, .boolean)] s := va_K.moved hvm.symm hK1
  obtain ⟨hP, hD⟩ := va_join (wr := wx h0 b1 b2 (cx_i (lc_0 L xs))) (w1 := wm m0 hd ln cH cZ (cm_i (lc_0 L xs))) hP hD [3] [0, 1, 2] rfl rfl (by decide) (by decide) hk1 hF hP1 hD1
  generalize H1 = H at hP hS ⊢
  refine W.widen (k := 6) (n := 4144) (Nat.le_of_ble_eq_true rfl) (Nat.le_of_ble_eq_true rfl) ?_
  refine lv_astore_n (lv' := [(2, .ref m0), (1, .ref h0), (0, .ref b)]) hx hb dc_L_law_25 rfl hl (by decide) rfl (fun ls hl => ?_)
  refine lv_iconst (v := 1) hx hb dc_L_law_26 (by decide) ?_
  refine va_newa (atype := .long) (ty := .long) (N' := 1) (a0 := (1, .inr (.inl (fun _ => 0)))) hx hb (hT _ mw_278) rfl hK hP hD hS hA (fun _ => rfl) (by decide) (by decide) (Nat.le_of_ble_eq_true rfl) (Nat.le_of_ble_eq_true rfl) (Nat.le_of_ble_eq_true rfl) dc_L_law_27 (fun ot cO H hK hP hD hS => ?_)
  have hK : va_K D xw_Cl [(cH, .long), (cZ, .boolean), (cO, .long)] s := hK
  have hP : va_P D xw_Cl (wl h0 b1 b2 m0 hd ln ot cH cZ cO (cx_i (lc_0 L xs), cm_i (lc_0 L xs), fun _ => 0)) H := hP
  have hD : va_D (fun q : Nat => s.heap.size ≤ q) (wl h0 b1 b2 m0 hd ln ot cH cZ cO (cx_i (lc_0 L xs), cm_i (lc_0 L xs), fun _ => 0)) := hD
  refine lv_astore_n (lv' := [(3, .ref ot), (2, .ref m0), (1, .ref h0), (0, .ref b)]) hx hb dc_L_law_29 rfl hl (by decide) rfl (fun ls hl => ?_)
  refine lv_iconst (v := 1) hx hb dc_L_law_30 (by decide) ?_
  refine lv_istore (lv' := [(4, .int 1), (3, .ref ot), (2, .ref m0), (1, .ref h0), (0, .ref b)]) hx hb dc_L_law_31 hl (by decide) rfl (fun ls hl => ?_)
  refine W.widen (k := 7 + 0) (n := 4145 + 6 * 0) (Nat.le_of_ble_eq_true rfl) (Nat.le_of_ble_eq_true rfl) ?_
  exact law_loop hl9 hL ⟨hx, hb, hr, hml, hown, hT, hlocks, hK, hA, hE⟩ hX hbl 512 0 1 _ _ _ _ _ ls rfl (by decide) (pl_init (lc_0 L xs)) hP hD hS (lv_sub hl [4, 3, 2, 1, 0] rfl)
