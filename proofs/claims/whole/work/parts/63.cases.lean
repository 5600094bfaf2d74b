set_option maxHeartbeats 4000000 in
set_option maxRecDepth 100000 in
theorem lk_7 {p : Program} {l : Launch} {e : Env} {s : State} {m : MethodId} {below : List Frame} {meth : Method} {c : Code} {H : Heap} {locs : List Loc} {cells slots : Nat} {Q : State → Prop} {ls : Array Slot} {D : va_G} {b L : Nat} {xs : Nat → Int32} {h0 b1 b2 m0 hd ln ot : Nat} {cH cZ cO : ClassId} {u : cs_St} {w : ms_St} {o : Nat → Int64} {x4 : Int32} (hl9 : l.stackTraces = false) (C : ck_C p s m meth c code ret 8 #[.ref b] "ControlDeskLaw" (fun q : Nat => s.heap.size ≤ q) D [(cH, .long), (cZ, .boolean), (cO, .long)]) (hX : va_X b L xs s s.heap) (hbl : b < s.heap.size) (hi : ∀ j : Int32, 1 ≤ j → j ≤ 6 → vp_in (x4 + j) L) (hc1 : cells + 1 ≤ 1036) (hc2 : slots + 6 ≤ 12367) (hR : rr_R u w) (hP : va_P D xw_Cl (wl h0 b1 b2 m0 hd ln ot cH cZ cO (u, w, o)) H) (hD : va_D (fun q : Nat => s.heap.size ≤ q) (wl h0 b1 b2 m0 hd ln ot cH cZ cO (u, w, o))) (hS : va_S (fun q : Nat => s.heap.size ≤ q) s.heap H locs) (hl : lv_has ls 8 [(0, .ref b), (1, .ref h0), (2, .ref m0), (3, .ref ot), (4, .int x4)])
    (next : ∀ (u' : cs_St) (w' : ms_St) (o' : Nat → Int64) (H1 : Heap) (locs1 : List Loc) (ls1 : Array Slot), rr_R u' w' → va_P D xw_Cl (wl h0 b1 b2 m0 hd ln ot cH cZ cO (u', w', o')) H1 → va_D (fun q : Nat => s.heap.size ≤ q) (wl h0 b1 b2 m0 hd ln ot cH cZ cO (u', w', o')) → va_S (fun q : Nat => s.heap.size ≤ q) s.heap H1 locs1 → lv_has ls1 8 [(0, .ref b), (1, .ref h0), (2, .ref m0), (3, .ref ot), (4, .int x4)] → W p l e room_1 s m #[.ref b] below meth c H1 locs1 (cells + 1) (slots + 6) Q (F0 m 893 ls1 [])) :
    W p l e room_1 s m #[.ref b] below meth c H locs cells slots Q (F0 m 548 ls []) := by
  have hx := C.1
  have hb := C.2.1
  have hown := C.2.2.2.2.1
  have hT := C.2.2.2.2.2.1
  have hK := C.2.2.2.2.2.2.2.1
  have hbA : ¬ (fun q : Nat => s.heap.size ≤ q) b := Nat.not_le.mpr hbl
  have hc1 : cells + 1 ≤ room_1.cells := hc1
  have hc2 : slots + 6 ≤ room_1.slots := hc2
  refine lv_aload_n hx hb dc_L_law_548 rfl (lv_at hl 1 rfl) ?_
  refine ck_gpl (rest := []) C kl_X hP hD hS (ck_runV (q0 := 0) C kl_X (hK.sub [] rfl) (c_X_place l D [] h0 b1 b2 u  _) (cl_X_place hT ⟨Nat.le_of_ble_eq_true rfl, Nat.le_of_ble_eq_true rfl⟩) rfl rfl hP hD hS rfl hl.1 rfl (Nat.le_of_ble_eq_true rfl) dc_L_law_549 ⟨by omega, by omega⟩) (fun v1 H locs e1 hP hD hS => ?_)
  refine lv_aload_n hx hb dc_L_law_552 rfl (lv_at hl 2 rfl) ?_
  refine ck_gol (rest := [.long v1]) C kl_M hP hD hS (ck_runV (q0 := 0) C kl_M (hK.sub [0, 1] rfl) (c_M_place l D m0 hd ln cH cZ w  _) (cl_M_place hT ⟨Nat.le_of_ble_eq_true rfl, Nat.le_of_ble_eq_true rfl⟩) rfl rfl hP hD hS rfl hl.1 rfl (Nat.le_of_ble_eq_true rfl) dc_L_law_553 ⟨by omega, by omega⟩) (fun v2 z2 H locs e2 ez2 hP hD hS => ?_)
  refine W.lcmp hx hb dc_L_law_556 ?_
  refine lv_if_eq (tgt := 893) hx hb dc_L_law_557 (by decide) (fun c3 => ?_) (fun c3 => absurd (by rw [lg_cmp_eq]; rw [e1, e2]; exact (pl_place hR).1) c3)
  refine W.widen (k := cells + 1) (n := slots + 6) (by omega) (by omega) ?_
  exact next u z2 o _ _ _ (by rw [ez2]; exact (pl_place hR).2) hP hD hS (lv_sub hl [0, 1, 2, 3, 4] rfl)
set_option maxHeartbeats 4000000 in
set_option maxRecDepth 100000 in
theorem lk_8 {p : Program} {l : Launch} {e : Env} {s : State} {m : MethodId} {below : List Frame} {meth : Method} {c : Code} {H : Heap} {locs : List Loc} {cells slots : Nat} {Q : State → Prop} {ls : Array Slot} {D : va_G} {b L : Nat} {xs : Nat → Int32} {h0 b1 b2 m0 hd ln ot : Nat} {cH cZ cO : ClassId} {u : cs_St} {w : ms_St} {o : Nat → Int64} {x4 : Int32} (hl9 : l.stackTraces = false) (C : ck_C p s m meth c code ret 8 #[.ref b] "ControlDeskLaw" (fun q : Nat => s.heap.size ≤ q) D [(cH, .long), (cZ, .boolean), (cO, .long)]) (hX : va_X b L xs s s.heap) (hbl : b < s.heap.size) (hi : ∀ j : Int32, 1 ≤ j → j ≤ 6 → vp_in (x4 + j) L) (hc1 : cells + 1 ≤ 1036) (hc2 : slots + 6 ≤ 12367) (hR : rr_R u w) (hP : va_P D xw_Cl (wl h0 b1 b2 m0 hd ln ot cH cZ cO (u, w, o)) H) (hD : va_D (fun q : Nat => s.heap.size ≤ q) (wl h0 b1 b2 m0 hd ln ot cH cZ cO (u, w, o))) (hS : va_S (fun q : Nat => s.heap.size ≤ q) s.heap H locs) (hl : lv_has ls 8 [(0, .ref b), (1, .ref h0), (2, .ref m0), (3, .ref ot), (4, .int x4)])
    (next : ∀ (u' : cs_St) (w' : ms_St) (o' : Nat → Int64) (H1 : Heap) (locs1 : List Loc) (ls1 : Array Slot), rr_R u' w' → va_P D xw_Cl (wl h0 b1 b2 m0 hd ln ot cH cZ cO (u', w', o')) H1 → va_D (fun q : Nat => s.heap.size ≤ q) (wl h0 b1 b2 m0 hd ln ot cH cZ cO (u', w', o')) → va_S (fun q : Nat => s.heap.size ≤ q) s.heap H1 locs1 → lv_has ls1 8 [(0, .ref b), (1, .ref h0), (2, .ref m0), (3, .ref ot), (4, .int x4)] → W p l e room_1 s m #[.ref b] below meth c H1 locs1 (cells + 1) (slots + 6) Q (F0 m 893 ls1 [])) :
    W p l e room_1 s m #[.ref b] below meth c H locs cells slots Q (F0 m 562 ls []) := by
  have hx := C.1
  have hb := C.2.1
  have hown := C.2.2.2.2.1
  have hT := C.2.2.2.2.2.1
  have hK := C.2.2.2.2.2.2.2.1
  have hbA : ¬ (fun q : Nat => s.heap.size ≤ q) b := Nat.not_le.mpr hbl
  have hc1 : cells + 1 ≤ room_1.cells := hc1
  have hc2 : slots + 6 ≤ room_1.slots := hc2
  refine lv_aload_n hx hb dc_L_law_562 rfl (lv_at hl 1 rfl) ?_
  refine ck_gpi (rest := []) C kl_X hP hD hS (ck_runV (q0 := 0) C kl_X (hK.sub [] rfl) (c_X_taken l D [] h0 b1 b2 u  _) (cl_X_taken hT ⟨Nat.le_of_ble_eq_true rfl, Nat.le_of_ble_eq_true rfl⟩) rfl rfl hP hD hS rfl hl.1 rfl (Nat.le_of_ble_eq_true rfl) dc_L_law_563 ⟨by omega, by omega⟩) (fun v1 H locs e1 hP hD hS => ?_)
  refine lv_aload_n hx hb dc_L_law_566 rfl (lv_at hl 2 rfl) ?_
  refine ck_goi (rest := [.int v1]) C kl_M hP hD hS (ck_runV (q0 := 0) C kl_M (hK.sub [0, 1] rfl) (c_M_taken l D m0 hd ln cH cZ w  _) (cl_M_taken hT ⟨Nat.le_of_ble_eq_true rfl, Nat.le_of_ble_eq_true rfl⟩) rfl rfl hP hD hS rfl hl.1 rfl (Nat.le_of_ble_eq_true rfl) dc_L_law_567 ⟨by omega, by omega⟩) (fun v2 z2 H locs e2 ez2 hP hD hS => ?_)
  refine lv_icmp_eq (tgt := 893) hx hb dc_L_law_570 (by decide) (fun c3 => ?_) (fun c3 => absurd (by rw [e1, e2]; exact (pl_taken hR).1) c3)
  refine W.widen (k := cells + 1) (n := slots + 6) (by omega) (by omega) ?_
  exact next u z2 o _ _ _ (by rw [ez2]; exact (pl_taken hR).2) hP hD hS (lv_sub hl [0, 1, 2, 3, 4] rfl)
set_option maxHeartbeats 4000000 in
set_option maxRecDepth 100000 in
theorem lk_9 {p : Program} {l : Launch} {e : Env} {s : State} {m : MethodId} {below : List Frame} {meth : Method} {c : Code} {H : Heap} {locs : List Loc} {cells slots : Nat} {Q : State → Prop} {ls : Array Slot} {D : va_G} {b L : Nat} {xs : Nat → Int32} {h0 b1 b2 m0 hd ln ot : Nat} {cH cZ cO : ClassId} {u : cs_St} {w : ms_St} {o : Nat → Int64} {x4 : Int32} (hl9 : l.stackTraces = false) (C : ck_C p s m meth c code ret 8 #[.ref b] "ControlDeskLaw" (fun q : Nat => s.heap.size ≤ q) D [(cH, .long), (cZ, .boolean), (cO, .long)]) (hX : va_X b L xs s s.heap) (hbl : b < s.heap.size) (hi : ∀ j : Int32, 1 ≤ j → j ≤ 6 → vp_in (x4 + j) L) (hc1 : cells + 1 ≤ 1036) (hc2 : slots + 6 ≤ 12367) (hR : rr_R u w) (hP : va_P D xw_Cl (wl h0 b1 b2 m0 hd ln ot cH cZ cO (u, w, o)) H) (hD : va_D (fun q : Nat => s.heap.size ≤ q) (wl h0 b1 b2 m0 hd ln ot cH cZ cO (u, w, o))) (hS : va_S (fun q : Nat => s.heap.size ≤ q) s.heap H locs) (hl : lv_has ls 8 [(0, .ref b), (1, .ref h0), (2, .ref m0), (3, .ref ot), (4, .int x4)])
    (next : ∀ (u' : cs_St) (w' : ms_St) (o' : Nat → Int64) (H1 : Heap) (locs1 : List Loc) (ls1 : Array Slot), rr_R u' w' → va_P D xw_Cl (wl h0 b1 b2 m0 hd ln ot cH cZ cO (u', w', o')) H1 → va_D (fun q : Nat => s.heap.size ≤ q) (wl h0 b1 b2 m0 hd ln ot cH cZ cO (u', w', o')) → va_S (fun q : Nat => s.heap.size ≤ q) s.heap H1 locs1 → lv_has ls1 8 [(0, .ref b), (1, .ref h0), (2, .ref m0), (3, .ref ot), (4, .int x4)] → W p l e room_1 s m #[.ref b] below meth c H1 locs1 (cells + 1) (slots + 6) Q (F0 m 893 ls1 [])) :
    W p l e room_1 s m #[.ref b] below meth c H locs cells slots Q (F0 m 575 ls []) := by
  have hx := C.1
  have hb := C.2.1
  have hown := C.2.2.2.2.1
  have hT := C.2.2.2.2.2.1
  have hK := C.2.2.2.2.2.2.2.1
  have hbA : ¬ (fun q : Nat => s.heap.size ≤ q) b := Nat.not_le.mpr hbl
  have hc1 : cells + 1 ≤ room_1.cells := hc1
  have hc2 : slots + 6 ≤ room_1.slots := hc2
  refine lv_aload_n hx hb dc_L_law_575 rfl (lv_at hl 1 rfl) ?_
  refine ck_gpi (rest := []) C kl_X hP hD hS (ck_runV (q0 := 0) C kl_X (hK.sub [] rfl) (c_X_wakes l D [] h0 b1 b2 u  _) (cl_X_wakes hT ⟨Nat.le_of_ble_eq_true rfl, Nat.le_of_ble_eq_true rfl⟩) rfl rfl hP hD hS rfl hl.1 rfl (Nat.le_of_ble_eq_true rfl) dc_L_law_576 ⟨by omega, by omega⟩) (fun v1 H locs e1 hP hD hS => ?_)
  refine lv_aload_n hx hb dc_L_law_579 rfl (lv_at hl 2 rfl) ?_
  refine ck_goi (rest := [.int v1]) C kl_M hP hD hS (ck_runV (q0 := 0) C kl_M (hK.sub [0, 1] rfl) (c_M_wakes l D m0 hd ln cH cZ w  _) (cl_M_wakes hT ⟨Nat.le_of_ble_eq_true rfl, Nat.le_of_ble_eq_true rfl⟩) rfl rfl hP hD hS rfl hl.1 rfl (Nat.le_of_ble_eq_true rfl) dc_L_law_580 ⟨by omega, by omega⟩) (fun v2 z2 H locs e2 ez2 hP hD hS => ?_)
  refine lv_icmp_eq (tgt := 893) hx hb dc_L_law_583 (by decide) (fun c3 => ?_) (fun c3 => absurd (by rw [e1, e2]; exact (pl_wakes hR).1) c3)
  refine W.widen (k := cells + 1) (n := slots + 6) (by omega) (by omega) ?_
  exact next u z2 o _ _ _ (by rw [ez2]; exact (pl_wakes hR).2) hP hD hS (lv_sub hl [0, 1, 2, 3, 4] rfl)
set_option maxHeartbeats 4000000 in
set_option maxRecDepth 100000 in
theorem lk_10 {p : Program} {l : Launch} {e : Env} {s : State} {m : MethodId} {below : List Frame} {meth : Method} {c : Code} {H : Heap} {locs : List Loc} {cells slots : Nat} {Q : State → Prop} {ls : Array Slot} {D : va_G} {b L : Nat} {xs : Nat → Int32} {h0 b1 b2 m0 hd ln ot : Nat} {cH cZ cO : ClassId} {u : cs_St} {w : ms_St} {o : Nat → Int64} {x4 : Int32} (hl9 : l.stackTraces = false) (C : ck_C p s m meth c code ret 8 #[.ref b] "ControlDeskLaw" (fun q : Nat => s.heap.size ≤ q) D [(cH, .long), (cZ, .boolean), (cO, .long)]) (hX : va_X b L xs s s.heap) (hbl : b < s.heap.size) (hi : ∀ j : Int32, 1 ≤ j → j ≤ 6 → vp_in (x4 + j) L) (hc1 : cells + 1 ≤ 1036) (hc2 : slots + 6 ≤ 12367) (hR : rr_R u w) (hP : va_P D xw_Cl (wl h0 b1 b2 m0 hd ln ot cH cZ cO (u, w, o)) H) (hD : va_D (fun q : Nat => s.heap.size ≤ q) (wl h0 b1 b2 m0 hd ln ot cH cZ cO (u, w, o))) (hS : va_S (fun q : Nat => s.heap.size ≤ q) s.heap H locs) (hl : lv_has ls 8 [(0, .ref b), (1, .ref h0), (2, .ref m0), (3, .ref ot), (4, .int x4)])
    (next : ∀ (u' : cs_St) (w' : ms_St) (o' : Nat → Int64) (H1 : Heap) (locs1 : List Loc) (ls1 : Array Slot), rr_R u' w' → va_P D xw_Cl (wl h0 b1 b2 m0 hd ln ot cH cZ cO (u', w', o')) H1 → va_D (fun q : Nat => s.heap.size ≤ q) (wl h0 b1 b2 m0 hd ln ot cH cZ cO (u', w', o')) → va_S (fun q : Nat => s.heap.size ≤ q) s.heap H1 locs1 → lv_has ls1 8 [(0, .ref b), (1, .ref h0), (2, .ref m0), (3, .ref ot), (4, .int x4)] → W p l e room_1 s m #[.ref b] below meth c H1 locs1 (cells + 1) (slots + 6) Q (F0 m 893 ls1 [])) :
    W p l e room_1 s m #[.ref b] below meth c H locs cells slots Q (F0 m 588 ls []) := by
  have hx := C.1
  have hb := C.2.1
  have hown := C.2.2.2.2.1
  have hT := C.2.2.2.2.2.1
  have hK := C.2.2.2.2.2.2.2.1
  have hbA : ¬ (fun q : Nat => s.heap.size ≤ q) b := Nat.not_le.mpr hbl
  have hc1 : cells + 1 ≤ room_1.cells := hc1
  have hc2 : slots + 6 ≤ room_1.slots := hc2
  refine lv_aload_n hx hb dc_L_law_588 rfl (lv_at hl 1 rfl) ?_
  refine lv_aload_n hx hb dc_L_law_589 rfl (lv_at hl 0 rfl) ?_
  refine lv_iload hx hb dc_L_law_590 (lv_at hl 4 rfl) ?_
  refine lv_iconst (v := 1) hx hb dc_L_law_592 (by decide) ?_
  refine lv_iadd hx hb dc_L_law_593 ?_
  refine va_sld hx hb hX hbl hbA hS (hi 1 (by decide) (by decide)) dc_L_law_594 ?_
  refine lv_aload_n hx hb dc_L_law_595 rfl (lv_at hl 0 rfl) ?_
  refine lv_iload hx hb dc_L_law_596 (lv_at hl 4 rfl) ?_
  refine lv_iconst (v := 2) hx hb dc_L_law_598 (by decide) ?_
  refine lv_iadd hx hb dc_L_law_599 ?_
  refine va_sld hx hb hX hbl hbA hS (hi 2 (by decide) (by decide)) dc_L_law_600 ?_
  refine lv_if_eq (tgt := 608) hx hb dc_L_law_601 (by decide) (fun c1 => ?_) (fun c1 => ?_)
  · refine lv_iconst (v := 0) hx hb dc_L_law_608 (by decide) ?_
    by_cases hg : (xs (x4 + 1).toNatClampNeg) = 3 ∨ (xs (x4 + 1).toNatClampNeg) = 7 ∨ (xs (x4 + 1).toNatClampNeg) = 9 ∨ (xs (x4 + 1).toNatClampNeg) = 11
    · refine ck_goi (rest := []) C kl_X hP hD hS (ck_runSW C kl_X (hK.sub [] rfl) (c_L_line l D h0 b1 b2 u ((xs (x4 + 1).toNatClampNeg)) (0) hg _) (cl_L_line hT) hP hD hS rfl hl.1 rfl (Nat.le_of_ble_eq_true rfl) dc_L_law_609 ⟨by omega, by omega⟩) (fun v2 z2 H locs e2 ez2 hP hD hS => ?_)
      refine lv_istore (lv' := [(5, .int v2), (0, .ref b), (1, .ref h0), (2, .ref m0), (3, .ref ot), (4, .int x4)]) hx hb dc_L_law_612 hl (by decide) rfl (fun ls hl => ?_)
      refine lv_aload_n hx hb dc_L_law_614 rfl (lv_at hl 3 rfl) ?_
      refine lv_aload_n hx hb dc_L_law_615 rfl (lv_at hl 1 rfl) ?_
      refine lv_iload hx hb dc_L_law_616 (lv_at hl 5 rfl) ?_
      refine lv_iconst (v := 1) hx hb dc_L_law_618 (by decide) ?_
      refine lv_iadd hx hb dc_L_law_619 ?_
      refine va_sld hx hb hX hbl hbA hS (hi 1 (by decide) (by decide)) dc_L_law_620 ?_
      refine lv_aload_n hx hb dc_L_law_621 rfl (lv_at hl 1 rfl) ?_
      refine lv_iload hx hb dc_L_law_622 (lv_at hl 5 rfl) ?_
      refine lv_iconst (v := 2) hx hb dc_L_law_624 (by decide) ?_
      refine lv_iadd hx hb dc_L_law_625 ?_
      refine va_sld hx hb hX hbl hbA hS (hi 2 (by decide) (by decide)) dc_L_law_626 ?_
      refine lv_if_eq (tgt := 634) hx hb dc_L_law_627 (by decide) (fun c3 => ?_) (fun c3 => absurd c1 c3)
      refine lv_iconst (v := 0) hx hb dc_L_law_634 (by decide) ?_
      refine ck_gov (rest := []) C kl_M hP hD hS (ck_runV (q0 := 0) C kl_M (hK.sub [0, 1] rfl) (c_M_line l D m0 hd ln cH cZ w ((xs (x4 + 1).toNatClampNeg)) (0) _) (cl_M_line hT ⟨Nat.le_of_ble_eq_true rfl, Nat.le_of_ble_eq_true rfl⟩) rfl rfl hP hD hS rfl hl.1 rfl (Nat.le_of_ble_eq_true rfl) dc_L_law_635 ⟨by omega, by omega⟩) (fun z4 H locs ez4 hP hD hS => ?_)
      refine lv_aload_n hx hb dc_L_law_638 rfl (lv_at hl 3 rfl) ?_
      refine ck_gpi (rest := []) C kl_M hP hD hS (ck_runV (q0 := 0) C kl_M (hK.sub [0, 1] rfl) (c_M_thrown l D m0 hd ln cH cZ z4  _) (cl_M_thrown hT ⟨Nat.le_of_ble_eq_true rfl, Nat.le_of_ble_eq_true rfl⟩) rfl rfl hP hD hS rfl hl.1 rfl (Nat.le_of_ble_eq_true rfl) dc_L_law_639 ⟨by omega, by omega⟩) (fun v5 H locs e5 hP hD hS => ?_)
      refine lv_iload hx hb dc_L_law_642 (lv_at hl 0 rfl) ?_
      refine lv_icmp_eq (tgt := 649) hx hb dc_L_law_644 (by decide) (fun c6 => ?_) (fun c6 => absurd (by rw [e5, ez4, e2]; exact (pl_line ((xs (x4 + 1).toNatClampNeg)) (0) hg (by first | exact Or.inl rfl | exact Or.inr rfl) hR).1) c6)
      refine lv_goto (tgt := 893) hx hb dc_L_law_649 (by decide) ?_
      refine W.widen (k := cells + 1) (n := slots + 6) (by omega) (by omega) ?_
      exact next z2 z4 o _ _ _ (by rw [ez2, ez4]; exact (pl_line ((xs (x4 + 1).toNatClampNeg)) (0) hg (by first | exact Or.inl rfl | exact Or.inr rfl) hR).2) hP hD hS (lv_sub hl [1, 2, 3, 4, 5] rfl)
    · replace hg := pb_line hg
      refine ck_goi (rest := []) C kl_X hP hD hS (ck_runSW C kl_X (hK.sub [] rfl) (cy_L_line l hl9 D h0 b1 b2 u ((xs (x4 + 1).toNatClampNeg)) (0) hg _) (cq_L_line hT) hP hD hS rfl hl.1 rfl (Nat.le_of_ble_eq_true rfl) dc_L_law_609 ⟨by omega, by omega⟩) (fun v2 z2 H locs e2 ez2 hP hD hS => ?_)
      refine lv_istore (lv' := [(5, .int v2), (0, .ref b), (1, .ref h0), (2, .ref m0), (3, .ref ot), (4, .int x4)]) hx hb dc_L_law_612 hl (by decide) rfl (fun ls hl => ?_)
      refine lv_aload_n hx hb dc_L_law_614 rfl (lv_at hl 3 rfl) ?_
      refine lv_aload_n hx hb dc_L_law_615 rfl (lv_at hl 1 rfl) ?_
      refine lv_iload hx hb dc_L_law_616 (lv_at hl 5 rfl) ?_
      refine lv_iconst (v := 1) hx hb dc_L_law_618 (by decide) ?_
      refine lv_iadd hx hb dc_L_law_619 ?_
      refine va_sld hx hb hX hbl hbA hS (hi 1 (by decide) (by decide)) dc_L_law_620 ?_
      refine lv_aload_n hx hb dc_L_law_621 rfl (lv_at hl 1 rfl) ?_
      refine lv_iload hx hb dc_L_law_622 (lv_at hl 5 rfl) ?_
      refine lv_iconst (v := 2) hx hb dc_L_law_624 (by decide) ?_
      refine lv_iadd hx hb dc_L_law_625 ?_
      refine va_sld hx hb hX hbl hbA hS (hi 2 (by decide) (by decide)) dc_L_law_626 ?_
      refine lv_if_eq (tgt := 634) hx hb dc_L_law_627 (by decide) (fun c7 => ?_) (fun c7 => absurd c1 c7)
      refine lv_iconst (v := 0) hx hb dc_L_law_634 (by decide) ?_
      refine ck_gov (rest := []) C kl_M hP hD hS (ck_runV (q0 := 0) C kl_M (hK.sub [0, 1] rfl) (c_M_line l D m0 hd ln cH cZ w ((xs (x4 + 1).toNatClampNeg)) (0) _) (cl_M_line hT ⟨Nat.le_of_ble_eq_true rfl, Nat.le_of_ble_eq_true rfl⟩) rfl rfl hP hD hS rfl hl.1 rfl (Nat.le_of_ble_eq_true rfl) dc_L_law_635 ⟨by omega, by omega⟩) (fun z8 H locs ez8 hP hD hS => ?_)
      refine lv_aload_n hx hb dc_L_law_638 rfl (lv_at hl 3 rfl) ?_
      refine ck_gpi (rest := []) C kl_M hP hD hS (ck_runV (q0 := 0) C kl_M (hK.sub [0, 1] rfl) (c_M_thrown l D m0 hd ln cH cZ z8  _) (cl_M_thrown hT ⟨Nat.le_of_ble_eq_true rfl, Nat.le_of_ble_eq_true rfl⟩) rfl rfl hP hD hS rfl hl.1 rfl (Nat.le_of_ble_eq_true rfl) dc_L_law_639 ⟨by omega, by omega⟩) (fun v9 H locs e9 hP hD hS => ?_)
      refine lv_iload hx hb dc_L_law_642 (lv_at hl 0 rfl) ?_
      refine lv_icmp_eq (tgt := 649) hx hb dc_L_law_644 (by decide) (fun c10 => ?_) (fun c10 => absurd (by rw [e9, ez8, e2]; exact (px_line ((xs (x4 + 1).toNatClampNeg)) (0) hg (by first | exact Or.inl rfl | exact Or.inr rfl) hR).1) c10)
      refine lv_goto (tgt := 893) hx hb dc_L_law_649 (by decide) ?_
      refine W.widen (k := cells + 1) (n := slots + 6) (by omega) (by omega) ?_
      exact next z2 z8 o _ _ _ (by rw [ez2, ez8]; exact (px_line ((xs (x4 + 1).toNatClampNeg)) (0) hg (by first | exact Or.inl rfl | exact Or.inr rfl) hR).2) hP hD hS (lv_sub hl [1, 2, 3, 4, 5] rfl)
  · refine lv_iconst (v := 1) hx hb dc_L_law_604 (by decide) ?_
    refine lv_goto (tgt := 609) hx hb dc_L_law_605 (by decide) ?_
    by_cases hg : (xs (x4 + 1).toNatClampNeg) = 3 ∨ (xs (x4 + 1).toNatClampNeg) = 7 ∨ (xs (x4 + 1).toNatClampNeg) = 9 ∨ (xs (x4 + 1).toNatClampNeg) = 11
    · refine ck_goi (rest := []) C kl_X hP hD hS (ck_runSW C kl_X (hK.sub [] rfl) (c_L_line l D h0 b1 b2 u ((xs (x4 + 1).toNatClampNeg)) (1) hg _) (cl_L_line hT) hP hD hS rfl hl.1 rfl (Nat.le_of_ble_eq_true rfl) dc_L_law_609 ⟨by omega, by omega⟩) (fun v11 z11 H locs e11 ez11 hP hD hS => ?_)
      refine lv_istore (lv' := [(5, .int v11), (0, .ref b), (1, .ref h0), (2, .ref m0), (3, .ref ot), (4, .int x4)]) hx hb dc_L_law_612 hl (by decide) rfl (fun ls hl => ?_)
      refine lv_aload_n hx hb dc_L_law_614 rfl (lv_at hl 3 rfl) ?_
      refine lv_aload_n hx hb dc_L_law_615 rfl (lv_at hl 1 rfl) ?_
      refine lv_iload hx hb dc_L_law_616 (lv_at hl 5 rfl) ?_
      refine lv_iconst (v := 1) hx hb dc_L_law_618 (by decide) ?_
      refine lv_iadd hx hb dc_L_law_619 ?_
      refine va_sld hx hb hX hbl hbA hS (hi 1 (by decide) (by decide)) dc_L_law_620 ?_
      refine lv_aload_n hx hb dc_L_law_621 rfl (lv_at hl 1 rfl) ?_
      refine lv_iload hx hb dc_L_law_622 (lv_at hl 5 rfl) ?_
      refine lv_iconst (v := 2) hx hb dc_L_law_624 (by decide) ?_
      refine lv_iadd hx hb dc_L_law_625 ?_
      refine va_sld hx hb hX hbl hbA hS (hi 2 (by decide) (by decide)) dc_L_law_626 ?_
      refine lv_if_eq (tgt := 634) hx hb dc_L_law_627 (by decide) (fun c12 => absurd c12 c1) (fun c12 => ?_)
      refine lv_iconst (v := 1) hx hb dc_L_law_630 (by decide) ?_
      refine lv_goto (tgt := 635) hx hb dc_L_law_631 (by decide) ?_
      refine ck_gov (rest := []) C kl_M hP hD hS (ck_runV (q0 := 0) C kl_M (hK.sub [0, 1] rfl) (c_M_line l D m0 hd ln cH cZ w ((xs (x4 + 1).toNatClampNeg)) (1) _) (cl_M_line hT ⟨Nat.le_of_ble_eq_true rfl, Nat.le_of_ble_eq_true rfl⟩) rfl rfl hP hD hS rfl hl.1 rfl (Nat.le_of_ble_eq_true rfl) dc_L_law_635 ⟨by omega, by omega⟩) (fun z13 H locs ez13 hP hD hS => ?_)
      refine lv_aload_n hx hb dc_L_law_638 rfl (lv_at hl 3 rfl) ?_
      refine ck_gpi (rest := []) C kl_M hP hD hS (ck_runV (q0 := 0) C kl_M (hK.sub [0, 1] rfl) (c_M_thrown l D m0 hd ln cH cZ z13  _) (cl_M_thrown hT ⟨Nat.le_of_ble_eq_true rfl, Nat.le_of_ble_eq_true rfl⟩) rfl rfl hP hD hS rfl hl.1 rfl (Nat.le_of_ble_eq_true rfl) dc_L_law_639 ⟨by omega, by omega⟩) (fun v14 H locs e14 hP hD hS => ?_)
      refine lv_iload hx hb dc_L_law_642 (lv_at hl 0 rfl) ?_
      refine lv_icmp_eq (tgt := 649) hx hb dc_L_law_644 (by decide) (fun c15 => ?_) (fun c15 => absurd (by rw [e14, ez13, e11]; exact (pl_line ((xs (x4 + 1).toNatClampNeg)) (1) hg (by first | exact Or.inl rfl | exact Or.inr rfl) hR).1) c15)
      refine lv_goto (tgt := 893) hx hb dc_L_law_649 (by decide) ?_
      refine W.widen (k := cells + 1) (n := slots + 6) (by omega) (by omega) ?_
      exact next z11 z13 o _ _ _ (by rw [ez11, ez13]; exact (pl_line ((xs (x4 + 1).toNatClampNeg)) (1) hg (by first | exact Or.inl rfl | exact Or.inr rfl) hR).2) hP hD hS (lv_sub hl [1, 2, 3, 4, 5] rfl)
    · replace hg := pb_line hg
      refine ck_goi (rest := []) C kl_X hP hD hS (ck_runSW C kl_X (hK.sub [] rfl) (cy_L_line l hl9 D h0 b1 b2 u ((xs (x4 + 1).toNatClampNeg)) (1) hg _) (cq_L_line hT) hP hD hS rfl hl.1 rfl (Nat.le_of_ble_eq_true rfl) dc_L_law_609 ⟨by omega, by omega⟩) (fun v11 z11 H locs e11 ez11 hP hD hS => ?_)
      refine lv_istore (lv' := [(5, .int v11), (0, .ref b), (1, .ref h0), (2, .ref m0), (3, .ref ot), (4, .int x4)]) hx hb dc_L_law_612 hl (by decide) rfl (fun ls hl => ?_)
      refine lv_aload_n hx hb dc_L_law_614 rfl (lv_at hl 3 rfl) ?_
      refine lv_aload_n hx hb dc_L_law_615 rfl (lv_at hl 1 rfl) ?_
      refine lv_iload hx hb dc_L_law_616 (lv_at hl 5 rfl) ?_
      refine lv_iconst (v := 1) hx hb dc_L_law_618 (by decide) ?_
      refine lv_iadd hx hb dc_L_law_619 ?_
      refine va_sld hx hb hX hbl hbA hS (hi 1 (by decide) (by decide)) dc_L_law_620 ?_
      refine lv_aload_n hx hb dc_L_law_621 rfl (lv_at hl 1 rfl) ?_
      refine lv_iload hx hb dc_L_law_622 (lv_at hl 5 rfl) ?_
      refine lv_iconst (v := 2) hx hb dc_L_law_624 (by decide) ?_
      refine lv_iadd hx hb dc_L_law_625 ?_
      refine va_sld hx hb hX hbl hbA hS (hi 2 (by decide) (by decide)) dc_L_law_626 ?_
      refine lv_if_eq (tgt := 634) hx hb dc_L_law_627 (by decide) (fun c16 => absurd c16 c1) (fun c16 => ?_)
      refine lv_iconst (v := 1) hx hb dc_L_law_630 (by decide) ?_
      refine lv_goto (tgt := 635) hx hb dc_L_law_631 (by decide) ?_
      refine ck_gov (rest := []) C kl_M hP hD hS (ck_runV (q0 := 0) C kl_M (hK.sub [0, 1] rfl) (c_M_line l D m0 hd ln cH cZ w ((xs (x4 + 1).toNatClampNeg)) (1) _) (cl_M_line hT ⟨Nat.le_of_ble_eq_true rfl, Nat.le_of_ble_eq_true rfl⟩) rfl rfl hP hD hS rfl hl.1 rfl (Nat.le_of_ble_eq_true rfl) dc_L_law_635 ⟨by omega, by omega⟩) (fun z17 H locs ez17 hP hD hS => ?_)
      refine lv_aload_n hx hb dc_L_law_638 rfl (lv_at hl 3 rfl) ?_
      refine ck_gpi (rest := []) C kl_M hP hD hS (ck_runV (q0 := 0) C kl_M (hK.sub [0, 1] rfl) (c_M_thrown l D m0 hd ln cH cZ z17  _) (cl_M_thrown hT ⟨Nat.le_of_ble_eq_true rfl, Nat.le_of_ble_eq_true rfl⟩) rfl rfl hP hD hS rfl hl.1 rfl (Nat.le_of_ble_eq_true rfl) dc_L_law_639 ⟨by omega, by omega⟩) (fun v18 H locs e18 hP hD hS => ?_)
      refine lv_iload hx hb dc_L_law_642 (lv_at hl 0 rfl) ?_
      refine lv_icmp_eq (tgt := 649) hx hb dc_L_law_644 (by decide) (fun c19 => ?_) (fun c19 => absurd (by rw [e18, ez17, e11]; exact (px_line ((xs (x4 + 1).toNatClampNeg)) (1) hg (by first | exact Or.inl rfl | exact Or.inr rfl) hR).1) c19)
      refine lv_goto (tgt := 893) hx hb dc_L_law_649 (by decide) ?_
      refine W.widen (k := cells + 1) (n := slots + 6) (by omega) (by omega) ?_
      exact next z11 z17 o _ _ _ (by rw [ez11, ez17]; exact (px_line ((xs (x4 + 1).toNatClampNeg)) (1) hg (by first | exact Or.inl rfl | exact Or.inr rfl) hR).2) hP hD hS (lv_sub hl [1, 2, 3, 4, 5] rfl)
set_option maxHeartbeats 4000000 in
set_option maxRecDepth 100000 in
theorem lk_11 {p : Program} {l : Launch} {e : Env} {s : State} {m : MethodId} {below : List Frame} {meth : Method} {c : Code} {H : Heap} {locs : List Loc} {cells slots : Nat} {Q : State → Prop} {ls : Array Slot} {D : va_G} {b L : Nat} {xs : Nat → Int32} {h0 b1 b2 m0 hd ln ot : Nat} {cH cZ cO : ClassId} {u : cs_St} {w : ms_St} {o : Nat → Int64} {x4 : Int32} (hl9 : l.stackTraces = false) (C : ck_C p s m meth c code ret 8 #[.ref b] "ControlDeskLaw" (fun q : Nat => s.heap.size ≤ q) D [(cH, .long), (cZ, .boolean), (cO, .long)]) (hX : va_X b L xs s s.heap) (hbl : b < s.heap.size) (hi : ∀ j : Int32, 1 ≤ j → j ≤ 6 → vp_in (x4 + j) L) (hc1 : cells + 1 ≤ 1036) (hc2 : slots + 6 ≤ 12367) (hR : rr_R u w) (hP : va_P D xw_Cl (wl h0 b1 b2 m0 hd ln ot cH cZ cO (u, w, o)) H) (hD : va_D (fun q : Nat => s.heap.size ≤ q) (wl h0 b1 b2 m0 hd ln ot cH cZ cO (u, w, o))) (hS : va_S (fun q : Nat => s.heap.size ≤ q) s.heap H locs) (hl : lv_has ls 8 [(0, .ref b), (1, .ref h0), (2, .ref m0), (3, .ref ot), (4, .int x4)])
    (next : ∀ (u' : cs_St) (w' : ms_St) (o' : Nat → Int64) (H1 : Heap) (locs1 : List Loc) (ls1 : Array Slot), rr_R u' w' → va_P D xw_Cl (wl h0 b1 b2 m0 hd ln ot cH cZ cO (u', w', o')) H1 → va_D (fun q : Nat => s.heap.size ≤ q) (wl h0 b1 b2 m0 hd ln ot cH cZ cO (u', w', o')) → va_S (fun q : Nat => s.heap.size ≤ q) s.heap H1 locs1 → lv_has ls1 8 [(0, .ref b), (1, .ref h0), (2, .ref m0), (3, .ref ot), (4, .int x4)] → W p l e room_1 s m #[.ref b] below meth c H1 locs1 (cells + 1) (slots + 6) Q (F0 m 893 ls1 [])) :
    W p l e room_1 s m #[.ref b] below meth c H locs cells slots Q (F0 m 652 ls []) := by
  have hx := C.1
  have hb := C.2.1
  have hown := C.2.2.2.2.1
  have hT := C.2.2.2.2.2.1
  have hK := C.2.2.2.2.2.2.2.1
  have hbA : ¬ (fun q : Nat => s.heap.size ≤ q) b := Nat.not_le.mpr hbl
  have hc1 : cells + 1 ≤ room_1.cells := hc1
  have hc2 : slots + 6 ≤ room_1.slots := hc2
  refine lv_aload_n hx hb dc_L_law_652 rfl (lv_at hl 1 rfl) ?_
  refine lv_aload_n hx hb dc_L_law_653 rfl (lv_at hl 0 rfl) ?_
  refine lv_iload hx hb dc_L_law_654 (lv_at hl 4 rfl) ?_
  refine lv_iconst (v := 1) hx hb dc_L_law_656 (by decide) ?_
  refine lv_iadd hx hb dc_L_law_657 ?_
  refine va_sld hx hb hX hbl hbA hS (hi 1 (by decide) (by decide)) dc_L_law_658 ?_
  refine lv_aload_n hx hb dc_L_law_659 rfl (lv_at hl 3 rfl) ?_
  by_cases hg : (xs (x4 + 1).toNatClampNeg) = 0 ∨ (xs (x4 + 1).toNatClampNeg) = 1
  · refine ck_goi (rest := []) C kl_O hP hD hS (ck_runSW C kl_O (hK.sub [2] rfl) (c_L_allowed l D h0 b1 b2 ot cO u o ((xs (x4 + 1).toNatClampNeg)) hg _) (cl_L_allowed hT) hP hD hS rfl hl.1 rfl (Nat.le_of_ble_eq_true rfl) dc_L_law_660 ⟨by omega, by omega⟩) (fun v1 z1 H locs e1 ez1 hP hD hS => ?_)
    refine lv_istore (lv' := [(5, .int v1), (0, .ref b), (1, .ref h0), (2, .ref m0), (3, .ref ot), (4, .int x4)]) hx hb dc_L_law_663 hl (by decide) rfl (fun ls hl => ?_)
    refine lv_aload_n hx hb dc_L_law_665 rfl (lv_at hl 3 rfl) ?_
    refine lv_aload_n hx hb dc_L_law_666 rfl (lv_at hl 1 rfl) ?_
    refine lv_iload hx hb dc_L_law_667 (lv_at hl 5 rfl) ?_
    refine lv_iconst (v := 1) hx hb dc_L_law_669 (by decide) ?_
    refine lv_iadd hx hb dc_L_law_670 ?_
    refine va_sld hx hb hX hbl hbA hS (hi 1 (by decide) (by decide)) dc_L_law_671 ?_
    refine ck_goi (rest := []) C kl_M hP hD hS (ck_runV (q0 := 0) C kl_M (hK.sub [0, 1] rfl) (c_M_allowed l D m0 hd ln cH cZ w ((xs (x4 + 1).toNatClampNeg)) _) (cl_M_allowed hT ⟨Nat.le_of_ble_eq_true rfl, Nat.le_of_ble_eq_true rfl⟩) rfl rfl hP hD hS rfl hl.1 rfl (Nat.le_of_ble_eq_true rfl) dc_L_law_672 ⟨by omega, by omega⟩) (fun v2 z2 H locs e2 ez2 hP hD hS => ?_)
    refine lv_istore (lv' := [(6, .int v2), (5, .int v1), (0, .ref b), (1, .ref h0), (2, .ref m0), (3, .ref ot), (4, .int x4)]) hx hb dc_L_law_675 hl (by decide) rfl (fun ls hl => ?_)
    refine lv_aload_n hx hb dc_L_law_677 rfl (lv_at hl 4 rfl) ?_
    refine ck_gpi (rest := []) C kl_M hP hD hS (ck_runV (q0 := 0) C kl_M (hK.sub [0, 1] rfl) (c_M_thrown l D m0 hd ln cH cZ z2  _) (cl_M_thrown hT ⟨Nat.le_of_ble_eq_true rfl, Nat.le_of_ble_eq_true rfl⟩) rfl rfl hP hD hS rfl hl.1 rfl (Nat.le_of_ble_eq_true rfl) dc_L_law_678 ⟨by omega, by omega⟩) (fun v3 H locs e3 hP hD hS => ?_)
    refine lv_iload hx hb dc_L_law_681 (lv_at hl 1 rfl) ?_
    refine lv_icmp_eq (tgt := 688) hx hb dc_L_law_683 (by decide) (fun c4 => ?_) (fun c4 => absurd (by rw [e3, ez2, e1]; exact (pl_allowed ((xs (x4 + 1).toNatClampNeg)) hg hR).1) c4)
    refine lv_iload hx hb dc_L_law_688 (lv_at hl 1 rfl) ?_
    refine lv_if_ne (tgt := 712) hx hb dc_L_law_690 (by decide) (fun c5 => absurd e1 c5) (fun c5 => ?_)
    refine lv_aload_n hx hb dc_L_law_693 rfl (lv_at hl 5 rfl) ?_
    refine lv_iconst (v := 0) hx hb dc_L_law_694 (by decide) ?_
    refine va_lald (f := z1.2) hx hb hK hP 6 2 rfl rfl (by unfold vp_in; decide) dc_L_law_695 ?_
    refine lv_topl (fun v6 e6 => ?_)
    refine lv_iload hx hb dc_L_law_696 (lv_at hl 0 rfl) ?_
    refine lv_if_eq (tgt := 705) hx hb dc_L_law_698 (by decide) (fun c7 => ?_) (fun c7 => ?_)
    · refine lv_lconst (v := 0) hx hb dc_L_law_705 (by decide) ?_
      refine W.lcmp hx hb dc_L_law_706 ?_
      refine lv_if_eq (tgt := 712) hx hb dc_L_law_707 (by decide) (fun c8 => ?_) (fun c8 => absurd (by rw [lg_cmp_eq, e6, ez1, (pl_allowed ((xs (x4 + 1).toNatClampNeg)) hg hR).2.1, ← e2, if_pos c7]; exact pk_uLs (f := o) (k := (0 : Int32).toNatClampNeg)) c8)
      refine lv_goto (tgt := 893) hx hb dc_L_law_712 (by decide) ?_
      refine W.widen (k := cells + 1) (n := slots + 6) (by omega) (by omega) ?_
      exact next z1.1 z2 z1.2 _ _ _ (by rw [ez1, ez2]; exact (pl_allowed ((xs (x4 + 1).toNatClampNeg)) hg hR).2.2) hP hD hS (lv_sub hl [2, 3, 4, 5, 6] rfl)
    · refine lv_lconst (v := 1) hx hb dc_L_law_701 (by decide) ?_
      refine lv_goto (tgt := 706) hx hb dc_L_law_702 (by decide) ?_
      refine W.lcmp hx hb dc_L_law_706 ?_
      refine lv_if_eq (tgt := 712) hx hb dc_L_law_707 (by decide) (fun c9 => ?_) (fun c9 => absurd (by rw [lg_cmp_eq, e6, ez1, (pl_allowed ((xs (x4 + 1).toNatClampNeg)) hg hR).2.1, ← e2, if_neg c7]; exact pk_uLs (f := o) (k := (0 : Int32).toNatClampNeg)) c9)
      refine lv_goto (tgt := 893) hx hb dc_L_law_712 (by decide) ?_
      refine W.widen (k := cells + 1) (n := slots + 6) (by omega) (by omega) ?_
      exact next z1.1 z2 z1.2 _ _ _ (by rw [ez1, ez2]; exact (pl_allowed ((xs (x4 + 1).toNatClampNeg)) hg hR).2.2) hP hD hS (lv_sub hl [2, 3, 4, 5, 6] rfl)
  · replace hg := pb_allowed hg
    refine ck_goi (rest := []) C kl_O hP hD hS (ck_runSW C kl_O (hK.sub [2] rfl) (cy_L_allowed l hl9 D h0 b1 b2 ot cO u o ((xs (x4 + 1).toNatClampNeg)) hg _) (cq_L_allowed hT) hP hD hS rfl hl.1 rfl (Nat.le_of_ble_eq_true rfl) dc_L_law_660 ⟨by omega, by omega⟩) (fun v1 z1 H locs e1 ez1 hP hD hS => ?_)
    refine lv_istore (lv' := [(5, .int v1), (0, .ref b), (1, .ref h0), (2, .ref m0), (3, .ref ot), (4, .int x4)]) hx hb dc_L_law_663 hl (by decide) rfl (fun ls hl => ?_)
    refine lv_aload_n hx hb dc_L_law_665 rfl (lv_at hl 3 rfl) ?_
    refine lv_aload_n hx hb dc_L_law_666 rfl (lv_at hl 1 rfl) ?_
    refine lv_iload hx hb dc_L_law_667 (lv_at hl 5 rfl) ?_
    refine lv_iconst (v := 1) hx hb dc_L_law_669 (by decide) ?_
    refine lv_iadd hx hb dc_L_law_670 ?_
    refine va_sld hx hb hX hbl hbA hS (hi 1 (by decide) (by decide)) dc_L_law_671 ?_
    refine ck_goi (rest := []) C kl_M hP hD hS (ck_runV (q0 := 0) C kl_M (hK.sub [0, 1] rfl) (c_M_allowed l D m0 hd ln cH cZ w ((xs (x4 + 1).toNatClampNeg)) _) (cl_M_allowed hT ⟨Nat.le_of_ble_eq_true rfl, Nat.le_of_ble_eq_true rfl⟩) rfl rfl hP hD hS rfl hl.1 rfl (Nat.le_of_ble_eq_true rfl) dc_L_law_672 ⟨by omega, by omega⟩) (fun v10 z10 H locs e10 ez10 hP hD hS => ?_)
    refine lv_istore (lv' := [(6, .int v10), (5, .int v1), (0, .ref b), (1, .ref h0), (2, .ref m0), (3, .ref ot), (4, .int x4)]) hx hb dc_L_law_675 hl (by decide) rfl (fun ls hl => ?_)
    refine lv_aload_n hx hb dc_L_law_677 rfl (lv_at hl 4 rfl) ?_
    refine ck_gpi (rest := []) C kl_M hP hD hS (ck_runV (q0 := 0) C kl_M (hK.sub [0, 1] rfl) (c_M_thrown l D m0 hd ln cH cZ z10  _) (cl_M_thrown hT ⟨Nat.le_of_ble_eq_true rfl, Nat.le_of_ble_eq_true rfl⟩) rfl rfl hP hD hS rfl hl.1 rfl (Nat.le_of_ble_eq_true rfl) dc_L_law_678 ⟨by omega, by omega⟩) (fun v11 H locs e11 hP hD hS => ?_)
    refine lv_iload hx hb dc_L_law_681 (lv_at hl 1 rfl) ?_
    refine lv_icmp_eq (tgt := 688) hx hb dc_L_law_683 (by decide) (fun c12 => ?_) (fun c12 => absurd (by rw [e11, ez10, e1]; exact (px_allowed ((xs (x4 + 1).toNatClampNeg)) hg hR).1) c12)
    refine lv_iload hx hb dc_L_law_688 (lv_at hl 1 rfl) ?_
    refine lv_if_ne (tgt := 712) hx hb dc_L_law_690 (by decide) (fun c13 => ?_) (fun c13 => absurd (e1.symm.trans c13) (by decide))
    refine lv_goto (tgt := 893) hx hb dc_L_law_712 (by decide) ?_
    refine W.widen (k := cells + 1) (n := slots + 6) (by omega) (by omega) ?_
    exact next z1.1 z10 z1.2 _ _ _ (by rw [ez1, ez10]; exact (px_allowed ((xs (x4 + 1).toNatClampNeg)) hg hR).2) hP hD hS (lv_sub hl [2, 3, 4, 5, 6] rfl)
set_option maxHeartbeats 4000000 in
set_option maxRecDepth 100000 in
theorem lk_12 {p : Program} {l : Launch} {e : Env} {s : State} {m : MethodId} {below : List Frame} {meth : Method} {c : Code} {H : Heap} {locs : List Loc} {cells slots : Nat} {Q : State → Prop} {ls : Array Slot} {D : va_G} {b L : Nat} {xs : Nat → Int32} {h0 b1 b2 m0 hd ln ot : Nat} {cH cZ cO : ClassId} {u : cs_St} {w : ms_St} {o : Nat → Int64} {x4 : Int32} (hl9 : l.stackTraces = false) (C : ck_C p s m meth c code ret 8 #[.ref b] "ControlDeskLaw" (fun q : Nat => s.heap.size ≤ q) D [(cH, .long), (cZ, .boolean), (cO, .long)]) (hX : va_X b L xs s s.heap) (hbl : b < s.heap.size) (hi : ∀ j : Int32, 1 ≤ j → j ≤ 6 → vp_in (x4 + j) L) (hc1 : cells + 1 ≤ 1036) (hc2 : slots + 6 ≤ 12367) (hR : rr_R u w) (hP : va_P D xw_Cl (wl h0 b1 b2 m0 hd ln ot cH cZ cO (u, w, o)) H) (hD : va_D (fun q : Nat => s.heap.size ≤ q) (wl h0 b1 b2 m0 hd ln ot cH cZ cO (u, w, o))) (hS : va_S (fun q : Nat => s.heap.size ≤ q) s.heap H locs) (hl : lv_has ls 8 [(0, .ref b), (1, .ref h0), (2, .ref m0), (3, .ref ot), (4, .int x4)])
    (next : ∀ (u' : cs_St) (w' : ms_St) (o' : Nat → Int64) (H1 : Heap) (locs1 : List Loc) (ls1 : Array Slot), rr_R u' w' → va_P D xw_Cl (wl h0 b1 b2 m0 hd ln ot cH cZ cO (u', w', o')) H1 → va_D (fun q : Nat => s.heap.size ≤ q) (wl h0 b1 b2 m0 hd ln ot cH cZ cO (u', w', o')) → va_S (fun q : Nat => s.heap.size ≤ q) s.heap H1 locs1 → lv_has ls1 8 [(0, .ref b), (1, .ref h0), (2, .ref m0), (3, .ref ot), (4, .int x4)] → W p l e room_1 s m #[.ref b] below meth c H1 locs1 (cells + 1) (slots + 6) Q (F0 m 893 ls1 [])) :
    W p l e room_1 s m #[.ref b] below meth c H locs cells slots Q (F0 m 715 ls []) := by
  have hx := C.1
  have hb := C.2.1
  have hown := C.2.2.2.2.1
  have hT := C.2.2.2.2.2.1
  have hK := C.2.2.2.2.2.2.2.1
  have hbA : ¬ (fun q : Nat => s.heap.size ≤ q) b := Nat.not_le.mpr hbl
  have hc1 : cells + 1 ≤ room_1.cells := hc1
  have hc2 : slots + 6 ≤ room_1.slots := hc2
  refine lv_aload_n hx hb dc_L_law_715 rfl (lv_at hl 1 rfl) ?_
  refine ck_gpi (rest := []) C kl_X hP hD hS (ck_runV (q0 := 0) C kl_X (hK.sub [] rfl) (c_X_floats l D [] h0 b1 b2 u  _) (cl_X_floats hT ⟨Nat.le_of_ble_eq_true rfl, Nat.le_of_ble_eq_true rfl⟩) rfl rfl hP hD hS rfl hl.1 rfl (Nat.le_of_ble_eq_true rfl) dc_L_law_716 ⟨by omega, by omega⟩) (fun v1 H locs e1 hP hD hS => ?_)
  refine lv_aload_n hx hb dc_L_law_719 rfl (lv_at hl 2 rfl) ?_
  refine ck_goi (rest := [.int v1]) C kl_M hP hD hS (ck_runV (q0 := 0) C kl_M (hK.sub [0, 1] rfl) (c_M_floats l D m0 hd ln cH cZ w  _) (cl_M_floats hT ⟨Nat.le_of_ble_eq_true rfl, Nat.le_of_ble_eq_true rfl⟩) rfl rfl hP hD hS rfl hl.1 rfl (Nat.le_of_ble_eq_true rfl) dc_L_law_720 ⟨by omega, by omega⟩) (fun v2 z2 H locs e2 ez2 hP hD hS => ?_)
  refine lv_icmp_eq (tgt := 893) hx hb dc_L_law_723 (by decide) (fun c3 => ?_) (fun c3 => absurd (by rw [e1, e2]; exact (pl_floats hR).1) c3)
  refine W.widen (k := cells + 1) (n := slots + 6) (by omega) (by omega) ?_
  exact next u z2 o _ _ _ (by rw [ez2]; exact (pl_floats hR).2) hP hD hS (lv_sub hl [0, 1, 2, 3, 4] rfl)
set_option maxHeartbeats 4000000 in
set_option maxRecDepth 100000 in
theorem lk_13 {p : Program} {l : Launch} {e : Env} {s : State} {m : MethodId} {below : List Frame} {meth : Method} {c : Code} {H : Heap} {locs : List Loc} {cells slots : Nat} {Q : State → Prop} {ls : Array Slot} {D : va_G} {b L : Nat} {xs : Nat → Int32} {h0 b1 b2 m0 hd ln ot : Nat} {cH cZ cO : ClassId} {u : cs_St} {w : ms_St} {o : Nat → Int64} {x4 : Int32} (hl9 : l.stackTraces = false) (C : ck_C p s m meth c code ret 8 #[.ref b] "ControlDeskLaw" (fun q : Nat => s.heap.size ≤ q) D [(cH, .long), (cZ, .boolean), (cO, .long)]) (hX : va_X b L xs s s.heap) (hbl : b < s.heap.size) (hi : ∀ j : Int32, 1 ≤ j → j ≤ 6 → vp_in (x4 + j) L) (hc1 : cells + 1 ≤ 1036) (hc2 : slots + 6 ≤ 12367) (hR : rr_R u w) (hP : va_P D xw_Cl (wl h0 b1 b2 m0 hd ln ot cH cZ cO (u, w, o)) H) (hD : va_D (fun q : Nat => s.heap.size ≤ q) (wl h0 b1 b2 m0 hd ln ot cH cZ cO (u, w, o))) (hS : va_S (fun q : Nat => s.heap.size ≤ q) s.heap H locs) (hl : lv_has ls 8 [(0, .ref b), (1, .ref h0), (2, .ref m0), (3, .ref ot), (4, .int x4)])
    (next : ∀ (u' : cs_St) (w' : ms_St) (o' : Nat → Int64) (H1 : Heap) (locs1 : List Loc) (ls1 : Array Slot), rr_R u' w' → va_P D xw_Cl (wl h0 b1 b2 m0 hd ln ot cH cZ cO (u', w', o')) H1 → va_D (fun q : Nat => s.heap.size ≤ q) (wl h0 b1 b2 m0 hd ln ot cH cZ cO (u', w', o')) → va_S (fun q : Nat => s.heap.size ≤ q) s.heap H1 locs1 → lv_has ls1 8 [(0, .ref b), (1, .ref h0), (2, .ref m0), (3, .ref ot), (4, .int x4)] → W p l e room_1 s m #[.ref b] below meth c H1 locs1 (cells + 1) (slots + 6) Q (F0 m 893 ls1 [])) :
    W p l e room_1 s m #[.ref b] below meth c H locs cells slots Q (F0 m 728 ls []) := by
  have hx := C.1
  have hb := C.2.1
  have hown := C.2.2.2.2.1
  have hT := C.2.2.2.2.2.1
  have hK := C.2.2.2.2.2.2.2.1
  have hbA : ¬ (fun q : Nat => s.heap.size ≤ q) b := Nat.not_le.mpr hbl
  have hc1 : cells + 1 ≤ room_1.cells := hc1
  have hc2 : slots + 6 ≤ room_1.slots := hc2
  refine lv_aload_n hx hb dc_L_law_728 rfl (lv_at hl 1 rfl) ?_
  refine ck_gov (rest := []) C kl_X hP hD hS (ck_runV (q0 := 0) C kl_X (hK.sub [] rfl) (c_X_dirty l D [] h0 b1 b2 u  _) (cl_X_dirty hT ⟨Nat.le_of_ble_eq_true rfl, Nat.le_of_ble_eq_true rfl⟩) rfl rfl hP hD hS rfl hl.1 rfl (Nat.le_of_ble_eq_true rfl) dc_L_law_729 ⟨by omega, by omega⟩) (fun z1 H locs ez1 hP hD hS => ?_)
  refine lv_aload_n hx hb dc_L_law_732 rfl (lv_at hl 2 rfl) ?_
  refine ck_gov (rest := []) C kl_M hP hD hS (ck_runV (q0 := 0) C kl_M (hK.sub [0, 1] rfl) (c_M_dirty l D m0 hd ln cH cZ w  _) (cl_M_dirty hT ⟨Nat.le_of_ble_eq_true rfl, Nat.le_of_ble_eq_true rfl⟩) rfl rfl hP hD hS rfl hl.1 rfl (Nat.le_of_ble_eq_true rfl) dc_L_law_733 ⟨by omega, by omega⟩) (fun z2 H locs ez2 hP hD hS => ?_)
  refine lv_goto (tgt := 893) hx hb dc_L_law_736 (by decide) ?_
  refine W.widen (k := cells + 1) (n := slots + 6) (by omega) (by omega) ?_
  exact next z1 z2 o _ _ _ (by rw [ez1, ez2]; exact (pl_dirty hR)) hP hD hS (lv_sub hl [0, 1, 2, 3, 4] rfl)
set_option maxHeartbeats 4000000 in
set_option maxRecDepth 100000 in
theorem lk_14 {p : Program} {l : Launch} {e : Env} {s : State} {m : MethodId} {below : List Frame} {meth : Method} {c : Code} {H : Heap} {locs : List Loc} {cells slots : Nat} {Q : State → Prop} {ls : Array Slot} {D : va_G} {b L : Nat} {xs : Nat → Int32} {h0 b1 b2 m0 hd ln ot : Nat} {cH cZ cO : ClassId} {u : cs_St} {w : ms_St} {o : Nat → Int64} {x4 : Int32} (hl9 : l.stackTraces = false) (C : ck_C p s m meth c code ret 8 #[.ref b] "ControlDeskLaw" (fun q : Nat => s.heap.size ≤ q) D [(cH, .long), (cZ, .boolean), (cO, .long)]) (hX : va_X b L xs s s.heap) (hbl : b < s.heap.size) (hi : ∀ j : Int32, 1 ≤ j → j ≤ 6 → vp_in (x4 + j) L) (hc1 : cells + 1 ≤ 1036) (hc2 : slots + 6 ≤ 12367) (hR : rr_R u w) (hP : va_P D xw_Cl (wl h0 b1 b2 m0 hd ln ot cH cZ cO (u, w, o)) H) (hD : va_D (fun q : Nat => s.heap.size ≤ q) (wl h0 b1 b2 m0 hd ln ot cH cZ cO (u, w, o))) (hS : va_S (fun q : Nat => s.heap.size ≤ q) s.heap H locs) (hl : lv_has ls 8 [(0, .ref b), (1, .ref h0), (2, .ref m0), (3, .ref ot), (4, .int x4)])
    (next : ∀ (u' : cs_St) (w' : ms_St) (o' : Nat → Int64) (H1 : Heap) (locs1 : List Loc) (ls1 : Array Slot), rr_R u' w' → va_P D xw_Cl (wl h0 b1 b2 m0 hd ln ot cH cZ cO (u', w', o')) H1 → va_D (fun q : Nat => s.heap.size ≤ q) (wl h0 b1 b2 m0 hd ln ot cH cZ cO (u', w', o')) → va_S (fun q : Nat => s.heap.size ≤ q) s.heap H1 locs1 → lv_has ls1 8 [(0, .ref b), (1, .ref h0), (2, .ref m0), (3, .ref ot), (4, .int x4)] → W p l e room_1 s m #[.ref b] below meth c H1 locs1 (cells + 1) (slots + 6) Q (F0 m 893 ls1 [])) :
    W p l e room_1 s m #[.ref b] below meth c H locs cells slots Q (F0 m 739 ls []) := by
  have hx := C.1
  have hb := C.2.1
  have hown := C.2.2.2.2.1
  have hT := C.2.2.2.2.2.1
  have hK := C.2.2.2.2.2.2.2.1
  have hbA : ¬ (fun q : Nat => s.heap.size ≤ q) b := Nat.not_le.mpr hbl
  have hc1 : cells + 1 ≤ room_1.cells := hc1
  have hc2 : slots + 6 ≤ room_1.slots := hc2
  refine lv_aload_n hx hb dc_L_law_739 rfl (lv_at hl 1 rfl) ?_
  refine lv_aload_n hx hb dc_L_law_740 rfl (lv_at hl 0 rfl) ?_
  refine lv_iload hx hb dc_L_law_741 (lv_at hl 4 rfl) ?_
  refine lv_iconst (v := 1) hx hb dc_L_law_743 (by decide) ?_
  refine lv_iadd hx hb dc_L_law_744 ?_
  refine va_sld hx hb hX hbl hbA hS (hi 1 (by decide) (by decide)) dc_L_law_745 ?_
  refine lv_i2l hx hb dc_L_law_746 rfl ?_
  refine lv_bipush (v := 32) hx hb dc_L_law_747 (by decide) ?_
  refine lv_lshl hx hb dc_L_law_749 rfl ?_
  refine lv_aload_n hx hb dc_L_law_750 rfl (lv_at hl 0 rfl) ?_
  refine lv_iload hx hb dc_L_law_751 (lv_at hl 4 rfl) ?_
  refine lv_iconst (v := 2) hx hb dc_L_law_753 (by decide) ?_
  refine lv_iadd hx hb dc_L_law_754 ?_
  refine va_sld hx hb hX hbl hbA hS (hi 2 (by decide) (by decide)) dc_L_law_755 ?_
  refine lv_i2l hx hb dc_L_law_756 rfl ?_
  refine lv_ldc2 (v := 4294967295) hx hb hown (hT _ mw_315) dc_L_law_757 ?_
  refine lv_land hx hb dc_L_law_760 ?_
  refine lv_lor hx hb dc_L_law_761 ?_
  refine lv_aload_n hx hb dc_L_law_762 rfl (lv_at hl 0 rfl) ?_
  refine lv_iload hx hb dc_L_law_763 (lv_at hl 4 rfl) ?_
  refine lv_iconst (v := 3) hx hb dc_L_law_765 (by decide) ?_
  refine lv_iadd hx hb dc_L_law_766 ?_
  refine va_sld hx hb hX hbl hbA hS (hi 3 (by decide) (by decide)) dc_L_law_767 ?_
  refine lv_i2l hx hb dc_L_law_768 rfl ?_
  refine lv_bipush (v := 32) hx hb dc_L_law_769 (by decide) ?_
  refine lv_lshl hx hb dc_L_law_771 rfl ?_
  refine lv_aload_n hx hb dc_L_law_772 rfl (lv_at hl 0 rfl) ?_
  refine lv_iload hx hb dc_L_law_773 (lv_at hl 4 rfl) ?_
  refine lv_iconst (v := 4) hx hb dc_L_law_775 (by decide) ?_
  refine lv_iadd hx hb dc_L_law_776 ?_
  refine va_sld hx hb hX hbl hbA hS (hi 4 (by decide) (by decide)) dc_L_law_777 ?_
  refine lv_i2l hx hb dc_L_law_778 rfl ?_
  refine lv_ldc2 (v := 4294967295) hx hb hown (hT _ mw_315) dc_L_law_779 ?_
  refine lv_land hx hb dc_L_law_782 ?_
  refine lv_lor hx hb dc_L_law_783 ?_
  refine ck_gov (rest := []) C kl_X hP hD hS (ck_runV (q0 := 0) C kl_X (hK.sub [] rfl) (c_X_count l D [] h0 b1 b2 u ((((xs (x4 + 1).toNatClampNeg).toInt64 <<< ((32 : Int32).toInt64 &&& 63)) ||| ((xs (x4 + 2).toNatClampNeg).toInt64 &&& 4294967295))) ((((xs (x4 + 3).toNatClampNeg).toInt64 <<< ((32 : Int32).toInt64 &&& 63)) ||| ((xs (x4 + 4).toNatClampNeg).toInt64 &&& 4294967295))) _) (cl_X_count hT ⟨Nat.le_of_ble_eq_true rfl, Nat.le_of_ble_eq_true rfl⟩) rfl rfl hP hD hS rfl hl.1 rfl (Nat.le_of_ble_eq_true rfl) dc_L_law_784 ⟨by omega, by omega⟩) (fun z1 H locs ez1 hP hD hS => ?_)
  refine lv_aload_n hx hb dc_L_law_787 rfl (lv_at hl 2 rfl) ?_
  refine lv_aload_n hx hb dc_L_law_788 rfl (lv_at hl 0 rfl) ?_
  refine lv_iload hx hb dc_L_law_789 (lv_at hl 4 rfl) ?_
  refine lv_iconst (v := 1) hx hb dc_L_law_791 (by decide) ?_
  refine lv_iadd hx hb dc_L_law_792 ?_
  refine va_sld hx hb hX hbl hbA hS (hi 1 (by decide) (by decide)) dc_L_law_793 ?_
  refine lv_i2l hx hb dc_L_law_794 rfl ?_
  refine lv_bipush (v := 32) hx hb dc_L_law_795 (by decide) ?_
  refine lv_lshl hx hb dc_L_law_797 rfl ?_
  refine lv_aload_n hx hb dc_L_law_798 rfl (lv_at hl 0 rfl) ?_
  refine lv_iload hx hb dc_L_law_799 (lv_at hl 4 rfl) ?_
  refine lv_iconst (v := 2) hx hb dc_L_law_801 (by decide) ?_
  refine lv_iadd hx hb dc_L_law_802 ?_
  refine va_sld hx hb hX hbl hbA hS (hi 2 (by decide) (by decide)) dc_L_law_803 ?_
  refine lv_i2l hx hb dc_L_law_804 rfl ?_
  refine lv_ldc2 (v := 4294967295) hx hb hown (hT _ mw_315) dc_L_law_805 ?_
  refine lv_land hx hb dc_L_law_808 ?_
  refine lv_lor hx hb dc_L_law_809 ?_
  refine lv_aload_n hx hb dc_L_law_810 rfl (lv_at hl 0 rfl) ?_
  refine lv_iload hx hb dc_L_law_811 (lv_at hl 4 rfl) ?_
  refine lv_iconst (v := 3) hx hb dc_L_law_813 (by decide) ?_
  refine lv_iadd hx hb dc_L_law_814 ?_
  refine va_sld hx hb hX hbl hbA hS (hi 3 (by decide) (by decide)) dc_L_law_815 ?_
  refine lv_i2l hx hb dc_L_law_816 rfl ?_
  refine lv_bipush (v := 32) hx hb dc_L_law_817 (by decide) ?_
  refine lv_lshl hx hb dc_L_law_819 rfl ?_
  refine lv_aload_n hx hb dc_L_law_820 rfl (lv_at hl 0 rfl) ?_
  refine lv_iload hx hb dc_L_law_821 (lv_at hl 4 rfl) ?_
  refine lv_iconst (v := 4) hx hb dc_L_law_823 (by decide) ?_
  refine lv_iadd hx hb dc_L_law_824 ?_
  refine va_sld hx hb hX hbl hbA hS (hi 4 (by decide) (by decide)) dc_L_law_825 ?_
  refine lv_i2l hx hb dc_L_law_826 rfl ?_
  refine lv_ldc2 (v := 4294967295) hx hb hown (hT _ mw_315) dc_L_law_827 ?_
  refine lv_land hx hb dc_L_law_830 ?_
  refine lv_lor hx hb dc_L_law_831 ?_
  refine ck_gov (rest := []) C kl_M hP hD hS (ck_runV (q0 := 0) C kl_M (hK.sub [0, 1] rfl) (c_M_count l D m0 hd ln cH cZ w ((((xs (x4 + 1).toNatClampNeg).toInt64 <<< ((32 : Int32).toInt64 &&& 63)) ||| ((xs (x4 + 2).toNatClampNeg).toInt64 &&& 4294967295))) ((((xs (x4 + 3).toNatClampNeg).toInt64 <<< ((32 : Int32).toInt64 &&& 63)) ||| ((xs (x4 + 4).toNatClampNeg).toInt64 &&& 4294967295))) _) (cl_M_count hT ⟨Nat.le_of_ble_eq_true rfl, Nat.le_of_ble_eq_true rfl⟩) rfl rfl hP hD hS rfl hl.1 rfl (Nat.le_of_ble_eq_true rfl) dc_L_law_832 ⟨by omega, by omega⟩) (fun z2 H locs ez2 hP hD hS => ?_)
  refine lv_goto (tgt := 893) hx hb dc_L_law_835 (by decide) ?_
  refine W.widen (k := cells + 1) (n := slots + 6) (by omega) (by omega) ?_
  exact next z1 z2 o _ _ _ (by rw [ez1, ez2]; exact (pl_count ((((xs (x4 + 1).toNatClampNeg).toInt64 <<< ((32 : Int32).toInt64 &&& 63)) ||| ((xs (x4 + 2).toNatClampNeg).toInt64 &&& 4294967295))) ((((xs (x4 + 3).toNatClampNeg).toInt64 <<< ((32 : Int32).toInt64 &&& 63)) ||| ((xs (x4 + 4).toNatClampNeg).toInt64 &&& 4294967295))) hR)) hP hD hS (lv_sub hl [0, 1, 2, 3, 4] rfl)
