set_option maxHeartbeats 4000000 in
set_option maxRecDepth 100000 in
theorem lk_15 {p : Program} {l : Launch} {e : Env} {s : State} {m : MethodId} {below : List Frame} {meth : Method} {c : Code} {H : Heap} {locs : List Loc} {cells slots : Nat} {Q : State → Prop} {ls : Array Slot} {D : va_G} {b L : Nat} {xs : Nat → Int32} {h0 b1 b2 m0 hd ln ot : Nat} {cH cZ cO : ClassId} {u : cs_St} {w : ms_St} {o : Nat → Int64} {x4 : Int32} (hl9 : l.stackTraces = false) (C : ck_C p s m meth c code ret 8 #[.ref b] "ControlDeskLaw" (fun q : Nat => s.heap.size ≤ q) D [(cH, .long), (cZ, .boolean), (cO, .long)]) (hX : va_X b L xs s s.heap) (hbl : b < s.heap.size) (hi : ∀ j : Int32, 1 ≤ j → j ≤ 6 → vp_in (x4 + j) L) (hc1 : cells + 1 ≤ 1036) (hc2 : slots + 6 ≤ 12367) (hR : rr_R u w) (hP : va_P D xw_Cl (wl h0 b1 b2 m0 hd ln ot cH cZ cO (u, w, o)) H) (hD : va_D (fun q : Nat => s.heap.size ≤ q) (wl h0 b1 b2 m0 hd ln ot cH cZ cO (u, w, o))) (hS : va_S (fun q : Nat => s.heap.size ≤ q) s.heap H locs) (hl : lv_has ls 8 [(0, .ref b), (1, .ref h0), (2, .ref m0), (3, .ref ot), (4, .int x4)])
    (next : ∀ (u' : cs_St) (w' : ms_St) (o' : Nat → Int64) (H1 : Heap) (locs1 : List Loc) (ls1 : Array Slot), rr_R u' w' → va_P D xw_Cl (wl h0 b1 b2 m0 hd ln ot cH cZ cO (u', w', o')) H1 → va_D (fun q : Nat => s.heap.size ≤ q) (wl h0 b1 b2 m0 hd ln ot cH cZ cO (u', w', o')) → va_S (fun q : Nat => s.heap.size ≤ q) s.heap H1 locs1 → lv_has ls1 8 [(0, .ref b), (1, .ref h0), (2, .ref m0), (3, .ref ot), (4, .int x4)] → W p l e room_1 s m #[.ref b] below meth c H1 locs1 (cells + 1) (slots + 6) Q (F0 m 893 ls1 [])) :
    W p l e room_1 s m #[.ref b] below meth c H locs cells slots Q (F0 m 838 ls []) := by
  have hx := C.1
  have hb := C.2.1
  have hown := C.2.2.2.2.1
  have hT := C.2.2.2.2.2.1
  have hK := C.2.2.2.2.2.2.2.1
  have hbA : ¬ (fun q : Nat => s.heap.size ≤ q) b := Nat.not_le.mpr hbl
  have hc1 : cells + 1 ≤ room_1.cells := hc1
  have hc2 : slots + 6 ≤ room_1.slots := hc2
  refine lv_aload_n hx hb dc_L_law_838 rfl (lv_at hl 1 rfl) ?_
  refine lv_aload_n hx hb dc_L_law_839 rfl (lv_at hl 0 rfl) ?_
  refine lv_iload hx hb dc_L_law_840 (lv_at hl 4 rfl) ?_
  refine lv_iconst (v := 1) hx hb dc_L_law_842 (by decide) ?_
  refine lv_iadd hx hb dc_L_law_843 ?_
  refine va_sld hx hb hX hbl hbA hS (hi 1 (by decide) (by decide)) dc_L_law_844 ?_
  refine lv_i2l hx hb dc_L_law_845 rfl ?_
  refine lv_bipush (v := 32) hx hb dc_L_law_846 (by decide) ?_
  refine lv_lshl hx hb dc_L_law_848 rfl ?_
  refine lv_aload_n hx hb dc_L_law_849 rfl (lv_at hl 0 rfl) ?_
  refine lv_iload hx hb dc_L_law_850 (lv_at hl 4 rfl) ?_
  refine lv_iconst (v := 2) hx hb dc_L_law_852 (by decide) ?_
  refine lv_iadd hx hb dc_L_law_853 ?_
  refine va_sld hx hb hX hbl hbA hS (hi 2 (by decide) (by decide)) dc_L_law_854 ?_
  refine lv_i2l hx hb dc_L_law_855 rfl ?_
  refine lv_ldc2 (v := 4294967295) hx hb hown (hT _ mw_315) dc_L_law_856 ?_
  refine lv_land hx hb dc_L_law_859 ?_
  refine lv_lor hx hb dc_L_law_860 ?_
  refine ck_gov (rest := []) C kl_X hP hD hS (ck_runV (q0 := 0) C kl_X (hK.sub [] rfl) (c_X_time l D [] h0 b1 b2 u ((((xs (x4 + 1).toNatClampNeg).toInt64 <<< ((32 : Int32).toInt64 &&& 63)) ||| ((xs (x4 + 2).toNatClampNeg).toInt64 &&& 4294967295))) _) (cl_X_time hT ⟨Nat.le_of_ble_eq_true rfl, Nat.le_of_ble_eq_true rfl⟩) rfl rfl hP hD hS rfl hl.1 rfl (Nat.le_of_ble_eq_true rfl) dc_L_law_861 ⟨by omega, by omega⟩) (fun z1 H locs ez1 hP hD hS => ?_)
  refine lv_aload_n hx hb dc_L_law_864 rfl (lv_at hl 2 rfl) ?_
  refine lv_aload_n hx hb dc_L_law_865 rfl (lv_at hl 0 rfl) ?_
  refine lv_iload hx hb dc_L_law_866 (lv_at hl 4 rfl) ?_
  refine lv_iconst (v := 1) hx hb dc_L_law_868 (by decide) ?_
  refine lv_iadd hx hb dc_L_law_869 ?_
  refine va_sld hx hb hX hbl hbA hS (hi 1 (by decide) (by decide)) dc_L_law_870 ?_
  refine lv_i2l hx hb dc_L_law_871 rfl ?_
  refine lv_bipush (v := 32) hx hb dc_L_law_872 (by decide) ?_
  refine lv_lshl hx hb dc_L_law_874 rfl ?_
  refine lv_aload_n hx hb dc_L_law_875 rfl (lv_at hl 0 rfl) ?_
  refine lv_iload hx hb dc_L_law_876 (lv_at hl 4 rfl) ?_
  refine lv_iconst (v := 2) hx hb dc_L_law_878 (by decide) ?_
  refine lv_iadd hx hb dc_L_law_879 ?_
  refine va_sld hx hb hX hbl hbA hS (hi 2 (by decide) (by decide)) dc_L_law_880 ?_
  refine lv_i2l hx hb dc_L_law_881 rfl ?_
  refine lv_ldc2 (v := 4294967295) hx hb hown (hT _ mw_315) dc_L_law_882 ?_
  refine lv_land hx hb dc_L_law_885 ?_
  refine lv_lor hx hb dc_L_law_886 ?_
  refine ck_gov (rest := []) C kl_M hP hD hS (ck_runV (q0 := 0) C kl_M (hK.sub [0, 1] rfl) (c_M_time l D m0 hd ln cH cZ w ((((xs (x4 + 1).toNatClampNeg).toInt64 <<< ((32 : Int32).toInt64 &&& 63)) ||| ((xs (x4 + 2).toNatClampNeg).toInt64 &&& 4294967295))) _) (cl_M_time hT ⟨Nat.le_of_ble_eq_true rfl, Nat.le_of_ble_eq_true rfl⟩) rfl rfl hP hD hS rfl hl.1 rfl (Nat.le_of_ble_eq_true rfl) dc_L_law_887 ⟨by omega, by omega⟩) (fun z2 H locs ez2 hP hD hS => ?_)
  refine lv_goto (tgt := 893) hx hb dc_L_law_890 (by decide) ?_
  refine W.widen (k := cells + 1) (n := slots + 6) (by omega) (by omega) ?_
  exact next z1 z2 o _ _ _ (by rw [ez1, ez2]; exact (pl_time ((((xs (x4 + 1).toNatClampNeg).toInt64 <<< ((32 : Int32).toInt64 &&& 63)) ||| ((xs (x4 + 2).toNatClampNeg).toInt64 &&& 4294967295))) hR)) hP hD hS (lv_sub hl [0, 1, 2, 3, 4] rfl)
