set_option maxHeartbeats 4000000 in
set_option maxRecDepth 100000 in
theorem lk_0 {p : Program} {l : Launch} {e : Env} {s : State} {m : MethodId} {below : List Frame} {meth : Method} {c : Code} {H : Heap} {locs : List Loc} {cells slots : Nat} {Q : State → Prop} {ls : Array Slot} {D : va_G} {b L : Nat} {xs : Nat → Int32} {h0 b1 b2 m0 hd ln ot : Nat} {cH cZ cO : ClassId} {u : cs_St} {w : ms_St} {o : Nat → Int64} {x4 : Int32} (hl9 : l.stackTraces = false) (C : ck_C p s m meth c code ret 8 #[.ref b] "ControlDeskLaw" (fun q : Nat => s.heap.size ≤ q) D [(cH, .long), (cZ, .boolean), (cO, .long)]) (hX : va_X b L xs s s.heap) (hbl : b < s.heap.size) (hi : ∀ j : Int32, 1 ≤ j → j ≤ 6 → vp_in (x4 + j) L) (hc1 : cells + 1 ≤ 1036) (hc2 : slots + 6 ≤ 12367) (hR : rr_R u w) (hP : va_P D xw_Cl (wl h0 b1 b2 m0 hd ln ot cH cZ cO (u, w, o)) H) (hD : va_D (fun q : Nat => s.heap.size ≤ q) (wl h0 b1 b2 m0 hd ln ot cH cZ cO (u, w, o))) (hS : va_S (fun q : Nat => s.heap.size ≤ q) s.heap H locs) (hl : lv_has ls 8 [(0, .ref b), (1, .ref h0), (2, .ref m0), (3, .ref ot), (4, .int x4)])
    (next : ∀ (u' : cs_St) (w' : ms_St) (o' : Nat → Int64) (H1 : Heap) (locs1 : List Loc) (ls1 : Array Slot), rr_R u' w' → va_P D xw_Cl (wl h0 b1 b2 m0 hd ln ot cH cZ cO (u', w', o')) H1 → va_D (fun q : Nat => s.heap.size ≤ q) (wl h0 b1 b2 m0 hd ln ot cH cZ cO (u', w', o')) → va_S (fun q : Nat => s.heap.size ≤ q) s.heap H1 locs1 → lv_has ls1 8 [(0, .ref b), (1, .ref h0), (2, .ref m0), (3, .ref ot), (4, .int x4)] → W p l e room_1 s m #[.ref b] below meth c H1 locs1 (cells + 1) (slots + 6) Q (F0 m 893 ls1 [])) :
    W p l e room_1 s m #[.ref b] below meth c H locs cells slots Q (F0 m 128 ls []) := by
  have hx := C.1
  have hb := C.2.1
  have hown := C.2.2.2.2.1
  have hT := C.2.2.2.2.2.1
  have hK := C.2.2.2.2.2.2.2.1
  have hbA : ¬ (fun q : Nat => s.heap.size ≤ q) b := Nat.not_le.mpr hbl
  have hc1 : cells + 1 ≤ room_1.cells := hc1
  have hc2 : slots + 6 ≤ room_1.slots := hc2
  refine lv_aload_n hx hb dc_L_law_128 rfl (lv_at hl 1 rfl) ?_
  refine ck_gpi (rest := []) C kl_X hP hD hS (ck_runV (q0 := 0) C kl_X (hK.sub [] rfl) (c_X_mode l D [] h0 b1 b2 u  _) (cl_X_mode hT ⟨Nat.le_of_ble_eq_true rfl, Nat.le_of_ble_eq_true rfl⟩) rfl rfl hP hD hS rfl hl.1 rfl (Nat.le_of_ble_eq_true rfl) dc_L_law_129 ⟨by omega, by omega⟩) (fun v1 H locs e1 hP hD hS => ?_)
  refine lv_aload_n hx hb dc_L_law_132 rfl (lv_at hl 2 rfl) ?_
  refine ck_goi (rest := [.int v1]) C kl_M hP hD hS (ck_runV (q0 := 0) C kl_M (hK.sub [0, 1] rfl) (c_M_mode l D m0 hd ln cH cZ w  _) (cl_M_mode hT ⟨Nat.le_of_ble_eq_true rfl, Nat.le_of_ble_eq_true rfl⟩) rfl rfl hP hD hS rfl hl.1 rfl (Nat.le_of_ble_eq_true rfl) dc_L_law_133 ⟨by omega, by omega⟩) (fun v2 z2 H locs e2 ez2 hP hD hS => ?_)
  refine lv_icmp_eq (tgt := 893) hx hb dc_L_law_136 (by decide) (fun c3 => ?_) (fun c3 => absurd (by rw [e1, e2]; exact (pl_mode hR).1) c3)
  refine W.widen (k := cells + 1) (n := slots + 6) (by omega) (by omega) ?_
  exact next u z2 o _ _ _ (by rw [ez2]; exact (pl_mode hR).2) hP hD hS (lv_sub hl [0, 1, 2, 3, 4] rfl)
set_option maxHeartbeats 4000000 in
set_option maxRecDepth 100000 in
theorem lk_1 {p : Program} {l : Launch} {e : Env} {s : State} {m : MethodId} {below : List Frame} {meth : Method} {c : Code} {H : Heap} {locs : List Loc} {cells slots : Nat} {Q : State → Prop} {ls : Array Slot} {D : va_G} {b L : Nat} {xs : Nat → Int32} {h0 b1 b2 m0 hd ln ot : Nat} {cH cZ cO : ClassId} {u : cs_St} {w : ms_St} {o : Nat → Int64} {x4 : Int32} (hl9 : l.stackTraces = false) (C : ck_C p s m meth c code ret 8 #[.ref b] "ControlDeskLaw" (fun q : Nat => s.heap.size ≤ q) D [(cH, .long), (cZ, .boolean), (cO, .long)]) (hX : va_X b L xs s s.heap) (hbl : b < s.heap.size) (hi : ∀ j : Int32, 1 ≤ j → j ≤ 6 → vp_in (x4 + j) L) (hc1 : cells + 1 ≤ 1036) (hc2 : slots + 6 ≤ 12367) (hR : rr_R u w) (hP : va_P D xw_Cl (wl h0 b1 b2 m0 hd ln ot cH cZ cO (u, w, o)) H) (hD : va_D (fun q : Nat => s.heap.size ≤ q) (wl h0 b1 b2 m0 hd ln ot cH cZ cO (u, w, o))) (hS : va_S (fun q : Nat => s.heap.size ≤ q) s.heap H locs) (hl : lv_has ls 8 [(0, .ref b), (1, .ref h0), (2, .ref m0), (3, .ref ot), (4, .int x4)])
    (next : ∀ (u' : cs_St) (w' : ms_St) (o' : Nat → Int64) (H1 : Heap) (locs1 : List Loc) (ls1 : Array Slot), rr_R u' w' → va_P D xw_Cl (wl h0 b1 b2 m0 hd ln ot cH cZ cO (u', w', o')) H1 → va_D (fun q : Nat => s.heap.size ≤ q) (wl h0 b1 b2 m0 hd ln ot cH cZ cO (u', w', o')) → va_S (fun q : Nat => s.heap.size ≤ q) s.heap H1 locs1 → lv_has ls1 8 [(0, .ref b), (1, .ref h0), (2, .ref m0), (3, .ref ot), (4, .int x4)] → W p l e room_1 s m #[.ref b] below meth c H1 locs1 (cells + 1) (slots + 6) Q (F0 m 893 ls1 [])) :
    W p l e room_1 s m #[.ref b] below meth c H locs cells slots Q (F0 m 141 ls []) := by
  have hx := C.1
  have hb := C.2.1
  have hown := C.2.2.2.2.1
  have hT := C.2.2.2.2.2.1
  have hK := C.2.2.2.2.2.2.2.1
  have hbA : ¬ (fun q : Nat => s.heap.size ≤ q) b := Nat.not_le.mpr hbl
  have hc1 : cells + 1 ≤ room_1.cells := hc1
  have hc2 : slots + 6 ≤ room_1.slots := hc2
  refine lv_aload_n hx hb dc_L_law_141 rfl (lv_at hl 1 rfl) ?_
  refine ck_gpi (rest := []) C kl_X hP hD hS (ck_runV (q0 := 0) C kl_X (hK.sub [] rfl) (c_X_dataMode l D [] h0 b1 b2 u  _) (cl_X_dataMode hT ⟨Nat.le_of_ble_eq_true rfl, Nat.le_of_ble_eq_true rfl⟩) rfl rfl hP hD hS rfl hl.1 rfl (Nat.le_of_ble_eq_true rfl) dc_L_law_142 ⟨by omega, by omega⟩) (fun v1 H locs e1 hP hD hS => ?_)
  refine lv_aload_n hx hb dc_L_law_145 rfl (lv_at hl 2 rfl) ?_
  refine ck_goi (rest := [.int v1]) C kl_M hP hD hS (ck_runV (q0 := 0) C kl_M (hK.sub [0, 1] rfl) (c_M_dataMode l D m0 hd ln cH cZ w  _) (cl_M_dataMode hT ⟨Nat.le_of_ble_eq_true rfl, Nat.le_of_ble_eq_true rfl⟩) rfl rfl hP hD hS rfl hl.1 rfl (Nat.le_of_ble_eq_true rfl) dc_L_law_146 ⟨by omega, by omega⟩) (fun v2 z2 H locs e2 ez2 hP hD hS => ?_)
  refine lv_icmp_eq (tgt := 893) hx hb dc_L_law_149 (by decide) (fun c3 => ?_) (fun c3 => absurd (by rw [e1, e2]; exact (pl_dataMode hR).1) c3)
  refine W.widen (k := cells + 1) (n := slots + 6) (by omega) (by omega) ?_
  exact next u z2 o _ _ _ (by rw [ez2]; exact (pl_dataMode hR).2) hP hD hS (lv_sub hl [0, 1, 2, 3, 4] rfl)
set_option maxHeartbeats 4000000 in
set_option maxRecDepth 100000 in
theorem lk_2 {p : Program} {l : Launch} {e : Env} {s : State} {m : MethodId} {below : List Frame} {meth : Method} {c : Code} {H : Heap} {locs : List Loc} {cells slots : Nat} {Q : State → Prop} {ls : Array Slot} {D : va_G} {b L : Nat} {xs : Nat → Int32} {h0 b1 b2 m0 hd ln ot : Nat} {cH cZ cO : ClassId} {u : cs_St} {w : ms_St} {o : Nat → Int64} {x4 : Int32} (hl9 : l.stackTraces = false) (C : ck_C p s m meth c code ret 8 #[.ref b] "ControlDeskLaw" (fun q : Nat => s.heap.size ≤ q) D [(cH, .long), (cZ, .boolean), (cO, .long)]) (hX : va_X b L xs s s.heap) (hbl : b < s.heap.size) (hi : ∀ j : Int32, 1 ≤ j → j ≤ 6 → vp_in (x4 + j) L) (hc1 : cells + 1 ≤ 1036) (hc2 : slots + 6 ≤ 12367) (hR : rr_R u w) (hP : va_P D xw_Cl (wl h0 b1 b2 m0 hd ln ot cH cZ cO (u, w, o)) H) (hD : va_D (fun q : Nat => s.heap.size ≤ q) (wl h0 b1 b2 m0 hd ln ot cH cZ cO (u, w, o))) (hS : va_S (fun q : Nat => s.heap.size ≤ q) s.heap H locs) (hl : lv_has ls 8 [(0, .ref b), (1, .ref h0), (2, .ref m0), (3, .ref ot), (4, .int x4)])
    (next : ∀ (u' : cs_St) (w' : ms_St) (o' : Nat → Int64) (H1 : Heap) (locs1 : List Loc) (ls1 : Array Slot), rr_R u' w' → va_P D xw_Cl (wl h0 b1 b2 m0 hd ln ot cH cZ cO (u', w', o')) H1 → va_D (fun q : Nat => s.heap.size ≤ q) (wl h0 b1 b2 m0 hd ln ot cH cZ cO (u', w', o')) → va_S (fun q : Nat => s.heap.size ≤ q) s.heap H1 locs1 → lv_has ls1 8 [(0, .ref b), (1, .ref h0), (2, .ref m0), (3, .ref ot), (4, .int x4)] → W p l e room_1 s m #[.ref b] below meth c H1 locs1 (cells + 1) (slots + 6) Q (F0 m 893 ls1 [])) :
    W p l e room_1 s m #[.ref b] below meth c H locs cells slots Q (F0 m 154 ls []) := by
  have hx := C.1
  have hb := C.2.1
  have hown := C.2.2.2.2.1
  have hT := C.2.2.2.2.2.1
  have hK := C.2.2.2.2.2.2.2.1
  have hbA : ¬ (fun q : Nat => s.heap.size ≤ q) b := Nat.not_le.mpr hbl
  have hc1 : cells + 1 ≤ room_1.cells := hc1
  have hc2 : slots + 6 ≤ room_1.slots := hc2
  refine lv_aload_n hx hb dc_L_law_154 rfl (lv_at hl 1 rfl) ?_
  refine lv_aload_n hx hb dc_L_law_155 rfl (lv_at hl 0 rfl) ?_
  refine lv_iload hx hb dc_L_law_156 (lv_at hl 4 rfl) ?_
  refine lv_iconst (v := 1) hx hb dc_L_law_158 (by decide) ?_
  refine lv_iadd hx hb dc_L_law_159 ?_
  refine va_sld hx hb hX hbl hbA hS (hi 1 (by decide) (by decide)) dc_L_law_160 ?_
  refine lv_aload_n hx hb dc_L_law_161 rfl (lv_at hl 0 rfl) ?_
  refine lv_iload hx hb dc_L_law_162 (lv_at hl 4 rfl) ?_
  refine lv_iconst (v := 2) hx hb dc_L_law_164 (by decide) ?_
  refine lv_iadd hx hb dc_L_law_165 ?_
  refine va_sld hx hb hX hbl hbA hS (hi 2 (by decide) (by decide)) dc_L_law_166 ?_
  refine lv_aload_n hx hb dc_L_law_167 rfl (lv_at hl 0 rfl) ?_
  refine lv_iload hx hb dc_L_law_168 (lv_at hl 4 rfl) ?_
  refine lv_iconst (v := 3) hx hb dc_L_law_170 (by decide) ?_
  refine lv_iadd hx hb dc_L_law_171 ?_
  refine va_sld hx hb hX hbl hbA hS (hi 3 (by decide) (by decide)) dc_L_law_172 ?_
  refine lv_if_eq (tgt := 180) hx hb dc_L_law_173 (by decide) (fun c1 => ?_) (fun c1 => ?_)
  · refine lv_iconst (v := 0) hx hb dc_L_law_180 (by decide) ?_
    refine lv_aload_n hx hb dc_L_law_181 rfl (lv_at hl 0 rfl) ?_
    refine lv_iload hx hb dc_L_law_182 (lv_at hl 4 rfl) ?_
    refine lv_iconst (v := 4) hx hb dc_L_law_184 (by decide) ?_
    refine lv_iadd hx hb dc_L_law_185 ?_
    refine va_sld hx hb hX hbl hbA hS (hi 4 (by decide) (by decide)) dc_L_law_186 ?_
    refine lv_i2l hx hb dc_L_law_187 rfl ?_
    refine lv_bipush (v := 32) hx hb dc_L_law_188 (by decide) ?_
    refine lv_lshl hx hb dc_L_law_190 rfl ?_
    refine lv_aload_n hx hb dc_L_law_191 rfl (lv_at hl 0 rfl) ?_
    refine lv_iload hx hb dc_L_law_192 (lv_at hl 4 rfl) ?_
    refine lv_iconst (v := 5) hx hb dc_L_law_194 (by decide) ?_
    refine lv_iadd hx hb dc_L_law_195 ?_
    refine va_sld hx hb hX hbl hbA hS (hi 5 (by decide) (by decide)) dc_L_law_196 ?_
    refine lv_i2l hx hb dc_L_law_197 rfl ?_
    refine lv_ldc2 (v := 4294967295) hx hb hown (hT _ mw_315) dc_L_law_198 ?_
    refine lv_land hx hb dc_L_law_201 ?_
    refine lv_lor hx hb dc_L_law_202 ?_
    refine lv_aload_n hx hb dc_L_law_203 rfl (lv_at hl 3 rfl) ?_
    by_cases hg : ¬ (xs (x4 + 1).toNatClampNeg) < 0 ∧ (xs (x4 + 1).toNatClampNeg) ≤ 4095 ∧ ¬ (xs (x4 + 2).toNatClampNeg) < 1 ∧ (xs (x4 + 2).toNatClampNeg) ≤ 3
    · refine ck_goi (rest := []) C kl_O hP hD hS (ck_runSW C kl_O (hK.sub [2] rfl) (c_L_access l D h0 b1 b2 ot cO u o ((xs (x4 + 1).toNatClampNeg)) ((xs (x4 + 2).toNatClampNeg)) (0) ((((xs (x4 + 4).toNatClampNeg).toInt64 <<< ((32 : Int32).toInt64 &&& 63)) ||| ((xs (x4 + 5).toNatClampNeg).toInt64 &&& 4294967295))) hg.1 hg.2.1 hg.2.2.1 hg.2.2.2 _) (cl_L_access hT) hP hD hS rfl hl.1 rfl (Nat.le_of_ble_eq_true rfl) dc_L_law_204 ⟨by omega, by omega⟩) (fun v2 z2 H locs e2 ez2 hP hD hS => ?_)
      refine lv_istore (lv' := [(5, .int v2), (0, .ref b), (1, .ref h0), (2, .ref m0), (3, .ref ot), (4, .int x4)]) hx hb dc_L_law_207 hl (by decide) rfl (fun ls hl => ?_)
      refine lv_aload_n hx hb dc_L_law_209 rfl (lv_at hl 3 rfl) ?_
      refine lv_aload_n hx hb dc_L_law_210 rfl (lv_at hl 1 rfl) ?_
      refine lv_iload hx hb dc_L_law_211 (lv_at hl 5 rfl) ?_
      refine lv_iconst (v := 1) hx hb dc_L_law_213 (by decide) ?_
      refine lv_iadd hx hb dc_L_law_214 ?_
      refine va_sld hx hb hX hbl hbA hS (hi 1 (by decide) (by decide)) dc_L_law_215 ?_
      refine lv_aload_n hx hb dc_L_law_216 rfl (lv_at hl 1 rfl) ?_
      refine lv_iload hx hb dc_L_law_217 (lv_at hl 5 rfl) ?_
      refine lv_iconst (v := 2) hx hb dc_L_law_219 (by decide) ?_
      refine lv_iadd hx hb dc_L_law_220 ?_
      refine va_sld hx hb hX hbl hbA hS (hi 2 (by decide) (by decide)) dc_L_law_221 ?_
      refine lv_aload_n hx hb dc_L_law_222 rfl (lv_at hl 1 rfl) ?_
      refine lv_iload hx hb dc_L_law_223 (lv_at hl 5 rfl) ?_
      refine lv_iconst (v := 3) hx hb dc_L_law_225 (by decide) ?_
      refine lv_iadd hx hb dc_L_law_226 ?_
      refine va_sld hx hb hX hbl hbA hS (hi 3 (by decide) (by decide)) dc_L_law_227 ?_
      refine lv_if_eq (tgt := 235) hx hb dc_L_law_228 (by decide) (fun c3 => ?_) (fun c3 => absurd c1 c3)
      refine lv_iconst (v := 0) hx hb dc_L_law_235 (by decide) ?_
      refine lv_aload_n hx hb dc_L_law_236 rfl (lv_at hl 1 rfl) ?_
      refine lv_iload hx hb dc_L_law_237 (lv_at hl 5 rfl) ?_
      refine lv_iconst (v := 4) hx hb dc_L_law_239 (by decide) ?_
      refine lv_iadd hx hb dc_L_law_240 ?_
      refine va_sld hx hb hX hbl hbA hS (hi 4 (by decide) (by decide)) dc_L_law_241 ?_
      refine lv_i2l hx hb dc_L_law_242 rfl ?_
      refine lv_bipush (v := 32) hx hb dc_L_law_243 (by decide) ?_
      refine lv_lshl hx hb dc_L_law_245 rfl ?_
      refine lv_aload_n hx hb dc_L_law_246 rfl (lv_at hl 1 rfl) ?_
      refine lv_iload hx hb dc_L_law_247 (lv_at hl 5 rfl) ?_
      refine lv_iconst (v := 5) hx hb dc_L_law_249 (by decide) ?_
      refine lv_iadd hx hb dc_L_law_250 ?_
      refine va_sld hx hb hX hbl hbA hS (hi 5 (by decide) (by decide)) dc_L_law_251 ?_
      refine lv_i2l hx hb dc_L_law_252 rfl ?_
      refine lv_ldc2 (v := 4294967295) hx hb hown (hT _ mw_315) dc_L_law_253 ?_
      refine lv_land hx hb dc_L_law_256 ?_
      refine lv_lor hx hb dc_L_law_257 ?_
      refine ck_goi (rest := []) C kl_M hP hD hS (ck_runV (q0 := 0) C kl_M (hK.sub [0, 1] rfl) (c_M_access l D m0 hd ln cH cZ w ((xs (x4 + 1).toNatClampNeg)) ((xs (x4 + 2).toNatClampNeg)) (0) ((((xs (x4 + 4).toNatClampNeg).toInt64 <<< ((32 : Int32).toInt64 &&& 63)) ||| ((xs (x4 + 5).toNatClampNeg).toInt64 &&& 4294967295))) _) (cl_M_access hT ⟨Nat.le_of_ble_eq_true rfl, Nat.le_of_ble_eq_true rfl⟩) rfl rfl hP hD hS rfl hl.1 rfl (Nat.le_of_ble_eq_true rfl) dc_L_law_258 ⟨by omega, by omega⟩) (fun v4 z4 H locs e4 ez4 hP hD hS => ?_)
      refine lv_istore (lv' := [(6, .int v4), (5, .int v2), (0, .ref b), (1, .ref h0), (2, .ref m0), (3, .ref ot), (4, .int x4)]) hx hb dc_L_law_261 hl (by decide) rfl (fun ls hl => ?_)
      refine lv_aload_n hx hb dc_L_law_263 rfl (lv_at hl 4 rfl) ?_
      refine ck_gpi (rest := []) C kl_M hP hD hS (ck_runV (q0 := 0) C kl_M (hK.sub [0, 1] rfl) (c_M_thrown l D m0 hd ln cH cZ z4  _) (cl_M_thrown hT ⟨Nat.le_of_ble_eq_true rfl, Nat.le_of_ble_eq_true rfl⟩) rfl rfl hP hD hS rfl hl.1 rfl (Nat.le_of_ble_eq_true rfl) dc_L_law_264 ⟨by omega, by omega⟩) (fun v5 H locs e5 hP hD hS => ?_)
      refine lv_iload hx hb dc_L_law_267 (lv_at hl 1 rfl) ?_
      refine lv_icmp_eq (tgt := 274) hx hb dc_L_law_269 (by decide) (fun c6 => ?_) (fun c6 => absurd (by rw [e5, ez4, e2]; exact (pl_access ((xs (x4 + 1).toNatClampNeg)) ((xs (x4 + 2).toNatClampNeg)) (0) ((((xs (x4 + 4).toNatClampNeg).toInt64 <<< ((32 : Int32).toInt64 &&& 63)) ||| ((xs (x4 + 5).toNatClampNeg).toInt64 &&& 4294967295))) hg.1 hg.2.1 hg.2.2.1 hg.2.2.2 hR).1) c6)
      refine lv_iload hx hb dc_L_law_274 (lv_at hl 1 rfl) ?_
      refine lv_if_ne (tgt := 291) hx hb dc_L_law_276 (by decide) (fun c7 => absurd e2 c7) (fun c7 => ?_)
      refine lv_aload_n hx hb dc_L_law_279 rfl (lv_at hl 5 rfl) ?_
      refine lv_iconst (v := 0) hx hb dc_L_law_280 (by decide) ?_
      refine va_lald (f := z2.2) hx hb hK hP 6 2 rfl rfl (by unfold vp_in; decide) dc_L_law_281 ?_
      refine lv_topl (fun v8 e8 => ?_)
      refine lv_iload hx hb dc_L_law_282 (lv_at hl 0 rfl) ?_
      refine lv_i2l hx hb dc_L_law_284 rfl ?_
      refine W.lcmp hx hb dc_L_law_285 ?_
      refine lv_if_eq (tgt := 291) hx hb dc_L_law_286 (by decide) (fun c9 => ?_) (fun c9 => absurd (by rw [lg_cmp_eq, e8, ez2, e4]; show vp_updL o (0 : Int32).toNatClampNeg _ (0 : Int32).toNatClampNeg = _; rw [pk_uLs]; exact (pl_access ((xs (x4 + 1).toNatClampNeg)) ((xs (x4 + 2).toNatClampNeg)) (0) ((((xs (x4 + 4).toNatClampNeg).toInt64 <<< ((32 : Int32).toInt64 &&& 63)) ||| ((xs (x4 + 5).toNatClampNeg).toInt64 &&& 4294967295))) hg.1 hg.2.1 hg.2.2.1 hg.2.2.2 hR).2.1) c9)
      refine lv_goto (tgt := 893) hx hb dc_L_law_291 (by decide) ?_
      refine W.widen (k := cells + 1) (n := slots + 6) (by omega) (by omega) ?_
      exact next z2.1 z4 z2.2 _ _ _ (by rw [ez2, ez4]; exact (pl_access ((xs (x4 + 1).toNatClampNeg)) ((xs (x4 + 2).toNatClampNeg)) (0) ((((xs (x4 + 4).toNatClampNeg).toInt64 <<< ((32 : Int32).toInt64 &&& 63)) ||| ((xs (x4 + 5).toNatClampNeg).toInt64 &&& 4294967295))) hg.1 hg.2.1 hg.2.2.1 hg.2.2.2 hR).2.2) hP hD hS (lv_sub hl [2, 3, 4, 5, 6] rfl)
    · replace hg := pb_access hg
      refine ck_goi (rest := []) C kl_O hP hD hS (ck_runSW C kl_O (hK.sub [2] rfl) (cy_L_access l hl9 D h0 b1 b2 ot cO u o ((xs (x4 + 1).toNatClampNeg)) ((xs (x4 + 2).toNatClampNeg)) (0) ((((xs (x4 + 4).toNatClampNeg).toInt64 <<< ((32 : Int32).toInt64 &&& 63)) ||| ((xs (x4 + 5).toNatClampNeg).toInt64 &&& 4294967295))) hg _) (cq_L_access hT) hP hD hS rfl hl.1 rfl (Nat.le_of_ble_eq_true rfl) dc_L_law_204 ⟨by omega, by omega⟩) (fun v2 z2 H locs e2 ez2 hP hD hS => ?_)
      refine lv_istore (lv' := [(5, .int v2), (0, .ref b), (1, .ref h0), (2, .ref m0), (3, .ref ot), (4, .int x4)]) hx hb dc_L_law_207 hl (by decide) rfl (fun ls hl => ?_)
      refine lv_aload_n hx hb dc_L_law_209 rfl (lv_at hl 3 rfl) ?_
      refine lv_aload_n hx hb dc_L_law_210 rfl (lv_at hl 1 rfl) ?_
      refine lv_iload hx hb dc_L_law_211 (lv_at hl 5 rfl) ?_
      refine lv_iconst (v := 1) hx hb dc_L_law_213 (by decide) ?_
      refine lv_iadd hx hb dc_L_law_214 ?_
      refine va_sld hx hb hX hbl hbA hS (hi 1 (by decide) (by decide)) dc_L_law_215 ?_
      refine lv_aload_n hx hb dc_L_law_216 rfl (lv_at hl 1 rfl) ?_
      refine lv_iload hx hb dc_L_law_217 (lv_at hl 5 rfl) ?_
      refine lv_iconst (v := 2) hx hb dc_L_law_219 (by decide) ?_
      refine lv_iadd hx hb dc_L_law_220 ?_
      refine va_sld hx hb hX hbl hbA hS (hi 2 (by decide) (by decide)) dc_L_law_221 ?_
      refine lv_aload_n hx hb dc_L_law_222 rfl (lv_at hl 1 rfl) ?_
      refine lv_iload hx hb dc_L_law_223 (lv_at hl 5 rfl) ?_
      refine lv_iconst (v := 3) hx hb dc_L_law_225 (by decide) ?_
      refine lv_iadd hx hb dc_L_law_226 ?_
      refine va_sld hx hb hX hbl hbA hS (hi 3 (by decide) (by decide)) dc_L_law_227 ?_
      refine lv_if_eq (tgt := 235) hx hb dc_L_law_228 (by decide) (fun c10 => ?_) (fun c10 => absurd c1 c10)
      refine lv_iconst (v := 0) hx hb dc_L_law_235 (by decide) ?_
      refine lv_aload_n hx hb dc_L_law_236 rfl (lv_at hl 1 rfl) ?_
      refine lv_iload hx hb dc_L_law_237 (lv_at hl 5 rfl) ?_
      refine lv_iconst (v := 4) hx hb dc_L_law_239 (by decide) ?_
      refine lv_iadd hx hb dc_L_law_240 ?_
      refine va_sld hx hb hX hbl hbA hS (hi 4 (by decide) (by decide)) dc_L_law_241 ?_
      refine lv_i2l hx hb dc_L_law_242 rfl ?_
      refine lv_bipush (v := 32) hx hb dc_L_law_243 (by decide) ?_
      refine lv_lshl hx hb dc_L_law_245 rfl ?_
      refine lv_aload_n hx hb dc_L_law_246 rfl (lv_at hl 1 rfl) ?_
      refine lv_iload hx hb dc_L_law_247 (lv_at hl 5 rfl) ?_
      refine lv_iconst (v := 5) hx hb dc_L_law_249 (by decide) ?_
      refine lv_iadd hx hb dc_L_law_250 ?_
      refine va_sld hx hb hX hbl hbA hS (hi 5 (by decide) (by decide)) dc_L_law_251 ?_
      refine lv_i2l hx hb dc_L_law_252 rfl ?_
      refine lv_ldc2 (v := 4294967295) hx hb hown (hT _ mw_315) dc_L_law_253 ?_
      refine lv_land hx hb dc_L_law_256 ?_
      refine lv_lor hx hb dc_L_law_257 ?_
      refine ck_goi (rest := []) C kl_M hP hD hS (ck_runV (q0 := 0) C kl_M (hK.sub [0, 1] rfl) (c_M_access l D m0 hd ln cH cZ w ((xs (x4 + 1).toNatClampNeg)) ((xs (x4 + 2).toNatClampNeg)) (0) ((((xs (x4 + 4).toNatClampNeg).toInt64 <<< ((32 : Int32).toInt64 &&& 63)) ||| ((xs (x4 + 5).toNatClampNeg).toInt64 &&& 4294967295))) _) (cl_M_access hT ⟨Nat.le_of_ble_eq_true rfl, Nat.le_of_ble_eq_true rfl⟩) rfl rfl hP hD hS rfl hl.1 rfl (Nat.le_of_ble_eq_true rfl) dc_L_law_258 ⟨by omega, by omega⟩) (fun v11 z11 H locs e11 ez11 hP hD hS => ?_)
      refine lv_istore (lv' := [(6, .int v11), (5, .int v2), (0, .ref b), (1, .ref h0), (2, .ref m0), (3, .ref ot), (4, .int x4)]) hx hb dc_L_law_261 hl (by decide) rfl (fun ls hl => ?_)
      refine lv_aload_n hx hb dc_L_law_263 rfl (lv_at hl 4 rfl) ?_
      refine ck_gpi (rest := []) C kl_M hP hD hS (ck_runV (q0 := 0) C kl_M (hK.sub [0, 1] rfl) (c_M_thrown l D m0 hd ln cH cZ z11  _) (cl_M_thrown hT ⟨Nat.le_of_ble_eq_true rfl, Nat.le_of_ble_eq_true rfl⟩) rfl rfl hP hD hS rfl hl.1 rfl (Nat.le_of_ble_eq_true rfl) dc_L_law_264 ⟨by omega, by omega⟩) (fun v12 H locs e12 hP hD hS => ?_)
      refine lv_iload hx hb dc_L_law_267 (lv_at hl 1 rfl) ?_
      refine lv_icmp_eq (tgt := 274) hx hb dc_L_law_269 (by decide) (fun c13 => ?_) (fun c13 => absurd (by rw [e12, ez11, e2]; exact (px_access ((xs (x4 + 1).toNatClampNeg)) ((xs (x4 + 2).toNatClampNeg)) (0) ((((xs (x4 + 4).toNatClampNeg).toInt64 <<< ((32 : Int32).toInt64 &&& 63)) ||| ((xs (x4 + 5).toNatClampNeg).toInt64 &&& 4294967295))) hg hR).1) c13)
      refine lv_iload hx hb dc_L_law_274 (lv_at hl 1 rfl) ?_
      refine lv_if_ne (tgt := 291) hx hb dc_L_law_276 (by decide) (fun c14 => ?_) (fun c14 => absurd (e2.symm.trans c14) (by decide))
      refine lv_goto (tgt := 893) hx hb dc_L_law_291 (by decide) ?_
      refine W.widen (k := cells + 1) (n := slots + 6) (by omega) (by omega) ?_
      exact next z2.1 z11 z2.2 _ _ _ (by rw [ez2, ez11]; exact (px_access ((xs (x4 + 1).toNatClampNeg)) ((xs (x4 + 2).toNatClampNeg)) (0) ((((xs (x4 + 4).toNatClampNeg).toInt64 <<< ((32 : Int32).toInt64 &&& 63)) ||| ((xs (x4 + 5).toNatClampNeg).toInt64 &&& 4294967295))) hg hR).2) hP hD hS (lv_sub hl [2, 3, 4, 5, 6] rfl)
  · refine lv_iconst (v := 1) hx hb dc_L_law_176 (by decide) ?_
    refine lv_goto (tgt := 181) hx hb dc_L_law_177 (by decide) ?_
    refine lv_aload_n hx hb dc_L_law_181 rfl (lv_at hl 0 rfl) ?_
    refine lv_iload hx hb dc_L_law_182 (lv_at hl 4 rfl) ?_
    refine lv_iconst (v := 4) hx hb dc_L_law_184 (by decide) ?_
    refine lv_iadd hx hb dc_L_law_185 ?_
    refine va_sld hx hb hX hbl hbA hS (hi 4 (by decide) (by decide)) dc_L_law_186 ?_
    refine lv_i2l hx hb dc_L_law_187 rfl ?_
    refine lv_bipush (v := 32) hx hb dc_L_law_188 (by decide) ?_
    refine lv_lshl hx hb dc_L_law_190 rfl ?_
    refine lv_aload_n hx hb dc_L_law_191 rfl (lv_at hl 0 rfl) ?_
    refine lv_iload hx hb dc_L_law_192 (lv_at hl 4 rfl) ?_
    refine lv_iconst (v := 5) hx hb dc_L_law_194 (by decide) ?_
    refine lv_iadd hx hb dc_L_law_195 ?_
    refine va_sld hx hb hX hbl hbA hS (hi 5 (by decide) (by decide)) dc_L_law_196 ?_
    refine lv_i2l hx hb dc_L_law_197 rfl ?_
    refine lv_ldc2 (v := 4294967295) hx hb hown (hT _ mw_315) dc_L_law_198 ?_
    refine lv_land hx hb dc_L_law_201 ?_
    refine lv_lor hx hb dc_L_law_202 ?_
    refine lv_aload_n hx hb dc_L_law_203 rfl (lv_at hl 3 rfl) ?_
    by_cases hg : ¬ (xs (x4 + 1).toNatClampNeg) < 0 ∧ (xs (x4 + 1).toNatClampNeg) ≤ 4095 ∧ ¬ (xs (x4 + 2).toNatClampNeg) < 1 ∧ (xs (x4 + 2).toNatClampNeg) ≤ 3
    · refine ck_goi (rest := []) C kl_O hP hD hS (ck_runSW C kl_O (hK.sub [2] rfl) (c_L_access l D h0 b1 b2 ot cO u o ((xs (x4 + 1).toNatClampNeg)) ((xs (x4 + 2).toNatClampNeg)) (1) ((((xs (x4 + 4).toNatClampNeg).toInt64 <<< ((32 : Int32).toInt64 &&& 63)) ||| ((xs (x4 + 5).toNatClampNeg).toInt64 &&& 4294967295))) hg.1 hg.2.1 hg.2.2.1 hg.2.2.2 _) (cl_L_access hT) hP hD hS rfl hl.1 rfl (Nat.le_of_ble_eq_true rfl) dc_L_law_204 ⟨by omega, by omega⟩) (fun v15 z15 H locs e15 ez15 hP hD hS => ?_)
      refine lv_istore (lv' := [(5, .int v15), (0, .ref b), (1, .ref h0), (2, .ref m0), (3, .ref ot), (4, .int x4)]) hx hb dc_L_law_207 hl (by decide) rfl (fun ls hl => ?_)
      refine lv_aload_n hx hb dc_L_law_209 rfl (lv_at hl 3 rfl) ?_
      refine lv_aload_n hx hb dc_L_law_210 rfl (lv_at hl 1 rfl) ?_
      refine lv_iload hx hb dc_L_law_211 (lv_at hl 5 rfl) ?_
      refine lv_iconst (v := 1) hx hb dc_L_law_213 (by decide) ?_
      refine lv_iadd hx hb dc_L_law_214 ?_
      refine va_sld hx hb hX hbl hbA hS (hi 1 (by decide) (by decide)) dc_L_law_215 ?_
      refine lv_aload_n hx hb dc_L_law_216 rfl (lv_at hl 1 rfl) ?_
      refine lv_iload hx hb dc_L_law_217 (lv_at hl 5 rfl) ?_
      refine lv_iconst (v := 2) hx hb dc_L_law_219 (by decide) ?_
      refine lv_iadd hx hb dc_L_law_220 ?_
      refine va_sld hx hb hX hbl hbA hS (hi 2 (by decide) (by decide)) dc_L_law_221 ?_
      refine lv_aload_n hx hb dc_L_law_222 rfl (lv_at hl 1 rfl) ?_
      refine lv_iload hx hb dc_L_law_223 (lv_at hl 5 rfl) ?_
      refine lv_iconst (v := 3) hx hb dc_L_law_225 (by decide) ?_
      refine lv_iadd hx hb dc_L_law_226 ?_
      refine va_sld hx hb hX hbl hbA hS (hi 3 (by decide) (by decide)) dc_L_law_227 ?_
      refine lv_if_eq (tgt := 235) hx hb dc_L_law_228 (by decide) (fun c16 => absurd c16 c1) (fun c16 => ?_)
      refine lv_iconst (v := 1) hx hb dc_L_law_231 (by decide) ?_
      refine lv_goto (tgt := 236) hx hb dc_L_law_232 (by decide) ?_
      refine lv_aload_n hx hb dc_L_law_236 rfl (lv_at hl 1 rfl) ?_
      refine lv_iload hx hb dc_L_law_237 (lv_at hl 5 rfl) ?_
      refine lv_iconst (v := 4) hx hb dc_L_law_239 (by decide) ?_
      refine lv_iadd hx hb dc_L_law_240 ?_
      refine va_sld hx hb hX hbl hbA hS (hi 4 (by decide) (by decide)) dc_L_law_241 ?_
      refine lv_i2l hx hb dc_L_law_242 rfl ?_
      refine lv_bipush (v := 32) hx hb dc_L_law_243 (by decide) ?_
      refine lv_lshl hx hb dc_L_law_245 rfl ?_
      refine lv_aload_n hx hb dc_L_law_246 rfl (lv_at hl 1 rfl) ?_
      refine lv_iload hx hb dc_L_law_247 (lv_at hl 5 rfl) ?_
      refine lv_iconst (v := 5) hx hb dc_L_law_249 (by decide) ?_
      refine lv_iadd hx hb dc_L_law_250 ?_
      refine va_sld hx hb hX hbl hbA hS (hi 5 (by decide) (by decide)) dc_L_law_251 ?_
      refine lv_i2l hx hb dc_L_law_252 rfl ?_
      refine lv_ldc2 (v := 4294967295) hx hb hown (hT _ mw_315) dc_L_law_253 ?_
      refine lv_land hx hb dc_L_law_256 ?_
      refine lv_lor hx hb dc_L_law_257 ?_
      refine ck_goi (rest := []) C kl_M hP hD hS (ck_runV (q0 := 0) C kl_M (hK.sub [0, 1] rfl) (c_M_access l D m0 hd ln cH cZ w ((xs (x4 + 1).toNatClampNeg)) ((xs (x4 + 2).toNatClampNeg)) (1) ((((xs (x4 + 4).toNatClampNeg).toInt64 <<< ((32 : Int32).toInt64 &&& 63)) ||| ((xs (x4 + 5).toNatClampNeg).toInt64 &&& 4294967295))) _) (cl_M_access hT ⟨Nat.le_of_ble_eq_true rfl, Nat.le_of_ble_eq_true rfl⟩) rfl rfl hP hD hS rfl hl.1 rfl (Nat.le_of_ble_eq_true rfl) dc_L_law_258 ⟨by omega, by omega⟩) (fun v17 z17 H locs e17 ez17 hP hD hS => ?_)
      refine lv_istore (lv' := [(6, .int v17), (5, .int v15), (0, .ref b), (1, .ref h0), (2, .ref m0), (3, .ref ot), (4, .int x4)]) hx hb dc_L_law_261 hl (by decide) rfl (fun ls hl => ?_)
      refine lv_aload_n hx hb dc_L_law_263 rfl (lv_at hl 4 rfl) ?_
      refine ck_gpi (rest := []) C kl_M hP hD hS (ck_runV (q0 := 0) C kl_M (hK.sub [0, 1] rfl) (c_M_thrown l D m0 hd ln cH cZ z17  _) (cl_M_thrown hT ⟨Nat.le_of_ble_eq_true rfl, Nat.le_of_ble_eq_true rfl⟩) rfl rfl hP hD hS rfl hl.1 rfl (Nat.le_of_ble_eq_true rfl) dc_L_law_264 ⟨by omega, by omega⟩) (fun v18 H locs e18 hP hD hS => ?_)
      refine lv_iload hx hb dc_L_law_267 (lv_at hl 1 rfl) ?_
      refine lv_icmp_eq (tgt := 274) hx hb dc_L_law_269 (by decide) (fun c19 => ?_) (fun c19 => absurd (by rw [e18, ez17, e15]; exact (pl_access ((xs (x4 + 1).toNatClampNeg)) ((xs (x4 + 2).toNatClampNeg)) (1) ((((xs (x4 + 4).toNatClampNeg).toInt64 <<< ((32 : Int32).toInt64 &&& 63)) ||| ((xs (x4 + 5).toNatClampNeg).toInt64 &&& 4294967295))) hg.1 hg.2.1 hg.2.2.1 hg.2.2.2 hR).1) c19)
      refine lv_iload hx hb dc_L_law_274 (lv_at hl 1 rfl) ?_
      refine lv_if_ne (tgt := 291) hx hb dc_L_law_276 (by decide) (fun c20 => absurd e15 c20) (fun c20 => ?_)
      refine lv_aload_n hx hb dc_L_law_279 rfl (lv_at hl 5 rfl) ?_
      refine lv_iconst (v := 0) hx hb dc_L_law_280 (by decide) ?_
      refine va_lald (f := z15.2) hx hb hK hP 6 2 rfl rfl (by unfold vp_in; decide) dc_L_law_281 ?_
      refine lv_topl (fun v21 e21 => ?_)
      refine lv_iload hx hb dc_L_law_282 (lv_at hl 0 rfl) ?_
      refine lv_i2l hx hb dc_L_law_284 rfl ?_
      refine W.lcmp hx hb dc_L_law_285 ?_
      refine lv_if_eq (tgt := 291) hx hb dc_L_law_286 (by decide) (fun c22 => ?_) (fun c22 => absurd (by rw [lg_cmp_eq, e21, ez15, e17]; show vp_updL o (0 : Int32).toNatClampNeg _ (0 : Int32).toNatClampNeg = _; rw [pk_uLs]; exact (pl_access ((xs (x4 + 1).toNatClampNeg)) ((xs (x4 + 2).toNatClampNeg)) (1) ((((xs (x4 + 4).toNatClampNeg).toInt64 <<< ((32 : Int32).toInt64 &&& 63)) ||| ((xs (x4 + 5).toNatClampNeg).toInt64 &&& 4294967295))) hg.1 hg.2.1 hg.2.2.1 hg.2.2.2 hR).2.1) c22)
      refine lv_goto (tgt := 893) hx hb dc_L_law_291 (by decide) ?_
      refine W.widen (k := cells + 1) (n := slots + 6) (by omega) (by omega) ?_
      exact next z15.1 z17 z15.2 _ _ _ (by rw [ez15, ez17]; exact (pl_access ((xs (x4 + 1).toNatClampNeg)) ((xs (x4 + 2).toNatClampNeg)) (1) ((((xs (x4 + 4).toNatClampNeg).toInt64 <<< ((32 : Int32).toInt64 &&& 63)) ||| ((xs (x4 + 5).toNatClampNeg).toInt64 &&& 4294967295))) hg.1 hg.2.1 hg.2.2.1 hg.2.2.2 hR).2.2) hP hD hS (lv_sub hl [2, 3, 4, 5, 6] rfl)
    · replace hg := pb_access hg
      refine ck_goi (rest := []) C kl_O hP hD hS (ck_runSW C kl_O (hK.sub [2] rfl) (cy_L_access l hl9 D h0 b1 b2 ot cO u o ((xs (x4 + 1).toNatClampNeg)) ((xs (x4 + 2).toNatClampNeg)) (1) ((((xs (x4 + 4).toNatClampNeg).toInt64 <<< ((32 : Int32).toInt64 &&& 63)) ||| ((xs (x4 + 5).toNatClampNeg).toInt64 &&& 4294967295))) hg _) (cq_L_access hT) hP hD hS rfl hl.1 rfl (Nat.le_of_ble_eq_true rfl) dc_L_law_204 ⟨by omega, by omega⟩) (fun v15 z15 H locs e15 ez15 hP hD hS => ?_)
      refine lv_istore (lv' := [(5, .int v15), (0, .ref b), (1, .ref h0), (2, .ref m0), (3, .ref ot), (4, .int x4)]) hx hb dc_L_law_207 hl (by decide) rfl (fun ls hl => ?_)
      refine lv_aload_n hx hb dc_L_law_209 rfl (lv_at hl 3 rfl) ?_
      refine lv_aload_n hx hb dc_L_law_210 rfl (lv_at hl 1 rfl) ?_
      refine lv_iload hx hb dc_L_law_211 (lv_at hl 5 rfl) ?_
      refine lv_iconst (v := 1) hx hb dc_L_law_213 (by decide) ?_
      refine lv_iadd hx hb dc_L_law_214 ?_
      refine va_sld hx hb hX hbl hbA hS (hi 1 (by decide) (by decide)) dc_L_law_215 ?_
      refine lv_aload_n hx hb dc_L_law_216 rfl (lv_at hl 1 rfl) ?_
      refine lv_iload hx hb dc_L_law_217 (lv_at hl 5 rfl) ?_
      refine lv_iconst (v := 2) hx hb dc_L_law_219 (by decide) ?_
      refine lv_iadd hx hb dc_L_law_220 ?_
      refine va_sld hx hb hX hbl hbA hS (hi 2 (by decide) (by decide)) dc_L_law_221 ?_
      refine lv_aload_n hx hb dc_L_law_222 rfl (lv_at hl 1 rfl) ?_
      refine lv_iload hx hb dc_L_law_223 (lv_at hl 5 rfl) ?_
      refine lv_iconst (v := 3) hx hb dc_L_law_225 (by decide) ?_
      refine lv_iadd hx hb dc_L_law_226 ?_
      refine va_sld hx hb hX hbl hbA hS (hi 3 (by decide) (by decide)) dc_L_law_227 ?_
      refine lv_if_eq (tgt := 235) hx hb dc_L_law_228 (by decide) (fun c23 => absurd c23 c1) (fun c23 => ?_)
      refine lv_iconst (v := 1) hx hb dc_L_law_231 (by decide) ?_
      refine lv_goto (tgt := 236) hx hb dc_L_law_232 (by decide) ?_
      refine lv_aload_n hx hb dc_L_law_236 rfl (lv_at hl 1 rfl) ?_
      refine lv_iload hx hb dc_L_law_237 (lv_at hl 5 rfl) ?_
      refine lv_iconst (v := 4) hx hb dc_L_law_239 (by decide) ?_
      refine lv_iadd hx hb dc_L_law_240 ?_
      refine va_sld hx hb hX hbl hbA hS (hi 4 (by decide) (by decide)) dc_L_law_241 ?_
      refine lv_i2l hx hb dc_L_law_242 rfl ?_
      refine lv_bipush (v := 32) hx hb dc_L_law_243 (by decide) ?_
      refine lv_lshl hx hb dc_L_law_245 rfl ?_
      refine lv_aload_n hx hb dc_L_law_246 rfl (lv_at hl 1 rfl) ?_
      refine lv_iload hx hb dc_L_law_247 (lv_at hl 5 rfl) ?_
      refine lv_iconst (v := 5) hx hb dc_L_law_249 (by decide) ?_
      refine lv_iadd hx hb dc_L_law_250 ?_
      refine va_sld hx hb hX hbl hbA hS (hi 5 (by decide) (by decide)) dc_L_law_251 ?_
      refine lv_i2l hx hb dc_L_law_252 rfl ?_
      refine lv_ldc2 (v := 4294967295) hx hb hown (hT _ mw_315) dc_L_law_253 ?_
      refine lv_land hx hb dc_L_law_256 ?_
      refine lv_lor hx hb dc_L_law_257 ?_
      refine ck_goi (rest := []) C kl_M hP hD hS (ck_runV (q0 := 0) C kl_M (hK.sub [0, 1] rfl) (c_M_access l D m0 hd ln cH cZ w ((xs (x4 + 1).toNatClampNeg)) ((xs (x4 + 2).toNatClampNeg)) (1) ((((xs (x4 + 4).toNatClampNeg).toInt64 <<< ((32 : Int32).toInt64 &&& 63)) ||| ((xs (x4 + 5).toNatClampNeg).toInt64 &&& 4294967295))) _) (cl_M_access hT ⟨Nat.le_of_ble_eq_true rfl, Nat.le_of_ble_eq_true rfl⟩) rfl rfl hP hD hS rfl hl.1 rfl (Nat.le_of_ble_eq_true rfl) dc_L_law_258 ⟨by omega, by omega⟩) (fun v24 z24 H locs e24 ez24 hP hD hS => ?_)
      refine lv_istore (lv' := [(6, .int v24), (5, .int v15), (0, .ref b), (1, .ref h0), (2, .ref m0), (3, .ref ot), (4, .int x4)]) hx hb dc_L_law_261 hl (by decide) rfl (fun ls hl => ?_)
      refine lv_aload_n hx hb dc_L_law_263 rfl (lv_at hl 4 rfl) ?_
      refine ck_gpi (rest := []) C kl_M hP hD hS (ck_runV (q0 := 0) C kl_M (hK.sub [0, 1] rfl) (c_M_thrown l D m0 hd ln cH cZ z24  _) (cl_M_thrown hT ⟨Nat.le_of_ble_eq_true rfl, Nat.le_of_ble_eq_true rfl⟩) rfl rfl hP hD hS rfl hl.1 rfl (Nat.le_of_ble_eq_true rfl) dc_L_law_264 ⟨by omega, by omega⟩) (fun v25 H locs e25 hP hD hS => ?_)
      refine lv_iload hx hb dc_L_law_267 (lv_at hl 1 rfl) ?_
      refine lv_icmp_eq (tgt := 274) hx hb dc_L_law_269 (by decide) (fun c26 => ?_) (fun c26 => absurd (by rw [e25, ez24, e15]; exact (px_access ((xs (x4 + 1).toNatClampNeg)) ((xs (x4 + 2).toNatClampNeg)) (1) ((((xs (x4 + 4).toNatClampNeg).toInt64 <<< ((32 : Int32).toInt64 &&& 63)) ||| ((xs (x4 + 5).toNatClampNeg).toInt64 &&& 4294967295))) hg hR).1) c26)
      refine lv_iload hx hb dc_L_law_274 (lv_at hl 1 rfl) ?_
      refine lv_if_ne (tgt := 291) hx hb dc_L_law_276 (by decide) (fun c27 => ?_) (fun c27 => absurd (e15.symm.trans c27) (by decide))
      refine lv_goto (tgt := 893) hx hb dc_L_law_291 (by decide) ?_
      refine W.widen (k := cells + 1) (n := slots + 6) (by omega) (by omega) ?_
      exact next z15.1 z24 z15.2 _ _ _ (by rw [ez15, ez24]; exact (px_access ((xs (x4 + 1).toNatClampNeg)) ((xs (x4 + 2).toNatClampNeg)) (1) ((((xs (x4 + 4).toNatClampNeg).toInt64 <<< ((32 : Int32).toInt64 &&& 63)) ||| ((xs (x4 + 5).toNatClampNeg).toInt64 &&& 4294967295))) hg hR).2) hP hD hS (lv_sub hl [2, 3, 4, 5, 6] rfl)
set_option maxHeartbeats 4000000 in
set_option maxRecDepth 100000 in
theorem lk_3 {p : Program} {l : Launch} {e : Env} {s : State} {m : MethodId} {below : List Frame} {meth : Method} {c : Code} {H : Heap} {locs : List Loc} {cells slots : Nat} {Q : State → Prop} {ls : Array Slot} {D : va_G} {b L : Nat} {xs : Nat → Int32} {h0 b1 b2 m0 hd ln ot : Nat} {cH cZ cO : ClassId} {u : cs_St} {w : ms_St} {o : Nat → Int64} {x4 : Int32} (hl9 : l.stackTraces = false) (C : ck_C p s m meth c code ret 8 #[.ref b] "ControlDeskLaw" (fun q : Nat => s.heap.size ≤ q) D [(cH, .long), (cZ, .boolean), (cO, .long)]) (hX : va_X b L xs s s.heap) (hbl : b < s.heap.size) (hi : ∀ j : Int32, 1 ≤ j → j ≤ 6 → vp_in (x4 + j) L) (hc1 : cells + 1 ≤ 1036) (hc2 : slots + 6 ≤ 12367) (hR : rr_R u w) (hP : va_P D xw_Cl (wl h0 b1 b2 m0 hd ln ot cH cZ cO (u, w, o)) H) (hD : va_D (fun q : Nat => s.heap.size ≤ q) (wl h0 b1 b2 m0 hd ln ot cH cZ cO (u, w, o))) (hS : va_S (fun q : Nat => s.heap.size ≤ q) s.heap H locs) (hl : lv_has ls 8 [(0, .ref b), (1, .ref h0), (2, .ref m0), (3, .ref ot), (4, .int x4)])
    (next : ∀ (u' : cs_St) (w' : ms_St) (o' : Nat → Int64) (H1 : Heap) (locs1 : List Loc) (ls1 : Array Slot), rr_R u' w' → va_P D xw_Cl (wl h0 b1 b2 m0 hd ln ot cH cZ cO (u', w', o')) H1 → va_D (fun q : Nat => s.heap.size ≤ q) (wl h0 b1 b2 m0 hd ln ot cH cZ cO (u', w', o')) → va_S (fun q : Nat => s.heap.size ≤ q) s.heap H1 locs1 → lv_has ls1 8 [(0, .ref b), (1, .ref h0), (2, .ref m0), (3, .ref ot), (4, .int x4)] → W p l e room_1 s m #[.ref b] below meth c H1 locs1 (cells + 1) (slots + 6) Q (F0 m 893 ls1 [])) :
    W p l e room_1 s m #[.ref b] below meth c H locs cells slots Q (F0 m 294 ls []) := by
  have hx := C.1
  have hb := C.2.1
  have hown := C.2.2.2.2.1
  have hT := C.2.2.2.2.2.1
  have hK := C.2.2.2.2.2.2.2.1
  have hbA : ¬ (fun q : Nat => s.heap.size ≤ q) b := Nat.not_le.mpr hbl
  have hc1 : cells + 1 ≤ room_1.cells := hc1
  have hc2 : slots + 6 ≤ room_1.slots := hc2
  refine lv_aload_n hx hb dc_L_law_294 rfl (lv_at hl 1 rfl) ?_
  refine ck_gpl (rest := []) C kl_X hP hD hS (ck_runV (q0 := 0) C kl_X (hK.sub [] rfl) (c_X_had l D [] h0 b1 b2 u  _) (cl_X_had hT ⟨Nat.le_of_ble_eq_true rfl, Nat.le_of_ble_eq_true rfl⟩) rfl rfl hP hD hS rfl hl.1 rfl (Nat.le_of_ble_eq_true rfl) dc_L_law_295 ⟨by omega, by omega⟩) (fun v1 H locs e1 hP hD hS => ?_)
  refine lv_aload_n hx hb dc_L_law_298 rfl (lv_at hl 2 rfl) ?_
  refine ck_gol (rest := [.long v1]) C kl_M hP hD hS (ck_runV (q0 := 0) C kl_M (hK.sub [0, 1] rfl) (c_M_had l D m0 hd ln cH cZ w  _) (cl_M_had hT ⟨Nat.le_of_ble_eq_true rfl, Nat.le_of_ble_eq_true rfl⟩) rfl rfl hP hD hS rfl hl.1 rfl (Nat.le_of_ble_eq_true rfl) dc_L_law_299 ⟨by omega, by omega⟩) (fun v2 z2 H locs e2 ez2 hP hD hS => ?_)
  refine W.lcmp hx hb dc_L_law_302 ?_
  refine lv_if_eq (tgt := 893) hx hb dc_L_law_303 (by decide) (fun c3 => ?_) (fun c3 => absurd (by rw [lg_cmp_eq]; rw [e1, e2]; exact (pl_had hR).1) c3)
  refine W.widen (k := cells + 1) (n := slots + 6) (by omega) (by omega) ?_
  exact next u z2 o _ _ _ (by rw [ez2]; exact (pl_had hR).2) hP hD hS (lv_sub hl [0, 1, 2, 3, 4] rfl)
set_option maxHeartbeats 4000000 in
set_option maxRecDepth 100000 in
theorem lk_4 {p : Program} {l : Launch} {e : Env} {s : State} {m : MethodId} {below : List Frame} {meth : Method} {c : Code} {H : Heap} {locs : List Loc} {cells slots : Nat} {Q : State → Prop} {ls : Array Slot} {D : va_G} {b L : Nat} {xs : Nat → Int32} {h0 b1 b2 m0 hd ln ot : Nat} {cH cZ cO : ClassId} {u : cs_St} {w : ms_St} {o : Nat → Int64} {x4 : Int32} (hl9 : l.stackTraces = false) (C : ck_C p s m meth c code ret 8 #[.ref b] "ControlDeskLaw" (fun q : Nat => s.heap.size ≤ q) D [(cH, .long), (cZ, .boolean), (cO, .long)]) (hX : va_X b L xs s s.heap) (hbl : b < s.heap.size) (hi : ∀ j : Int32, 1 ≤ j → j ≤ 6 → vp_in (x4 + j) L) (hc1 : cells + 1 ≤ 1036) (hc2 : slots + 6 ≤ 12367) (hR : rr_R u w) (hP : va_P D xw_Cl (wl h0 b1 b2 m0 hd ln ot cH cZ cO (u, w, o)) H) (hD : va_D (fun q : Nat => s.heap.size ≤ q) (wl h0 b1 b2 m0 hd ln ot cH cZ cO (u, w, o))) (hS : va_S (fun q : Nat => s.heap.size ≤ q) s.heap H locs) (hl : lv_has ls 8 [(0, .ref b), (1, .ref h0), (2, .ref m0), (3, .ref ot), (4, .int x4)])
    (next : ∀ (u' : cs_St) (w' : ms_St) (o' : Nat → Int64) (H1 : Heap) (locs1 : List Loc) (ls1 : Array Slot), rr_R u' w' → va_P D xw_Cl (wl h0 b1 b2 m0 hd ln ot cH cZ cO (u', w', o')) H1 → va_D (fun q : Nat => s.heap.size ≤ q) (wl h0 b1 b2 m0 hd ln ot cH cZ cO (u', w', o')) → va_S (fun q : Nat => s.heap.size ≤ q) s.heap H1 locs1 → lv_has ls1 8 [(0, .ref b), (1, .ref h0), (2, .ref m0), (3, .ref ot), (4, .int x4)] → W p l e room_1 s m #[.ref b] below meth c H1 locs1 (cells + 1) (slots + 6) Q (F0 m 893 ls1 [])) :
    W p l e room_1 s m #[.ref b] below meth c H locs cells slots Q (F0 m 308 ls []) := by
  have hx := C.1
  have hb := C.2.1
  have hown := C.2.2.2.2.1
  have hT := C.2.2.2.2.2.1
  have hK := C.2.2.2.2.2.2.2.1
  have hbA : ¬ (fun q : Nat => s.heap.size ≤ q) b := Nat.not_le.mpr hbl
  have hc1 : cells + 1 ≤ room_1.cells := hc1
  have hc2 : slots + 6 ≤ room_1.slots := hc2
  refine lv_aload_n hx hb dc_L_law_308 rfl (lv_at hl 1 rfl) ?_
  refine lv_aload_n hx hb dc_L_law_309 rfl (lv_at hl 0 rfl) ?_
  refine lv_iload hx hb dc_L_law_310 (lv_at hl 4 rfl) ?_
  refine lv_iconst (v := 1) hx hb dc_L_law_312 (by decide) ?_
  refine lv_iadd hx hb dc_L_law_313 ?_
  refine va_sld hx hb hX hbl hbA hS (hi 1 (by decide) (by decide)) dc_L_law_314 ?_
  refine ck_gpl (rest := []) C kl_X hP hD hS (ck_runV (q0 := 0) C kl_X (hK.sub [] rfl) (c_X_peek l D [] h0 b1 b2 u ((xs (x4 + 1).toNatClampNeg)) _) (cl_X_peek hT ⟨Nat.le_of_ble_eq_true rfl, Nat.le_of_ble_eq_true rfl⟩) rfl rfl hP hD hS rfl hl.1 rfl (Nat.le_of_ble_eq_true rfl) dc_L_law_315 ⟨by omega, by omega⟩) (fun v1 H locs e1 hP hD hS => ?_)
  refine lv_aload_n hx hb dc_L_law_318 rfl (lv_at hl 2 rfl) ?_
  refine lv_aload_n hx hb dc_L_law_319 rfl (lv_at hl 0 rfl) ?_
  refine lv_iload hx hb dc_L_law_320 (lv_at hl 4 rfl) ?_
  refine lv_iconst (v := 1) hx hb dc_L_law_322 (by decide) ?_
  refine lv_iadd hx hb dc_L_law_323 ?_
  refine va_sld hx hb hX hbl hbA hS (hi 1 (by decide) (by decide)) dc_L_law_324 ?_
  refine ck_gol (rest := [.long v1]) C kl_M hP hD hS (ck_runV (q0 := 0) C kl_M (hK.sub [0, 1] rfl) (c_M_peek l D m0 hd ln cH cZ w ((xs (x4 + 1).toNatClampNeg)) _) (cl_M_peek hT ⟨Nat.le_of_ble_eq_true rfl, Nat.le_of_ble_eq_true rfl⟩) rfl rfl hP hD hS rfl hl.1 rfl (Nat.le_of_ble_eq_true rfl) dc_L_law_325 ⟨by omega, by omega⟩) (fun v2 z2 H locs e2 ez2 hP hD hS => ?_)
  refine W.lcmp hx hb dc_L_law_328 ?_
  refine lv_if_eq (tgt := 893) hx hb dc_L_law_329 (by decide) (fun c3 => ?_) (fun c3 => absurd (by rw [lg_cmp_eq]; rw [e1, e2]; exact (pl_peek ((xs (x4 + 1).toNatClampNeg)) hR).1) c3)
  refine W.widen (k := cells + 1) (n := slots + 6) (by omega) (by omega) ?_
  exact next u z2 o _ _ _ (by rw [ez2]; exact (pl_peek ((xs (x4 + 1).toNatClampNeg)) hR).2) hP hD hS (lv_sub hl [0, 1, 2, 3, 4] rfl)
