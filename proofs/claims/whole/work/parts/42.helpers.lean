-- PART: THE LAW'S HELPERS
theorem ck_entH {σ : Type} {l : Launch} {D : va_G} {tys : List (ClassId × FieldType)} {wf : σ → va_W} {u : σ} {QA : (Nat → Prop) → Array Value → State → Outcome → State → Prop} {av : List Value} {y : MethodName} {ws : List Cond} {rm : Room} {mc ms : Nat} {cc : ByteArray} {maxL : Nat} {ret : Option FieldType} {hh : List (Nat × Nat × Nat × Nat)}
    (hy : plainName y.cls = true) (hw : ws = Cond.codeWith y cc maxL ret hh :: xw_T) (hle : (lg_sl av).length ≤ maxL)
    (body : ∀ (p : Program) (e : Env) (s : State) (m : MethodId) (below : List Frame) (meth : Method) (c : Code) (A : Nat → Prop) (ls : Array Slot), ck_C p s m meth c cc ret maxL av.toArray y.cls A D tys → c.exceptionTable.toList = tableOf hh → va_P D xw_Cl (wf u) s.heap → va_D A (wf u) → va_S A s.heap s.heap [] → lv_has ls maxL (lv_args 0 av) →
      W p l e rm s m av.toArray below meth c s.heap [] 0 0 (MQ below (QA A) av.toArray s mc ms A) (F0 m 0 ls [])) :
    ∀ sz : Nat, Met l y ws rm (va_Pc av (ck_P D tys wf u sz)) (QA (va_A (wf u) sz)) mc ms (va_A (wf u) sz) := by
  intro sz
  refine va_MetW (cc := cc) (maxL := maxL) (ret := ret) (hh := hh) hy hw ?_
  intro p e s m args below meth c s₁ B hml hv
  obtain ⟨rfl, hsz, hP, hK, hD0, hE⟩ := hv
  have hts := atoms_spec (ws := ws) B.pre
  have htab := vx_table (x := y) B (hts (Cond.codeWith y cc maxL ret hh) (by rw [hw]; exact List.mem_cons_self))
  subst hsz
  rw [lg_entry_eq]
  exact body p e s m below meth c (va_A (wf u) s.heap.size) _ ⟨B.exec, B.bytes, B.returns, hml, findClass_of_methodNamed B.named, fun w h => hts w (by rw [hw]; exact List.mem_cons_of_mem _ h), B.notSynchronized, hK, fun q h => Or.inr h, hE⟩ htab hP hD0.self va_S.rf (lv_entry av hle)
section XV
variable {p : Program} {l : Launch} {e : Env} {R : Room} {s : State} {m : MethodId} {args : Array Value} {below : List Frame} {meth : Method} {c : Code} {H : Heap} {locs : List Loc} {cells slots : Nat} {Q : State → Prop} {cc : ByteArray} {pc : Nat} {ls : Array Slot} {rest st0 : List Value}
variable {σ : Type} {D : va_G} {tys tyc : List (ClassId × FieldType)} {wc ww : σ → va_W} {wr : va_W} {u : σ} {A : Nat → Prop} {ret : Option FieldType} {nL : Nat} {own : String}
variable {y : MethodName} {bytes : ByteArray} {maxL mc ms n index : Nat} {rt : Option FieldType} {ws : List Cond} {rm : Room} {Cn : String} {b : Addr} {As : List Value}
theorem vk_run {Qc : Array Value → State → Outcome → State → Prop} {XC : String → State → State → Prop} {isC isR isP : List Nat} {ci q0 N : Nat} {T : u_T} {fs : List Value} (C : ck_C p s m meth c cc ret nL args own A D tys) (hcut : ck_cut wc ww wr u isC isR isP) (hKc : va_K D xw_Cl tyc s) (hM : vx_Met l y ws rm (va_Pc (.ref b :: As) (ck_P D tyc wc u H.size)) Qc XC mc ms (va_A (wc u) H.size)) (cw : CallW R s args own Cn index y bytes maxL rt ws rm mc ms n) (hc : xw_Cl[ci]? = some (Cn, T, N)) (he : (wc u)[q0]? = some (b, .inr (ci, fs)))
    (hP : va_P D xw_Cl (ww u) H) (hD : va_D A (ww u)) (hS : va_S A s.heap H locs) (hn : As.length = n) (hsz : ls.size = nL) (hst : st0 = As.reverse ++ .ref b :: rest) (hW : (rest.map fun v => v.category).sum ≤ 8) (hdg : decode cc pc = .ok (.invokevirtual index, 3)) (hf : cells + mc ≤ R.cells ∧ slots + ms ≤ R.slots) :
    vx_Run p l e R s m args below meth c H locs cells slots mc ms (F0 m pc ls st0) rest (Qc (Value.ref b :: As).toArray) XC (va_A (wc u) H.size) := by
  obtain ⟨hC, hCn, -⟩ := hcut
  have hPc : va_P D xw_Cl (wc u) H := hP.sub isC (ck_fm isC _ hC)
  have hDc : va_D A (wc u) := hD.sub isC hCn hC
  have hF := va_free (wc := wc u) hD hS C.2.2.2.2.2.2.2.2.1 isC hC
  exact vx_runV (As := As) (rest := rest) ⟨C.1, C.2.1, C.2.2.2.1, C.2.2.2.2.1, C.2.2.2.2.2.1⟩ hM cw ⟨ck_blind, va_recv hKc hPc hc he, ck_pre hPc hKc hDc hS C.2.2.2.2.2.2.2.2.2 hF⟩ rfl hn hsz hst (lv_room hW) hdg hf
/-- the call threw, and the row x of the table takes it -/
theorem vk_take {x : ExceptionTableEntry} {isC isR isP : List Nat} {H1 : Heap} {locs1 : List Loc} {cells1 slots1 : Nat} {E : String} {ce : Cell} {q9 : Addr} (C : ck_C p s m meth c cc ret nL args own A D tys) (hcut : ck_cut wc ww wr u isC isR isP) (hP : va_P D xw_Cl (ww u) H) (hD : va_D A (ww u)) (hS : va_S A s.heap H locs) (htab : c.exceptionTable.toList = [x]) (hx : covers x pc = true) (h0 : x.catchType ≠ 0) (hlink : (Cond.classLink own x.catchType xt_X).before args s = true)
    (hE : E = xt_X) (hP1 : va_P D xw_Cl (wc u) H1) (hk : ∀ q : Nat, q < H.size → ¬ va_A (wc u) H.size q → H1[q]? = H[q]?) (hcell : H1[q9]? = some ce) (hv : ce.vm = .none) (hcl : s.vm.findClass E = some ce.cls)
    (kk : va_P D xw_Cl (ww u) H1 → va_D A (ww u) → W p l e R s m args below meth c H1 locs1 cells1 slots1 Q (F0 m x.handlerPc ls [.ref q9])) : vx_W p l e R s m args below meth c H1 locs1 cells1 slots1 Q (F0 m pc ls rest) q9 := by
  obtain ⟨hC, hCn, hR, hn, hdis, hq, hqn⟩ := hcut
  have hF := va_free (wc := wc u) hD hS C.2.2.2.2.2.2.2.2.1 isC hC
  have hDc : va_D A (wc u) := hD.sub isC hCn hC
  obtain ⟨j1, j2⟩ := ck_join hP hD hC hR hn hdis hq hqn hk hF hP1 hDc.self
  subst hE
  exact vx_catch C.2.2.2.2.1 [] x [] htab (fun _ h => absurd h List.not_mem_nil) hx h0 hlink (va_Nw.use rfl (C.2.2.2.2.2.2.2.2.2.2.2.1 _ (List.mem_of_getElem? (i := 7) rfl))) hcell hv hcl (kk j1 j2)
end XV
/-- the class's cells and the law's array of one long -/
def wo (h0 b1 b2 ot : Nat) (cO : ClassId) (z : cs_St × (Nat → Int64)) : va_W := wx h0 b1 b2 z.1 ++ [(ot, .inl (cO, 1, .inr (.inl z.2)))]
theorem kt_O {h0 b1 b2 ot : Nat} {cO : ClassId} {u : cs_St} {o : Nat → Int64} : ck_cut (wx h0 b1 b2) (fun z => wo h0 b1 b2 ot cO (z, o)) [(ot, .inl (cO, 1, .inr (.inl o)))] u [0, 1, 2] [3] [1, 2, 3, 0] := ⟨rfl, rfl, rfl, rfl, (by decide), (fun _ => rfl), rfl⟩
theorem cw_L_access {R : Room} {s : State} {args : Array Value} (hT : ∀ w ∈ xw_T, w.before args s = true) (hR : rm_X_access.frames + 1 ≤ R.frames ∧ 8 + (8 + 11) + rm_X_access.locals ≤ R.locals) : CallW R s args "ControlDeskLaw" "ControlDesk" 7 yn_X_access bc_X_access 8 (some .int) w_X_access rm_X_access 0 0 4 :=
  ⟨callB_of 4 hT (xw_good mc_X_access) rfl rfl rfl (hT _ mw_156) (hT _ mw_283) (by decide +kernel) hR, (hT _ mw_284), (hT _ mw_285)⟩
theorem cz_L_access {R : Room} {s : State} {args : Array Value} (hT : ∀ w ∈ xw_T, w.before args s = true) (hR : rz_X_access.frames + 1 ≤ R.frames ∧ 8 + (8 + 11) + rz_X_access.locals ≤ R.locals) : CallW R s args "ControlDeskLaw" "ControlDesk" 7 yn_X_access bc_X_access 8 (some .int) w_X_access rz_X_access 1 6 4 :=
  ⟨callB_of 4 hT (xw_good mc_X_access) rfl rfl rfl (hT _ mw_156) (hT _ mw_283) (by decide +kernel) hR, (hT _ mw_284), (hT _ mw_285)⟩
abbrev rm_L_access : Room := { frames := 4, cells := 0, slots := 0, locals := 102 }
abbrev rz_L_access : Room := { frames := 7, cells := 1, slots := 6, locals := 110 }
abbrev w_L_access : List Cond := .codeWith yn_L_access bc_L_access 8 (some .int) [(0, 14, 17, 13)] :: xw_T
set_option maxHeartbeats 4000000 in
set_option maxRecDepth 100000 in
theorem c_L_access (l : Launch) (D : va_G) (h0 b1 b2 ot : Nat) (cO : ClassId) (u : cs_St) (o : Nat → Int64) (p1 p2 p3 : Int32) (p4 : Int64) (g1 : ¬ p1 < 0) (g2 : p1 ≤ 4095) (g3 : ¬ p2 < 1) (g4 : p2 ≤ 3) : ck_Mi l D [(cO, .long)] (wo h0 b1 b2 ot cO) yn_L_access w_L_access rm_L_access 0 0 [.ref h0, .int p1, .int p2, .int p3, .long p4, .ref ot] (u, o) 0 ((f_X_access u p1 p2 p3 p4).2, vp_updL o (0 : Int32).toNatClampNeg (f_X_access u p1 p2 p3 p4).1.toInt64) := by
  refine ck_entH (wf := (wo h0 b1 b2 ot cO)) (u := (u, o)) (QA := fun A => va_Qi (fun r2 u2 => r2 = 0 ∧ u2 = ((f_X_access u p1 p2 p3 p4).2, vp_updL o (0 : Int32).toNatClampNeg (f_X_access u p1 p2 p3 p4).1.toInt64)) (ck_B D (wo h0 b1 b2 ot cO) A) A) (cc := bc_L_access) (maxL := 8) (ret := (some .int)) (hh := [(0, 14, 17, 13)]) (by decide) rfl (Nat.le_of_ble_eq_true rfl) ?_
  intro p e s m below meth c A ls C htab hP hD hS hl
  have C : ck_C p s m meth c bc_L_access (some .int) 8 #[.ref h0, .int p1, .int p2, .int p3, .long p4, .ref ot] "ControlDeskLaw" A D [(cO, .long)] := C
  have hl : lv_has ls 8 [(0, .ref h0), (1, .int p1), (2, .int p2), (3, .int p3), (4, .long p4), (6, .ref ot)] := hl
  have hx := C.1
  have hb := C.2.1
  have hown := C.2.2.2.2.1
  have hT := C.2.2.2.2.2.1
  have hK := C.2.2.2.2.2.2.2.1
  have hN := C.2.2.2.2.2.2.2.2.2.2.2.1
  refine lv_aload hx hb dc_L_access_0 (lv_at hl 5 rfl) ?_
  refine lv_iconst (v := 0) hx hb dc_L_access_2 (by decide) ?_
  refine lv_aload_n hx hb dc_L_access_3 rfl (lv_at hl 0 rfl) ?_
  refine lv_iload_n hx hb dc_L_access_4 rfl (lv_at hl 1 rfl) ?_
  refine lv_iload_n hx hb dc_L_access_5 rfl (lv_at hl 2 rfl) ?_
  refine lv_iload_n hx hb dc_L_access_6 rfl (lv_at hl 3 rfl) ?_
  refine lv_lload hx hb dc_L_access_7 (lv_at hl 4 rfl) ?_
  refine ck_goi (rest := [.int 0, .ref ot]) C kt_O hP hD hS (ck_runV (q0 := 0) C kt_O (hK.sub [] rfl) (c_X_access l D [] h0 b1 b2 u p1 p2 p3 p4 g1 g2 g3 g4 _) (cw_L_access hT ⟨Nat.le_of_ble_eq_true rfl, Nat.le_of_ble_eq_true rfl⟩) rfl rfl hP hD hS rfl hl.1 rfl (Nat.le_of_ble_eq_true rfl) dc_L_access_9 ⟨Nat.zero_le _, Nat.zero_le _⟩) (fun v1 w1 H locs e1 ew1 hP hD hS => ?_)
  refine xr_i2l hx hb dc_L_access_12 (fun v2 e2 => ?_)
  refine va_last (f := o) hx hb hK hP hD hS 3 0 rfl rfl (by unfold vp_in; decide) dc_L_access_13 (fun H locs hP hD hS => ?_)
  have hP : va_P D xw_Cl (wo h0 b1 b2 ot cO (w1, vp_updL o (0 : Int32).toNatClampNeg v2)) H := hP
  have hD : va_D A (wo h0 b1 b2 ot cO (w1, vp_updL o (0 : Int32).toNatClampNeg v2)) := hD
  refine lv_goto (tgt := 21) hx hb dc_L_access_14 (by decide) ?_
  refine lv_iconst (v := 0) hx hb dc_L_access_21 (by decide) ?_
  exact ck_iret (wf := (wo h0 b1 b2 ot cO)) (u := (w1, vp_updL o (0 : Int32).toNatClampNeg v2)) (v := 0) C hP hD hS ⟨rfl, by rw [ew1, e2, e1]⟩ dc_L_access_22
set_option maxHeartbeats 4000000 in
set_option maxRecDepth 100000 in
theorem cy_L_access (l : Launch) (hl9 : l.stackTraces = false) (D : va_G) (h0 b1 b2 ot : Nat) (cO : ClassId) (u : cs_St) (o : Nat → Int64) (p1 p2 p3 : Int32) (p4 : Int64) (hbad : p1 < 0 ∨ ¬ p1 ≤ 4095 ∨ p2 < 1 ∨ ¬ p2 ≤ 3) : ck_Mi l D [(cO, .long)] (wo h0 b1 b2 ot cO) yn_L_access w_L_access rz_L_access 1 6 [.ref h0, .int p1, .int p2, .int p3, .long p4, .ref ot] (u, o) 1 (u, o) := by
  refine ck_entH (wf := (wo h0 b1 b2 ot cO)) (u := (u, o)) (QA := fun A => va_Qi (fun r2 u2 => r2 = 1 ∧ u2 = (u, o)) (ck_B D (wo h0 b1 b2 ot cO) A) A) (cc := bc_L_access) (maxL := 8) (ret := (some .int)) (hh := [(0, 14, 17, 13)]) (by decide) rfl (Nat.le_of_ble_eq_true rfl) ?_
  intro p e s m below meth c A ls C htab hP hD hS hl
  have C : ck_C p s m meth c bc_L_access (some .int) 8 #[.ref h0, .int p1, .int p2, .int p3, .long p4, .ref ot] "ControlDeskLaw" A D [(cO, .long)] := C
  have hl : lv_has ls 8 [(0, .ref h0), (1, .int p1), (2, .int p2), (3, .int p3), (4, .long p4), (6, .ref ot)] := hl
  have hx := C.1
  have hb := C.2.1
  have hown := C.2.2.2.2.1
  have hT := C.2.2.2.2.2.1
  have hK := C.2.2.2.2.2.2.2.1
  have hN := C.2.2.2.2.2.2.2.2.2.2.2.1
  refine lv_aload hx hb dc_L_access_0 (lv_at hl 5 rfl) ?_
  refine lv_iconst (v := 0) hx hb dc_L_access_2 (by decide) ?_
  refine lv_aload_n hx hb dc_L_access_3 rfl (lv_at hl 0 rfl) ?_
  refine lv_iload_n hx hb dc_L_access_4 rfl (lv_at hl 1 rfl) ?_
  refine lv_iload_n hx hb dc_L_access_5 rfl (lv_at hl 2 rfl) ?_
  refine lv_iload_n hx hb dc_L_access_6 rfl (lv_at hl 3 rfl) ?_
  refine lv_lload hx hb dc_L_access_7 (lv_at hl 4 rfl) ?_
  have hF : ∀ q, va_A (wx h0 b1 b2 u) s.heap.size q → A q := va_free (wc := wx h0 b1 b2 u) hD hS C.2.2.2.2.2.2.2.2.1 [0, 1, 2] rfl
  refine vx_calli (rest := [.int 0, .ref ot]) (vk_run (q0 := 0) C kt_O (hK.sub [] rfl) (cz_X_access l hl9 D [] h0 b1 b2 u p1 p2 p3 p4 hbad _) (cz_L_access hT ⟨Nat.le_of_ble_eq_true rfl, Nat.le_of_ble_eq_true rfl⟩) rfl rfl hP hD hS rfl hl.1 rfl (Nat.le_of_ble_eq_true rfl) dc_L_access_9 ⟨Nat.le_of_ble_eq_true rfl, Nat.le_of_ble_eq_true rfl⟩) hS (fun q _ h => hF q h) hF (fun q _ h => hF q h) (fun E ce q9 u9 t H1 locs1 ht hvm hpx hB hz hk hS hcell hcv hcl => ?_) (fun r u2 t H1 locs1 ht hvm hw => absurd hw id)
  obtain ⟨hE, hP1⟩ := hB
  rw [ht] at hP1
  refine vk_take (x := ⟨0, 14, 17, 13⟩) C kt_O hP hD va_S.rf htab (by decide) (by decide) (hT _ mw_286) hE hP1 hk hcell hcv hcl (fun hP hD => ?_)
  refine lv_astore (lv' := [(7, .ref q9), (0, .ref h0), (1, .int p1), (2, .int p2), (3, .int p3), (4, .long p4), (6, .ref ot)]) hx hb dc_L_access_17 hl (by decide) rfl (fun ls hl => ?_)
  refine lv_iconst (v := 1) hx hb dc_L_access_19 (by decide) ?_
  exact ck_iret (wf := (wo h0 b1 b2 ot cO)) (u := (u, o)) (v := 1) C hP hD hS ⟨rfl, rfl⟩ dc_L_access_20
theorem cw_L_trap {R : Room} {s : State} {args : Array Value} (hT : ∀ w ∈ xw_T, w.before args s = true) (hR : rm_X_trap.frames + 1 ≤ R.frames ∧ 8 + (8 + 11) + rm_X_trap.locals ≤ R.locals) : CallW R s args "ControlDeskLaw" "ControlDesk" 15 yn_X_trap bc_X_trap 8 (some .long) w_X_trap rm_X_trap 0 0 4 :=
  ⟨callB_of 4 hT (xw_good mc_X_trap) rfl rfl rfl (hT _ mw_156) (hT _ mw_288) (by decide +kernel) hR, (hT _ mw_289), (hT _ mw_290)⟩
theorem cz_L_trap {R : Room} {s : State} {args : Array Value} (hT : ∀ w ∈ xw_T, w.before args s = true) (hR : rz_X_trap.frames + 1 ≤ R.frames ∧ 8 + (8 + 11) + rz_X_trap.locals ≤ R.locals) : CallW R s args "ControlDeskLaw" "ControlDesk" 15 yn_X_trap bc_X_trap 8 (some .long) w_X_trap rz_X_trap 1 6 4 :=
  ⟨callB_of 4 hT (xw_good mc_X_trap) rfl rfl rfl (hT _ mw_156) (hT _ mw_288) (by decide +kernel) hR, (hT _ mw_289), (hT _ mw_290)⟩
abbrev rm_L_trap : Room := { frames := 3, cells := 0, slots := 0, locals := 75 }
abbrev rz_L_trap : Room := { frames := 7, cells := 1, slots := 6, locals := 110 }
abbrev w_L_trap : List Cond := .codeWith yn_L_trap bc_L_trap 9 (some .int) [(0, 13, 16, 13)] :: xw_T
set_option maxHeartbeats 4000000 in
set_option maxRecDepth 100000 in
theorem c_L_trap (l : Launch) (D : va_G) (h0 b1 b2 ot : Nat) (cO : ClassId) (u : cs_St) (o : Nat → Int64) (p1 p2 : Int32) (p3 p4 : Int64) (g1 : ¬ p2 < 0) (g2 : p2 ≤ 63) : ck_Mi l D [(cO, .long)] (wo h0 b1 b2 ot cO) yn_L_trap w_L_trap rm_L_trap 0 0 [.ref h0, .int p1, .int p2, .long p3, .long p4, .ref ot] (u, o) 0 ((f_X_trap u p1 p2 p3 p4).2, vp_updL o (0 : Int32).toNatClampNeg (f_X_trap u p1 p2 p3 p4).1) := by
  refine ck_entH (wf := (wo h0 b1 b2 ot cO)) (u := (u, o)) (QA := fun A => va_Qi (fun r2 u2 => r2 = 0 ∧ u2 = ((f_X_trap u p1 p2 p3 p4).2, vp_updL o (0 : Int32).toNatClampNeg (f_X_trap u p1 p2 p3 p4).1)) (ck_B D (wo h0 b1 b2 ot cO) A) A) (cc := bc_L_trap) (maxL := 9) (ret := (some .int)) (hh := [(0, 13, 16, 13)]) (by decide) rfl (Nat.le_of_ble_eq_true rfl) ?_
  intro p e s m below meth c A ls C htab hP hD hS hl
  have C : ck_C p s m meth c bc_L_trap (some .int) 9 #[.ref h0, .int p1, .int p2, .long p3, .long p4, .ref ot] "ControlDeskLaw" A D [(cO, .long)] := C
  have hl : lv_has ls 9 [(0, .ref h0), (1, .int p1), (2, .int p2), (3, .long p3), (5, .long p4), (7, .ref ot)] := hl
  have hx := C.1
  have hb := C.2.1
  have hown := C.2.2.2.2.1
  have hT := C.2.2.2.2.2.1
  have hK := C.2.2.2.2.2.2.2.1
  have hN := C.2.2.2.2.2.2.2.2.2.2.2.1
  refine lv_aload hx hb dc_L_trap_0 (lv_at hl 5 rfl) ?_
  refine lv_iconst (v := 0) hx hb dc_L_trap_2 (by decide) ?_
  refine lv_aload_n hx hb dc_L_trap_3 rfl (lv_at hl 0 rfl) ?_
  refine lv_iload_n hx hb dc_L_trap_4 rfl (lv_at hl 1 rfl) ?_
  refine lv_iload_n hx hb dc_L_trap_5 rfl (lv_at hl 2 rfl) ?_
  refine lv_lload_n hx hb dc_L_trap_6 rfl (lv_at hl 3 rfl) ?_
  refine lv_lload hx hb dc_L_trap_7 (lv_at hl 4 rfl) ?_
  refine ck_gol (rest := [.int 0, .ref ot]) C kt_O hP hD hS (ck_runV (q0 := 0) C kt_O (hK.sub [] rfl) (c_X_trap l D [] h0 b1 b2 u p1 p2 p3 p4 g1 g2 _) (cw_L_trap hT ⟨Nat.le_of_ble_eq_true rfl, Nat.le_of_ble_eq_true rfl⟩) rfl rfl hP hD hS rfl hl.1 rfl (Nat.le_of_ble_eq_true rfl) dc_L_trap_9 ⟨Nat.zero_le _, Nat.zero_le _⟩) (fun v1 w1 H locs e1 ew1 hP hD hS => ?_)
  refine va_last (f := o) hx hb hK hP hD hS 3 0 rfl rfl (by unfold vp_in; decide) dc_L_trap_12 (fun H locs hP hD hS => ?_)
  have hP : va_P D xw_Cl (wo h0 b1 b2 ot cO (w1, vp_updL o (0 : Int32).toNatClampNeg v1)) H := hP
  have hD : va_D A (wo h0 b1 b2 ot cO (w1, vp_updL o (0 : Int32).toNatClampNeg v1)) := hD
  refine lv_goto (tgt := 20) hx hb dc_L_trap_13 (by decide) ?_
  refine lv_iconst (v := 0) hx hb dc_L_trap_20 (by decide) ?_
  exact ck_iret (wf := (wo h0 b1 b2 ot cO)) (u := (w1, vp_updL o (0 : Int32).toNatClampNeg v1)) (v := 0) C hP hD hS ⟨rfl, by rw [ew1, e1]⟩ dc_L_trap_21
set_option maxHeartbeats 4000000 in
set_option maxRecDepth 100000 in
theorem cy_L_trap (l : Launch) (hl9 : l.stackTraces = false) (D : va_G) (h0 b1 b2 ot : Nat) (cO : ClassId) (u : cs_St) (o : Nat → Int64) (p1 p2 : Int32) (p3 p4 : Int64) (hbad : p2 < 0 ∨ ¬ p2 ≤ 63) : ck_Mi l D [(cO, .long)] (wo h0 b1 b2 ot cO) yn_L_trap w_L_trap rz_L_trap 1 6 [.ref h0, .int p1, .int p2, .long p3, .long p4, .ref ot] (u, o) 1 (u, o) := by
  refine ck_entH (wf := (wo h0 b1 b2 ot cO)) (u := (u, o)) (QA := fun A => va_Qi (fun r2 u2 => r2 = 1 ∧ u2 = (u, o)) (ck_B D (wo h0 b1 b2 ot cO) A) A) (cc := bc_L_trap) (maxL := 9) (ret := (some .int)) (hh := [(0, 13, 16, 13)]) (by decide) rfl (Nat.le_of_ble_eq_true rfl) ?_
  intro p e s m below meth c A ls C htab hP hD hS hl
  have C : ck_C p s m meth c bc_L_trap (some .int) 9 #[.ref h0, .int p1, .int p2, .long p3, .long p4, .ref ot] "ControlDeskLaw" A D [(cO, .long)] := C
  have hl : lv_has ls 9 [(0, .ref h0), (1, .int p1), (2, .int p2), (3, .long p3), (5, .long p4), (7, .ref ot)] := hl
  have hx := C.1
  have hb := C.2.1
  have hown := C.2.2.2.2.1
  have hT := C.2.2.2.2.2.1
  have hK := C.2.2.2.2.2.2.2.1
  have hN := C.2.2.2.2.2.2.2.2.2.2.2.1
  refine lv_aload hx hb dc_L_trap_0 (lv_at hl 5 rfl) ?_
  refine lv_iconst (v := 0) hx hb dc_L_trap_2 (by decide) ?_
  refine lv_aload_n hx hb dc_L_trap_3 rfl (lv_at hl 0 rfl) ?_
  refine lv_iload_n hx hb dc_L_trap_4 rfl (lv_at hl 1 rfl) ?_
  refine lv_iload_n hx hb dc_L_trap_5 rfl (lv_at hl 2 rfl) ?_
  refine lv_lload_n hx hb dc_L_trap_6 rfl (lv_at hl 3 rfl) ?_
  refine lv_lload hx hb dc_L_trap_7 (lv_at hl 4 rfl) ?_
  have hF : ∀ q, va_A (wx h0 b1 b2 u) s.heap.size q → A q := va_free (wc := wx h0 b1 b2 u) hD hS C.2.2.2.2.2.2.2.2.1 [0, 1, 2] rfl
  refine vx_calll (rest := [.int 0, .ref ot]) (vk_run (q0 := 0) C kt_O (hK.sub [] rfl) (cz_X_trap l hl9 D [] h0 b1 b2 u p1 p2 p3 p4 hbad _) (cz_L_trap hT ⟨Nat.le_of_ble_eq_true rfl, Nat.le_of_ble_eq_true rfl⟩) rfl rfl hP hD hS rfl hl.1 rfl (Nat.le_of_ble_eq_true rfl) dc_L_trap_9 ⟨Nat.le_of_ble_eq_true rfl, Nat.le_of_ble_eq_true rfl⟩) hS (fun q _ h => hF q h) hF (fun q _ h => hF q h) (fun E ce q9 u9 t H1 locs1 ht hvm hpx hB hz hk hS hcell hcv hcl => ?_) (fun r u2 t H1 locs1 ht hvm hw => absurd hw id)
  obtain ⟨hE, hP1⟩ := hB
  rw [ht] at hP1
  refine vk_take (x := ⟨0, 13, 16, 13⟩) C kt_O hP hD va_S.rf htab (by decide) (by decide) (hT _ mw_286) hE hP1 hk hcell hcv hcl (fun hP hD => ?_)
  refine lv_astore (lv' := [(8, .ref q9), (0, .ref h0), (1, .int p1), (2, .int p2), (3, .long p3), (5, .long p4), (7, .ref ot)]) hx hb dc_L_trap_16 hl (by decide) rfl (fun ls hl => ?_)
  refine lv_iconst (v := 1) hx hb dc_L_trap_18 (by decide) ?_
  exact ck_iret (wf := (wo h0 b1 b2 ot cO)) (u := (u, o)) (v := 1) C hP hD hS ⟨rfl, rfl⟩ dc_L_trap_19
theorem cw_L_line {R : Room} {s : State} {args : Array Value} (hT : ∀ w ∈ xw_T, w.before args s = true) (hR : rm_X_line.frames + 1 ≤ R.frames ∧ 8 + (5 + 11) + rm_X_line.locals ≤ R.locals) : CallW R s args "ControlDeskLaw" "ControlDesk" 19 yn_X_line bc_X_line 5 none w_X_line rm_X_line 0 0 2 :=
  ⟨callB_of 2 hT (xw_good mc_X_line) rfl rfl rfl (hT _ mw_156) (hT _ mw_292) (by decide +kernel) hR, (hT _ mw_293), (hT _ mw_294)⟩
theorem cz_L_line {R : Room} {s : State} {args : Array Value} (hT : ∀ w ∈ xw_T, w.before args s = true) (hR : rz_X_line.frames + 1 ≤ R.frames ∧ 8 + (5 + 11) + rz_X_line.locals ≤ R.locals) : CallW R s args "ControlDeskLaw" "ControlDesk" 19 yn_X_line bc_X_line 5 none w_X_line rz_X_line 1 6 2 :=
  ⟨callB_of 2 hT (xw_good mc_X_line) rfl rfl rfl (hT _ mw_156) (hT _ mw_292) (by decide +kernel) hR, (hT _ mw_293), (hT _ mw_294)⟩
abbrev rm_L_line : Room := { frames := 1, cells := 0, slots := 0, locals := 24 }
abbrev rz_L_line : Room := { frames := 7, cells := 1, slots := 6, locals := 107 }
abbrev w_L_line : List Cond := .codeWith yn_L_line bc_L_line 4 (some .int) [(0, 6, 9, 13)] :: xw_T
set_option maxHeartbeats 4000000 in
set_option maxRecDepth 100000 in
theorem c_L_line (l : Launch) (D : va_G) (h0 b1 b2 : Nat) (u : cs_St) (p1 p2 : Int32) (g1 : p1 = 3 ∨ p1 = 7 ∨ p1 = 9 ∨ p1 = 11) : ck_Mi l D [] (wx h0 b1 b2) yn_L_line w_L_line rm_L_line 0 0 [.ref h0, .int p1, .int p2] u 0 (f_X_line u p1 p2) := by
  refine ck_entH (wf := (wx h0 b1 b2)) (u := u) (QA := fun A => va_Qi (fun r2 u2 => r2 = 0 ∧ u2 = (f_X_line u p1 p2)) (ck_B D (wx h0 b1 b2) A) A) (cc := bc_L_line) (maxL := 4) (ret := (some .int)) (hh := [(0, 6, 9, 13)]) (by decide) rfl (Nat.le_of_ble_eq_true rfl) ?_
  intro p e s m below meth c A ls C htab hP hD hS hl
  have C : ck_C p s m meth c bc_L_line (some .int) 4 #[.ref h0, .int p1, .int p2] "ControlDeskLaw" A D [] := C
  have hl : lv_has ls 4 [(0, .ref h0), (1, .int p1), (2, .int p2)] := hl
  have hx := C.1
  have hb := C.2.1
  have hown := C.2.2.2.2.1
  have hT := C.2.2.2.2.2.1
  have hK := C.2.2.2.2.2.2.2.1
  have hN := C.2.2.2.2.2.2.2.2.2.2.2.1
  refine lv_aload_n hx hb dc_L_line_0 rfl (lv_at hl 0 rfl) ?_
  refine lv_iload_n hx hb dc_L_line_1 rfl (lv_at hl 1 rfl) ?_
  refine lv_iload_n hx hb dc_L_line_2 rfl (lv_at hl 2 rfl) ?_
  refine ck_gov (rest := []) C kt_X hP hD hS (ck_runV (q0 := 0) C kt_X (hK.sub [] rfl) (c_X_line l D [] h0 b1 b2 u p1 p2 g1 _) (cw_L_line hT ⟨Nat.le_of_ble_eq_true rfl, Nat.le_of_ble_eq_true rfl⟩) rfl rfl hP hD hS rfl hl.1 rfl (Nat.le_of_ble_eq_true rfl) dc_L_line_3 ⟨Nat.zero_le _, Nat.zero_le _⟩) (fun w1 H locs ew1 hP hD hS => ?_)
  refine lv_goto (tgt := 12) hx hb dc_L_line_6 (by decide) ?_
  refine lv_iconst (v := 0) hx hb dc_L_line_12 (by decide) ?_
  exact ck_iret (wf := (wx h0 b1 b2)) (u := w1) (v := 0) C hP hD hS ⟨rfl, ew1⟩ dc_L_line_13
set_option maxHeartbeats 4000000 in
set_option maxRecDepth 100000 in
theorem cy_L_line (l : Launch) (hl9 : l.stackTraces = false) (D : va_G) (h0 b1 b2 : Nat) (u : cs_St) (p1 p2 : Int32) (hbad : ¬ p1 = 3 ∧ ¬ p1 = 7 ∧ ¬ p1 = 9 ∧ ¬ p1 = 11) : ck_Mi l D [] (wx h0 b1 b2) yn_L_line w_L_line rz_L_line 1 6 [.ref h0, .int p1, .int p2] u 1 u := by
  refine ck_entH (wf := (wx h0 b1 b2)) (u := u) (QA := fun A => va_Qi (fun r2 u2 => r2 = 1 ∧ u2 = u) (ck_B D (wx h0 b1 b2) A) A) (cc := bc_L_line) (maxL := 4) (ret := (some .int)) (hh := [(0, 6, 9, 13)]) (by decide) rfl (Nat.le_of_ble_eq_true rfl) ?_
  intro p e s m below meth c A ls C htab hP hD hS hl
  have C : ck_C p s m meth c bc_L_line (some .int) 4 #[.ref h0, .int p1, .int p2] "ControlDeskLaw" A D [] := C
  have hl : lv_has ls 4 [(0, .ref h0), (1, .int p1), (2, .int p2)] := hl
  have hx := C.1
  have hb := C.2.1
  have hown := C.2.2.2.2.1
  have hT := C.2.2.2.2.2.1
  have hK := C.2.2.2.2.2.2.2.1
  have hN := C.2.2.2.2.2.2.2.2.2.2.2.1
  refine lv_aload_n hx hb dc_L_line_0 rfl (lv_at hl 0 rfl) ?_
  refine lv_iload_n hx hb dc_L_line_1 rfl (lv_at hl 1 rfl) ?_
  refine lv_iload_n hx hb dc_L_line_2 rfl (lv_at hl 2 rfl) ?_
  have hF : ∀ q, va_A (wx h0 b1 b2 u) s.heap.size q → A q := va_free (wc := wx h0 b1 b2 u) hD hS C.2.2.2.2.2.2.2.2.1 [0, 1, 2] rfl
  refine vx_callv (rest := []) (vk_run (q0 := 0) C kt_X (hK.sub [] rfl) (cz_X_line l hl9 D [] h0 b1 b2 u p1 p2 hbad _) (cz_L_line hT ⟨Nat.le_of_ble_eq_true rfl, Nat.le_of_ble_eq_true rfl⟩) rfl rfl hP hD hS rfl hl.1 rfl (Nat.le_of_ble_eq_true rfl) dc_L_line_3 ⟨Nat.le_of_ble_eq_true rfl, Nat.le_of_ble_eq_true rfl⟩) hS (fun q _ h => hF q h) hF (fun q _ h => hF q h) (fun E ce q9 u9 t H1 locs1 ht hvm hpx hB hz hk hS hcell hcv hcl => ?_) (fun u2 t H1 locs1 ht hvm hw => absurd hw id)
  obtain ⟨hE, hP1⟩ := hB
  rw [ht] at hP1
  refine vk_take (x := ⟨0, 6, 9, 13⟩) C kt_X hP hD va_S.rf htab (by decide) (by decide) (hT _ mw_286) hE hP1 hk hcell hcv hcl (fun hP hD => ?_)
  refine lv_astore_n (lv' := [(3, .ref q9), (0, .ref h0), (1, .int p1), (2, .int p2)]) hx hb dc_L_line_9 rfl hl (by decide) rfl (fun ls hl => ?_)
  refine lv_iconst (v := 1) hx hb dc_L_line_10 (by decide) ?_
  exact ck_iret (wf := (wx h0 b1 b2)) (u := u) (v := 1) C hP hD hS ⟨rfl, rfl⟩ dc_L_line_11
theorem cw_L_allowed {R : Room} {s : State} {args : Array Value} (hT : ∀ w ∈ xw_T, w.before args s = true) (hR : rm_X_allowed.frames + 1 ≤ R.frames ∧ 8 + (2 + 11) + rm_X_allowed.locals ≤ R.locals) : CallW R s args "ControlDeskLaw" "ControlDesk" 23 yn_X_allowed bc_X_allowed 2 (some .boolean) w_X_allowed rm_X_allowed 0 0 1 :=
  ⟨callB_of 1 hT (xw_good mc_X_allowed) rfl rfl rfl (hT _ mw_156) (hT _ mw_296) (by decide +kernel) hR, (hT _ mw_297), (hT _ mw_298)⟩
theorem cz_L_allowed {R : Room} {s : State} {args : Array Value} (hT : ∀ w ∈ xw_T, w.before args s = true) (hR : rz_X_allowed.frames + 1 ≤ R.frames ∧ 8 + (2 + 11) + rz_X_allowed.locals ≤ R.locals) : CallW R s args "ControlDeskLaw" "ControlDesk" 23 yn_X_allowed bc_X_allowed 2 (some .boolean) w_X_allowed rz_X_allowed 1 6 1 :=
  ⟨callB_of 1 hT (xw_good mc_X_allowed) rfl rfl rfl (hT _ mw_156) (hT _ mw_296) (by decide +kernel) hR, (hT _ mw_297), (hT _ mw_298)⟩
abbrev rm_L_allowed : Room := { frames := 3, cells := 0, slots := 0, locals := 65 }
abbrev rz_L_allowed : Room := { frames := 7, cells := 1, slots := 6, locals := 104 }
abbrev w_L_allowed : List Cond := .codeWith yn_L_allowed bc_L_allowed 4 (some .int) [(0, 16, 19, 13)] :: xw_T
set_option maxHeartbeats 4000000 in
set_option maxRecDepth 100000 in
theorem c_L_allowed (l : Launch) (D : va_G) (h0 b1 b2 ot : Nat) (cO : ClassId) (u : cs_St) (o : Nat → Int64) (p1 : Int32) (g1 : p1 = 0 ∨ p1 = 1) : ck_Mi l D [(cO, .long)] (wo h0 b1 b2 ot cO) yn_L_allowed w_L_allowed rm_L_allowed 0 0 [.ref h0, .int p1, .ref ot] (u, o) 0 (u, vp_updL o (0 : Int32).toNatClampNeg (if f_X_allowed u p1 = 0 then 0 else 1)) := by
  refine ck_entH (wf := (wo h0 b1 b2 ot cO)) (u := (u, o)) (QA := fun A => va_Qi (fun r2 u2 => r2 = 0 ∧ u2 = (u, vp_updL o (0 : Int32).toNatClampNeg (if f_X_allowed u p1 = 0 then 0 else 1))) (ck_B D (wo h0 b1 b2 ot cO) A) A) (cc := bc_L_allowed) (maxL := 4) (ret := (some .int)) (hh := [(0, 16, 19, 13)]) (by decide) rfl (Nat.le_of_ble_eq_true rfl) ?_
  intro p e s m below meth c A ls C htab hP hD hS hl
  have C : ck_C p s m meth c bc_L_allowed (some .int) 4 #[.ref h0, .int p1, .ref ot] "ControlDeskLaw" A D [(cO, .long)] := C
  have hl : lv_has ls 4 [(0, .ref h0), (1, .int p1), (2, .ref ot)] := hl
  have hx := C.1
  have hb := C.2.1
  have hown := C.2.2.2.2.1
  have hT := C.2.2.2.2.2.1
  have hK := C.2.2.2.2.2.2.2.1
  have hN := C.2.2.2.2.2.2.2.2.2.2.2.1
  refine lv_aload_n hx hb dc_L_allowed_0 rfl (lv_at hl 2 rfl) ?_
  refine lv_iconst (v := 0) hx hb dc_L_allowed_1 (by decide) ?_
  refine lv_aload_n hx hb dc_L_allowed_2 rfl (lv_at hl 0 rfl) ?_
  refine lv_iload_n hx hb dc_L_allowed_3 rfl (lv_at hl 1 rfl) ?_
  refine ck_gpi (rest := [.int 0, .ref ot]) C kt_O hP hD hS (ck_runV (q0 := 0) C kt_O (hK.sub [] rfl) (c_X_allowed l D [] h0 b1 b2 u p1 g1 _) (cw_L_allowed hT ⟨Nat.le_of_ble_eq_true rfl, Nat.le_of_ble_eq_true rfl⟩) rfl rfl hP hD hS rfl hl.1 rfl (Nat.le_of_ble_eq_true rfl) dc_L_allowed_4 ⟨Nat.zero_le _, Nat.zero_le _⟩) (fun v1 H locs e1 hP hD hS => ?_)
  refine lv_if_eq (tgt := 14) hx hb dc_L_allowed_7 (by decide) (fun c1 => ?_) (fun c1 => ?_)
  · rw [e1] at c1
    refine lv_lconst (v := 0) hx hb dc_L_allowed_14 (by decide) ?_
    refine va_last (f := o) hx hb hK hP hD hS 3 0 rfl rfl (by unfold vp_in; decide) dc_L_allowed_15 (fun H locs hP hD hS => ?_)
    have hP : va_P D xw_Cl (wo h0 b1 b2 ot cO (u, vp_updL o (0 : Int32).toNatClampNeg 0)) H := hP
    have hD : va_D A (wo h0 b1 b2 ot cO (u, vp_updL o (0 : Int32).toNatClampNeg 0)) := hD
    refine lv_goto (tgt := 22) hx hb dc_L_allowed_16 (by decide) ?_
    refine lv_iconst (v := 0) hx hb dc_L_allowed_22 (by decide) ?_
    exact ck_iret (wf := (wo h0 b1 b2 ot cO)) (u := (u, vp_updL o (0 : Int32).toNatClampNeg 0)) (v := 0) C hP hD hS ⟨rfl, by rw [if_pos c1]⟩ dc_L_allowed_23
  · rw [e1] at c1
    refine lv_lconst (v := 1) hx hb dc_L_allowed_10 (by decide) ?_
    refine lv_goto (tgt := 15) hx hb dc_L_allowed_11 (by decide) ?_
    refine va_last (f := o) hx hb hK hP hD hS 3 0 rfl rfl (by unfold vp_in; decide) dc_L_allowed_15 (fun H locs hP hD hS => ?_)
    have hP : va_P D xw_Cl (wo h0 b1 b2 ot cO (u, vp_updL o (0 : Int32).toNatClampNeg 1)) H := hP
    have hD : va_D A (wo h0 b1 b2 ot cO (u, vp_updL o (0 : Int32).toNatClampNeg 1)) := hD
    refine lv_goto (tgt := 22) hx hb dc_L_allowed_16 (by decide) ?_
    refine lv_iconst (v := 0) hx hb dc_L_allowed_22 (by decide) ?_
    exact ck_iret (wf := (wo h0 b1 b2 ot cO)) (u := (u, vp_updL o (0 : Int32).toNatClampNeg 1)) (v := 0) C hP hD hS ⟨rfl, by rw [if_neg c1]⟩ dc_L_allowed_23
set_option maxHeartbeats 4000000 in
set_option maxRecDepth 100000 in
theorem cy_L_allowed (l : Launch) (hl9 : l.stackTraces = false) (D : va_G) (h0 b1 b2 ot : Nat) (cO : ClassId) (u : cs_St) (o : Nat → Int64) (p1 : Int32) (hbad : ¬ p1 = 0 ∧ ¬ p1 = 1) : ck_Mi l D [(cO, .long)] (wo h0 b1 b2 ot cO) yn_L_allowed w_L_allowed rz_L_allowed 1 6 [.ref h0, .int p1, .ref ot] (u, o) 1 (u, o) := by
  refine ck_entH (wf := (wo h0 b1 b2 ot cO)) (u := (u, o)) (QA := fun A => va_Qi (fun r2 u2 => r2 = 1 ∧ u2 = (u, o)) (ck_B D (wo h0 b1 b2 ot cO) A) A) (cc := bc_L_allowed) (maxL := 4) (ret := (some .int)) (hh := [(0, 16, 19, 13)]) (by decide) rfl (Nat.le_of_ble_eq_true rfl) ?_
  intro p e s m below meth c A ls C htab hP hD hS hl
  have C : ck_C p s m meth c bc_L_allowed (some .int) 4 #[.ref h0, .int p1, .ref ot] "ControlDeskLaw" A D [(cO, .long)] := C
  have hl : lv_has ls 4 [(0, .ref h0), (1, .int p1), (2, .ref ot)] := hl
  have hx := C.1
  have hb := C.2.1
  have hown := C.2.2.2.2.1
  have hT := C.2.2.2.2.2.1
  have hK := C.2.2.2.2.2.2.2.1
  have hN := C.2.2.2.2.2.2.2.2.2.2.2.1
  refine lv_aload_n hx hb dc_L_allowed_0 rfl (lv_at hl 2 rfl) ?_
  refine lv_iconst (v := 0) hx hb dc_L_allowed_1 (by decide) ?_
  refine lv_aload_n hx hb dc_L_allowed_2 rfl (lv_at hl 0 rfl) ?_
  refine lv_iload_n hx hb dc_L_allowed_3 rfl (lv_at hl 1 rfl) ?_
  have hF : ∀ q, va_A (wx h0 b1 b2 u) s.heap.size q → A q := va_free (wc := wx h0 b1 b2 u) hD hS C.2.2.2.2.2.2.2.2.1 [0, 1, 2] rfl
  refine vx_calli (rest := [.int 0, .ref ot]) (vk_run (q0 := 0) C kt_O (hK.sub [] rfl) (cz_X_allowed l hl9 D [] h0 b1 b2 u p1 hbad _) (cz_L_allowed hT ⟨Nat.le_of_ble_eq_true rfl, Nat.le_of_ble_eq_true rfl⟩) rfl rfl hP hD hS rfl hl.1 rfl (Nat.le_of_ble_eq_true rfl) dc_L_allowed_4 ⟨Nat.le_of_ble_eq_true rfl, Nat.le_of_ble_eq_true rfl⟩) hS (fun q _ h => hF q h) hF (fun q _ h => hF q h) (fun E ce q9 u9 t H1 locs1 ht hvm hpx hB hz hk hS hcell hcv hcl => ?_) (fun r u2 t H1 locs1 ht hvm hw => absurd hw id)
  obtain ⟨hE, hP1⟩ := hB
  rw [ht] at hP1
  refine vk_take (x := ⟨0, 16, 19, 13⟩) C kt_O hP hD va_S.rf htab (by decide) (by decide) (hT _ mw_286) hE hP1 hk hcell hcv hcl (fun hP hD => ?_)
  refine lv_astore_n (lv' := [(3, .ref q9), (0, .ref h0), (1, .int p1), (2, .ref ot)]) hx hb dc_L_allowed_19 rfl hl (by decide) rfl (fun ls hl => ?_)
  refine lv_iconst (v := 1) hx hb dc_L_allowed_20 (by decide) ?_
  exact ck_iret (wf := (wo h0 b1 b2 ot cO)) (u := (u, o)) (v := 1) C hP hD hS ⟨rfl, rfl⟩ dc_L_allowed_21
/-- the law's first int, or 0 -/
def lc_0 (L : Nat) (xs : Nat → Int32) : Int32 := if Int32.ofNat L ≤ 0 then 0 else xs (0 : Int32).toNatClampNeg
abbrev rm_L_cell : Room := { frames := 0, cells := 0, slots := 0, locals := 0 }
abbrev w_L_cell : List Cond := .code yn_L_cell bc_L_cell 2 (some .int) :: xw_T
set_option maxHeartbeats 4000000 in
set_option maxRecDepth 100000 in
theorem c_L_cell (l : Launch) (b L : Nat) (xs : Nat → Int32) : Met l yn_L_cell w_L_cell rm_L_cell (va_Pc [.ref b, .int 0] (fun U => va_X b L xs U U.heap ∧ b < U.heap.size)) (va_Qi (fun r (_ : Unit) => r = lc_0 L xs) (fun _ _ => True) (fun _ => False)) 0 0 (fun _ => False) := by
  refine Met.ofW (cc := bc_L_cell) (maxL := 2) (ret := (some .int)) (by decide) rfl ?_
  intro p e s m args below meth c s₁ B hml hv
  obtain ⟨rfl, hX, hbl⟩ := hv
  have hx := B.exec
  have hb := B.bytes
  have hr := B.returns
  have hlocks := B.notSynchronized
  have hS : va_S (fun _ => False) s.heap s.heap [] := va_S.rf
  have hbA : ¬ (fun _ : Nat => False) b := id
  have hl := lv_entry ([.ref b, .int 0]) (n := 2) (Nat.le_of_ble_eq_true rfl)
  rw [lg_entry_eq]
  generalize (lg_sl ([.ref b, .int 0]) ++ List.replicate (2 - (lg_sl ([.ref b, .int 0])).length) Slot.unset).toArray = ls at hl ⊢
  have hl : lv_has ls 2 [(0, .ref b), (1, .int 0)] := hl
  refine lv_iload_n hx hb dc_L_cell_0 rfl (lv_at hl 1 rfl) ?_
  refine lv_aload_n hx hb dc_L_cell_1 rfl (lv_at hl 0 rfl) ?_
  refine va_slen hx hb hX hbl hbA hS dc_L_cell_2 ?_
  refine lv_icmp_ge (tgt := 12) hx hb dc_L_cell_3 (by decide) (fun c1 => ?_) (fun c1 => ?_)
  · refine lv_iconst (v := 0) hx hb dc_L_cell_12 (by decide) ?_
    exact W.iret (v := 0) hx hb hr (fun t ht hW => ⟨⟨0, (), rfl, (if_pos c1).symm, trivial⟩, hS.F ht⟩) hS.2.2 dc_L_cell_13
  · have hin : vp_in 0 L := by
      unfold vp_in
      intro h
      rcases h with h | h
      · exact absurd h (by decide)
      · have h2 : L = 0 := Nat.le_zero.mp h
        subst h2
        exact c1 (by decide)
    refine lv_aload_n hx hb dc_L_cell_6 rfl (lv_at hl 0 rfl) ?_
    refine lv_iload_n hx hb dc_L_cell_7 rfl (lv_at hl 1 rfl) ?_
    refine va_sld hx hb hX hbl hbA hS hin dc_L_cell_8 ?_
    refine lv_goto (tgt := 13) hx hb dc_L_cell_9 (by decide) ?_
    exact W.iret hx hb hr (fun t ht hW => ⟨⟨_, (), rfl, (if_neg c1).symm, trivial⟩, hS.F ht⟩) hS.2.2 dc_L_cell_13
