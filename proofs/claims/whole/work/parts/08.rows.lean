def xe_N : List Cond := [Cond.methodLinkNest "ControlDesk" 11 ⟨"ControlDesk$Bank", "<init>", "()V"⟩ "ControlDesk", Cond.fieldLinkNest "ControlDesk" 193 "ControlDesk$Bank" "vectors" "J" "ControlDesk", Cond.fieldLinkNest "ControlDesk" 173 "ControlDesk$Bank" "openCounts" "J" "ControlDesk", Cond.fieldLinkNest "ControlDesk" 196 "ControlDesk$Bank" "scratch" "J" "ControlDesk", Cond.fieldLinkNest "ControlDesk" 199 "ControlDesk$Bank" "resume" "J" "ControlDesk", Cond.fieldLinkNest "ControlDesk" 202 "ControlDesk$Bank" "cause" "J" "ControlDesk", Cond.fieldLinkNest "ControlDesk" 205 "ControlDesk$Bank" "value" "J" "ControlDesk", Cond.castable "java/lang/IllegalArgumentException" "java/lang/IllegalArgumentException", Cond.declares ⟨"java/lang/RuntimeException", "<init>", "()V"⟩, Cond.declares ⟨"java/lang/RuntimeException", "<init>", "(Ljava/lang/String;)V"⟩, Cond.declares ⟨"java/lang/Exception", "<init>", "()V"⟩, Cond.declares ⟨"java/lang/Exception", "<init>", "(Ljava/lang/String;)V"⟩, Cond.declares ⟨"java/lang/Throwable", "<init>", "()V"⟩, Cond.declares ⟨"java/lang/Throwable", "<init>", "(Ljava/lang/String;)V"⟩, Cond.methodLinkNest "ControlDesk" 235 ⟨"ControlDesk$Bank", "keepVectors", "(J)V"⟩ "ControlDesk", Cond.methodLinkNest "ControlDesk" 240 ⟨"ControlDesk$Bank", "keepResume", "(J)V"⟩ "ControlDesk", Cond.methodLinkNest "ControlDesk" 93 ⟨"ControlDesk$Bank", "remember", "(ZIJJ)V"⟩ "ControlDesk", Cond.methodLinkNest "ControlDesk" 97 ⟨"ControlDesk$Bank", "entry", "(ZI)J"⟩ "ControlDesk"]
theorem xe_N_ot : ∀ w ∈ xe_N, w.onTables = true := by decide +kernel
theorem xe_N_in : ∀ w ∈ xe_N, w ∈ lw_tbl := by decide +kernel
theorem xe_N_warm {u U : State} (hv : u.WarmedH U.vm) (h : ∀ w ∈ xe_N, va_Nw w u) : ∀ w ∈ xe_N, va_Nw w U :=
  List.forall_mem_cons.mpr ⟨va_Nw.warmM hv (h _ (List.mem_of_getElem? (i := 0) rfl)), List.forall_mem_cons.mpr ⟨va_Nw.warmF hv (h _ (List.mem_of_getElem? (i := 1) rfl)), List.forall_mem_cons.mpr ⟨va_Nw.warmF hv (h _ (List.mem_of_getElem? (i := 2) rfl)), List.forall_mem_cons.mpr ⟨va_Nw.warmF hv (h _ (List.mem_of_getElem? (i := 3) rfl)), List.forall_mem_cons.mpr ⟨va_Nw.warmF hv (h _ (List.mem_of_getElem? (i := 4) rfl)), List.forall_mem_cons.mpr ⟨va_Nw.warmF hv (h _ (List.mem_of_getElem? (i := 5) rfl)), List.forall_mem_cons.mpr ⟨va_Nw.warmF hv (h _ (List.mem_of_getElem? (i := 6) rfl)), List.forall_mem_cons.mpr ⟨va_Nw.warmC hv (h _ (List.mem_of_getElem? (i := 7) rfl)), List.forall_mem_cons.mpr ⟨va_Nw.warmD hv (h _ (List.mem_of_getElem? (i := 8) rfl)), List.forall_mem_cons.mpr ⟨va_Nw.warmD hv (h _ (List.mem_of_getElem? (i := 9) rfl)), List.forall_mem_cons.mpr ⟨va_Nw.warmD hv (h _ (List.mem_of_getElem? (i := 10) rfl)), List.forall_mem_cons.mpr ⟨va_Nw.warmD hv (h _ (List.mem_of_getElem? (i := 11) rfl)), List.forall_mem_cons.mpr ⟨va_Nw.warmD hv (h _ (List.mem_of_getElem? (i := 12) rfl)), List.forall_mem_cons.mpr ⟨va_Nw.warmD hv (h _ (List.mem_of_getElem? (i := 13) rfl)), List.forall_mem_cons.mpr ⟨va_Nw.warmM hv (h _ (List.mem_of_getElem? (i := 14) rfl)), List.forall_mem_cons.mpr ⟨va_Nw.warmM hv (h _ (List.mem_of_getElem? (i := 15) rfl)), List.forall_mem_cons.mpr ⟨va_Nw.warmM hv (h _ (List.mem_of_getElem? (i := 16) rfl)), List.forall_mem_cons.mpr ⟨va_Nw.warmM hv (h _ (List.mem_of_getElem? (i := 17) rfl)), fun _ h => absurd h List.not_mem_nil⟩⟩⟩⟩⟩⟩⟩⟩⟩⟩⟩⟩⟩⟩⟩⟩⟩⟩
-- PART: OWN ROWS. One context, one world function a system, contracts that name the answer and the state left.
section XA
variable {p : Program} {l : Launch} {e : Env} {R : Room} {s : State} {m : MethodId} {args : Array Value} {below : List Frame} {meth : Method} {c : Code} {H : Heap} {locs : List Loc} {cells slots : Nat} {Q : State → Prop} {cc : ByteArray} {pc : Nat} {ls : Array Slot} {rest : List Value}
theorem xr_iadd (hx : p.tables.exec = Jvm.exec) (hb : c.code = cc) {x y : Int32} (hd : decode cc pc = .ok (.iadd, 1)) (k : ∀ v : Int32, v = x + y → W p l e R s m args below meth c H locs cells slots Q (F0 m (pc + 1) ls (.int v :: rest))) : W p l e R s m args below meth c H locs cells slots Q (F0 m pc ls (.int y :: .int x :: rest)) := lv_iadd hx hb hd (k _ rfl)
theorem xr_isub (hx : p.tables.exec = Jvm.exec) (hb : c.code = cc) {x y : Int32} (hd : decode cc pc = .ok (.isub, 1)) (k : ∀ v : Int32, v = x - y → W p l e R s m args below meth c H locs cells slots Q (F0 m (pc + 1) ls (.int v :: rest))) : W p l e R s m args below meth c H locs cells slots Q (F0 m pc ls (.int y :: .int x :: rest)) := lv_isub hx hb hd (k _ rfl)
theorem xr_imul (hx : p.tables.exec = Jvm.exec) (hb : c.code = cc) {x y : Int32} (hd : decode cc pc = .ok (.imul, 1)) (k : ∀ v : Int32, v = x * y → W p l e R s m args below meth c H locs cells slots Q (F0 m (pc + 1) ls (.int v :: rest))) : W p l e R s m args below meth c H locs cells slots Q (F0 m pc ls (.int y :: .int x :: rest)) := lv_imul hx hb hd (k _ rfl)
theorem xr_iand (hx : p.tables.exec = Jvm.exec) (hb : c.code = cc) {x y : Int32} (hd : decode cc pc = .ok (.iand, 1)) (k : ∀ v : Int32, v = x &&& y → W p l e R s m args below meth c H locs cells slots Q (F0 m (pc + 1) ls (.int v :: rest))) : W p l e R s m args below meth c H locs cells slots Q (F0 m pc ls (.int y :: .int x :: rest)) := lv_iand hx hb hd (k _ rfl)
theorem xr_ishr (hx : p.tables.exec = Jvm.exec) (hb : c.code = cc) {x y : Int32} (hd : decode cc pc = .ok (.ishr, 1)) (k : ∀ v : Int32, v = x >>> (y &&& 31) → W p l e R s m args below meth c H locs cells slots Q (F0 m (pc + 1) ls (.int v :: rest))) : W p l e R s m args below meth c H locs cells slots Q (F0 m pc ls (.int y :: .int x :: rest)) := lv_ishr hx hb hd (k _ rfl)
theorem xr_irem (hx : p.tables.exec = Jvm.exec) (hb : c.code = cc) {x y : Int32} (hd : decode cc pc = .ok (.irem, 1)) (hne : ¬ y = 0) (k : ∀ v : Int32, v = x - x / y * y → W p l e R s m args below meth c H locs cells slots Q (F0 m (pc + 1) ls (.int v :: rest))) : W p l e R s m args below meth c H locs cells slots Q (F0 m pc ls (.int y :: .int x :: rest)) := lv_irem hx hb hd hne (k _ rfl)
theorem xr_idiv (hx : p.tables.exec = Jvm.exec) (hb : c.code = cc) {x y : Int32} (hd : decode cc pc = .ok (.idiv, 1)) (hne : ¬ y = 0) (k : ∀ v : Int32, v = x / y → W p l e R s m args below meth c H locs cells slots Q (F0 m (pc + 1) ls (.int v :: rest))) : W p l e R s m args below meth c H locs cells slots Q (F0 m pc ls (.int y :: .int x :: rest)) := lv_idiv hx hb hd hne (k _ rfl)
theorem xr_ladd (hx : p.tables.exec = Jvm.exec) (hb : c.code = cc) {x y : Int64} (hd : decode cc pc = .ok (.ladd, 1)) (k : ∀ v : Int64, v = x + y → W p l e R s m args below meth c H locs cells slots Q (F0 m (pc + 1) ls (.long v :: rest))) : W p l e R s m args below meth c H locs cells slots Q (F0 m pc ls (.long y :: .long x :: rest)) := lv_ladd hx hb hd (k _ rfl)
theorem xr_lmul (hx : p.tables.exec = Jvm.exec) (hb : c.code = cc) {x y : Int64} (hd : decode cc pc = .ok (.lmul, 1)) (k : ∀ v : Int64, v = x * y → W p l e R s m args below meth c H locs cells slots Q (F0 m (pc + 1) ls (.long v :: rest))) : W p l e R s m args below meth c H locs cells slots Q (F0 m pc ls (.long y :: .long x :: rest)) := lv_lmul hx hb hd (k _ rfl)
theorem xr_land (hx : p.tables.exec = Jvm.exec) (hb : c.code = cc) {x y : Int64} (hd : decode cc pc = .ok (.land, 1)) (k : ∀ v : Int64, v = x &&& y → W p l e R s m args below meth c H locs cells slots Q (F0 m (pc + 1) ls (.long v :: rest))) : W p l e R s m args below meth c H locs cells slots Q (F0 m pc ls (.long y :: .long x :: rest)) := lv_land hx hb hd (k _ rfl)
theorem xr_lor (hx : p.tables.exec = Jvm.exec) (hb : c.code = cc) {x y : Int64} (hd : decode cc pc = .ok (.lor, 1)) (k : ∀ v : Int64, v = x ||| y → W p l e R s m args below meth c H locs cells slots Q (F0 m (pc + 1) ls (.long v :: rest))) : W p l e R s m args below meth c H locs cells slots Q (F0 m pc ls (.long y :: .long x :: rest)) := lv_lor hx hb hd (k _ rfl)
theorem xr_lxor (hx : p.tables.exec = Jvm.exec) (hb : c.code = cc) {x y : Int64} (hd : decode cc pc = .ok (.lxor, 1)) (k : ∀ v : Int64, v = x ^^^ y → W p l e R s m args below meth c H locs cells slots Q (F0 m (pc + 1) ls (.long v :: rest))) : W p l e R s m args below meth c H locs cells slots Q (F0 m pc ls (.long y :: .long x :: rest)) := lv_lxor hx hb hd (k _ rfl)
theorem xr_i2l (hx : p.tables.exec = Jvm.exec) (hb : c.code = cc) {x : Int32} (hd : decode cc pc = .ok (.i2l, 1)) (k : ∀ v : Int64, v = x.toInt64 → W p l e R s m args below meth c H locs cells slots Q (F0 m (pc + 1) ls (.long v :: rest))) : W p l e R s m args below meth c H locs cells slots Q (F0 m pc ls (.int x :: rest)) := lv_i2l hx hb hd rfl (k _ rfl)
theorem xr_l2i (hx : p.tables.exec = Jvm.exec) (hb : c.code = cc) {x : Int64} (hd : decode cc pc = .ok (.l2i, 1)) (k : ∀ v : Int32, v = x.toInt32 → W p l e R s m args below meth c H locs cells slots Q (F0 m (pc + 1) ls (.int v :: rest))) : W p l e R s m args below meth c H locs cells slots Q (F0 m pc ls (.long x :: rest)) := lv_l2i hx hb hd rfl (k _ rfl)
theorem xr_lushr (hx : p.tables.exec = Jvm.exec) (hb : c.code = cc) {x : Int64} {y : Int32} (hd : decode cc pc = .ok (.lushr, 1)) (k : ∀ v : Int64, v = (x.toUInt64 >>> (y.toInt64.toUInt64 &&& Int64.toUInt64 63)).toInt64 → W p l e R s m args below meth c H locs cells slots Q (F0 m (pc + 1) ls (.long v :: rest))) : W p l e R s m args below meth c H locs cells slots Q (F0 m pc ls (.int y :: .long x :: rest)) := lv_lushr hx hb hd rfl (k _ rfl)
theorem xr_lshl (hx : p.tables.exec = Jvm.exec) (hb : c.code = cc) {x : Int64} {y : Int32} (hd : decode cc pc = .ok (.lshl, 1)) (k : ∀ v : Int64, v = x <<< (y.toInt64 &&& 63) → W p l e R s m args below meth c H locs cells slots Q (F0 m (pc + 1) ls (.long v :: rest))) : W p l e R s m args below meth c H locs cells slots Q (F0 m pc ls (.int y :: .long x :: rest)) := lv_lshl hx hb hd rfl (k _ rfl)
theorem xr_lshr (hx : p.tables.exec = Jvm.exec) (hb : c.code = cc) {x : Int64} {y : Int32} (hd : decode cc pc = .ok (.lshr, 1)) (k : ∀ v : Int64, v = x >>> (y.toInt64 &&& 63) → W p l e R s m args below meth c H locs cells slots Q (F0 m (pc + 1) ls (.long v :: rest))) : W p l e R s m args below meth c H locs cells slots Q (F0 m pc ls (.int y :: .long x :: rest)) := lv_lshr hx hb hd rfl (k _ rfl)
theorem xr_lcmp (hx : p.tables.exec = Jvm.exec) (hb : c.code = cc) {x y : Int64} (hd : decode cc pc = .ok (.lcmp, 1)) (k : ∀ v : Int32, v = lg_cmp x y → W p l e R s m args below meth c H locs cells slots Q (F0 m (pc + 1) ls (.int v :: rest))) : W p l e R s m args below meth c H locs cells slots Q (F0 m pc ls (.long y :: .long x :: rest)) := W.lcmp hx hb hd (k _ rfl)
end XA
/-- what the law's start says of statics and String constants that the class reads: they lie outside of what is written -/
def xe_ord (j : Nat) : Int32 := match j with | 0 => 11 | 1 => 3 | 2 => 7 | 3 => 9 | 4 => 1 | _ => 5
def xe_S (U : State) : Prop := (∀ w ∈ xe_N, va_Nw w U) ∧ (∃ q : Nat, vk_R "ControlDesk" 39 "no register has this number" q U) ∧ (∃ q : Nat, vk_R "ControlDesk" 44 "no such operation" q U) ∧ (∃ q : Nat, vk_R "ControlDesk" 81 "a cause is 0 to 63" q U) ∧ (∃ q : Nat, vk_R "ControlDesk" 139 "this interrupt has no line" q U) ∧ ∃ q : Nat, vk_R "ControlDesk" 144 "neither WAIT nor FENCE" q U
def xe_E (A : Nat → Prop) (U : State) (H : Heap) : Prop := (∃ t : Nat, va_Z "ControlDesk" "INTERRUPT_ORDER" "[I" (.ref t) A U H ∧ va_T .int t 6 (fun j => .int (xe_ord j)) A U H) ∧ (vx_Zq Bundle.tN "UNASSIGNED_STACK" Bundle.steD A U H ∧ vx_Zq Bundle.tN "SUPPRESSED_SENTINEL" Bundle.listD A U H) ∧ xe_S U
theorem xe_S_same {u U : State} (hv : U.vm = u.vm) (h : xe_S u) : xe_S U := by
  obtain ⟨hn, ⟨q1, h1⟩, ⟨q2, h2⟩, ⟨q3, h3⟩, ⟨q4, h4⟩, q5, h5⟩ := h
  exact ⟨fun w hw => va_Nw.same (xe_N_ot w hw) hv.symm (hn w hw), ⟨q1, h1.same hv⟩, ⟨q2, h2.same hv⟩, ⟨q3, h3.same hv⟩, ⟨q4, h4.same hv⟩, q5, h5.same hv⟩
theorem xe_S_warm {u U : State} (hv : u.WarmedH U.vm) (h : xe_S u) : xe_S U := by
  obtain ⟨hn, ⟨q1, h1⟩, ⟨q2, h2⟩, ⟨q3, h3⟩, ⟨q4, h4⟩, q5, h5⟩ := h
  exact ⟨xe_N_warm hv hn, ⟨q1, h1.warm hv⟩, ⟨q2, h2.warm hv⟩, ⟨q3, h3.warm hv⟩, ⟨q4, h4.warm hv⟩, q5, h5.warm hv⟩
theorem xe_same {A : Nat → Prop} {u U : State} {H : Heap} (hv : U.vm = u.vm) (hvm : u.vm.Alike U.vm) (h : xe_E A u H) : xe_E A U H := by
  obtain ⟨⟨t, z, q⟩, ⟨h1, h2⟩, h3⟩ := h
  exact ⟨⟨t, z.moved hvm, q.moved hvm⟩, ⟨h1.moved hvm, h2.moved hvm⟩, xe_S_same hv h3⟩
theorem xe_go {A B : Nat → Prop} {u U : State} {H H1 : Heap} (hv : u.WarmedH U.vm) (hq : ∀ a : Nat, a < H.size → ¬ A a → H1[a]? = H[a]?) (hAB : ∀ q, B q → A q) (h : xe_E A u H) : xe_E B U H1 := by
  obtain ⟨⟨t, z, q⟩, ⟨h1, h2⟩, h3⟩ := h
  exact ⟨⟨t, ((z.kept hq).moved hv.alike).narrow hAB, ((q.kept hq).moved hv.alike).narrow hAB⟩, ⟨((h1.kept hq).moved hv.alike).narrow hAB, ((h2.kept hq).moved hv.alike).narrow hAB⟩, xe_S_warm hv h3⟩
def ck_P {σ : Type} (D : va_G) (tys : List (ClassId × FieldType)) (wf : σ → va_W) (u : σ) (sz : Nat) : State → Prop := fun U => U.heap.size = sz ∧ va_P D xw_Cl (wf u) U.heap ∧ va_K D xw_Cl tys U ∧ va_D (fun _ => True) (wf u) ∧ xe_E (va_A (wf u) sz) U U.heap
def ck_B {σ : Type} (D : va_G) (wf : σ → va_W) (A : Nat → Prop) : σ → State → Prop := fun u t => va_P D xw_Cl (wf u) t.heap ∧ va_D A (wf u)
/-- the method answers the int r and leaves the state u' -/
def ck_Mi {σ : Type} (l : Launch) (D : va_G) (tys : List (ClassId × FieldType)) (wf : σ → va_W) (y : MethodName) (ws : List Cond) (rm : Room) (mc ms : Nat) (av : List Value) (u : σ) (r : Int32) (u' : σ) : Prop := ∀ sz : Nat, Met l y ws rm (va_Pc av (ck_P D tys wf u sz)) (va_Qi (fun r2 u2 => r2 = r ∧ u2 = u') (ck_B D wf (va_A (wf u) sz)) (va_A (wf u) sz)) mc ms (va_A (wf u) sz)
def ck_Ml {σ : Type} (l : Launch) (D : va_G) (tys : List (ClassId × FieldType)) (wf : σ → va_W) (y : MethodName) (ws : List Cond) (rm : Room) (mc ms : Nat) (av : List Value) (u : σ) (r : Int64) (u' : σ) : Prop := ∀ sz : Nat, Met l y ws rm (va_Pc av (ck_P D tys wf u sz)) (va_Ql (fun r2 u2 => r2 = r ∧ u2 = u') (ck_B D wf (va_A (wf u) sz)) (va_A (wf u) sz)) mc ms (va_A (wf u) sz)
def ck_Mv {σ : Type} (l : Launch) (D : va_G) (tys : List (ClassId × FieldType)) (wf : σ → va_W) (y : MethodName) (ws : List Cond) (rm : Room) (mc ms : Nat) (av : List Value) (u : σ) (u' : σ) : Prop := ∀ sz : Nat, Met l y ws rm (va_Pc av (ck_P D tys wf u sz)) (va_Qv (fun u2 => u2 = u') (ck_B D wf (va_A (wf u) sz)) (va_A (wf u) sz)) mc ms (va_A (wf u) sz)
/-- the context of a walk -/
def ck_C (p : Program) (s : State) (m : MethodId) (meth : Method) (c : Code) (cc : ByteArray) (ret : Option FieldType) (nL : Nat) (args : Array Value) (own : String) (A : Nat → Prop) (D : va_G) (tys : List (ClassId × FieldType)) : Prop :=
  p.tables.exec = Jvm.exec ∧ c.code = cc ∧ meth.sig.returnType = ret ∧ c.maxLocals = nL ∧ s.vm.findClass own = some m.cls ∧ (∀ w ∈ xw_T, w.before args s = true) ∧ meth.locks = false ∧ va_K D xw_Cl tys s ∧ (∀ q : Nat, s.heap.size ≤ q → A q) ∧ xe_E A s s.heap
theorem ck_fm {α β : Type} {f : α → Option β} : ∀ (is : List α) (ws : List β), is.map f = ws.map some → is.filterMap f = ws
  | [], [], _ => rfl
  | [], _ :: _, h => by simp at h
  | _ :: _, [], h => by simp at h
  | i :: is, w :: ws, h => by
    simp only [List.map_cons, List.cons.injEq] at h
    rw [List.filterMap_cons_some h.1, ck_fm is ws h.2]
theorem ck_blind {σ : Type} {D : va_G} {tys : List (ClassId × FieldType)} {wf : σ → va_W} {u : σ} {sz : Nat} {av : List Value} : FrameBlind (va_Pc av (ck_P D tys wf u sz)) := by
  intro a U g mk q
  obtain ⟨q0, q1, qP, qK, qD, qE⟩ := q
  exact ⟨q0, q1, qP, va_K.moved (u := U) (U := U.calling g mk a) (Vm.Alike.refl U.vm) qK, qD, xe_same (u := U) (U := U.calling g mk a) rfl (Vm.Alike.refl U.vm) qE⟩
theorem ck_pre {σ : Type} {D : va_G} {tys : List (ClassId × FieldType)} {wf : σ → va_W} {u : σ} {A : Nat → Prop} {s : State} {H : Heap} {locs : List Loc} {av : List Value} (hP : va_P D xw_Cl (wf u) H) (hK : va_K D xw_Cl tys s) (hD : va_D A (wf u)) (hS : va_S A s.heap H locs) (hE : xe_E A s s.heap) (hF : ∀ q, va_A (wf u) H.size q → A q) :
    ∀ U : State, U.heap = H → s.WarmedH U.vm → va_Pc av (ck_P D tys wf u H.size) av.toArray U := by
  intro U hU hW
  refine ⟨rfl, by rw [hU], by rw [hU]; exact hP, va_K.moved hW.alike hK, hD.weaken (fun _ _ _ _ => trivial), ?_⟩
  rw [hU]
  exact xe_go hW hS.2.1 hF hE
theorem ck_ent {σ : Type} {l : Launch} {D : va_G} {tys : List (ClassId × FieldType)} {wf : σ → va_W} {u : σ} {QA : (Nat → Prop) → Array Value → State → Outcome → State → Prop} {av : List Value} {y : MethodName} {ws : List Cond} {rm : Room} {mc ms : Nat} {cc : ByteArray} {maxL : Nat} {ret : Option FieldType}
    (hy : plainName y.cls = true) (hw : ws = Cond.code y cc maxL ret :: xw_T) (hle : (lg_sl av).length ≤ maxL)
    (body : ∀ (p : Program) (e : Env) (s : State) (m : MethodId) (below : List Frame) (meth : Method) (c : Code) (A : Nat → Prop) (ls : Array Slot), ck_C p s m meth c cc ret maxL av.toArray y.cls A D tys → meth.name = y.name → va_P D xw_Cl (wf u) s.heap → va_D A (wf u) → va_S A s.heap s.heap [] → lv_has ls maxL (lv_args 0 av) →
      W p l e rm s m av.toArray below meth c s.heap [] 0 0 (MQ below (QA A) av.toArray s mc ms A) (F0 m 0 ls [])) :
    ∀ sz : Nat, Met l y ws rm (va_Pc av (ck_P D tys wf u sz)) (QA (va_A (wf u) sz)) mc ms (va_A (wf u) sz) := by
  intro sz
  refine Met.ofW (cc := cc) (maxL := maxL) (ret := ret) hy hw ?_
  intro p e s m args below meth c s₁ B hml hv
  obtain ⟨rfl, hsz, hP, hK, hD0, hE⟩ := hv
  have hts := atoms_spec (ws := ws) B.pre
  subst hsz
  rw [lg_entry_eq]
  exact body p e s m below meth c (va_A (wf u) s.heap.size) _ ⟨B.exec, B.bytes, B.returns, hml, findClass_of_methodNamed B.named, fun w h => hts w (by rw [hw]; exact List.mem_cons_of_mem _ h), B.notSynchronized, hK, fun q h => Or.inr h, hE⟩ (name_of_methodNamed B.named B.method).1 hP hD0.self va_S.rf (lv_entry av hle)
section XB
variable {p : Program} {l : Launch} {e : Env} {R : Room} {s : State} {m : MethodId} {args : Array Value} {below : List Frame} {meth : Method} {c : Code} {H : Heap} {locs : List Loc} {cells slots : Nat} {Q : State → Prop} {cc : ByteArray} {pc : Nat} {ls : Array Slot} {rest st0 : List Value}
variable {σ : Type} {D : va_G} {tys tyc : List (ClassId × FieldType)} {wf wc ww : σ → va_W} {wr : va_W} {u u' : σ} {A : Nat → Prop} {ret : Option FieldType} {nL : Nat} {own : String}
theorem ck_iret {v : Int32} {post : Int32 → σ → Prop} (C : ck_C p s m meth c cc (some .int) nL args own A D tys) (hP : va_P D xw_Cl (wf u) H) (hD : va_D A (wf u)) (hS : va_S A s.heap H locs) (hq : post v u) (hdg : decode cc pc = .ok (.ireturn, 1)) :
    W p l e R s m args below meth c H locs cells slots (MQ below (va_Qi post (ck_B D wf A) A) args s cells slots A) (F0 m pc ls [.int v]) :=
  W.iret C.1 C.2.1 C.2.2.1 (fun t ht hW => ⟨⟨v, u, rfl, hq, by rw [ht]; exact hP, hD⟩, hS.F ht⟩) hS.2.2 hdg C.2.2.2.2.2.2.1
theorem ck_zret {v : Int32} {post : Int32 → σ → Prop} (C : ck_C p s m meth c cc (some .boolean) nL args own A D tys) (hP : va_P D xw_Cl (wf u) H) (hD : va_D A (wf u)) (hS : va_S A s.heap H locs) (hn : narrow .boolean (.int v) = .int v) (hq : post v u) (hdg : decode cc pc = .ok (.ireturn, 1)) :
    W p l e R s m args below meth c H locs cells slots (MQ below (va_Qi post (ck_B D wf A) A) args s cells slots A) (F0 m pc ls [.int v]) :=
  W.zret C.1 C.2.1 C.2.2.1 hn (fun t ht hW => ⟨⟨v, u, rfl, hq, by rw [ht]; exact hP, hD⟩, hS.F ht⟩) hS.2.2 hdg C.2.2.2.2.2.2.1
theorem ck_lret {v : Int64} {post : Int64 → σ → Prop} (C : ck_C p s m meth c cc (some .long) nL args own A D tys) (hP : va_P D xw_Cl (wf u) H) (hD : va_D A (wf u)) (hS : va_S A s.heap H locs) (hq : post v u) (hdg : decode cc pc = .ok (.lreturn, 1)) :
    W p l e R s m args below meth c H locs cells slots (MQ below (va_Ql post (ck_B D wf A) A) args s cells slots A) (F0 m pc ls [.long v]) :=
  W.lret C.1 C.2.1 C.2.2.1 (fun t ht hW => ⟨⟨v, u, rfl, hq, by rw [ht]; exact hP, hD⟩, hS.F ht⟩) hS.2.2 hdg C.2.2.2.2.2.2.1
theorem ck_vret {post : σ → Prop} (C : ck_C p s m meth c cc none nL args own A D tys) (hP : va_P D xw_Cl (wf u) H) (hD : va_D A (wf u)) (hS : va_S A s.heap H locs) (hq : post u) (hdg : decode cc pc = .ok (.return_, 1)) :
    W p l e R s m args below meth c H locs cells slots (MQ below (va_Qv post (ck_B D wf A) A) args s cells slots A) (F0 m pc ls []) :=
  W.vret C.1 C.2.1 C.2.2.1 (fun t ht hW => ⟨⟨u, rfl, hq, by rw [ht]; exact hP, hD⟩, hS.F ht⟩) hS.2.2 hdg C.2.2.2.2.2.2.1
/-- behind a call: the callee's cells beside the rest, in the old order -/
theorem ck_join {isC isR isP : List Nat} {H1 : Heap} (hP : va_P D xw_Cl (ww u) H) (hD : va_D A (ww u)) (hC : isC.map (fun i => (ww u)[i]?) = (wc u).map some) (hR : isR.map (fun i => (ww u)[i]?) = wr.map some) (hn : va_nd isR = true) (hdis : ∀ i ∈ isR, i ∉ isC) (hq : ∀ u2 : σ, isP.map (fun i => (wr ++ wc u2)[i]?) = (ww u2).map some) (hqn : va_nd isP = true)
    (hk : ∀ q : Nat, q < H.size → ¬ va_A (wc u) H.size q → H1[q]? = H[q]?) (hF : ∀ q, va_A (wc u) H.size q → A q) (hP1 : va_P D xw_Cl (wc u') H1) (hD1 : va_D (va_A (wc u) H.size) (wc u')) : va_P D xw_Cl (ww u') H1 ∧ va_D A (ww u') := by
  obtain ⟨h1, h2⟩ := va_join hP hD isC isR hC hR hn hdis hk hF hP1 hD1
  exact ⟨h1.sub isP (ck_fm isP _ (hq u')), h2.sub isP hqn (hq u')⟩
variable {y : MethodName} {bytes : ByteArray} {maxL mc ms n index : Nat} {rt : Option FieldType} {ws : List Cond} {rm : Room} {Cn : String} {b : Addr} {As : List Value}
/-- the parts of the caller's world that the callee takes, that it leaves, and the order in which they lie again -/
def ck_cut (wc ww : σ → va_W) (wr : va_W) (u : σ) (isC isR isP : List Nat) : Prop := isC.map (fun i => (ww u)[i]?) = (wc u).map some ∧ va_nd isC = true ∧ isR.map (fun i => (ww u)[i]?) = wr.map some ∧ va_nd isR = true ∧ (∀ i ∈ isR, i ∉ isC) ∧ (∀ u2 : σ, isP.map (fun i => (wr ++ wc u2)[i]?) = (ww u2).map some) ∧ va_nd isP = true
theorem ck_runV {Qc : Array Value → State → Outcome → State → Prop} {isC isR isP : List Nat} {ci q0 N : Nat} {T : u_T} {fs : List Value} (C : ck_C p s m meth c cc ret nL args own A D tys) (hcut : ck_cut wc ww wr u isC isR isP) (hKc : va_K D xw_Cl tyc s) (hM : Met l y ws rm (va_Pc (.ref b :: As) (ck_P D tyc wc u H.size)) Qc mc ms (va_A (wc u) H.size)) (cw : CallW R s args own Cn index y bytes maxL rt ws rm mc ms n) (hc : xw_Cl[ci]? = some (Cn, T, N)) (he : (wc u)[q0]? = some (b, .inr (ci, fs)))
    (hP : va_P D xw_Cl (ww u) H) (hD : va_D A (ww u)) (hS : va_S A s.heap H locs) (hn : As.length = n) (hsz : ls.size = nL) (hst : st0 = As.reverse ++ .ref b :: rest) (hW : (rest.map fun v => v.category).sum ≤ 8) (hdg : decode cc pc = .ok (.invokevirtual index, 3)) (hf : cells + mc ≤ R.cells ∧ slots + ms ≤ R.slots) :
    va_Run p l e R s m args below meth c H locs cells slots mc ms (F0 m pc ls st0) rest (Qc (Value.ref b :: As).toArray) (va_A (wc u) H.size) := by
  obtain ⟨hC, hCn, -⟩ := hcut
  have hPc : va_P D xw_Cl (wc u) H := hP.sub isC (ck_fm isC _ hC)
  have hDc : va_D A (wc u) := hD.sub isC hCn hC
  have hF := va_free (wc := wc u) hD hS C.2.2.2.2.2.2.2.2.1 isC hC
  exact va_runV (As := As) (rest := rest) ⟨C.1, C.2.1, C.2.2.2.1, C.2.2.2.2.1, C.2.2.2.2.2.1⟩ hM cw ⟨ck_blind, va_recv hKc hPc hc he, ck_pre hPc hKc hDc hS C.2.2.2.2.2.2.2.2.2 hF⟩ rfl hn hsz hst (lv_room hW) hdg hf
theorem ck_runVN {Qc : Array Value → State → Outcome → State → Prop} {isC isR isP : List Nat} {ci q0 N : Nat} {T : u_T} {fs : List Value} {host : String} (C : ck_C p s m meth c cc ret nL args own A D tys) (hcut : ck_cut wc ww wr u isC isR isP) (hKc : va_K D xw_Cl tyc s) (hM : Met l y ws rm (va_Pc (.ref b :: As) (ck_P D tyc wc u H.size)) Qc mc ms (va_A (wc u) H.size)) (cw : va_CN R s args own index y host bytes maxL rt ws rm mc ms n ∧ (Cond.instanceMethod y).before args s = true ∧ (Cond.selects Cn y y).before args s = true) (hc : xw_Cl[ci]? = some (Cn, T, N)) (he : (wc u)[q0]? = some (b, .inr (ci, fs)))
    (hP : va_P D xw_Cl (ww u) H) (hD : va_D A (ww u)) (hS : va_S A s.heap H locs) (hn : As.length = n) (hsz : ls.size = nL) (hst : st0 = As.reverse ++ .ref b :: rest) (hW : (rest.map fun v => v.category).sum ≤ 8) (hdg : decode cc pc = .ok (.invokevirtual index, 3)) (hf : cells + mc ≤ R.cells ∧ slots + ms ≤ R.slots) :
    va_Run p l e R s m args below meth c H locs cells slots mc ms (F0 m pc ls st0) rest (Qc (Value.ref b :: As).toArray) (va_A (wc u) H.size) := by
  obtain ⟨hC, hCn, -⟩ := hcut
  have hPc : va_P D xw_Cl (wc u) H := hP.sub isC (ck_fm isC _ hC)
  have hDc : va_D A (wc u) := hD.sub isC hCn hC
  have hF := va_free (wc := wc u) hD hS C.2.2.2.2.2.2.2.2.1 isC hC
  exact va_runVN (As := As) (rest := rest) ⟨C.1, C.2.1, C.2.2.2.1, C.2.2.2.2.1, C.2.2.2.2.2.1⟩ hM cw ⟨ck_blind, va_recv hKc hPc hc he, ck_pre hPc hKc hDc hS C.2.2.2.2.2.2.2.2.2 hF⟩ rfl hn hsz hst (lv_room hW) hdg hf
theorem ck_runS {Qc : Array Value → State → Outcome → State → Prop} {isC isR isP : List Nat} (C : ck_C p s m meth c cc ret nL args own A D tys) (hcut : ck_cut wc ww wr u isC isR isP) (hKc : va_K D xw_Cl tyc s) (hM : Met l y ws rm (va_Pc As (ck_P D tyc wc u H.size)) Qc mc ms (va_A (wc u) H.size)) (cw : CallB R s args own index y bytes maxL rt ws rm mc ms n ∧ (Cond.static y).before args s = true)
    (hP : va_P D xw_Cl (ww u) H) (hD : va_D A (ww u)) (hS : va_S A s.heap H locs) (hn : As.length = n) (hsz : ls.size = nL) (hst : st0 = As.reverse ++ rest) (hW : (rest.map fun v => v.category).sum ≤ 8) (hdg : decode cc pc = .ok (.invokestatic index, 3)) (hf : cells + mc ≤ R.cells ∧ slots + ms ≤ R.slots) :
    va_Run p l e R s m args below meth c H locs cells slots mc ms (F0 m pc ls st0) rest (Qc As.toArray) (va_A (wc u) H.size) := by
  obtain ⟨hC, hCn, -⟩ := hcut
  have hPc : va_P D xw_Cl (wc u) H := hP.sub isC (ck_fm isC _ hC)
  have hDc : va_D A (wc u) := hD.sub isC hCn hC
  have hF := va_free (wc := wc u) hD hS C.2.2.2.2.2.2.2.2.1 isC hC
  exact va_runS (As := As) (rest := rest) ⟨C.1, C.2.1, C.2.2.2.1, C.2.2.2.2.1, C.2.2.2.2.2.1⟩ hM cw ⟨ck_blind, ck_pre hPc hKc hDc hS C.2.2.2.2.2.2.2.2.2 hF⟩ rfl hn hsz hst (lv_room hW) hdg hf
theorem ck_goi {r : Int32} {isC isR isP : List Nat} {a : Array Value} (C : ck_C p s m meth c cc ret nL args own A D tys) (hcut : ck_cut wc ww wr u isC isR isP) (hP : va_P D xw_Cl (ww u) H) (hD : va_D A (ww u)) (hS : va_S A s.heap H locs)
    (hr : va_Run p l e R s m args below meth c H locs cells slots mc ms (F0 m pc ls st0) rest (va_Qi (fun r2 u2 => r2 = r ∧ u2 = u') (ck_B D wc (va_A (wc u) H.size)) (va_A (wc u) H.size) a) (va_A (wc u) H.size))
    (kk : ∀ (r2 : Int32) (u2 : σ) (H1 : Heap) (locs1 : List Loc), r2 = r → u2 = u' → va_P D xw_Cl (ww u2) H1 → va_D A (ww u2) → va_S A s.heap H1 locs1 → W p l e R s m args below meth c H1 locs1 (cells + mc) (slots + ms) Q (F0 m (pc + 3) ls (.int r2 :: rest))) : W p l e R s m args below meth c H locs cells slots Q (F0 m pc ls st0) := by
  obtain ⟨hC, hCn, hR, hn, hdis, hq, hqn⟩ := hcut
  have hF := va_free (wc := wc u) hD hS C.2.2.2.2.2.2.2.2.1 isC hC
  refine va_calli hr hS (fun q _ h => hF q h) hF (fun r2 u2 t H1 locs1 ht hvm hw hB hz hk hS1 => ?_)
  obtain ⟨hP1, hD1⟩ := hB
  rw [ht] at hP1
  obtain ⟨j1, j2⟩ := ck_join hP hD hC hR hn hdis hq hqn hk hF hP1 hD1
  exact kk r2 u2 H1 locs1 hw.1 hw.2 j1 j2 hS1
theorem ck_gol {r : Int64} {isC isR isP : List Nat} {a : Array Value} (C : ck_C p s m meth c cc ret nL args own A D tys) (hcut : ck_cut wc ww wr u isC isR isP) (hP : va_P D xw_Cl (ww u) H) (hD : va_D A (ww u)) (hS : va_S A s.heap H locs)
    (hr : va_Run p l e R s m args below meth c H locs cells slots mc ms (F0 m pc ls st0) rest (va_Ql (fun r2 u2 => r2 = r ∧ u2 = u') (ck_B D wc (va_A (wc u) H.size)) (va_A (wc u) H.size) a) (va_A (wc u) H.size))
    (kk : ∀ (r2 : Int64) (u2 : σ) (H1 : Heap) (locs1 : List Loc), r2 = r → u2 = u' → va_P D xw_Cl (ww u2) H1 → va_D A (ww u2) → va_S A s.heap H1 locs1 → W p l e R s m args below meth c H1 locs1 (cells + mc) (slots + ms) Q (F0 m (pc + 3) ls (.long r2 :: rest))) : W p l e R s m args below meth c H locs cells slots Q (F0 m pc ls st0) := by
  obtain ⟨hC, hCn, hR, hn, hdis, hq, hqn⟩ := hcut
  have hF := va_free (wc := wc u) hD hS C.2.2.2.2.2.2.2.2.1 isC hC
  refine va_calll hr hS (fun q _ h => hF q h) hF (fun r2 u2 t H1 locs1 ht hvm hw hB hz hk hS1 => ?_)
  obtain ⟨hP1, hD1⟩ := hB
  rw [ht] at hP1
  obtain ⟨j1, j2⟩ := ck_join hP hD hC hR hn hdis hq hqn hk hF hP1 hD1
  exact kk r2 u2 H1 locs1 hw.1 hw.2 j1 j2 hS1
theorem ck_gov {isC isR isP : List Nat} {a : Array Value} (C : ck_C p s m meth c cc ret nL args own A D tys) (hcut : ck_cut wc ww wr u isC isR isP) (hP : va_P D xw_Cl (ww u) H) (hD : va_D A (ww u)) (hS : va_S A s.heap H locs)
    (hr : va_Run p l e R s m args below meth c H locs cells slots mc ms (F0 m pc ls st0) rest (va_Qv (fun u2 => u2 = u') (ck_B D wc (va_A (wc u) H.size)) (va_A (wc u) H.size) a) (va_A (wc u) H.size))
    (kk : ∀ (u2 : σ) (H1 : Heap) (locs1 : List Loc), u2 = u' → va_P D xw_Cl (ww u2) H1 → va_D A (ww u2) → va_S A s.heap H1 locs1 → W p l e R s m args below meth c H1 locs1 (cells + mc) (slots + ms) Q (F0 m (pc + 3) ls rest)) : W p l e R s m args below meth c H locs cells slots Q (F0 m pc ls st0) := by
  obtain ⟨hC, hCn, hR, hn, hdis, hq, hqn⟩ := hcut
  have hF := va_free (wc := wc u) hD hS C.2.2.2.2.2.2.2.2.1 isC hC
  refine va_callv hr hS (fun q _ h => hF q h) hF (fun u2 t H1 locs1 ht hvm hw hB hz hk hS1 => ?_)
  obtain ⟨hP1, hD1⟩ := hB
  rw [ht] at hP1
  obtain ⟨j1, j2⟩ := ck_join hP hD hC hR hn hdis hq hqn hk hF hP1 hD1
  exact kk u2 H1 locs1 hw j1 j2 hS1
theorem ck_gpi {r : Int32} {isC isR isP : List Nat} {a : Array Value} (C : ck_C p s m meth c cc ret nL args own A D tys) (hcut : ck_cut wc ww wr u isC isR isP) (hP : va_P D xw_Cl (ww u) H) (hD : va_D A (ww u)) (hS : va_S A s.heap H locs)
    (hr : va_Run p l e R s m args below meth c H locs cells slots mc ms (F0 m pc ls st0) rest (va_Qi (fun r2 u2 => r2 = r ∧ u2 = u') (ck_B D wc (va_A (wc u) H.size)) (va_A (wc u) H.size) a) (va_A (wc u) H.size))
    (kk : ∀ (r2 : Int32) (H1 : Heap) (locs1 : List Loc), r2 = r → va_P D xw_Cl (ww u') H1 → va_D A (ww u') → va_S A s.heap H1 locs1 → W p l e R s m args below meth c H1 locs1 (cells + mc) (slots + ms) Q (F0 m (pc + 3) ls (.int r2 :: rest))) : W p l e R s m args below meth c H locs cells slots Q (F0 m pc ls st0) :=
  ck_goi C hcut hP hD hS hr (fun r2 u2 H1 locs1 e1 e2 h1 h2 h3 => by subst e2; exact kk r2 H1 locs1 e1 h1 h2 h3)
theorem ck_gpl {r : Int64} {isC isR isP : List Nat} {a : Array Value} (C : ck_C p s m meth c cc ret nL args own A D tys) (hcut : ck_cut wc ww wr u isC isR isP) (hP : va_P D xw_Cl (ww u) H) (hD : va_D A (ww u)) (hS : va_S A s.heap H locs)
    (hr : va_Run p l e R s m args below meth c H locs cells slots mc ms (F0 m pc ls st0) rest (va_Ql (fun r2 u2 => r2 = r ∧ u2 = u') (ck_B D wc (va_A (wc u) H.size)) (va_A (wc u) H.size) a) (va_A (wc u) H.size))
    (kk : ∀ (r2 : Int64) (H1 : Heap) (locs1 : List Loc), r2 = r → va_P D xw_Cl (ww u') H1 → va_D A (ww u') → va_S A s.heap H1 locs1 → W p l e R s m args below meth c H1 locs1 (cells + mc) (slots + ms) Q (F0 m (pc + 3) ls (.long r2 :: rest))) : W p l e R s m args below meth c H locs cells slots Q (F0 m pc ls st0) :=
  ck_gol C hcut hP hD hS hr (fun r2 u2 H1 locs1 e1 e2 h1 h2 h3 => by subst e2; exact kk r2 H1 locs1 e1 h1 h2 h3)
end XB
theorem ck_pair {α β : Type} {X : α × β} {a : α} {b : β} (h : X = (a, b)) : a = X.1 ∧ b = X.2 := by rw [h]; exact ⟨rfl, rfl⟩
theorem ck_enti {σ : Type} {l : Launch} {D : va_G} {tys : List (ClassId × FieldType)} {wf : σ → va_W} {u u' : σ} {r : Int32} {av : List Value} {y : MethodName} {ws : List Cond} {rm : Room} {mc ms : Nat} {cc : ByteArray} {maxL : Nat} {ret : Option FieldType}
    (hy : plainName y.cls = true) (hw : ws = Cond.code y cc maxL ret :: xw_T) (hle : (lg_sl av).length ≤ maxL)
    (body : ∀ (p : Program) (e : Env) (s : State) (m : MethodId) (below : List Frame) (meth : Method) (c : Code) (A : Nat → Prop) (ls : Array Slot), ck_C p s m meth c cc ret maxL av.toArray y.cls A D tys → meth.name = y.name → va_P D xw_Cl (wf u) s.heap → va_D A (wf u) → va_S A s.heap s.heap [] → lv_has ls maxL (lv_args 0 av) →
      W p l e rm s m av.toArray below meth c s.heap [] 0 0 (MQ below (va_Qi (fun r2 u2 => r2 = r ∧ u2 = u') (ck_B D wf A) A) av.toArray s mc ms A) (F0 m 0 ls [])) : ck_Mi l D tys wf y ws rm mc ms av u r u' :=
  ck_ent (QA := fun A => va_Qi (fun r2 u2 => r2 = r ∧ u2 = u') (ck_B D wf A) A) hy hw hle body
theorem ck_entl {σ : Type} {l : Launch} {D : va_G} {tys : List (ClassId × FieldType)} {wf : σ → va_W} {u u' : σ} {r : Int64} {av : List Value} {y : MethodName} {ws : List Cond} {rm : Room} {mc ms : Nat} {cc : ByteArray} {maxL : Nat} {ret : Option FieldType}
    (hy : plainName y.cls = true) (hw : ws = Cond.code y cc maxL ret :: xw_T) (hle : (lg_sl av).length ≤ maxL)
    (body : ∀ (p : Program) (e : Env) (s : State) (m : MethodId) (below : List Frame) (meth : Method) (c : Code) (A : Nat → Prop) (ls : Array Slot), ck_C p s m meth c cc ret maxL av.toArray y.cls A D tys → meth.name = y.name → va_P D xw_Cl (wf u) s.heap → va_D A (wf u) → va_S A s.heap s.heap [] → lv_has ls maxL (lv_args 0 av) →
      W p l e rm s m av.toArray below meth c s.heap [] 0 0 (MQ below (va_Ql (fun r2 u2 => r2 = r ∧ u2 = u') (ck_B D wf A) A) av.toArray s mc ms A) (F0 m 0 ls [])) : ck_Ml l D tys wf y ws rm mc ms av u r u' :=
  ck_ent (QA := fun A => va_Ql (fun r2 u2 => r2 = r ∧ u2 = u') (ck_B D wf A) A) hy hw hle body
theorem ck_entv {σ : Type} {l : Launch} {D : va_G} {tys : List (ClassId × FieldType)} {wf : σ → va_W} {u u' : σ} {av : List Value} {y : MethodName} {ws : List Cond} {rm : Room} {mc ms : Nat} {cc : ByteArray} {maxL : Nat} {ret : Option FieldType}
    (hy : plainName y.cls = true) (hw : ws = Cond.code y cc maxL ret :: xw_T) (hle : (lg_sl av).length ≤ maxL)
    (body : ∀ (p : Program) (e : Env) (s : State) (m : MethodId) (below : List Frame) (meth : Method) (c : Code) (A : Nat → Prop) (ls : Array Slot), ck_C p s m meth c cc ret maxL av.toArray y.cls A D tys → meth.name = y.name → va_P D xw_Cl (wf u) s.heap → va_D A (wf u) → va_S A s.heap s.heap [] → lv_has ls maxL (lv_args 0 av) →
      W p l e rm s m av.toArray below meth c s.heap [] 0 0 (MQ below (va_Qv (fun u2 => u2 = u') (ck_B D wf A) A) av.toArray s mc ms A) (F0 m 0 ls [])) : ck_Mv l D tys wf y ws rm mc ms av u u' :=
  ck_ent (QA := fun A => va_Qv (fun u2 => u2 = u') (ck_B D wf A) A) hy hw hle body
