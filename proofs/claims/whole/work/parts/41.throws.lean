-- PART: THROWS of the class
def xt_X : String := "java/lang/IllegalArgumentException"
def xt_up : List String := ["java/lang/RuntimeException", "java/lang/Exception"]
set_option maxRecDepth 20000 in
theorem xt_a1 : ∀ w ∈ (vx_atS "ControlDesk" 41 xt_X xt_up).filter goodWord, w ∈ xw_T := by decide +kernel
set_option maxRecDepth 20000 in
theorem xt_a2 : ∀ w ∈ (vx_atS "ControlDesk" 41 xt_X xt_up).filter (fun w => !goodWord w), w ∈ xe_N := by decide +kernel
set_option maxRecDepth 20000 in
theorem xt_a3 : ∀ w ∈ Cond.classLink "ControlDesk" 37 xt_X :: Cond.initialized xt_X :: vx_atS "ControlDesk" 41 xt_X xt_up, vx_ot w = true := by decide +kernel
theorem xt_at {s : State} {args : Array Value} (hT : ∀ w ∈ xw_T, w.before args s = true) (hN : ∀ w ∈ xe_N, va_Nw w s) : ∀ w ∈ vx_atS "ControlDesk" 41 xt_X xt_up, w.before args s = true :=
  vx_hat (fun w h => hT w (xt_a1 w h)) xt_a2 (fun w h => va_Nw.use (xe_N_ot w h) (hN w h))
/-- the call throws; the world stays -/
def xt_XC (D : va_G) (w : va_W) (A : Nat → Prop) : String → State → State → Prop := vx_X (fun _ : Unit => True) (fun E _ t => E = xt_X ∧ va_P D xw_Cl w t.heap) A
def xt_Qi (A : Nat → Prop) : Array Value → State → Outcome → State → Prop := va_Qi (fun (_ : Int32) (_ : Unit) => False) (fun _ _ => True) A
def xt_Ql (A : Nat → Prop) : Array Value → State → Outcome → State → Prop := va_Ql (fun (_ : Int64) (_ : Unit) => False) (fun _ _ => True) A
def xt_Qv (A : Nat → Prop) : Array Value → State → Outcome → State → Prop := va_Qv (fun (_ : Unit) => False) (fun _ _ => True) A
theorem xt_ent {σ : Type} {l : Launch} {D : va_G} {tys : List (ClassId × FieldType)} {wf : σ → va_W} {u : σ} {QA : (Nat → Prop) → Array Value → State → Outcome → State → Prop} {av : List Value} {y : MethodName} {ws : List Cond} {rm : Room} {mc ms : Nat} {cc : ByteArray} {maxL : Nat} {ret : Option FieldType}
    (hy : plainName y.cls = true) (hw : ws = Cond.code y cc maxL ret :: xw_T) (hle : (lg_sl av).length ≤ maxL)
    (body : ∀ (p : Program) (e : Env) (s : State) (m : MethodId) (below : List Frame) (meth : Method) (c : Code) (A : Nat → Prop) (ls : Array Slot), ck_C p s m meth c cc ret maxL av.toArray y.cls A D tys → (∀ pc : Nat, ∀ x ∈ c.exceptionTable.toList, covers x pc = false) → va_P D xw_Cl (wf u) s.heap → va_D A (wf u) → va_S A s.heap s.heap [] → lv_has ls maxL (lv_args 0 av) →
      W p l e rm s m av.toArray below meth c s.heap [] 0 0 (vx_MQ below (QA A) (xt_XC D (wf u) A) av.toArray s mc ms A) (F0 m 0 ls [])) :
    ∀ sz : Nat, vx_Met l y ws rm (va_Pc av (ck_P D tys wf u sz)) (QA (va_A (wf u) sz)) (xt_XC D (wf u) (va_A (wf u) sz)) mc ms (va_A (wf u) sz) := by
  intro sz
  refine vx_ofW (cc := cc) (maxL := maxL) (ret := ret) hy hw ?_
  intro p e s m args below meth c s₁ B hml hno hv
  obtain ⟨rfl, hsz, hP, hK, hD0, hE⟩ := hv
  have hts := atoms_spec (ws := ws) B.pre
  subst hsz
  rw [lg_entry_eq]
  exact body p e s m below meth c (va_A (wf u) s.heap.size) _ ⟨B.exec, B.bytes, B.returns, hml, findClass_of_methodNamed B.named, fun w h => hts w (by rw [hw]; exact List.mem_cons_of_mem _ h), B.notSynchronized, hK, fun q h => Or.inr h, hE⟩ (fun pc x h => absurd h (fun h => hno x h)) hP hD0.self va_S.rf (lv_entry av hle)
theorem xt_row {p : Program} {l : Launch} {e : Env} {R : Room} {s : State} {m : MethodId} {args : Array Value} {below : List Frame} {meth : Method} {c : Code} {cc : ByteArray} {pc : Nat} {ls : Array Slot} {D : va_G} {tys : List (ClassId × FieldType)} {A : Nat → Prop} {ret : Option FieldType} {nL : Nat} {w : va_W} {Qc : Array Value → State → Outcome → State → Prop} {is sa : Nat} {tx : String}
    (C : ck_C p s m meth c cc ret nL args "ControlDesk" A D tys) (hl9 : l.stackTraces = false) (hno : ∀ pc : Nat, ∀ x ∈ c.exceptionTable.toList, covers x pc = false) (hP : va_P D xw_Cl w s.heap) (hR : vk_R "ControlDesk" is tx sa s) (hsz : ls.size = nL) (h1 : 2 + 3 < R.frames) (h2 : 0 + 82 ≤ R.locals) (h3 : 0 + 1 ≤ R.cells) (h4 : 0 + 6 ≤ R.slots)
    (d0 : decode cc pc = .ok (.new 37, 3)) (d3 : decode cc (pc + 3) = .ok (.dup, 1)) (d4 : decode cc (pc + 4) = .ok (.ldc is, 2)) (d6 : decode cc (pc + 6) = .ok (.invokespecial 41, 3)) (d9 : decode cc (pc + 9) = .ok (.athrow, 1)) :
    W p l e R s m args below meth c s.heap [] 0 0 (vx_MQ below Qc (xt_XC D w A) args s 1 6 A) (F0 m pc ls []) := by
  have hT := C.2.2.2.2.2.1
  exact vx_throwS (names := xt_up) (rest := []) (A := A) C.1 C.2.1 hl9 C.2.2.2.2.1 (by decide +kernel) (by decide +kernel) (hT _ mw_280) (hT _ mw_281) hR (xt_at hT C.2.2.2.2.2.2.2.2.2.2.2.1) xt_a3 C.2.2.2.2.2.2.2.2.2.2.1.1 C.2.2.2.2.2.2.2.2.2.2.1.2 va_S.rf (hsz.trans C.2.2.2.1.symm) d0 d3 d4 d6 d9 (hno _) h1 h2 h3 h4 C.2.2.2.2.2.2.1
    (fun t ha hz hk => ⟨(), trivial, ⟨rfl, hP.kept (fun k q hq => hk q.1 (hP k q hq).lt)⟩, hz, fun q h _ => hk q h⟩) (fun _ h => absurd h List.not_mem_nil) (Nat.le_refl _) (Nat.le_refl _)
abbrev rz_X_access : Room := { frames := 6, cells := 1, slots := 6, locals := 83 }
set_option maxHeartbeats 4000000 in
set_option maxRecDepth 100000 in
theorem cz_X_access (l : Launch) (hl9 : l.stackTraces = false) (D : va_G) (tys : List (ClassId × FieldType)) (h0 b1 b2 : Nat) (u : cs_St) (p1 p2 p3 : Int32) (p4 : Int64) (hbad : p1 < 0 ∨ ¬ p1 ≤ 4095 ∨ p2 < 1 ∨ ¬ p2 ≤ 3) : ∀ sz : Nat, vx_Met l yn_X_access w_X_access rz_X_access (va_Pc [.ref h0, .int p1, .int p2, .int p3, .long p4] (ck_P D tys (wx h0 b1 b2) u sz)) (xt_Qi (va_A (wx h0 b1 b2 u) sz)) (xt_XC D (wx h0 b1 b2 u) (va_A (wx h0 b1 b2 u) sz)) 1 6 (va_A (wx h0 b1 b2 u) sz) := by
  refine xt_ent (wf := wx h0 b1 b2) (u := u) (QA := xt_Qi) (cc := bc_X_access) (maxL := 8) (ret := (some .int)) (by decide) rfl (Nat.le_of_ble_eq_true rfl) ?_
  intro p e s m below meth c A ls C hno hP hD hS hl
  have C : ck_C p s m meth c bc_X_access (some .int) 8 #[.ref h0, .int p1, .int p2, .int p3, .long p4] "ControlDesk" A D tys := C
  have hx := C.1
  have hb := C.2.1
  have hown := C.2.2.2.2.1
  have hT := C.2.2.2.2.2.1
  have hK := C.2.2.2.2.2.2.2.1
  have hN := C.2.2.2.2.2.2.2.2.2.2.2.1
  obtain ⟨-, ⟨sa1, hR1⟩, ⟨sa2, hR2⟩, ⟨sa3, hR3⟩, ⟨sa4, hR4⟩, sa5, hR5⟩ := C.2.2.2.2.2.2.2.2.2.2.2
  have hl : lv_has ls 8 [(0, .ref h0), (1, .int p1), (2, .int p2), (3, .int p3), (4, .long p4)] := hl
  refine lv_iload_n hx hb dc_X_access_0 rfl (lv_at hl 1 rfl) ?_
  refine lv_if_lt (tgt := 11) hx hb dc_X_access_1 (by decide) (fun c1 => ?_) (fun c1 => ?_)
  · exact xt_row C hl9 hno hP hR1 hl.1 (Nat.le_of_ble_eq_true rfl) (Nat.le_of_ble_eq_true rfl) (Nat.le_of_ble_eq_true rfl) (Nat.le_of_ble_eq_true rfl) dc_X_access_11 dc_X_access_14 dc_X_access_15 dc_X_access_17 dc_X_access_20
  · refine lv_iload_n hx hb dc_X_access_4 rfl (lv_at hl 1 rfl) ?_
    refine lv_sipush (v := 4095) hx hb dc_X_access_5 (by decide) ?_
    refine lv_icmp_le (tgt := 21) hx hb dc_X_access_8 (by decide) (fun c2 => ?_) (fun c2 => ?_)
    · refine lv_iload_n hx hb dc_X_access_21 rfl (lv_at hl 2 rfl) ?_
      refine lv_iconst (v := 1) hx hb dc_X_access_22 (by decide) ?_
      refine lv_icmp_lt (tgt := 31) hx hb dc_X_access_23 (by decide) (fun c3 => ?_) (fun c3 => ?_)
      · exact xt_row C hl9 hno hP hR2 hl.1 (Nat.le_of_ble_eq_true rfl) (Nat.le_of_ble_eq_true rfl) (Nat.le_of_ble_eq_true rfl) (Nat.le_of_ble_eq_true rfl) dc_X_access_31 dc_X_access_34 dc_X_access_35 dc_X_access_37 dc_X_access_40
      · refine lv_iload_n hx hb dc_X_access_26 rfl (lv_at hl 2 rfl) ?_
        refine lv_iconst (v := 3) hx hb dc_X_access_27 (by decide) ?_
        refine lv_icmp_le (tgt := 41) hx hb dc_X_access_28 (by decide) (fun c4 => ?_) (fun c4 => ?_)
        · rcases hbad with h | h | h | h
          · exact absurd h c1
          · exact absurd c2 h
          · exact absurd h c3
          · exact absurd c4 h
        · exact xt_row C hl9 hno hP hR2 hl.1 (Nat.le_of_ble_eq_true rfl) (Nat.le_of_ble_eq_true rfl) (Nat.le_of_ble_eq_true rfl) (Nat.le_of_ble_eq_true rfl) dc_X_access_31 dc_X_access_34 dc_X_access_35 dc_X_access_37 dc_X_access_40
    · exact xt_row C hl9 hno hP hR1 hl.1 (Nat.le_of_ble_eq_true rfl) (Nat.le_of_ble_eq_true rfl) (Nat.le_of_ble_eq_true rfl) (Nat.le_of_ble_eq_true rfl) dc_X_access_11 dc_X_access_14 dc_X_access_15 dc_X_access_17 dc_X_access_20
abbrev rz_X_trap : Room := { frames := 6, cells := 1, slots := 6, locals := 83 }
set_option maxHeartbeats 4000000 in
set_option maxRecDepth 100000 in
theorem cz_X_trap (l : Launch) (hl9 : l.stackTraces = false) (D : va_G) (tys : List (ClassId × FieldType)) (h0 b1 b2 : Nat) (u : cs_St) (p1 p2 : Int32) (p3 p4 : Int64) (hbad : p2 < 0 ∨ ¬ p2 ≤ 63) : ∀ sz : Nat, vx_Met l yn_X_trap w_X_trap rz_X_trap (va_Pc [.ref h0, .int p1, .int p2, .long p3, .long p4] (ck_P D tys (wx h0 b1 b2) u sz)) (xt_Ql (va_A (wx h0 b1 b2 u) sz)) (xt_XC D (wx h0 b1 b2 u) (va_A (wx h0 b1 b2 u) sz)) 1 6 (va_A (wx h0 b1 b2 u) sz) := by
  refine xt_ent (wf := wx h0 b1 b2) (u := u) (QA := xt_Ql) (cc := bc_X_trap) (maxL := 8) (ret := (some .long)) (by decide) rfl (Nat.le_of_ble_eq_true rfl) ?_
  intro p e s m below meth c A ls C hno hP hD hS hl
  have C : ck_C p s m meth c bc_X_trap (some .long) 8 #[.ref h0, .int p1, .int p2, .long p3, .long p4] "ControlDesk" A D tys := C
  have hx := C.1
  have hb := C.2.1
  have hown := C.2.2.2.2.1
  have hT := C.2.2.2.2.2.1
  have hK := C.2.2.2.2.2.2.2.1
  have hN := C.2.2.2.2.2.2.2.2.2.2.2.1
  obtain ⟨-, ⟨sa1, hR1⟩, ⟨sa2, hR2⟩, ⟨sa3, hR3⟩, ⟨sa4, hR4⟩, sa5, hR5⟩ := C.2.2.2.2.2.2.2.2.2.2.2
  have hl : lv_has ls 8 [(0, .ref h0), (1, .int p1), (2, .int p2), (3, .long p3), (5, .long p4)] := hl
  refine lv_iload_n hx hb dc_X_trap_0 rfl (lv_at hl 2 rfl) ?_
  refine lv_if_lt (tgt := 10) hx hb dc_X_trap_1 (by decide) (fun c1 => ?_) (fun c1 => ?_)
  · exact xt_row C hl9 hno hP hR3 hl.1 (Nat.le_of_ble_eq_true rfl) (Nat.le_of_ble_eq_true rfl) (Nat.le_of_ble_eq_true rfl) (Nat.le_of_ble_eq_true rfl) dc_X_trap_10 dc_X_trap_13 dc_X_trap_14 dc_X_trap_16 dc_X_trap_19
  · refine lv_iload_n hx hb dc_X_trap_4 rfl (lv_at hl 2 rfl) ?_
    refine lv_bipush (v := 63) hx hb dc_X_trap_5 (by decide) ?_
    refine lv_icmp_le (tgt := 20) hx hb dc_X_trap_7 (by decide) (fun c2 => ?_) (fun c2 => ?_)
    · rcases hbad with h | h
      · exact absurd h c1
      · exact absurd c2 h
    · exact xt_row C hl9 hno hP hR3 hl.1 (Nat.le_of_ble_eq_true rfl) (Nat.le_of_ble_eq_true rfl) (Nat.le_of_ble_eq_true rfl) (Nat.le_of_ble_eq_true rfl) dc_X_trap_10 dc_X_trap_13 dc_X_trap_14 dc_X_trap_16 dc_X_trap_19
abbrev rz_X_line : Room := { frames := 6, cells := 1, slots := 6, locals := 83 }
set_option maxHeartbeats 4000000 in
set_option maxRecDepth 100000 in
theorem cz_X_line (l : Launch) (hl9 : l.stackTraces = false) (D : va_G) (tys : List (ClassId × FieldType)) (h0 b1 b2 : Nat) (u : cs_St) (p1 p2 : Int32) (hbad : ¬ p1 = 3 ∧ ¬ p1 = 7 ∧ ¬ p1 = 9 ∧ ¬ p1 = 11) : ∀ sz : Nat, vx_Met l yn_X_line w_X_line rz_X_line (va_Pc [.ref h0, .int p1, .int p2] (ck_P D tys (wx h0 b1 b2) u sz)) (xt_Qv (va_A (wx h0 b1 b2 u) sz)) (xt_XC D (wx h0 b1 b2 u) (va_A (wx h0 b1 b2 u) sz)) 1 6 (va_A (wx h0 b1 b2 u) sz) := by
  refine xt_ent (wf := wx h0 b1 b2) (u := u) (QA := xt_Qv) (cc := bc_X_line) (maxL := 5) (ret := none) (by decide) rfl (Nat.le_of_ble_eq_true rfl) ?_
  intro p e s m below meth c A ls C hno hP hD hS hl
  have C : ck_C p s m meth c bc_X_line none 5 #[.ref h0, .int p1, .int p2] "ControlDesk" A D tys := C
  have hx := C.1
  have hb := C.2.1
  have hown := C.2.2.2.2.1
  have hT := C.2.2.2.2.2.1
  have hK := C.2.2.2.2.2.2.2.1
  have hN := C.2.2.2.2.2.2.2.2.2.2.2.1
  obtain ⟨-, ⟨sa1, hR1⟩, ⟨sa2, hR2⟩, ⟨sa3, hR3⟩, ⟨sa4, hR4⟩, sa5, hR5⟩ := C.2.2.2.2.2.2.2.2.2.2.2
  have hl : lv_has ls 5 [(0, .ref h0), (1, .int p1), (2, .int p2)] := hl
  refine lv_iload_n hx hb dc_X_line_0 rfl (lv_at hl 1 rfl) ?_
  refine lv_iconst (v := 3) hx hb dc_X_line_1 (by decide) ?_
  refine lv_icmp_eq (tgt := 33) hx hb dc_X_line_2 (by decide) (fun c1 => absurd c1 hbad.1) (fun c1 => ?_)
  refine lv_iload_n hx hb dc_X_line_5 rfl (lv_at hl 1 rfl) ?_
  refine lv_bipush (v := 7) hx hb dc_X_line_6 (by decide) ?_
  refine lv_icmp_eq (tgt := 33) hx hb dc_X_line_8 (by decide) (fun c2 => absurd c2 hbad.2.1) (fun c2 => ?_)
  refine lv_iload_n hx hb dc_X_line_11 rfl (lv_at hl 1 rfl) ?_
  refine lv_bipush (v := 9) hx hb dc_X_line_12 (by decide) ?_
  refine lv_icmp_eq (tgt := 33) hx hb dc_X_line_14 (by decide) (fun c3 => absurd c3 hbad.2.2.1) (fun c3 => ?_)
  refine lv_iload_n hx hb dc_X_line_17 rfl (lv_at hl 1 rfl) ?_
  refine lv_bipush (v := 11) hx hb dc_X_line_18 (by decide) ?_
  refine lv_icmp_eq (tgt := 33) hx hb dc_X_line_20 (by decide) (fun c4 => absurd c4 hbad.2.2.2) (fun c4 => ?_)
  exact xt_row C hl9 hno hP hR4 hl.1 (Nat.le_of_ble_eq_true rfl) (Nat.le_of_ble_eq_true rfl) (Nat.le_of_ble_eq_true rfl) (Nat.le_of_ble_eq_true rfl) dc_X_line_23 dc_X_line_26 dc_X_line_27 dc_X_line_29 dc_X_line_32
abbrev rz_X_allowed : Room := { frames := 6, cells := 1, slots := 6, locals := 83 }
set_option maxHeartbeats 4000000 in
set_option maxRecDepth 100000 in
theorem cz_X_allowed (l : Launch) (hl9 : l.stackTraces = false) (D : va_G) (tys : List (ClassId × FieldType)) (h0 b1 b2 : Nat) (u : cs_St) (p1 : Int32) (hbad : ¬ p1 = 0 ∧ ¬ p1 = 1) : ∀ sz : Nat, vx_Met l yn_X_allowed w_X_allowed rz_X_allowed (va_Pc [.ref h0, .int p1] (ck_P D tys (wx h0 b1 b2) u sz)) (xt_Qi (va_A (wx h0 b1 b2 u) sz)) (xt_XC D (wx h0 b1 b2 u) (va_A (wx h0 b1 b2 u) sz)) 1 6 (va_A (wx h0 b1 b2 u) sz) := by
  refine xt_ent (wf := wx h0 b1 b2) (u := u) (QA := xt_Qi) (cc := bc_X_allowed) (maxL := 2) (ret := (some .boolean)) (by decide) rfl (Nat.le_of_ble_eq_true rfl) ?_
  intro p e s m below meth c A ls C hno hP hD hS hl
  have C : ck_C p s m meth c bc_X_allowed (some .boolean) 2 #[.ref h0, .int p1] "ControlDesk" A D tys := C
  have hx := C.1
  have hb := C.2.1
  have hown := C.2.2.2.2.1
  have hT := C.2.2.2.2.2.1
  have hK := C.2.2.2.2.2.2.2.1
  have hN := C.2.2.2.2.2.2.2.2.2.2.2.1
  obtain ⟨-, ⟨sa1, hR1⟩, ⟨sa2, hR2⟩, ⟨sa3, hR3⟩, ⟨sa4, hR4⟩, sa5, hR5⟩ := C.2.2.2.2.2.2.2.2.2.2.2
  have hl : lv_has ls 2 [(0, .ref h0), (1, .int p1)] := hl
  refine lv_iload_n hx hb dc_X_allowed_0 rfl (lv_at hl 1 rfl) ?_
  refine lv_if_eq (tgt := 19) hx hb dc_X_allowed_1 (by decide) (fun c1 => absurd c1 hbad.1) (fun c1 => ?_)
  refine lv_iload_n hx hb dc_X_allowed_4 rfl (lv_at hl 1 rfl) ?_
  refine lv_iconst (v := 1) hx hb dc_X_allowed_5 (by decide) ?_
  refine lv_icmp_eq (tgt := 19) hx hb dc_X_allowed_6 (by decide) (fun c2 => absurd c2 hbad.2) (fun c2 => ?_)
  exact xt_row C hl9 hno hP hR5 hl.1 (Nat.le_of_ble_eq_true rfl) (Nat.le_of_ble_eq_true rfl) (Nat.le_of_ble_eq_true rfl) (Nat.le_of_ble_eq_true rfl) dc_X_allowed_9 dc_X_allowed_12 dc_X_allowed_13 dc_X_allowed_15 dc_X_allowed_18
