-- PART: CONSTRUCTORS
section XI
variable {p : Program} {l : Launch} {e : Env} {R : Room} {s : State} {m : MethodId} {args : Array Value} {below : List Frame} {meth : Method} {c : Code} {H : Heap} {locs : List Loc} {cells slots : Nat} {Q : State → Prop} {cc : ByteArray} {pc : Nat} {ls : Array Slot} {rest st0 : List Value}
variable {σ : Type} {D : va_G} {tys tyc : List (ClassId × FieldType)} {wf wc ww : σ → va_W} {wr : va_W} {u u' : σ} {A : Nat → Prop} {ret : Option FieldType} {nL : Nat} {own : String}
variable {y : MethodName} {bytes : ByteArray} {maxL mc ms n index : Nat} {rt : Option FieldType} {ws : List Cond} {rm : Room} {Cn : String} {b : Addr} {As : List Value}
theorem ck_runI {Qc : Array Value → State → Outcome → State → Prop} {isC isR isP : List Nat} (C : ck_C p s m meth c cc ret nL args own A D tys) (hcut : ck_cut wc ww wr u isC isR isP) (hKc : va_K D xw_Cl tyc s) (hM : Met l y ws rm (va_Pc (.ref b :: As) (ck_P D tyc wc u H.size)) Qc mc ms (va_A (wc u) H.size)) (cw : CallB R s args own index y bytes maxL none ws rm mc ms n ∧ y.name = "<init>" ∧ (Cond.instanceMethod y).before args s = true)
    (hP : va_P D xw_Cl (ww u) H) (hD : va_D A (ww u)) (hS : va_S A s.heap H locs) (hn : As.length = n) (hsz : ls.size = nL) (hst : st0 = As.reverse ++ .ref b :: rest) (hW : (rest.map fun v => v.category).sum ≤ 8) (hdg : decode cc pc = .ok (.invokespecial index, 3)) (hf : cells + mc ≤ R.cells ∧ slots + ms ≤ R.slots) :
    va_Run p l e R s m args below meth c H locs cells slots mc ms (F0 m pc ls st0) rest (Qc (Value.ref b :: As).toArray) (va_A (wc u) H.size) := by
  obtain ⟨hC, hCn, -⟩ := hcut
  have hPc : va_P D xw_Cl (wc u) H := hP.sub isC (ck_fm isC _ hC)
  have hDc : va_D A (wc u) := hD.sub isC hCn hC
  have hF := va_free (wc := wc u) hD hS C.2.2.2.2.2.2.2.2.1 isC hC
  exact va_runI (As := As) (rest := rest) ⟨C.1, C.2.1, C.2.2.2.1, C.2.2.2.2.1, C.2.2.2.2.2.1⟩ hM cw ⟨ck_blind, ck_pre hPc hKc hDc hS C.2.2.2.2.2.2.2.2.2 hF⟩ rfl hn hsz hst (lv_room hW) hdg hf
theorem ck_runIN {Qc : Array Value → State → Outcome → State → Prop} {isC isR isP : List Nat} {host : String} (C : ck_C p s m meth c cc ret nL args own A D tys) (hcut : ck_cut wc ww wr u isC isR isP) (hKc : va_K D xw_Cl tyc s) (hM : Met l y ws rm (va_Pc (.ref b :: As) (ck_P D tyc wc u H.size)) Qc mc ms (va_A (wc u) H.size)) (cw : va_CN R s args own index y host bytes maxL none ws rm mc ms n ∧ y.name = "<init>" ∧ (Cond.instanceMethod y).before args s = true)
    (hP : va_P D xw_Cl (ww u) H) (hD : va_D A (ww u)) (hS : va_S A s.heap H locs) (hn : As.length = n) (hsz : ls.size = nL) (hst : st0 = As.reverse ++ .ref b :: rest) (hW : (rest.map fun v => v.category).sum ≤ 8) (hdg : decode cc pc = .ok (.invokespecial index, 3)) (hf : cells + mc ≤ R.cells ∧ slots + ms ≤ R.slots) :
    va_Run p l e R s m args below meth c H locs cells slots mc ms (F0 m pc ls st0) rest (Qc (Value.ref b :: As).toArray) (va_A (wc u) H.size) := by
  obtain ⟨hC, hCn, -⟩ := hcut
  have hPc : va_P D xw_Cl (wc u) H := hP.sub isC (ck_fm isC _ hC)
  have hDc : va_D A (wc u) := hD.sub isC hCn hC
  have hF := va_free (wc := wc u) hD hS C.2.2.2.2.2.2.2.2.1 isC hC
  exact va_runIN (As := As) (rest := rest) ⟨C.1, C.2.1, C.2.2.2.1, C.2.2.2.2.1, C.2.2.2.2.2.1⟩ hM cw ⟨ck_blind, ck_pre hPc hKc hDc hS C.2.2.2.2.2.2.2.2.2 hF⟩ rfl hn hsz hst (lv_room hW) hdg hf
end XI
def wb (b : Nat) (g : Nat → Int64) : va_W := [(b, .inr (0, [.long (g 0), .long (g 1), .long (g 2), .long (g 3), .long (g 4), .long (g 5)]))]
abbrev rm_B_init : Room := { frames := 1, cells := 0, slots := 0, locals := 12 }
abbrev w_B_init : List Cond := .code yn_B_init bc_B_init 1 none :: xw_T
set_option maxHeartbeats 4000000 in
set_option maxRecDepth 100000 in
theorem c_B_init (l : Launch) (D : va_G) (tys : List (ClassId × FieldType)) (b : Nat) (g : Nat → Int64) : ck_Mv l D tys (wb b) yn_B_init w_B_init rm_B_init 0 0 [.ref b] g g := by
  refine ck_entv (cc := bc_B_init) (maxL := 1) (ret := none) (by decide) rfl (Nat.le_of_ble_eq_true rfl) ?_
  intro p e s m below meth c A ls C hnm hP hD hS hl
  have C : ck_C p s m meth c bc_B_init none 1 #[.ref b] "ControlDesk$Bank" A D tys := C
  have hl : lv_has ls 1 [(0, .ref b)] := hl
  have hx := C.1
  have hb := C.2.1
  have hown := C.2.2.2.2.1
  have hT := C.2.2.2.2.2.1
  have hK := C.2.2.2.2.2.2.2.1
  have hN := C.2.2.2.2.2.2.2.2.2.2.2.1
  have hA := C.2.2.2.2.2.2.2.2.1
  refine lv_aload_n hx hb dc_B_init_0 rfl (lv_at hl 0 rfl) ?_
  refine W.objInit hx hb hown (hT _ mw_271) (hT _ mw_270) (hT _ mo_c) rfl (by rw [C.2.2.2.1]; exact hl.1) rfl dc_B_init_1 (Nat.le_of_ble_eq_true rfl) (Nat.le_of_ble_eq_true rfl) ?_
  refine W.eq (g2 := F0 m 4 ls []) rfl ?_
  exact ck_vret C hP hD hS rfl dc_B_init_4
theorem cw_X_11 {R : Room} {s : State} {args : Array Value} (hT : ∀ w ∈ xw_T, w.before args s = true) (hN : ∀ w ∈ xe_N, va_Nw w s) (hR : rm_B_init.frames + 1 ≤ R.frames ∧ 8 + (1 + 11) + rm_B_init.locals ≤ R.locals) : va_CN R s args "ControlDesk" 11 yn_B_init "ControlDesk" bc_B_init 1 none w_B_init rm_B_init 0 0 0 ∧ yn_B_init.name = "<init>" ∧ (Cond.instanceMethod yn_B_init).before args s = true :=
  ⟨va_cnB 0 hT (xw_good mc_B_init) rfl rfl rfl (hN _ (List.mem_of_getElem? (i := 0) rfl)) (hT _ mw_83) (by decide +kernel) hR, rfl, (hT _ mw_273)⟩
/-- the state behind the constructor -/
def cx_i (n : Int32) : cs_St := (3, fun k => if k = 0 then (if n < 0 then 0 else if 3 < n then 0 else n.toInt64) else 0)
def wx0 (h0 : Nat) (_ : Unit) : va_W := [(h0, .inr (1, [.null, .null, .long 0, .int 0, .long 0, .long 0, .long 0, .long 0, .long 0, .long 0, .long 0, .long 0, .long 0, .long 0, .long 0, .long 0]))]
abbrev rm_X_init : Room := { frames := 2, cells := 2, slots := 12, locals := 32 }
abbrev w_X_init : List Cond := .code yn_X_init bc_X_init 2 none :: xw_T
set_option maxHeartbeats 4000000 in
set_option maxRecDepth 100000 in
theorem c_X_init (l : Launch) (D : va_G) (tys : List (ClassId × FieldType)) (h0 : Nat) (p1 : Int32) : ∀ sz : Nat, Met l yn_X_init w_X_init rm_X_init (va_Pc [.ref h0, .int p1] (ck_P D tys (wx0 h0) () sz)) (va_Qv (fun _ : Nat × Nat => True) (fun z t => va_P D xw_Cl (wx h0 z.1 z.2 (cx_i p1)) t.heap ∧ va_D (va_A (wx0 h0 ()) sz) (wx h0 z.1 z.2 (cx_i p1))) (va_A (wx0 h0 ()) sz)) 2 12 (va_A (wx0 h0 ()) sz) := by
  refine ck_ent (wf := wx0 h0) (u := ()) (QA := fun A => va_Qv (fun _ : Nat × Nat => True) (fun z t => va_P D xw_Cl (wx h0 z.1 z.2 (cx_i p1)) t.heap ∧ va_D A (wx h0 z.1 z.2 (cx_i p1))) A) (cc := bc_X_init) (maxL := 2) (ret := none) (by decide) rfl (Nat.le_of_ble_eq_true rfl) ?_
  intro p e s m below meth c A ls C hnm hP hD hS hl
  have C : ck_C p s m meth c bc_X_init none 2 #[.ref h0, .int p1] "ControlDesk" A D tys := C
  have hl : lv_has ls 2 [(0, .ref h0), (1, .int p1)] := hl
  have hx := C.1
  have hb := C.2.1
  have hown := C.2.2.2.2.1
  have hT := C.2.2.2.2.2.1
  have hK := C.2.2.2.2.2.2.2.1
  have hN := C.2.2.2.2.2.2.2.2.2.2.2.1
  have hA := C.2.2.2.2.2.2.2.2.1
  refine lv_aload_n hx hb dc_X_init_0 rfl (lv_at hl 0 rfl) ?_
  refine W.objInit hx hb hown (hT _ mw_274) (hT _ mw_270) (hT _ mo_c) rfl (by rw [C.2.2.2.1]; exact hl.1) rfl dc_X_init_1 (Nat.le_of_ble_eq_true rfl) (Nat.le_of_ble_eq_true rfl) ?_
  refine W.eq (g2 := F0 m 4 ls []) rfl ?_
  refine lv_aload_n hx hb dc_X_init_4 rfl (lv_at hl 0 rfl) ?_
  have hP : va_P D xw_Cl [(h0, .inr (1, [.null, .null, .long 0, .int 0, .long 0, .long 0, .long 0, .long 0, .long 0, .long 0, .long 0, .long 0, .long 0, .long 0, .long 0, .long 0]))] s.heap := hP
  have hD : va_D A [(h0, .inr (1, [.null, .null, .long 0, .int 0, .long 0, .long 0, .long 0, .long 0, .long 0, .long 0, .long 0, .long 0, .long 0, .long 0, .long 0, .long 0]))] := hD
  refine va_new (ci := 0) (fs := [.long 0, .long 0, .long 0, .long 0, .long 0, .long 0]) (C := cn_B) (T := ft_B) (N := 6) hx hb hT in_B ty_B tk_B hown (hT _ mw_275) (hT _ mw_276) (hT _ mw_83) hK hP hD hS hA rfl (fun j hj => by rcases (show j = 0 ∨ j = 1 ∨ j = 2 ∨ j = 3 ∨ j = 4 ∨ j = 5 by omega) with rfl | rfl | rfl | rfl | rfl | rfl <;> rfl) (Nat.le_of_ble_eq_true rfl) (Nat.le_of_ble_eq_true rfl) dc_X_init_5 (fun q1 H hP hD hS => ?_)
  have hP : va_P D xw_Cl [(h0, .inr (1, [.null, .null, .long 0, .int 0, .long 0, .long 0, .long 0, .long 0, .long 0, .long 0, .long 0, .long 0, .long 0, .long 0, .long 0, .long 0])), (q1, .inr (0, [.long 0, .long 0, .long 0, .long 0, .long 0, .long 0]))] H := hP
  have hD : va_D A [(h0, .inr (1, [.null, .null, .long 0, .int 0, .long 0, .long 0, .long 0, .long 0, .long 0, .long 0, .long 0, .long 0, .long 0, .long 0, .long 0, .long 0])), (q1, .inr (0, [.long 0, .long 0, .long 0, .long 0, .long 0, .long 0]))] := hD
  refine W.widen (k := 1) (n := 6) (Nat.le_refl _) (Nat.le_refl _) ?_
  refine lv_dup hx hb dc_X_init_8 rfl ?_
  have kq1 : ck_cut (wb q1) (fun g => [(h0, .inr (1, [.null, .null, .long 0, .int 0, .long 0, .long 0, .long 0, .long 0, .long 0, .long 0, .long 0, .long 0, .long 0, .long 0, .long 0, .long 0])), (q1, .inr (0, [.long (g 0), .long (g 1), .long (g 2), .long (g 3), .long (g 4), .long (g 5)]))]) [(h0, .inr (1, [.null, .null, .long 0, .int 0, .long 0, .long 0, .long 0, .long 0, .long 0, .long 0, .long 0, .long 0, .long 0, .long 0, .long 0, .long 0]))] (fun _ => 0) [1] [0] [0, 1] := ⟨rfl, rfl, rfl, rfl, (by decide), (fun _ => rfl), rfl⟩
  refine ck_gov (rest := [.ref q1, .ref h0]) C kq1 hP hD hS (ck_runIN C kq1 hK (c_B_init l D tys q1 (fun _ => 0) _) (cw_X_11 hT hN ⟨Nat.le_of_ble_eq_true rfl, Nat.le_of_ble_eq_true rfl⟩) hP hD hS rfl hl.1 rfl (Nat.le_of_ble_eq_true rfl) dc_X_init_9 ⟨Nat.le_of_ble_eq_true rfl, Nat.le_of_ble_eq_true rfl⟩) (fun w1 H locs ew1 hP hD hS => ?_)
  have hP : va_P D xw_Cl [(h0, .inr (1, [.null, .null, .long 0, .int 0, .long 0, .long 0, .long 0, .long 0, .long 0, .long 0, .long 0, .long 0, .long 0, .long 0, .long 0, .long 0])), (q1, .inr (0, [.long 0, .long 0, .long 0, .long 0, .long 0, .long 0]))] H := by rw [ew1] at hP; exact hP
  have hD : va_D A [(h0, .inr (1, [.null, .null, .long 0, .int 0, .long 0, .long 0, .long 0, .long 0, .long 0, .long 0, .long 0, .long 0, .long 0, .long 0, .long 0, .long 0])), (q1, .inr (0, [.long 0, .long 0, .long 0, .long 0, .long 0, .long 0]))] := by rw [ew1] at hD; exact hD
  refine va_putF (D := D) (ci := 1) (v := .ref q1) (ty := .object "ControlDesk$Bank") (C := cn_X) (T := ft_X) (N := 16) hx hb hT in_X ty_X tk_X nn_X hown hK hP hD hS 0 rfl rfl 0 (by decide) (hT _ mw_73) (fun _ h9 => h9) rfl hnm rfl (by decide +kernel) rfl rfl (Nat.le_of_ble_eq_true rfl) dc_X_init_12 (fun H locs hP hD hS => ?_)
  have hP : va_P D xw_Cl [(h0, .inr (1, [.ref q1, .null, .long 0, .int 0, .long 0, .long 0, .long 0, .long 0, .long 0, .long 0, .long 0, .long 0, .long 0, .long 0, .long 0, .long 0])), (q1, .inr (0, [.long 0, .long 0, .long 0, .long 0, .long 0, .long 0]))] H := hP
  have hD : va_D A [(h0, .inr (1, [.ref q1, .null, .long 0, .int 0, .long 0, .long 0, .long 0, .long 0, .long 0, .long 0, .long 0, .long 0, .long 0, .long 0, .long 0, .long 0])), (q1, .inr (0, [.long 0, .long 0, .long 0, .long 0, .long 0, .long 0]))] := hD
  refine lv_aload_n hx hb dc_X_init_15 rfl (lv_at hl 0 rfl) ?_
  refine va_new (ci := 0) (fs := [.long 0, .long 0, .long 0, .long 0, .long 0, .long 0]) (C := cn_B) (T := ft_B) (N := 6) hx hb hT in_B ty_B tk_B hown (hT _ mw_275) (hT _ mw_276) (hT _ mw_83) hK hP hD hS hA rfl (fun j hj => by rcases (show j = 0 ∨ j = 1 ∨ j = 2 ∨ j = 3 ∨ j = 4 ∨ j = 5 by omega) with rfl | rfl | rfl | rfl | rfl | rfl <;> rfl) (Nat.le_of_ble_eq_true rfl) (Nat.le_of_ble_eq_true rfl) dc_X_init_16 (fun q2 H hP hD hS => ?_)
  have hP : va_P D xw_Cl [(h0, .inr (1, [.ref q1, .null, .long 0, .int 0, .long 0, .long 0, .long 0, .long 0, .long 0, .long 0, .long 0, .long 0, .long 0, .long 0, .long 0, .long 0])), (q1, .inr (0, [.long 0, .long 0, .long 0, .long 0, .long 0, .long 0])), (q2, .inr (0, [.long 0, .long 0, .long 0, .long 0, .long 0, .long 0]))] H := hP
  have hD : va_D A [(h0, .inr (1, [.ref q1, .null, .long 0, .int 0, .long 0, .long 0, .long 0, .long 0, .long 0, .long 0, .long 0, .long 0, .long 0, .long 0, .long 0, .long 0])), (q1, .inr (0, [.long 0, .long 0, .long 0, .long 0, .long 0, .long 0])), (q2, .inr (0, [.long 0, .long 0, .long 0, .long 0, .long 0, .long 0]))] := hD
  refine W.widen (k := 2) (n := 12) (Nat.le_refl _) (Nat.le_refl _) ?_
  refine lv_dup hx hb dc_X_init_19 rfl ?_
  have kq2 : ck_cut (wb q2) (fun g => [(h0, .inr (1, [.ref q1, .null, .long 0, .int 0, .long 0, .long 0, .long 0, .long 0, .long 0, .long 0, .long 0, .long 0, .long 0, .long 0, .long 0, .long 0])), (q1, .inr (0, [.long 0, .long 0, .long 0, .long 0, .long 0, .long 0])), (q2, .inr (0, [.long (g 0), .long (g 1), .long (g 2), .long (g 3), .long (g 4), .long (g 5)]))]) [(h0, .inr (1, [.ref q1, .null, .long 0, .int 0, .long 0, .long 0, .long 0, .long 0, .long 0, .long 0, .long 0, .long 0, .long 0, .long 0, .long 0, .long 0])), (q1, .inr (0, [.long 0, .long 0, .long 0, .long 0, .long 0, .long 0]))] (fun _ => 0) [2] [0, 1] [0, 1, 2] := ⟨rfl, rfl, rfl, rfl, (by decide), (fun _ => rfl), rfl⟩
  refine ck_gov (rest := [.ref q2, .ref h0]) C kq2 hP hD hS (ck_runIN C kq2 hK (c_B_init l D tys q2 (fun _ => 0) _) (cw_X_11 hT hN ⟨Nat.le_of_ble_eq_true rfl, Nat.le_of_ble_eq_true rfl⟩) hP hD hS rfl hl.1 rfl (Nat.le_of_ble_eq_true rfl) dc_X_init_20 ⟨Nat.le_of_ble_eq_true rfl, Nat.le_of_ble_eq_true rfl⟩) (fun w2 H locs ew2 hP hD hS => ?_)
  have hP : va_P D xw_Cl [(h0, .inr (1, [.ref q1, .null, .long 0, .int 0, .long 0, .long 0, .long 0, .long 0, .long 0, .long 0, .long 0, .long 0, .long 0, .long 0, .long 0, .long 0])), (q1, .inr (0, [.long 0, .long 0, .long 0, .long 0, .long 0, .long 0])), (q2, .inr (0, [.long 0, .long 0, .long 0, .long 0, .long 0, .long 0]))] H := by rw [ew2] at hP; exact hP
  have hD : va_D A [(h0, .inr (1, [.ref q1, .null, .long 0, .int 0, .long 0, .long 0, .long 0, .long 0, .long 0, .long 0, .long 0, .long 0, .long 0, .long 0, .long 0, .long 0])), (q1, .inr (0, [.long 0, .long 0, .long 0, .long 0, .long 0, .long 0])), (q2, .inr (0, [.long 0, .long 0, .long 0, .long 0, .long 0, .long 0]))] := by rw [ew2] at hD; exact hD
  refine va_putF (D := D) (ci := 1) (v := .ref q2) (ty := .object "ControlDesk$Bank") (C := cn_X) (T := ft_X) (N := 16) hx hb hT in_X ty_X tk_X nn_X hown hK hP hD hS 0 rfl rfl 1 (by decide) (hT _ mw_77) (fun _ h9 => h9) rfl hnm rfl (by decide +kernel) rfl rfl (Nat.le_of_ble_eq_true rfl) dc_X_init_23 (fun H locs hP hD hS => ?_)
  have hP : va_P D xw_Cl [(h0, .inr (1, [.ref q1, .ref q2, .long 0, .int 0, .long 0, .long 0, .long 0, .long 0, .long 0, .long 0, .long 0, .long 0, .long 0, .long 0, .long 0, .long 0])), (q1, .inr (0, [.long 0, .long 0, .long 0, .long 0, .long 0, .long 0])), (q2, .inr (0, [.long 0, .long 0, .long 0, .long 0, .long 0, .long 0]))] H := hP
  have hD : va_D A [(h0, .inr (1, [.ref q1, .ref q2, .long 0, .int 0, .long 0, .long 0, .long 0, .long 0, .long 0, .long 0, .long 0, .long 0, .long 0, .long 0, .long 0, .long 0])), (q1, .inr (0, [.long 0, .long 0, .long 0, .long 0, .long 0, .long 0])), (q2, .inr (0, [.long 0, .long 0, .long 0, .long 0, .long 0, .long 0]))] := hD
  refine lv_aload_n hx hb dc_X_init_26 rfl (lv_at hl 0 rfl) ?_
  refine lv_iconst (v := 3) hx hb dc_X_init_27 (by decide) ?_
  refine va_put (D := D) (ci := 1) (v := .int 3) (ty := .int) (C := cn_X) (T := ft_X) (N := 16) hx hb hT in_X ty_X tk_X nn_X hown hK hP hD hS 0 rfl rfl 3 (by decide) (hT _ mw_64) (fun _ h9 => h9) rfl (by decide +kernel) rfl rfl (Nat.le_of_ble_eq_true rfl) dc_X_init_28 (fun H locs hP hD hS => ?_)
  have hP : va_P D xw_Cl [(h0, .inr (1, [.ref q1, .ref q2, .long 0, .int 3, .long 0, .long 0, .long 0, .long 0, .long 0, .long 0, .long 0, .long 0, .long 0, .long 0, .long 0, .long 0])), (q1, .inr (0, [.long 0, .long 0, .long 0, .long 0, .long 0, .long 0])), (q2, .inr (0, [.long 0, .long 0, .long 0, .long 0, .long 0, .long 0]))] H := hP
  have hD : va_D A [(h0, .inr (1, [.ref q1, .ref q2, .long 0, .int 3, .long 0, .long 0, .long 0, .long 0, .long 0, .long 0, .long 0, .long 0, .long 0, .long 0, .long 0, .long 0])), (q1, .inr (0, [.long 0, .long 0, .long 0, .long 0, .long 0, .long 0])), (q2, .inr (0, [.long 0, .long 0, .long 0, .long 0, .long 0, .long 0]))] := hD
  refine lv_aload_n hx hb dc_X_init_31 rfl (lv_at hl 0 rfl) ?_
  refine lv_iload_n hx hb dc_X_init_32 rfl (lv_at hl 1 rfl) ?_
  refine lv_if_lt (tgt := 46) hx hb dc_X_init_33 (by decide) (fun c1 => ?_) (fun c1 => ?_)
  · refine lv_lconst (v := 0) hx hb dc_X_init_46 (by decide) ?_
    refine va_putF (D := D) (ci := 1) (v := .long 0) (ty := .long) (C := cn_X) (T := ft_X) (N := 16) hx hb hT in_X ty_X tk_X nn_X hown hK hP hD hS 0 rfl rfl 2 (by decide) (hT _ mw_75) (fun _ h9 => h9) rfl hnm rfl (by decide +kernel) rfl rfl (Nat.le_of_ble_eq_true rfl) dc_X_init_47 (fun H locs hP hD hS => ?_)
    have ez : cx_i p1 = (3, fun k => if k = 0 then 0 else 0) := by unfold cx_i; rw [if_pos c1]
    have hP9 : va_P D xw_Cl (wx h0 q1 q2 (cx_i p1)) H := by rw [ez]; exact hP
    have hD9 : va_D A (wx h0 q1 q2 (cx_i p1)) := by rw [ez]; exact hD
    exact W.vret hx hb C.2.2.1 (fun t ht hW => ⟨⟨(q1, q2), rfl, trivial, by rw [ht]; exact hP9, hD9⟩, hS.F ht⟩) hS.2.2 dc_X_init_50 C.2.2.2.2.2.2.1
  · refine lv_iload_n hx hb dc_X_init_36 rfl (lv_at hl 1 rfl) ?_
    refine lv_iconst (v := 3) hx hb dc_X_init_37 (by decide) ?_
    refine lv_icmp_gt (tgt := 46) hx hb dc_X_init_38 (by decide) (fun c2 => ?_) (fun c2 => ?_)
    · refine lv_lconst (v := 0) hx hb dc_X_init_46 (by decide) ?_
      refine va_putF (D := D) (ci := 1) (v := .long 0) (ty := .long) (C := cn_X) (T := ft_X) (N := 16) hx hb hT in_X ty_X tk_X nn_X hown hK hP hD hS 0 rfl rfl 2 (by decide) (hT _ mw_75) (fun _ h9 => h9) rfl hnm rfl (by decide +kernel) rfl rfl (Nat.le_of_ble_eq_true rfl) dc_X_init_47 (fun H locs hP hD hS => ?_)
      have ez : cx_i p1 = (3, fun k => if k = 0 then 0 else 0) := by unfold cx_i; rw [if_neg c1, if_pos c2]
      have hP9 : va_P D xw_Cl (wx h0 q1 q2 (cx_i p1)) H := by rw [ez]; exact hP
      have hD9 : va_D A (wx h0 q1 q2 (cx_i p1)) := by rw [ez]; exact hD
      exact W.vret hx hb C.2.2.1 (fun t ht hW => ⟨⟨(q1, q2), rfl, trivial, by rw [ht]; exact hP9, hD9⟩, hS.F ht⟩) hS.2.2 dc_X_init_50 C.2.2.2.2.2.2.1
    · refine lv_iload_n hx hb dc_X_init_41 rfl (lv_at hl 1 rfl) ?_
      refine xr_i2l hx hb dc_X_init_42 (fun v1 e1 => ?_)
      refine lv_goto (tgt := 47) hx hb dc_X_init_43 (by decide) ?_
      refine va_putF (D := D) (ci := 1) (v := .long v1) (ty := .long) (C := cn_X) (T := ft_X) (N := 16) hx hb hT in_X ty_X tk_X nn_X hown hK hP hD hS 0 rfl rfl 2 (by decide) (hT _ mw_75) (fun _ h9 => h9) rfl hnm rfl (by decide +kernel) rfl rfl (Nat.le_of_ble_eq_true rfl) dc_X_init_47 (fun H locs hP hD hS => ?_)
      have ez : cx_i p1 = (3, fun k => if k = 0 then v1 else 0) := by unfold cx_i; rw [if_neg c1, if_neg c2, e1]
      have hP9 : va_P D xw_Cl (wx h0 q1 q2 (cx_i p1)) H := by rw [ez]; exact hP
      have hD9 : va_D A (wx h0 q1 q2 (cx_i p1)) := by rw [ez]; exact hD
      exact W.vret hx hb C.2.2.1 (fun t ht hW => ⟨⟨(q1, q2), rfl, trivial, by rw [ht]; exact hP9, hD9⟩, hS.F ht⟩) hS.2.2 dc_X_init_50 C.2.2.2.2.2.2.1
/-- the reference's state behind its constructor -/
def cm_i (n : Int32) : ms_St := (fun k => if k = 1 then (if n < 0 then 0 else if 4 ≤ n then 0 else n) else if k = 2 then 3 else 0, fun _ => 0, fun _ => 0, fun _ => 0)
def wm0 (m0 : Nat) (_ : Unit) : va_W := [(m0, .inr (2, [.int 0, .int 0, .int 0, .null, .null, .long 0, .long 0, .long 0]))]
abbrev rm_M_init : Room := { frames := 1, cells := 2, slots := 4108, locals := 12 }
abbrev w_M_init : List Cond := .code yn_M_init bc_M_init 2 none :: xw_T
set_option maxHeartbeats 4000000 in
set_option maxRecDepth 100000 in
theorem c_M_init (l : Launch) (D : va_G) (m0 : Nat) (p1 : Int32) : ∀ sz : Nat, Met l yn_M_init w_M_init rm_M_init (va_Pc [.ref m0, .int p1] (ck_P D [] (wm0 m0) () sz)) (va_Qv (fun _ : (Nat × Nat) × (ClassId × ClassId) => True) (fun z t => va_P D xw_Cl (wm m0 z.1.1 z.1.2 z.2.1 z.2.2 (cm_i p1)) t.heap ∧ va_D (va_A (wm0 m0 ()) sz) (wm m0 z.1.1 z.1.2 z.2.1 z.2.2 (cm_i p1)) ∧ va_K D xw_Cl [(z.2.1, .long), (z.2.2, .boolean)] t) (va_A (wm0 m0 ()) sz)) 2 4108 (va_A (wm0 m0 ()) sz) := by
  refine ck_ent (wf := wm0 m0) (u := ()) (QA := fun A => va_Qv (fun _ : (Nat × Nat) × (ClassId × ClassId) => True) (fun z t => va_P D xw_Cl (wm m0 z.1.1 z.1.2 z.2.1 z.2.2 (cm_i p1)) t.heap ∧ va_D A (wm m0 z.1.1 z.1.2 z.2.1 z.2.2 (cm_i p1)) ∧ va_K D xw_Cl [(z.2.1, .long), (z.2.2, .boolean)] t) A) (cc := bc_M_init) (maxL := 2) (ret := none) (by decide) rfl (Nat.le_of_ble_eq_true rfl) ?_
  intro p e s m below meth c A ls C hnm hP hD hS hl
  have C : ck_C p s m meth c bc_M_init none 2 #[.ref m0, .int p1] "ControlDeskModel" A D [] := C
  have hl : lv_has ls 2 [(0, .ref m0), (1, .int p1)] := hl
  have hx := C.1
  have hb := C.2.1
  have hown := C.2.2.2.2.1
  have hT := C.2.2.2.2.2.1
  have hK := C.2.2.2.2.2.2.2.1
  have hN := C.2.2.2.2.2.2.2.2.2.2.2.1
  have hA := C.2.2.2.2.2.2.2.2.1
  refine lv_aload_n hx hb dc_M_init_0 rfl (lv_at hl 0 rfl) ?_
  refine W.objInit hx hb hown (hT _ mw_277) (hT _ mw_270) (hT _ mo_c) rfl (by rw [C.2.2.2.1]; exact hl.1) rfl dc_M_init_1 (Nat.le_of_ble_eq_true rfl) (Nat.le_of_ble_eq_true rfl) ?_
  refine W.eq (g2 := F0 m 4 ls []) rfl ?_
  refine lv_aload_n hx hb dc_M_init_4 rfl (lv_at hl 0 rfl) ?_
  refine lv_iconst (v := 3) hx hb dc_M_init_5 (by decide) ?_
  have hP : va_P D xw_Cl [(m0, .inr (2, [.int 0, .int 0, .int 0, .null, .null, .long 0, .long 0, .long 0]))] s.heap := hP
  have hD : va_D A [(m0, .inr (2, [.int 0, .int 0, .int 0, .null, .null, .long 0, .long 0, .long 0]))] := hD
  refine va_put (D := D) (ci := 2) (v := .int 3) (ty := .int) (C := cn_M) (T := ft_M) (N := 8) hx hb hT in_M ty_M tk_M nn_M hown hK hP hD hS 0 rfl rfl 2 (by decide) (hT _ mw_58) (fun _ h9 => h9) rfl (by decide +kernel) rfl rfl (Nat.le_of_ble_eq_true rfl) dc_M_init_6 (fun H locs hP hD hS => ?_)
  have hP : va_P D xw_Cl [(m0, .inr (2, [.int 0, .int 0, .int 3, .null, .null, .long 0, .long 0, .long 0]))] H := hP
  have hD : va_D A [(m0, .inr (2, [.int 0, .int 0, .int 3, .null, .null, .long 0, .long 0, .long 0]))] := hD
  refine lv_aload_n hx hb dc_M_init_9 rfl (lv_at hl 0 rfl) ?_
  refine lv_sipush (v := 4096) hx hb dc_M_init_10 (by decide) ?_
  refine va_newa (atype := .long) (ty := .long) (N' := 4096) (a0 := (4096, .inr (.inl (fun _ => 0)))) hx hb (hT _ mw_278) rfl hK hP hD hS hA (fun _ => rfl) (by decide) (by decide) (Nat.le_of_ble_eq_true rfl) (Nat.le_of_ble_eq_true rfl) (Nat.le_of_ble_eq_true rfl) dc_M_init_13 (fun hd cH H hK hP hD hS => ?_)
  have hK : va_K D xw_Cl [(cH, .long)] s := hK
  have hP : va_P D xw_Cl [(m0, .inr (2, [.int 0, .int 0, .int 3, .null, .null, .long 0, .long 0, .long 0])), (hd, .inl (cH, 4096, .inr (.inl (fun _ => 0))))] H := hP
  have hD : va_D A [(m0, .inr (2, [.int 0, .int 0, .int 3, .null, .null, .long 0, .long 0, .long 0])), (hd, .inl (cH, 4096, .inr (.inl (fun _ => 0))))] := hD
  refine W.widen (k := 1) (n := 4096) (Nat.le_refl _) (Nat.le_refl _) ?_
  refine va_putF (D := D) (ci := 2) (v := .ref hd) (ty := .array .long) (C := cn_M) (T := ft_M) (N := 8) hx hb hT in_M ty_M tk_M nn_M hown hK hP hD hS 0 rfl rfl 3 (by decide) (hT _ mw_56) (fun _ h9 => h9) rfl hnm rfl (by decide +kernel) rfl rfl (Nat.le_of_ble_eq_true rfl) dc_M_init_15 (fun H locs hP hD hS => ?_)
  have hP : va_P D xw_Cl [(m0, .inr (2, [.int 0, .int 0, .int 3, .ref hd, .null, .long 0, .long 0, .long 0])), (hd, .inl (cH, 4096, .inr (.inl (fun _ => 0))))] H := hP
  have hD : va_D A [(m0, .inr (2, [.int 0, .int 0, .int 3, .ref hd, .null, .long 0, .long 0, .long 0])), (hd, .inl (cH, 4096, .inr (.inl (fun _ => 0))))] := hD
  refine lv_aload_n hx hb dc_M_init_18 rfl (lv_at hl 0 rfl) ?_
  refine lv_bipush (v := 12) hx hb dc_M_init_19 (by decide) ?_
  refine va_newa (atype := .boolean) (ty := .boolean) (N' := 12) (a0 := (12, .inl (fun _ => 0))) hx hb (hT _ mw_279) rfl hK hP hD hS hA (fun _ => rfl) (by decide) (by decide) (Nat.le_of_ble_eq_true rfl) (Nat.le_of_ble_eq_true rfl) (Nat.le_of_ble_eq_true rfl) dc_M_init_21 (fun ln cZ H hK hP hD hS => ?_)
  have hK : va_K D xw_Cl [(cH, .long), (cZ, .boolean)] s := hK
  have hP : va_P D xw_Cl [(m0, .inr (2, [.int 0, .int 0, .int 3, .ref hd, .null, .long 0, .long 0, .long 0])), (hd, .inl (cH, 4096, .inr (.inl (fun _ => 0)))), (ln, .inl (cZ, 12, .inl (fun _ => 0)))] H := hP
  have hD : va_D A [(m0, .inr (2, [.int 0, .int 0, .int 3, .ref hd, .null, .long 0, .long 0, .long 0])), (hd, .inl (cH, 4096, .inr (.inl (fun _ => 0)))), (ln, .inl (cZ, 12, .inl (fun _ => 0)))] := hD
  refine W.widen (k := 2) (n := 4108) (Nat.le_refl _) (Nat.le_refl _) ?_
  refine va_putF (D := D) (ci := 2) (v := .ref ln) (ty := .array .boolean) (C := cn_M) (T := ft_M) (N := 8) hx hb hT in_M ty_M tk_M nn_M hown hK hP hD hS 0 rfl rfl 4 (by decide) (hT _ mw_57) (fun _ h9 => h9) rfl hnm rfl (by decide +kernel) rfl rfl (Nat.le_of_ble_eq_true rfl) dc_M_init_23 (fun H locs hP hD hS => ?_)
  have hP : va_P D xw_Cl [(m0, .inr (2, [.int 0, .int 0, .int 3, .ref hd, .ref ln, .long 0, .long 0, .long 0])), (hd, .inl (cH, 4096, .inr (.inl (fun _ => 0)))), (ln, .inl (cZ, 12, .inl (fun _ => 0)))] H := hP
  have hD : va_D A [(m0, .inr (2, [.int 0, .int 0, .int 3, .ref hd, .ref ln, .long 0, .long 0, .long 0])), (hd, .inl (cH, 4096, .inr (.inl (fun _ => 0)))), (ln, .inl (cZ, 12, .inl (fun _ => 0)))] := hD
  refine lv_aload_n hx hb dc_M_init_26 rfl (lv_at hl 0 rfl) ?_
  refine lv_iload_n hx hb dc_M_init_27 rfl (lv_at hl 1 rfl) ?_
  refine lv_if_lt (tgt := 40) hx hb dc_M_init_28 (by decide) (fun c1 => ?_) (fun c1 => ?_)
  · refine lv_iconst (v := 0) hx hb dc_M_init_40 (by decide) ?_
    refine va_putF (D := D) (ci := 2) (v := .int 0) (ty := .int) (C := cn_M) (T := ft_M) (N := 8) hx hb hT in_M ty_M tk_M nn_M hown hK hP hD hS 0 rfl rfl 1 (by decide) (hT _ mw_60) (fun _ h9 => h9) rfl hnm rfl (by decide +kernel) rfl rfl (Nat.le_of_ble_eq_true rfl) dc_M_init_41 (fun H locs hP hD hS => ?_)
    have ez : cm_i p1 = (fun k => if k = 1 then 0 else if k = 2 then 3 else 0, fun _ => 0, fun _ => 0, fun _ => 0) := by unfold cm_i; rw [if_pos c1]
    have hP9 : va_P D xw_Cl (wm m0 hd ln cH cZ (cm_i p1)) H := by rw [ez]; exact hP
    have hD9 : va_D A (wm m0 hd ln cH cZ (cm_i p1)) := by rw [ez]; exact hD
    exact W.vret hx hb C.2.2.1 (fun t ht hW => ⟨⟨((hd, ln), (cH, cZ)), rfl, trivial, by rw [ht]; exact hP9, hD9, va_K.moved hW.alike hK⟩, hS.F ht⟩) hS.2.2 dc_M_init_44 C.2.2.2.2.2.2.1
  · refine lv_iload_n hx hb dc_M_init_31 rfl (lv_at hl 1 rfl) ?_
    refine lv_iconst (v := 4) hx hb dc_M_init_32 (by decide) ?_
    refine lv_icmp_ge (tgt := 40) hx hb dc_M_init_33 (by decide) (fun c2 => ?_) (fun c2 => ?_)
    · refine lv_iconst (v := 0) hx hb dc_M_init_40 (by decide) ?_
      refine va_putF (D := D) (ci := 2) (v := .int 0) (ty := .int) (C := cn_M) (T := ft_M) (N := 8) hx hb hT in_M ty_M tk_M nn_M hown hK hP hD hS 0 rfl rfl 1 (by decide) (hT _ mw_60) (fun _ h9 => h9) rfl hnm rfl (by decide +kernel) rfl rfl (Nat.le_of_ble_eq_true rfl) dc_M_init_41 (fun H locs hP hD hS => ?_)
      have ez : cm_i p1 = (fun k => if k = 1 then 0 else if k = 2 then 3 else 0, fun _ => 0, fun _ => 0, fun _ => 0) := by unfold cm_i; rw [if_neg c1, if_pos c2]
      have hP9 : va_P D xw_Cl (wm m0 hd ln cH cZ (cm_i p1)) H := by rw [ez]; exact hP
      have hD9 : va_D A (wm m0 hd ln cH cZ (cm_i p1)) := by rw [ez]; exact hD
      exact W.vret hx hb C.2.2.1 (fun t ht hW => ⟨⟨((hd, ln), (cH, cZ)), rfl, trivial, by rw [ht]; exact hP9, hD9, va_K.moved hW.alike hK⟩, hS.F ht⟩) hS.2.2 dc_M_init_44 C.2.2.2.2.2.2.1
    · refine lv_iload_n hx hb dc_M_init_36 rfl (lv_at hl 1 rfl) ?_
      refine lv_goto (tgt := 41) hx hb dc_M_init_37 (by decide) ?_
      refine va_putF (D := D) (ci := 2) (v := .int p1) (ty := .int) (C := cn_M) (T := ft_M) (N := 8) hx hb hT in_M ty_M tk_M nn_M hown hK hP hD hS 0 rfl rfl 1 (by decide) (hT _ mw_60) (fun _ h9 => h9) rfl hnm rfl (by decide +kernel) rfl rfl (Nat.le_of_ble_eq_true rfl) dc_M_init_41 (fun H locs hP hD hS => ?_)
      have ez : cm_i p1 = (fun k => if k = 1 then p1 else if k = 2 then 3 else 0, fun _ => 0, fun _ => 0, fun _ => 0) := by unfold cm_i; rw [if_neg c1, if_neg c2]
      have hP9 : va_P D xw_Cl (wm m0 hd ln cH cZ (cm_i p1)) H := by rw [ez]; exact hP
      have hD9 : va_D A (wm m0 hd ln cH cZ (cm_i p1)) := by rw [ez]; exact hD
      exact W.vret hx hb C.2.2.1 (fun t ht hW => ⟨⟨((hd, ln), (cH, cZ)), rfl, trivial, by rw [ht]; exact hP9, hD9, va_K.moved hW.alike hK⟩, hS.F ht⟩) hS.2.2 dc_M_init_44 C.2.2.2.2.2.2.1
