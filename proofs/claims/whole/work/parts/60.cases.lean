-- PART: THE LAW'S CASES
def wl (h0 b1 b2 m0 hd ln ot : Nat) (cH cZ cO : ClassId) (z : cs_St × ms_St × (Nat → Int64)) : va_W := wx h0 b1 b2 z.1 ++ (wm m0 hd ln cH cZ z.2.1 ++ [(ot, .inl (cO, 1, .inr (.inl z.2.2)))])
section XL
variable {h0 b1 b2 m0 hd ln ot : Nat} {cH cZ cO : ClassId} {u : cs_St} {w : ms_St} {o : Nat → Int64}
theorem kl_X : ck_cut (wx h0 b1 b2) (fun z => wl h0 b1 b2 m0 hd ln ot cH cZ cO (z, w, o)) (wm m0 hd ln cH cZ w ++ [(ot, .inl (cO, 1, .inr (.inl o)))]) u [0, 1, 2] [3, 4, 5, 6] [4, 5, 6, 0, 1, 2, 3] := ⟨rfl, rfl, rfl, rfl, (by decide), (fun _ => rfl), rfl⟩
theorem kl_M : ck_cut (wm m0 hd ln cH cZ) (fun z => wl h0 b1 b2 m0 hd ln ot cH cZ cO (u, z, o)) (wx h0 b1 b2 u ++ [(ot, .inl (cO, 1, .inr (.inl o)))]) w [3, 4, 5] [0, 1, 2, 6] [0, 1, 2, 4, 5, 6, 3] := ⟨rfl, rfl, rfl, rfl, (by decide), (fun _ => rfl), rfl⟩
theorem kl_O : ck_cut (wo h0 b1 b2 ot cO) (fun z => wl h0 b1 b2 m0 hd ln ot cH cZ cO (z.1, w, z.2)) (wm m0 hd ln cH cZ w) (u, o) [0, 1, 2, 6] [3, 4, 5] [3, 4, 5, 0, 1, 2, 6] := ⟨rfl, rfl, rfl, rfl, (by decide), (fun _ => rfl), rfl⟩
end XL
section XK
variable {p : Program} {l : Launch} {e : Env} {R : Room} {s : State} {m : MethodId} {args : Array Value} {below : List Frame} {meth : Method} {c : Code} {H : Heap} {locs : List Loc} {cells slots : Nat} {Q : State → Prop} {cc : ByteArray} {pc : Nat} {ls : Array Slot} {rest st0 : List Value}
variable {σ : Type} {D : va_G} {tys tyc : List (ClassId × FieldType)} {wc ww : σ → va_W} {wr : va_W} {u : σ} {A : Nat → Prop} {ret : Option FieldType} {nL : Nat} {own : String}
variable {y : MethodName} {bytes : ByteArray} {maxL mc ms n index : Nat} {rt : Option FieldType} {ws : List Cond} {rm : Room} {As : List Value} {hh : List (Nat × Nat × Nat × Nat)}
theorem ck_runSW {Qc : Array Value → State → Outcome → State → Prop} {isC isR isP : List Nat} (C : ck_C p s m meth c cc ret nL args own A D tys) (hcut : ck_cut wc ww wr u isC isR isP) (hKc : va_K D xw_Cl tyc s) (hM : Met l y ws rm (va_Pc As (ck_P D tyc wc u H.size)) Qc mc ms (va_A (wc u) H.size)) (cw : vx_CSW R s args own index y bytes maxL rt hh ws rm mc ms n)
    (hP : va_P D xw_Cl (ww u) H) (hD : va_D A (ww u)) (hS : va_S A s.heap H locs) (hn : As.length = n) (hsz : ls.size = nL) (hst : st0 = As.reverse ++ rest) (hW : (rest.map fun v => v.category).sum ≤ 8) (hdg : decode cc pc = .ok (.invokestatic index, 3)) (hf : cells + mc ≤ R.cells ∧ slots + ms ≤ R.slots) :
    va_Run p l e R s m args below meth c H locs cells slots mc ms (F0 m pc ls st0) rest (Qc As.toArray) (va_A (wc u) H.size) := by
  obtain ⟨hC, hCn, -⟩ := hcut
  have hPc : va_P D xw_Cl (wc u) H := hP.sub isC (ck_fm isC _ hC)
  have hDc : va_D A (wc u) := hD.sub isC hCn hC
  have hF := va_free (wc := wc u) hD hS C.2.2.2.2.2.2.2.2.1 isC hC
  exact vx_runSW (As := As) (rest := rest) ⟨C.1, C.2.1, C.2.2.2.1, C.2.2.2.2.1, C.2.2.2.2.2.1⟩ hM cw ⟨ck_blind, ck_pre hPc hKc hDc hS C.2.2.2.2.2.2.2.2.2 hF⟩ rfl hn hsz hst (lv_room hW) hdg hf
end XK
theorem pb_access {a b : Int32} (h : ¬ (¬ a < 0 ∧ a ≤ 4095 ∧ ¬ b < 1 ∧ b ≤ 3)) : a < 0 ∨ ¬ a ≤ 4095 ∨ b < 1 ∨ ¬ b ≤ 3 := by
  by_cases h1 : a < 0
  · exact Or.inl h1
  · by_cases h2 : a ≤ 4095
    · by_cases h3 : b < 1
      · exact Or.inr (Or.inr (Or.inl h3))
      · exact Or.inr (Or.inr (Or.inr (fun h4 => h ⟨h1, h2, h3, h4⟩)))
    · exact Or.inr (Or.inl h2)
theorem pb_trap {b : Int32} (h : ¬ (¬ b < 0 ∧ b ≤ 63)) : b < 0 ∨ ¬ b ≤ 63 := by
  by_cases h1 : b < 0
  · exact Or.inl h1
  · exact Or.inr (fun h2 => h ⟨h1, h2⟩)
theorem pb_line {a : Int32} (h : ¬ (a = 3 ∨ a = 7 ∨ a = 9 ∨ a = 11)) : ¬ a = 3 ∧ ¬ a = 7 ∧ ¬ a = 9 ∧ ¬ a = 11 := ⟨fun e => h (Or.inl e), fun e => h (Or.inr (Or.inl e)), fun e => h (Or.inr (Or.inr (Or.inl e))), fun e => h (Or.inr (Or.inr (Or.inr e)))⟩
theorem pb_allowed {a : Int32} (h : ¬ (a = 0 ∨ a = 1)) : ¬ a = 0 ∧ ¬ a = 1 := ⟨fun e => h (Or.inl e), fun e => h (Or.inr e)⟩
set_option maxRecDepth 20000 in
theorem cl_X_mode {R : Room} {s : State} {args : Array Value} (hT : ∀ w ∈ xw_T, w.before args s = true) (hR : rm_X_mode.frames + 1 ≤ R.frames ∧ 8 + (1 + 11) + rm_X_mode.locals ≤ R.locals) : CallW R s args "ControlDeskLaw" "ControlDesk" 39 yn_X_mode bc_X_mode 1 (some .int) w_X_mode rm_X_mode 0 0 0 :=
  ⟨callB_of 0 hT (xw_good mc_X_mode) rfl rfl rfl (hT _ mw_156) (hT _ mw_302) (by decide +kernel) hR, hT _ mw_300, hT _ mw_301⟩
set_option maxRecDepth 20000 in
theorem cl_M_mode {R : Room} {s : State} {args : Array Value} (hT : ∀ w ∈ xw_T, w.before args s = true) (hR : rm_M_mode.frames + 1 ≤ R.frames ∧ 8 + (1 + 11) + rm_M_mode.locals ≤ R.locals) : CallW R s args "ControlDeskLaw" "ControlDeskModel" 43 yn_M_mode bc_M_mode 1 (some .int) w_M_mode rm_M_mode 0 0 0 :=
  ⟨callB_of 0 hT (xw_good mc_M_mode) rfl rfl rfl (hT _ mw_88) (hT _ mw_306) (by decide +kernel) hR, hT _ mw_304, hT _ mw_305⟩
set_option maxRecDepth 20000 in
theorem cl_X_dataMode {R : Room} {s : State} {args : Array Value} (hT : ∀ w ∈ xw_T, w.before args s = true) (hR : rm_X_dataMode.frames + 1 ≤ R.frames ∧ 8 + (1 + 11) + rm_X_dataMode.locals ≤ R.locals) : CallW R s args "ControlDeskLaw" "ControlDesk" 44 yn_X_dataMode bc_X_dataMode 1 (some .int) w_X_dataMode rm_X_dataMode 0 0 0 :=
  ⟨callB_of 0 hT (xw_good mc_X_dataMode) rfl rfl rfl (hT _ mw_156) (hT _ mw_310) (by decide +kernel) hR, hT _ mw_308, hT _ mw_309⟩
set_option maxRecDepth 20000 in
theorem cl_M_dataMode {R : Room} {s : State} {args : Array Value} (hT : ∀ w ∈ xw_T, w.before args s = true) (hR : rm_M_dataMode.frames + 1 ≤ R.frames ∧ 8 + (1 + 11) + rm_M_dataMode.locals ≤ R.locals) : CallW R s args "ControlDeskLaw" "ControlDeskModel" 47 yn_M_dataMode bc_M_dataMode 1 (some .int) w_M_dataMode rm_M_dataMode 0 0 0 :=
  ⟨callB_of 0 hT (xw_good mc_M_dataMode) rfl rfl rfl (hT _ mw_88) (hT _ mw_314) (by decide +kernel) hR, hT _ mw_312, hT _ mw_313⟩
set_option maxRecDepth 20000 in
theorem mh_access : Cond.codeWith yn_L_access bc_L_access 8 (some .int) [(0, 14, 17, 13)] ∈ xw_T := xw_in (List.mem_of_getElem? (i := 252) rfl) rfl
set_option maxRecDepth 20000 in
theorem cl_L_access {s : State} {args : Array Value} (hT : ∀ w ∈ xw_T, w.before args s = true) : vx_CSW room_1 s args "ControlDeskLaw" 50 yn_L_access bc_L_access 8 (some .int) [(0, 14, 17, 13)] w_L_access rm_L_access 0 0 6 :=
  vx_cwSW 6 hT (goodIn_app (goodIn_sub (List.forall_mem_cons.mpr ⟨mw_316, List.forall_mem_cons.mpr ⟨mw_317, List.forall_mem_cons.mpr ⟨mw_318, fun _ h => absurd h List.not_mem_nil⟩⟩⟩) (by decide +kernel)) (xw_good mh_access)) rfl rfl rfl (by decide +kernel) ⟨Nat.le_of_ble_eq_true rfl, Nat.le_of_ble_eq_true rfl⟩
set_option maxRecDepth 20000 in
theorem cq_L_access {s : State} {args : Array Value} (hT : ∀ w ∈ xw_T, w.before args s = true) : vx_CSW room_1 s args "ControlDeskLaw" 50 yn_L_access bc_L_access 8 (some .int) [(0, 14, 17, 13)] w_L_access rz_L_access 1 6 6 :=
  vx_cwSW 6 hT (goodIn_app (goodIn_sub (List.forall_mem_cons.mpr ⟨mw_316, List.forall_mem_cons.mpr ⟨mw_317, List.forall_mem_cons.mpr ⟨mw_318, fun _ h => absurd h List.not_mem_nil⟩⟩⟩) (by decide +kernel)) (xw_good mh_access)) rfl rfl rfl (by decide +kernel) ⟨Nat.le_of_ble_eq_true rfl, Nat.le_of_ble_eq_true rfl⟩
set_option maxRecDepth 20000 in
theorem cl_M_access {R : Room} {s : State} {args : Array Value} (hT : ∀ w ∈ xw_T, w.before args s = true) (hR : rm_M_access.frames + 1 ≤ R.frames ∧ 8 + (8 + 11) + rm_M_access.locals ≤ R.locals) : CallW R s args "ControlDeskLaw" "ControlDeskModel" 53 yn_M_access bc_M_access 8 (some .int) w_M_access rm_M_access 0 0 4 :=
  ⟨callB_of 4 hT (xw_good mc_M_access) rfl rfl rfl (hT _ mw_88) (hT _ mw_322) (by decide +kernel) hR, hT _ mw_320, hT _ mw_321⟩
set_option maxRecDepth 20000 in
theorem cl_M_thrown {R : Room} {s : State} {args : Array Value} (hT : ∀ w ∈ xw_T, w.before args s = true) (hR : rm_M_thrown.frames + 1 ≤ R.frames ∧ 8 + (1 + 11) + rm_M_thrown.locals ≤ R.locals) : CallW R s args "ControlDeskLaw" "ControlDeskModel" 54 yn_M_thrown bc_M_thrown 1 (some .int) w_M_thrown rm_M_thrown 0 0 0 :=
  ⟨callB_of 0 hT (xw_good mc_M_thrown) rfl rfl rfl (hT _ mw_88) (hT _ mw_326) (by decide +kernel) hR, hT _ mw_324, hT _ mw_325⟩
set_option maxRecDepth 20000 in
theorem cl_X_had {R : Room} {s : State} {args : Array Value} (hT : ∀ w ∈ xw_T, w.before args s = true) (hR : rm_X_had.frames + 1 ≤ R.frames ∧ 8 + (1 + 11) + rm_X_had.locals ≤ R.locals) : CallW R s args "ControlDeskLaw" "ControlDesk" 57 yn_X_had bc_X_had 1 (some .long) w_X_had rm_X_had 0 0 0 :=
  ⟨callB_of 0 hT (xw_good mc_X_had) rfl rfl rfl (hT _ mw_156) (hT _ mw_330) (by decide +kernel) hR, hT _ mw_328, hT _ mw_329⟩
set_option maxRecDepth 20000 in
theorem cl_M_had {R : Room} {s : State} {args : Array Value} (hT : ∀ w ∈ xw_T, w.before args s = true) (hR : rm_M_had.frames + 1 ≤ R.frames ∧ 8 + (1 + 11) + rm_M_had.locals ≤ R.locals) : CallW R s args "ControlDeskLaw" "ControlDeskModel" 61 yn_M_had bc_M_had 1 (some .long) w_M_had rm_M_had 0 0 0 :=
  ⟨callB_of 0 hT (xw_good mc_M_had) rfl rfl rfl (hT _ mw_88) (hT _ mw_334) (by decide +kernel) hR, hT _ mw_332, hT _ mw_333⟩
set_option maxRecDepth 20000 in
theorem cl_X_peek {R : Room} {s : State} {args : Array Value} (hT : ∀ w ∈ xw_T, w.before args s = true) (hR : rm_X_peek.frames + 1 ≤ R.frames ∧ 8 + (2 + 11) + rm_X_peek.locals ≤ R.locals) : CallW R s args "ControlDeskLaw" "ControlDesk" 62 yn_X_peek bc_X_peek 2 (some .long) w_X_peek rm_X_peek 0 0 1 :=
  ⟨callB_of 1 hT (xw_good mc_X_peek) rfl rfl rfl (hT _ mw_156) (hT _ mw_338) (by decide +kernel) hR, hT _ mw_336, hT _ mw_337⟩
set_option maxRecDepth 20000 in
theorem cl_M_peek {R : Room} {s : State} {args : Array Value} (hT : ∀ w ∈ xw_T, w.before args s = true) (hR : rm_M_peek.frames + 1 ≤ R.frames ∧ 8 + (2 + 11) + rm_M_peek.locals ≤ R.locals) : CallW R s args "ControlDeskLaw" "ControlDeskModel" 66 yn_M_peek bc_M_peek 2 (some .long) w_M_peek rm_M_peek 0 0 1 :=
  ⟨callB_of 1 hT (xw_good mc_M_peek) rfl rfl rfl (hT _ mw_88) (hT _ mw_342) (by decide +kernel) hR, hT _ mw_340, hT _ mw_341⟩
set_option maxRecDepth 20000 in
theorem mh_trap : Cond.codeWith yn_L_trap bc_L_trap 9 (some .int) [(0, 13, 16, 13)] ∈ xw_T := xw_in (List.mem_of_getElem? (i := 393) rfl) rfl
set_option maxRecDepth 20000 in
theorem cl_L_trap {s : State} {args : Array Value} (hT : ∀ w ∈ xw_T, w.before args s = true) : vx_CSW room_1 s args "ControlDeskLaw" 67 yn_L_trap bc_L_trap 9 (some .int) [(0, 13, 16, 13)] w_L_trap rm_L_trap 0 0 6 :=
  vx_cwSW 6 hT (goodIn_app (goodIn_sub (List.forall_mem_cons.mpr ⟨mw_343, List.forall_mem_cons.mpr ⟨mw_344, List.forall_mem_cons.mpr ⟨mw_318, fun _ h => absurd h List.not_mem_nil⟩⟩⟩) (by decide +kernel)) (xw_good mh_trap)) rfl rfl rfl (by decide +kernel) ⟨Nat.le_of_ble_eq_true rfl, Nat.le_of_ble_eq_true rfl⟩
set_option maxRecDepth 20000 in
theorem cq_L_trap {s : State} {args : Array Value} (hT : ∀ w ∈ xw_T, w.before args s = true) : vx_CSW room_1 s args "ControlDeskLaw" 67 yn_L_trap bc_L_trap 9 (some .int) [(0, 13, 16, 13)] w_L_trap rz_L_trap 1 6 6 :=
  vx_cwSW 6 hT (goodIn_app (goodIn_sub (List.forall_mem_cons.mpr ⟨mw_343, List.forall_mem_cons.mpr ⟨mw_344, List.forall_mem_cons.mpr ⟨mw_318, fun _ h => absurd h List.not_mem_nil⟩⟩⟩) (by decide +kernel)) (xw_good mh_trap)) rfl rfl rfl (by decide +kernel) ⟨Nat.le_of_ble_eq_true rfl, Nat.le_of_ble_eq_true rfl⟩
set_option maxRecDepth 20000 in
theorem cl_M_trap {R : Room} {s : State} {args : Array Value} (hT : ∀ w ∈ xw_T, w.before args s = true) (hR : rm_M_trap.frames + 1 ≤ R.frames ∧ 8 + (11 + 11) + rm_M_trap.locals ≤ R.locals) : CallW R s args "ControlDeskLaw" "ControlDeskModel" 70 yn_M_trap bc_M_trap 11 (some .long) w_M_trap rm_M_trap 0 0 4 :=
  ⟨callB_of 4 hT (xw_good mc_M_trap) rfl rfl rfl (hT _ mw_88) (hT _ mw_348) (by decide +kernel) hR, hT _ mw_346, hT _ mw_347⟩
set_option maxRecDepth 20000 in
theorem cl_X_back {R : Room} {s : State} {args : Array Value} (hT : ∀ w ∈ xw_T, w.before args s = true) (hR : rm_X_back.frames + 1 ≤ R.frames ∧ 8 + (2 + 11) + rm_X_back.locals ≤ R.locals) : CallW R s args "ControlDeskLaw" "ControlDesk" 71 yn_X_back bc_X_back 2 (some .boolean) w_X_back rm_X_back 0 0 1 :=
  ⟨callB_of 1 hT (xw_good mc_X_back) rfl rfl rfl (hT _ mw_156) (hT _ mw_352) (by decide +kernel) hR, hT _ mw_350, hT _ mw_351⟩
set_option maxRecDepth 20000 in
theorem cl_M_back {R : Room} {s : State} {args : Array Value} (hT : ∀ w ∈ xw_T, w.before args s = true) (hR : rm_M_back.frames + 1 ≤ R.frames ∧ 8 + (4 + 11) + rm_M_back.locals ≤ R.locals) : CallW R s args "ControlDeskLaw" "ControlDeskModel" 75 yn_M_back bc_M_back 4 (some .boolean) w_M_back rm_M_back 0 0 1 :=
  ⟨callB_of 1 hT (xw_good mc_M_back) rfl rfl rfl (hT _ mw_88) (hT _ mw_356) (by decide +kernel) hR, hT _ mw_354, hT _ mw_355⟩
set_option maxRecDepth 20000 in
theorem cl_X_place {R : Room} {s : State} {args : Array Value} (hT : ∀ w ∈ xw_T, w.before args s = true) (hR : rm_X_place.frames + 1 ≤ R.frames ∧ 8 + (1 + 11) + rm_X_place.locals ≤ R.locals) : CallW R s args "ControlDeskLaw" "ControlDesk" 76 yn_X_place bc_X_place 1 (some .long) w_X_place rm_X_place 0 0 0 :=
  ⟨callB_of 0 hT (xw_good mc_X_place) rfl rfl rfl (hT _ mw_156) (hT _ mw_360) (by decide +kernel) hR, hT _ mw_358, hT _ mw_359⟩
set_option maxRecDepth 20000 in
theorem cl_M_place {R : Room} {s : State} {args : Array Value} (hT : ∀ w ∈ xw_T, w.before args s = true) (hR : rm_M_place.frames + 1 ≤ R.frames ∧ 8 + (1 + 11) + rm_M_place.locals ≤ R.locals) : CallW R s args "ControlDeskLaw" "ControlDeskModel" 79 yn_M_place bc_M_place 1 (some .long) w_M_place rm_M_place 0 0 0 :=
  ⟨callB_of 0 hT (xw_good mc_M_place) rfl rfl rfl (hT _ mw_88) (hT _ mw_364) (by decide +kernel) hR, hT _ mw_362, hT _ mw_363⟩
set_option maxRecDepth 20000 in
theorem cl_X_taken {R : Room} {s : State} {args : Array Value} (hT : ∀ w ∈ xw_T, w.before args s = true) (hR : rm_X_taken.frames + 1 ≤ R.frames ∧ 8 + (4 + 11) + rm_X_taken.locals ≤ R.locals) : CallW R s args "ControlDeskLaw" "ControlDesk" 80 yn_X_taken bc_X_taken 4 (some .int) w_X_taken rm_X_taken 0 0 0 :=
  ⟨callB_of 0 hT (xw_good mc_X_taken) rfl rfl rfl (hT _ mw_156) (hT _ mw_368) (by decide +kernel) hR, hT _ mw_366, hT _ mw_367⟩
set_option maxRecDepth 20000 in
theorem cl_M_taken {R : Room} {s : State} {args : Array Value} (hT : ∀ w ∈ xw_T, w.before args s = true) (hR : rm_M_taken.frames + 1 ≤ R.frames ∧ 8 + (2 + 11) + rm_M_taken.locals ≤ R.locals) : CallW R s args "ControlDeskLaw" "ControlDeskModel" 83 yn_M_taken bc_M_taken 2 (some .int) w_M_taken rm_M_taken 0 0 0 :=
  ⟨callB_of 0 hT (xw_good mc_M_taken) rfl rfl rfl (hT _ mw_88) (hT _ mw_372) (by decide +kernel) hR, hT _ mw_370, hT _ mw_371⟩
set_option maxRecDepth 20000 in
theorem cl_X_wakes {R : Room} {s : State} {args : Array Value} (hT : ∀ w ∈ xw_T, w.before args s = true) (hR : rm_X_wakes.frames + 1 ≤ R.frames ∧ 8 + (1 + 11) + rm_X_wakes.locals ≤ R.locals) : CallW R s args "ControlDeskLaw" "ControlDesk" 84 yn_X_wakes bc_X_wakes 1 (some .boolean) w_X_wakes rm_X_wakes 0 0 0 :=
  ⟨callB_of 0 hT (xw_good mc_X_wakes) rfl rfl rfl (hT _ mw_156) (hT _ mw_376) (by decide +kernel) hR, hT _ mw_374, hT _ mw_375⟩
set_option maxRecDepth 20000 in
theorem cl_M_wakes {R : Room} {s : State} {args : Array Value} (hT : ∀ w ∈ xw_T, w.before args s = true) (hR : rm_M_wakes.frames + 1 ≤ R.frames ∧ 8 + (1 + 11) + rm_M_wakes.locals ≤ R.locals) : CallW R s args "ControlDeskLaw" "ControlDeskModel" 88 yn_M_wakes bc_M_wakes 1 (some .boolean) w_M_wakes rm_M_wakes 0 0 0 :=
  ⟨callB_of 0 hT (xw_good mc_M_wakes) rfl rfl rfl (hT _ mw_88) (hT _ mw_380) (by decide +kernel) hR, hT _ mw_378, hT _ mw_379⟩
set_option maxRecDepth 20000 in
theorem mh_line : Cond.codeWith yn_L_line bc_L_line 4 (some .int) [(0, 6, 9, 13)] ∈ xw_T := xw_in (List.mem_of_getElem? (i := 427) rfl) rfl
set_option maxRecDepth 20000 in
theorem cl_L_line {s : State} {args : Array Value} (hT : ∀ w ∈ xw_T, w.before args s = true) : vx_CSW room_1 s args "ControlDeskLaw" 89 yn_L_line bc_L_line 4 (some .int) [(0, 6, 9, 13)] w_L_line rm_L_line 0 0 3 :=
  vx_cwSW 3 hT (goodIn_app (goodIn_sub (List.forall_mem_cons.mpr ⟨mw_381, List.forall_mem_cons.mpr ⟨mw_382, List.forall_mem_cons.mpr ⟨mw_318, fun _ h => absurd h List.not_mem_nil⟩⟩⟩) (by decide +kernel)) (xw_good mh_line)) rfl rfl rfl (by decide +kernel) ⟨Nat.le_of_ble_eq_true rfl, Nat.le_of_ble_eq_true rfl⟩
set_option maxRecDepth 20000 in
theorem cq_L_line {s : State} {args : Array Value} (hT : ∀ w ∈ xw_T, w.before args s = true) : vx_CSW room_1 s args "ControlDeskLaw" 89 yn_L_line bc_L_line 4 (some .int) [(0, 6, 9, 13)] w_L_line rz_L_line 1 6 3 :=
  vx_cwSW 3 hT (goodIn_app (goodIn_sub (List.forall_mem_cons.mpr ⟨mw_381, List.forall_mem_cons.mpr ⟨mw_382, List.forall_mem_cons.mpr ⟨mw_318, fun _ h => absurd h List.not_mem_nil⟩⟩⟩) (by decide +kernel)) (xw_good mh_line)) rfl rfl rfl (by decide +kernel) ⟨Nat.le_of_ble_eq_true rfl, Nat.le_of_ble_eq_true rfl⟩
set_option maxRecDepth 20000 in
theorem cl_M_line {R : Room} {s : State} {args : Array Value} (hT : ∀ w ∈ xw_T, w.before args s = true) (hR : rm_M_line.frames + 1 ≤ R.frames ∧ 8 + (3 + 11) + rm_M_line.locals ≤ R.locals) : CallW R s args "ControlDeskLaw" "ControlDeskModel" 92 yn_M_line bc_M_line 3 none w_M_line rm_M_line 0 0 2 :=
  ⟨callB_of 2 hT (xw_good mc_M_line) rfl rfl rfl (hT _ mw_88) (hT _ mw_386) (by decide +kernel) hR, hT _ mw_384, hT _ mw_385⟩
set_option maxRecDepth 20000 in
theorem mh_allowed : Cond.codeWith yn_L_allowed bc_L_allowed 4 (some .int) [(0, 16, 19, 13)] ∈ xw_T := xw_in (List.mem_of_getElem? (i := 435) rfl) rfl
set_option maxRecDepth 20000 in
theorem cl_L_allowed {s : State} {args : Array Value} (hT : ∀ w ∈ xw_T, w.before args s = true) : vx_CSW room_1 s args "ControlDeskLaw" 93 yn_L_allowed bc_L_allowed 4 (some .int) [(0, 16, 19, 13)] w_L_allowed rm_L_allowed 0 0 3 :=
  vx_cwSW 3 hT (goodIn_app (goodIn_sub (List.forall_mem_cons.mpr ⟨mw_387, List.forall_mem_cons.mpr ⟨mw_388, List.forall_mem_cons.mpr ⟨mw_318, fun _ h => absurd h List.not_mem_nil⟩⟩⟩) (by decide +kernel)) (xw_good mh_allowed)) rfl rfl rfl (by decide +kernel) ⟨Nat.le_of_ble_eq_true rfl, Nat.le_of_ble_eq_true rfl⟩
set_option maxRecDepth 20000 in
theorem cq_L_allowed {s : State} {args : Array Value} (hT : ∀ w ∈ xw_T, w.before args s = true) : vx_CSW room_1 s args "ControlDeskLaw" 93 yn_L_allowed bc_L_allowed 4 (some .int) [(0, 16, 19, 13)] w_L_allowed rz_L_allowed 1 6 3 :=
  vx_cwSW 3 hT (goodIn_app (goodIn_sub (List.forall_mem_cons.mpr ⟨mw_387, List.forall_mem_cons.mpr ⟨mw_388, List.forall_mem_cons.mpr ⟨mw_318, fun _ h => absurd h List.not_mem_nil⟩⟩⟩) (by decide +kernel)) (xw_good mh_allowed)) rfl rfl rfl (by decide +kernel) ⟨Nat.le_of_ble_eq_true rfl, Nat.le_of_ble_eq_true rfl⟩
set_option maxRecDepth 20000 in
theorem cl_M_allowed {R : Room} {s : State} {args : Array Value} (hT : ∀ w ∈ xw_T, w.before args s = true) (hR : rm_M_allowed.frames + 1 ≤ R.frames ∧ 8 + (2 + 11) + rm_M_allowed.locals ≤ R.locals) : CallW R s args "ControlDeskLaw" "ControlDeskModel" 96 yn_M_allowed bc_M_allowed 2 (some .boolean) w_M_allowed rm_M_allowed 0 0 1 :=
  ⟨callB_of 1 hT (xw_good mc_M_allowed) rfl rfl rfl (hT _ mw_88) (hT _ mw_392) (by decide +kernel) hR, hT _ mw_390, hT _ mw_391⟩
set_option maxRecDepth 20000 in
theorem cl_X_floats {R : Room} {s : State} {args : Array Value} (hT : ∀ w ∈ xw_T, w.before args s = true) (hR : rm_X_floats.frames + 1 ≤ R.frames ∧ 8 + (1 + 11) + rm_X_floats.locals ≤ R.locals) : CallW R s args "ControlDeskLaw" "ControlDesk" 97 yn_X_floats bc_X_floats 1 (some .boolean) w_X_floats rm_X_floats 0 0 0 :=
  ⟨callB_of 0 hT (xw_good mc_X_floats) rfl rfl rfl (hT _ mw_156) (hT _ mw_396) (by decide +kernel) hR, hT _ mw_394, hT _ mw_395⟩
set_option maxRecDepth 20000 in
theorem cl_M_floats {R : Room} {s : State} {args : Array Value} (hT : ∀ w ∈ xw_T, w.before args s = true) (hR : rm_M_floats.frames + 1 ≤ R.frames ∧ 8 + (1 + 11) + rm_M_floats.locals ≤ R.locals) : CallW R s args "ControlDeskLaw" "ControlDeskModel" 100 yn_M_floats bc_M_floats 1 (some .boolean) w_M_floats rm_M_floats 0 0 0 :=
  ⟨callB_of 0 hT (xw_good mc_M_floats) rfl rfl rfl (hT _ mw_88) (hT _ mw_400) (by decide +kernel) hR, hT _ mw_398, hT _ mw_399⟩
set_option maxRecDepth 20000 in
theorem cl_X_dirty {R : Room} {s : State} {args : Array Value} (hT : ∀ w ∈ xw_T, w.before args s = true) (hR : rm_X_dirty.frames + 1 ≤ R.frames ∧ 8 + (1 + 11) + rm_X_dirty.locals ≤ R.locals) : CallW R s args "ControlDeskLaw" "ControlDesk" 101 yn_X_dirty bc_X_dirty 1 none w_X_dirty rm_X_dirty 0 0 0 :=
  ⟨callB_of 0 hT (xw_good mc_X_dirty) rfl rfl rfl (hT _ mw_156) (hT _ mw_404) (by decide +kernel) hR, hT _ mw_402, hT _ mw_403⟩
set_option maxRecDepth 20000 in
theorem cl_M_dirty {R : Room} {s : State} {args : Array Value} (hT : ∀ w ∈ xw_T, w.before args s = true) (hR : rm_M_dirty.frames + 1 ≤ R.frames ∧ 8 + (1 + 11) + rm_M_dirty.locals ≤ R.locals) : CallW R s args "ControlDeskLaw" "ControlDeskModel" 104 yn_M_dirty bc_M_dirty 1 none w_M_dirty rm_M_dirty 0 0 0 :=
  ⟨callB_of 0 hT (xw_good mc_M_dirty) rfl rfl rfl (hT _ mw_88) (hT _ mw_408) (by decide +kernel) hR, hT _ mw_406, hT _ mw_407⟩
set_option maxRecDepth 20000 in
theorem cl_X_count {R : Room} {s : State} {args : Array Value} (hT : ∀ w ∈ xw_T, w.before args s = true) (hR : rm_X_count.frames + 1 ≤ R.frames ∧ 8 + (5 + 11) + rm_X_count.locals ≤ R.locals) : CallW R s args "ControlDeskLaw" "ControlDesk" 105 yn_X_count bc_X_count 5 none w_X_count rm_X_count 0 0 2 :=
  ⟨callB_of 2 hT (xw_good mc_X_count) rfl rfl rfl (hT _ mw_156) (hT _ mw_412) (by decide +kernel) hR, hT _ mw_410, hT _ mw_411⟩
set_option maxRecDepth 20000 in
theorem cl_M_count {R : Room} {s : State} {args : Array Value} (hT : ∀ w ∈ xw_T, w.before args s = true) (hR : rm_M_count.frames + 1 ≤ R.frames ∧ 8 + (5 + 11) + rm_M_count.locals ≤ R.locals) : CallW R s args "ControlDeskLaw" "ControlDeskModel" 109 yn_M_count bc_M_count 5 none w_M_count rm_M_count 0 0 2 :=
  ⟨callB_of 2 hT (xw_good mc_M_count) rfl rfl rfl (hT _ mw_88) (hT _ mw_416) (by decide +kernel) hR, hT _ mw_414, hT _ mw_415⟩
set_option maxRecDepth 20000 in
theorem cl_X_time {R : Room} {s : State} {args : Array Value} (hT : ∀ w ∈ xw_T, w.before args s = true) (hR : rm_X_time.frames + 1 ≤ R.frames ∧ 8 + (3 + 11) + rm_X_time.locals ≤ R.locals) : CallW R s args "ControlDeskLaw" "ControlDesk" 110 yn_X_time bc_X_time 3 none w_X_time rm_X_time 0 0 1 :=
  ⟨callB_of 1 hT (xw_good mc_X_time) rfl rfl rfl (hT _ mw_156) (hT _ mw_420) (by decide +kernel) hR, hT _ mw_418, hT _ mw_419⟩
set_option maxRecDepth 20000 in
theorem cl_M_time {R : Room} {s : State} {args : Array Value} (hT : ∀ w ∈ xw_T, w.before args s = true) (hR : rm_M_time.frames + 1 ≤ R.frames ∧ 8 + (3 + 11) + rm_M_time.locals ≤ R.locals) : CallW R s args "ControlDeskLaw" "ControlDeskModel" 114 yn_M_time bc_M_time 3 none w_M_time rm_M_time 0 0 1 :=
  ⟨callB_of 1 hT (xw_good mc_M_time) rfl rfl rfl (hT _ mw_88) (hT _ mw_424) (by decide +kernel) hR, hT _ mw_422, hT _ mw_423⟩
