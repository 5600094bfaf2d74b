section
-- ===== PART A: goes FIRST, ahead of the names: the tables' words, and 'selects' of the private methods out of them =====
/-- a private method of a class that the tables say can be made, by its rows of tables_1 -/
def lw_okq (q : MethodName × Nat) : Prop := (q.1.cls ≠ "java/lang/invoke/MethodHandle" ∧ q.1.cls ≠ "java/lang/invoke/VarHandle") ∧ Cond.instantiable q.1.cls q.2 ∈ tables_1 ∧ Cond.privateMethod q.1 ∈ tables_1 ∧ Cond.instanceMethod q.1 ∈ tables_1
theorem lw_p0 : lw_okq (⟨"ControlDesk", "has", "(J)Z"⟩, 16) := ⟨⟨by decide +kernel, by decide +kernel⟩, List.mem_of_getElem? (i := 9) (by decide +kernel), List.mem_of_getElem? (i := 104) (by decide +kernel), List.mem_of_getElem? (i := 105) (by decide +kernel)⟩
theorem lw_p1 : lw_okq (⟨"ControlDesk", "previousMachineMode", "()I"⟩, 16) := ⟨⟨by decide +kernel, by decide +kernel⟩, List.mem_of_getElem? (i := 9) (by decide +kernel), List.mem_of_getElem? (i := 108) (by decide +kernel), List.mem_of_getElem? (i := 109) (by decide +kernel)⟩
theorem lw_p2 : lw_okq (⟨"ControlDesk", "shown", "(I)J"⟩, 16) := ⟨⟨by decide +kernel, by decide +kernel⟩, List.mem_of_getElem? (i := 9) (by decide +kernel), List.mem_of_getElem? (i := 121) (by decide +kernel), List.mem_of_getElem? (i := 122) (by decide +kernel)⟩
theorem lw_p3 : lw_okq (⟨"ControlDesk", "shownStatus", "()J"⟩, 16) := ⟨⟨by decide +kernel, by decide +kernel⟩, List.mem_of_getElem? (i := 9) (by decide +kernel), List.mem_of_getElem? (i := 125) (by decide +kernel), List.mem_of_getElem? (i := 126) (by decide +kernel)⟩
theorem lw_p4 : lw_okq (⟨"ControlDesk", "pending", "()J"⟩, 16) := ⟨⟨by decide +kernel, by decide +kernel⟩, List.mem_of_getElem? (i := 9) (by decide +kernel), List.mem_of_getElem? (i := 134) (by decide +kernel), List.mem_of_getElem? (i := 135) (by decide +kernel)⟩
theorem lw_p5 : lw_okq (⟨"ControlDesk", "mayReturn", "(Z)Z"⟩, 16) := ⟨⟨by decide +kernel, by decide +kernel⟩, List.mem_of_getElem? (i := 9) (by decide +kernel), List.mem_of_getElem? (i := 142) (by decide +kernel), List.mem_of_getElem? (i := 143) (by decide +kernel)⟩
theorem lw_p6 : lw_okq (⟨"ControlDesk", "machineOrSupervisorWithout", "(J)Z"⟩, 16) := ⟨⟨by decide +kernel, by decide +kernel⟩, List.mem_of_getElem? (i := 9) (by decide +kernel), List.mem_of_getElem? (i := 147) (by decide +kernel), List.mem_of_getElem? (i := 148) (by decide +kernel)⟩
theorem lw_p7 : lw_okq (⟨"ControlDesk", "leaveMachine", "()V"⟩, 16) := ⟨⟨by decide +kernel, by decide +kernel⟩, List.mem_of_getElem? (i := 9) (by decide +kernel), List.mem_of_getElem? (i := 151) (by decide +kernel), List.mem_of_getElem? (i := 152) (by decide +kernel)⟩
theorem lw_p8 : lw_okq (⟨"ControlDesk", "leaveSupervisor", "()V"⟩, 16) := ⟨⟨by decide +kernel, by decide +kernel⟩, List.mem_of_getElem? (i := 9) (by decide +kernel), List.mem_of_getElem? (i := 158) (by decide +kernel), List.mem_of_getElem? (i := 159) (by decide +kernel)⟩
theorem lw_p9 : lw_okq (⟨"ControlDesk", "takesUndelegated", "()Z"⟩, 16) := ⟨⟨by decide +kernel, by decide +kernel⟩, List.mem_of_getElem? (i := 9) (by decide +kernel), List.mem_of_getElem? (i := 175) (by decide +kernel), List.mem_of_getElem? (i := 176) (by decide +kernel)⟩
theorem lw_p10 : lw_okq (⟨"ControlDesk", "takesDelegated", "()Z"⟩, 16) := ⟨⟨by decide +kernel, by decide +kernel⟩, List.mem_of_getElem? (i := 9) (by decide +kernel), List.mem_of_getElem? (i := 185) (by decide +kernel), List.mem_of_getElem? (i := 186) (by decide +kernel)⟩
theorem lw_p11 : lw_okq (⟨"java/lang/Throwable", "fillInStackTrace", "(I)Ljava/lang/Throwable;"⟩, 6) := ⟨⟨by decide +kernel, by decide +kernel⟩, List.mem_of_getElem? (i := 256) (by decide +kernel), List.mem_of_getElem? (i := 254) (by decide +kernel), List.mem_of_getElem? (i := 255) (by decide +kernel)⟩
theorem lw_p12 : lw_okq (⟨"ControlDesk", "isIllegal", "(IZ)Z"⟩, 16) := ⟨⟨by decide +kernel, by decide +kernel⟩, List.mem_of_getElem? (i := 9) (by decide +kernel), List.mem_of_getElem? (i := 287) (by decide +kernel), List.mem_of_getElem? (i := 288) (by decide +kernel)⟩
theorem lw_p13 : lw_okq (⟨"ControlDesk", "isClosed", "(I)Z"⟩, 16) := ⟨⟨by decide +kernel, by decide +kernel⟩, List.mem_of_getElem? (i := 9) (by decide +kernel), List.mem_of_getElem? (i := 304) (by decide +kernel), List.mem_of_getElem? (i := 305) (by decide +kernel)⟩
theorem lw_p14 : lw_okq (⟨"ControlDesk", "changeable", "(IJ)J"⟩, 16) := ⟨⟨by decide +kernel, by decide +kernel⟩, List.mem_of_getElem? (i := 9) (by decide +kernel), List.mem_of_getElem? (i := 308) (by decide +kernel), List.mem_of_getElem? (i := 309) (by decide +kernel)⟩
theorem lw_p15 : lw_okq (⟨"ControlDesk", "store", "(IJ)V"⟩, 16) := ⟨⟨by decide +kernel, by decide +kernel⟩, List.mem_of_getElem? (i := 9) (by decide +kernel), List.mem_of_getElem? (i := 319) (by decide +kernel), List.mem_of_getElem? (i := 320) (by decide +kernel)⟩
def lw_privs_1 : List (MethodName × Nat) := [(⟨"ControlDesk", "has", "(J)Z"⟩, 16), (⟨"ControlDesk", "previousMachineMode", "()I"⟩, 16), (⟨"ControlDesk", "shown", "(I)J"⟩, 16), (⟨"ControlDesk", "shownStatus", "()J"⟩, 16), (⟨"ControlDesk", "pending", "()J"⟩, 16), (⟨"ControlDesk", "mayReturn", "(Z)Z"⟩, 16), (⟨"ControlDesk", "machineOrSupervisorWithout", "(J)Z"⟩, 16), (⟨"ControlDesk", "leaveMachine", "()V"⟩, 16), (⟨"ControlDesk", "leaveSupervisor", "()V"⟩, 16), (⟨"ControlDesk", "takesUndelegated", "()Z"⟩, 16), (⟨"ControlDesk", "takesDelegated", "()Z"⟩, 16), (⟨"java/lang/Throwable", "fillInStackTrace", "(I)Ljava/lang/Throwable;"⟩, 6), (⟨"ControlDesk", "isIllegal", "(IZ)Z"⟩, 16), (⟨"ControlDesk", "isClosed", "(I)Z"⟩, 16), (⟨"ControlDesk", "changeable", "(IJ)J"⟩, 16), (⟨"ControlDesk", "store", "(IJ)V"⟩, 16)]
theorem lw_r1 : ∀ q ∈ lw_privs_1, lw_okq q := List.forall_mem_cons.mpr ⟨lw_p0, List.forall_mem_cons.mpr ⟨lw_p1, List.forall_mem_cons.mpr ⟨lw_p2, List.forall_mem_cons.mpr ⟨lw_p3, List.forall_mem_cons.mpr ⟨lw_p4, List.forall_mem_cons.mpr ⟨lw_p5, List.forall_mem_cons.mpr ⟨lw_p6, List.forall_mem_cons.mpr ⟨lw_p7, List.forall_mem_cons.mpr ⟨lw_p8, List.forall_mem_cons.mpr ⟨lw_p9, List.forall_mem_cons.mpr ⟨lw_p10, List.forall_mem_cons.mpr ⟨lw_p11, List.forall_mem_cons.mpr ⟨lw_p12, List.forall_mem_cons.mpr ⟨lw_p13, List.forall_mem_cons.mpr ⟨lw_p14, List.forall_mem_cons.mpr ⟨lw_p15, fun _ h => absurd h List.not_mem_nil⟩⟩⟩⟩⟩⟩⟩⟩⟩⟩⟩⟩⟩⟩⟩⟩
theorem lw_p16 : lw_okq (⟨"ControlDesk", "storeStatus", "(JJ)V"⟩, 16) := ⟨⟨by decide +kernel, by decide +kernel⟩, List.mem_of_getElem? (i := 9) (by decide +kernel), List.mem_of_getElem? (i := 324) (by decide +kernel), List.mem_of_getElem? (i := 325) (by decide +kernel)⟩
theorem lw_p17 : lw_okq (⟨"ControlDesk", "storeSupervisorPending", "(J)V"⟩, 16) := ⟨⟨by decide +kernel, by decide +kernel⟩, List.mem_of_getElem? (i := 9) (by decide +kernel), List.mem_of_getElem? (i := 333) (by decide +kernel), List.mem_of_getElem? (i := 334) (by decide +kernel)⟩
theorem lw_p18 : lw_okq (⟨"ControlDesk$Bank", "keepVectors", "(J)V"⟩, 6) := ⟨⟨by decide +kernel, by decide +kernel⟩, List.mem_of_getElem? (i := 17) (by decide +kernel), List.mem_of_getElem? (i := 337) (by decide +kernel), List.mem_of_getElem? (i := 338) (by decide +kernel)⟩
theorem lw_p19 : lw_okq (⟨"ControlDesk$Bank", "keepResume", "(J)V"⟩, 6) := ⟨⟨by decide +kernel, by decide +kernel⟩, List.mem_of_getElem? (i := 17) (by decide +kernel), List.mem_of_getElem? (i := 343) (by decide +kernel), List.mem_of_getElem? (i := 344) (by decide +kernel)⟩
theorem lw_p20 : lw_okq (⟨"ControlDesk", "storeTable", "(J)V"⟩, 16) := ⟨⟨by decide +kernel, by decide +kernel⟩, List.mem_of_getElem? (i := 9) (by decide +kernel), List.mem_of_getElem? (i := 348) (by decide +kernel), List.mem_of_getElem? (i := 349) (by decide +kernel)⟩
theorem lw_p21 : lw_okq (⟨"ControlDesk", "goesToSupervisor", "(ZI)Z"⟩, 16) := ⟨⟨by decide +kernel, by decide +kernel⟩, List.mem_of_getElem? (i := 9) (by decide +kernel), List.mem_of_getElem? (i := 361) (by decide +kernel), List.mem_of_getElem? (i := 362) (by decide +kernel)⟩
theorem lw_p22 : lw_okq (⟨"ControlDesk", "enterSupervisor", "()V"⟩, 16) := ⟨⟨by decide +kernel, by decide +kernel⟩, List.mem_of_getElem? (i := 9) (by decide +kernel), List.mem_of_getElem? (i := 365) (by decide +kernel), List.mem_of_getElem? (i := 366) (by decide +kernel)⟩
theorem lw_p23 : lw_okq (⟨"ControlDesk", "enterMachine", "()V"⟩, 16) := ⟨⟨by decide +kernel, by decide +kernel⟩, List.mem_of_getElem? (i := 9) (by decide +kernel), List.mem_of_getElem? (i := 370) (by decide +kernel), List.mem_of_getElem? (i := 371) (by decide +kernel)⟩
theorem lw_p24 : lw_okq (⟨"ControlDesk$Bank", "remember", "(ZIJJ)V"⟩, 6) := ⟨⟨by decide +kernel, by decide +kernel⟩, List.mem_of_getElem? (i := 17) (by decide +kernel), List.mem_of_getElem? (i := 375) (by decide +kernel), List.mem_of_getElem? (i := 376) (by decide +kernel)⟩
theorem lw_p25 : lw_okq (⟨"ControlDesk$Bank", "entry", "(ZI)J"⟩, 6) := ⟨⟨by decide +kernel, by decide +kernel⟩, List.mem_of_getElem? (i := 17) (by decide +kernel), List.mem_of_getElem? (i := 381) (by decide +kernel), List.mem_of_getElem? (i := 382) (by decide +kernel)⟩
theorem lw_p26 : lw_okq (⟨"ControlDeskModel", "status", "(I)I"⟩, 8) := ⟨⟨by decide +kernel, by decide +kernel⟩, List.mem_of_getElem? (i := 404) (by decide +kernel), List.mem_of_getElem? (i := 449) (by decide +kernel), List.mem_of_getElem? (i := 450) (by decide +kernel)⟩
theorem lw_p27 : lw_okq (⟨"ControlDeskModel", "below", "()I"⟩, 8) := ⟨⟨by decide +kernel, by decide +kernel⟩, List.mem_of_getElem? (i := 404) (by decide +kernel), List.mem_of_getElem? (i := 453) (by decide +kernel), List.mem_of_getElem? (i := 454) (by decide +kernel)⟩
theorem lw_p28 : lw_okq (⟨"ControlDeskModel", "shown", "(I)J"⟩, 8) := ⟨⟨by decide +kernel, by decide +kernel⟩, List.mem_of_getElem? (i := 404) (by decide +kernel), List.mem_of_getElem? (i := 461) (by decide +kernel), List.mem_of_getElem? (i := 462) (by decide +kernel)⟩
theorem lw_p29 : lw_okq (⟨"ControlDeskModel", "floating", "()I"⟩, 8) := ⟨⟨by decide +kernel, by decide +kernel⟩, List.mem_of_getElem? (i := 404) (by decide +kernel), List.mem_of_getElem? (i := 465) (by decide +kernel), List.mem_of_getElem? (i := 466) (by decide +kernel)⟩
theorem lw_p30 : lw_okq (⟨"ControlDeskModel", "lineBits", "()J"⟩, 8) := ⟨⟨by decide +kernel, by decide +kernel⟩, List.mem_of_getElem? (i := 404) (by decide +kernel), List.mem_of_getElem? (i := 476) (by decide +kernel), List.mem_of_getElem? (i := 477) (by decide +kernel)⟩
theorem lw_p31 : lw_okq (⟨"ControlDeskModel", "isIllegal", "(IZ)Z"⟩, 8) := ⟨⟨by decide +kernel, by decide +kernel⟩, List.mem_of_getElem? (i := 404) (by decide +kernel), List.mem_of_getElem? (i := 493) (by decide +kernel), List.mem_of_getElem? (i := 494) (by decide +kernel)⟩
def lw_privs_2 : List (MethodName × Nat) := [(⟨"ControlDesk", "storeStatus", "(JJ)V"⟩, 16), (⟨"ControlDesk", "storeSupervisorPending", "(J)V"⟩, 16), (⟨"ControlDesk$Bank", "keepVectors", "(J)V"⟩, 6), (⟨"ControlDesk$Bank", "keepResume", "(J)V"⟩, 6), (⟨"ControlDesk", "storeTable", "(J)V"⟩, 16), (⟨"ControlDesk", "goesToSupervisor", "(ZI)Z"⟩, 16), (⟨"ControlDesk", "enterSupervisor", "()V"⟩, 16), (⟨"ControlDesk", "enterMachine", "()V"⟩, 16), (⟨"ControlDesk$Bank", "remember", "(ZIJJ)V"⟩, 6), (⟨"ControlDesk$Bank", "entry", "(ZI)J"⟩, 6), (⟨"ControlDeskModel", "status", "(I)I"⟩, 8), (⟨"ControlDeskModel", "below", "()I"⟩, 8), (⟨"ControlDeskModel", "shown", "(I)J"⟩, 8), (⟨"ControlDeskModel", "floating", "()I"⟩, 8), (⟨"ControlDeskModel", "lineBits", "()J"⟩, 8), (⟨"ControlDeskModel", "isIllegal", "(IZ)Z"⟩, 8)]
theorem lw_r2 : ∀ q ∈ lw_privs_2, lw_okq q := List.forall_mem_cons.mpr ⟨lw_p16, List.forall_mem_cons.mpr ⟨lw_p17, List.forall_mem_cons.mpr ⟨lw_p18, List.forall_mem_cons.mpr ⟨lw_p19, List.forall_mem_cons.mpr ⟨lw_p20, List.forall_mem_cons.mpr ⟨lw_p21, List.forall_mem_cons.mpr ⟨lw_p22, List.forall_mem_cons.mpr ⟨lw_p23, List.forall_mem_cons.mpr ⟨lw_p24, List.forall_mem_cons.mpr ⟨lw_p25, List.forall_mem_cons.mpr ⟨lw_p26, List.forall_mem_cons.mpr ⟨lw_p27, List.forall_mem_cons.mpr ⟨lw_p28, List.forall_mem_cons.mpr ⟨lw_p29, List.forall_mem_cons.mpr ⟨lw_p30, List.forall_mem_cons.mpr ⟨lw_p31, fun _ h => absurd h List.not_mem_nil⟩⟩⟩⟩⟩⟩⟩⟩⟩⟩⟩⟩⟩⟩⟩⟩
theorem lw_p32 : lw_okq (⟨"ControlDeskModel", "put", "(II)V"⟩, 8) := ⟨⟨by decide +kernel, by decide +kernel⟩, List.mem_of_getElem? (i := 404) (by decide +kernel), List.mem_of_getElem? (i := 497) (by decide +kernel), List.mem_of_getElem? (i := 498) (by decide +kernel)⟩
theorem lw_p33 : lw_okq (⟨"ControlDeskModel", "write", "(IJ)V"⟩, 8) := ⟨⟨by decide +kernel, by decide +kernel⟩, List.mem_of_getElem? (i := 404) (by decide +kernel), List.mem_of_getElem? (i := 503) (by decide +kernel), List.mem_of_getElem? (i := 504) (by decide +kernel)⟩
theorem lw_p34 : lw_okq (⟨"ControlDeskModel", "writeStatus", "(JJ)V"⟩, 8) := ⟨⟨by decide +kernel, by decide +kernel⟩, List.mem_of_getElem? (i := 404) (by decide +kernel), List.mem_of_getElem? (i := 507) (by decide +kernel), List.mem_of_getElem? (i := 508) (by decide +kernel)⟩
theorem lw_p35 : lw_okq (⟨"ControlDeskModel", "through", "(IJJ)V"⟩, 8) := ⟨⟨by decide +kernel, by decide +kernel⟩, List.mem_of_getElem? (i := 404) (by decide +kernel), List.mem_of_getElem? (i := 511) (by decide +kernel), List.mem_of_getElem? (i := 512) (by decide +kernel)⟩
theorem lw_p36 : lw_okq (⟨"ControlDeskModel", "first", "(Z)I"⟩, 8) := ⟨⟨by decide +kernel, by decide +kernel⟩, List.mem_of_getElem? (i := 404) (by decide +kernel), List.mem_of_getElem? (i := 550) (by decide +kernel), List.mem_of_getElem? (i := 551) (by decide +kernel)⟩
theorem lw_p37 : lw_okq (⟨"ControlDeskModel", "mayBe", "(IZ)Z"⟩, 8) := ⟨⟨by decide +kernel, by decide +kernel⟩, List.mem_of_getElem? (i := 404) (by decide +kernel), List.mem_of_getElem? (i := 554) (by decide +kernel), List.mem_of_getElem? (i := 555) (by decide +kernel)⟩
theorem lw_p38 : lw_okq (⟨"ControlDeskModel", "isPending", "(I)Z"⟩, 8) := ⟨⟨by decide +kernel, by decide +kernel⟩, List.mem_of_getElem? (i := 404) (by decide +kernel), List.mem_of_getElem? (i := 558) (by decide +kernel), List.mem_of_getElem? (i := 559) (by decide +kernel)⟩
def lw_privs_3 : List (MethodName × Nat) := [(⟨"ControlDeskModel", "put", "(II)V"⟩, 8), (⟨"ControlDeskModel", "write", "(IJ)V"⟩, 8), (⟨"ControlDeskModel", "writeStatus", "(JJ)V"⟩, 8), (⟨"ControlDeskModel", "through", "(IJJ)V"⟩, 8), (⟨"ControlDeskModel", "first", "(Z)I"⟩, 8), (⟨"ControlDeskModel", "mayBe", "(IZ)Z"⟩, 8), (⟨"ControlDeskModel", "isPending", "(I)Z"⟩, 8)]
theorem lw_r3 : ∀ q ∈ lw_privs_3, lw_okq q := List.forall_mem_cons.mpr ⟨lw_p32, List.forall_mem_cons.mpr ⟨lw_p33, List.forall_mem_cons.mpr ⟨lw_p34, List.forall_mem_cons.mpr ⟨lw_p35, List.forall_mem_cons.mpr ⟨lw_p36, List.forall_mem_cons.mpr ⟨lw_p37, List.forall_mem_cons.mpr ⟨lw_p38, fun _ h => absurd h List.not_mem_nil⟩⟩⟩⟩⟩⟩⟩
def lw_privs : List (MethodName × Nat) := lw_privs_1 ++ (lw_privs_2 ++ (lw_privs_3))
def lw_tbl : List Cond := k2_sels lw_privs ++ tables_1
theorem lw_privs_ok : ∀ q ∈ lw_privs, lw_okq q := by
  show ∀ q ∈ lw_privs_1 ++ (lw_privs_2 ++ (lw_privs_3)), lw_okq q
  exact List.forall_mem_append.mpr ⟨lw_r1, List.forall_mem_append.mpr ⟨lw_r2, lw_r3⟩⟩
/-- the words that hold in every warmer state -/
def xw_T : List Cond := lw_tbl.filter goodWord
theorem xw_in {w : Cond} (h : w ∈ lw_tbl) (hg : goodWord w = true) : w ∈ xw_T := List.mem_filter.mpr ⟨h, hg⟩
theorem xw_good {w : Cond} (h : w ∈ xw_T) : GoodIn xw_T (w :: xw_T) := fun v hv => by
  rcases List.mem_cons.mp hv with rfl | hv
  · exact ⟨h, good_of_word (List.mem_filter.mp h).2⟩
  · exact ⟨hv, good_of_word (List.mem_filter.mp hv).2⟩
end
section
/-! ===== BEGIN words of one list among another's, by their places ===== -/
theorem goodIn_r {big : List Cond} (ws : List Cond) (ps : List Nat) (hp : ws = ps.filterMap (fun i => big[i]?)) (h : ws.all goodWord = true) : GoodIn big ws := by
  intro w hw
  have h1 := List.all_eq_true.mp h w hw
  rw [hp] at hw
  obtain ⟨i, -, hi⟩ := List.mem_filterMap.mp hw
  have hm : w ∈ big := by first | exact List.mem_of_getElem? hi | exact List.getElem?_mem hi
  exact ⟨hm, good_of_word h1⟩
theorem goodIn_app {big a b : List Cond} (ha : GoodIn big a) (hb : GoodIn big b) : GoodIn big (a ++ b) := fun w h => (List.mem_append.mp h).elim (ha w) (hb w)
theorem goodIn_ca {big a b : List Cond} {c : Cond} (ha : GoodIn big (c :: a)) (hb : GoodIn big b) : GoodIn big (c :: (a ++ b)) := fun w h => (List.mem_cons.mp h).elim (fun e => ha w (List.mem_cons.mpr (Or.inl e))) (fun h => (List.mem_append.mp h).elim (fun h => ha w (List.mem_cons.mpr (Or.inr h))) (hb w))
theorem goodIn_sub {big ws : List Cond} (hm : ∀ w ∈ ws, w ∈ big) (h : ws.all goodWord = true) : GoodIn big ws := fun w hw => ⟨hm w hw, good_of_word (List.all_eq_true.mp h w hw)⟩
/-! ===== END ===== -/

/-! ===== BEGIN exceptions that leave a method, and their catching by the caller (launches without stack traces) ===== -/
section VXA
/-! The laws vx_back, vx_callV, vx_callS, vx_callSW, vx_throw0, vx_throwS follow proofs of the library, with one case more: JvmDerived/Free/Laws.lean (Back.of_free), Shelf42/LK1.lean (callV, callS), Shelf/KitTraced.lean (throwNew0V, throwNewS). -/
/-- where a method has thrown q: the class by its name, the cell, what was written, the world -/
def vx_T (XC : String → State → State → Prop) (st : State) (q : Addr) (t : State) (mc ms : Nat) (free : Addr → Prop) : Prop :=
  ∃ (E : String) (ce : Cell) (L : List Loc), XC E st t ∧ t.heap[q]? = some ce ∧ ce.vm = .none ∧ st.vm.findClass E = some ce.cls ∧ st.WarmedH t.vm ∧ st.sameButNew ({ t with vm := st.vm } : State) L mc ms ∧ ∀ z ∈ L, free z.base
def vx_Q (Qc : Array Value → State → Outcome → State → Prop) (XC : String → State → State → Prop) (mc ms : Nat) (free : Addr → Prop) : Array Value → State → Outcome → State → Prop := fun a st o t =>
  (Qc a st o t ∧ ∃ L, FrameEnd st o t L mc ms ∧ ∀ q ∈ L, free q.base) ∨ ∃ q, o = .threw q ∧ vx_T XC st q t mc ms free
/-- a callee that returns or throws -/
def vx_Met (l : Launch) (y : MethodName) (ws : List Cond) (rm : Room) (Pc : Array Value → State → Prop) (Qc : Array Value → State → Outcome → State → Prop) (XC : String → State → State → Prop) (mc ms : Nat) (free : Addr → Prop) : Prop :=
  MetFree l y (headSpec ws rm) Pc (fun _ _ _ _ _ => True) (vx_Q Qc XC mc ms free)
def vx_Post (XC : String → State → State → Prop) (mc ms : Nat) (free : Addr → Prop) : Pt → Array Value → Addr → Pt → Prop := fun A a q B =>
  ∃ (g : JFrame) (mk : MethodId) (t : State) (L : List Loc) (E : String) (ce : Cell), B.U.heap = t.heap ∧ B.U.vm = t.vm ∧ XC E (A.U.calling g mk a) t ∧ t.heap[q]? = some ce ∧ ce.vm = .none ∧ A.U.vm.findClass E = some ce.cls ∧ B.locs = A.locs ++ L ∧ (∀ z ∈ L, free z.base) ∧ B.cells = A.cells + mc ∧ B.slots = A.slots + ms
def vx_Back (l : Launch) (R : Room) (p : Program) (e : Env) (below : List Frame) (s : State) (sargs : Array Value) (y : MethodName) (len W9 : Nat)
    (Pre : Pt → Array Value → Prop) (Post : Pt → Array Value → Option Value → Pt → Prop) (PostX : Pt → Array Value → Addr → Pt → Prop) : Prop :=
  ∀ (m : MethodId) (meth : Method) (c : Code) (A : Pt) (g : JFrame) (ig : Instr) (mk : MethodId) (a : Array Value),
    Stand p l e R s m sargs below meth c A.U A.locs A.cells A.slots → g.method = m → g.locals.size = c.maxLocals → decode c.code g.pc = .ok (ig, len) →
    2 * g.monitorRoom + (g.stack.map fun v => v.category).sum ≤ W9 → A.U.methodNamed? y = some mk → Pre A a →
    (∃ (v : Option Value) (B : Pt), Stand p l e R s m sargs below meth c B.U B.locs B.cells B.slots ∧ Post A a v B ∧
      Steps p.tables e below (doInvoke e (A.U.setTop g) [] mk a).1 (B.U.setTop { g with pc := g.pc + len, stack := v.toList ++ g.stack })) ∨
    (∃ (q : Addr) (B : Pt), Stand p l e R s m sargs below meth c B.U B.locs B.cells B.slots ∧ PostX A a q B ∧
      Steps p.tables e below (doInvoke e (A.U.setTop g) [] mk a).1 ((B.U.setTop g).pushFrame (.throwing q)))
section Payer
variable {l : Launch} {R : Room} {p : Program} {e : Env} {below : List Frame} {s : State} {sargs : Array Value} {y : MethodName} {len W9 : Nat}
theorem vx_back {ws : List Cond} {rm : Room} {Pc : Array Value → State → Prop} {Qc : Array Value → State → Outcome → State → Prop} {XC : String → State → State → Prop} {mc ms : Nat} {free : Addr → Prop} {bytes : ByteArray} {maxL : Nat} {ret : Option FieldType}
    (hM : vx_Met l y ws rm Pc Qc XC mc ms free) (hblind : FrameBlind Pc) (hrc : rm.cells = mc) (hrs : rm.slots = ms)
    (hframes : rm.frames + 1 ≤ R.frames) (hlocals : W9 + (maxL + 11) + rm.locals ≤ R.locals)
    (hws : ∀ w ∈ ws, ∀ a' U, s.WarmedH U.vm → w.before a' U = true) (hcode : Cond.code y bytes maxL ret ∈ ws) (hinit : ∀ a' U, s.WarmedH U.vm → (Cond.initialized y.cls).before a' U = true) :
    vx_Back l R p e below s sargs y len W9 (PreOf R mc ms Pc) (PostOf Qc mc ms free) (vx_Post XC mc ms free) := by
  intro m meth c A g ig mk a X hg hsize hdg hW hn hp
  have h1 : (headSpec ws rm).pre.before a A.U = true := atoms_intro fun w hw => hws w hw _ _ X.warmed
  have h2 : (Cond.code y bytes maxL ret).before a A.U = true := hws _ hcode _ _ X.warmed
  have h3 : (Cond.initialized y.cls).before a A.U = true := hinit _ _ X.warmed
  have h4 : A.cells + (headSpec ws rm).room.cells ≤ R.cells := by rw [show (headSpec ws rm).room.cells = mc from hrc]; exact hp.1
  have h5 : A.slots + (headSpec ws rm).room.slots ≤ R.slots := by rw [show (headSpec ws rm).room.slots = ms from hrs]; exact hp.2.1
  have hPc : Pc a (A.U.calling g mk a) := hblind _ _ _ _ hp.2.2
  obtain ⟨U, Ls, c0, s0⟩ := A
  dsimp only [Pt.U, Pt.locs, Pt.cells, Pt.slots] at h1 h2 h3 h4 h5 X hn hPc ⊢
  obtain ⟨methY, cY, hmY, hcY, -, hlY, -, -, -, -⟩ := Cond.code_spec hn h2
  obtain ⟨kY, hkY, -⟩ := className_of_methodNamed hn
  have hinitY : kY.init = .initialized := Cond.initialized_spec (findClass_of_methodNamed hn) hkY h3
  have h : At U g.method c below := by rw [hg]; exact X.here
  have hlocals9 : W9 + (maxL + 11) + (headSpec ws rm).room.locals ≤ R.locals := hlocals
  have happ : (headSpec ws rm).appliesLoose y e.platform (U.calling g mk a) = true :=
    Spec.appliesLoose_calling (g := g) h hdg hn hkY hinitY
      (X.room_calling (g := g) (R' := (headSpec ws rm).room) hsize hmY hcY hframes (by rw [hlY]; omega) h4 h5) h1
  obtain ⟨mid, hmid⟩ := h.above
  have hfr : (U.setTop g).frames = (.java g :: mid) ++ below := by rw [State.frames_setTop' g h.top, hmid]; rfl
  obtain ⟨o, s₂, hsteps, -, hend, hq⟩ := Steps.callFree hM p X.admits X.cas X.clock (acts := []) hfr happ hPc trivial
  have hq' : vx_Q Qc XC mc ms free a (U.calling g mk a) o s₂ := hq
  rw [State.frames_setTop' g h.top] at hend
  obtain ⟨g₀, hg0⟩ := Option.isSome_iff_exists.mp h.top
  obtain ⟨r, hr⟩ := State.topJava?_eq_some.mp hg0
  have hr' : (({ U with heap := s₂.heap, slotsUsed := s₂.slotsUsed } : State).setVm s₂.vm).frames = .java g₀ :: r := hr
  rcases hq' with ⟨hqc, L, hfe, hL⟩ | ⟨q, rfl, E, ce, L, hx, hce, hcv, hcl, hW₂, hsm, hL⟩
  · obtain ⟨⟨v, rfl⟩, hW₂, e2, q2, q3, q4, q5, q6⟩ := id hfe
    have e3 : s₂ = ({ (U.calling g mk a).setFrames s₂.frames with heap := s₂.heap, slotsUsed := s₂.slotsUsed } : State).setVm s₂.vm := by
      have : s₂ = ({ s₂ with vm := (U.calling g mk a).vm } : State).setVm s₂.vm := rfl
      rw [e2] at this
      exact this
    obtain ⟨c₂, i₂, len₂, hc₂, hd₂, hf₂⟩ := hend
    have hW' : U.WarmedH s₂.vm := hW₂
    have hcc : c₂ = c := by
      have h1 : s₂.code? g.method = U.code? g.method := by
        rw [State.code?_eq, State.code?_eq, hW'.alike.method?]
      exact Option.some.inj (hc₂.symm.trans (h1.trans h.code))
    subst hcc
    have hlen : len₂ = len := by rw [hdg] at hd₂; cases hd₂; rfl
    subst hlen
    have hs₂ : s₂ = (({ U with heap := s₂.heap, slotsUsed := s₂.slotsUsed } : State).setVm s₂.vm).setTop { g with pc := g.pc + len₂, stack := v.toList ++ g.stack } := by
      refine e3.trans ?_
      rw [hf₂, State.calling_eq h.top, State.setFrames_setFrames, State.setTop_of_frames _ hr', hr]
      rfl
    have hsame : U.sameButNew ({ U with heap := s₂.heap, slotsUsed := s₂.slotsUsed } : State) L mc ms := by
      refine ⟨?_, q2, q3, q4, q5, q6⟩
      obtain ⟨t, ht, -⟩ := State.frames_cons hr
      show ({ U with heap := s₂.heap, slotsUsed := s₂.slotsUsed } : State) = { U.setFrames U.frames with heap := s₂.heap, slotsUsed := s₂.slotsUsed }
      rw [State.setFrames_self ht]
    subst hg
    refine Or.inl ⟨v, ⟨(({ U with heap := s₂.heap, slotsUsed := s₂.slotsUsed } : State).setVm s₂.vm), Ls ++ L, c0 + mc, s0 + ms⟩,
      ⟨X.admits, X.cas, X.clock, X.frames, X.room, X.hears, X.method, X.code, (X.here.setHeapUsed s₂.heap s₂.slotsUsed).setVm hW'.alike, X.tail, State.WarmedH.trans X.warmed hW', X.limits, X.bytes, X.same.trans (hsame.setVm s.vm)⟩,
      ⟨g, mk, s₂, L, rfl, rfl, hqc, rfl, hL, rfl, rfl⟩, ?_⟩
    show Steps p.tables e below _ ((({ U with heap := s₂.heap, slotsUsed := s₂.slotsUsed } : State).setVm s₂.vm).setTop { g with pc := g.pc + len₂, stack := v.toList ++ g.stack })
    rw [← hs₂]
    exact hsteps
  · obtain ⟨e2, q2, q3, q4, q5, q6⟩ := id hsm
    have e3 : s₂ = ({ (U.calling g mk a).setFrames s₂.frames with heap := s₂.heap, slotsUsed := s₂.slotsUsed } : State).setVm s₂.vm := by
      have : s₂ = ({ s₂ with vm := (U.calling g mk a).vm } : State).setVm s₂.vm := rfl
      rw [e2] at this
      exact this
    have hf₂ : s₂.frames = .throwing q :: .java g :: U.frames.tail := hend
    have hW' : U.WarmedH s₂.vm := hW₂
    have hs₂ : s₂ = ((({ U with heap := s₂.heap, slotsUsed := s₂.slotsUsed } : State).setVm s₂.vm).setTop g).pushFrame (.throwing q) := by
      refine e3.trans ?_
      rw [hf₂, State.calling_eq h.top, State.setFrames_setFrames, State.pushFrame, State.frames_setTop _ hr', State.setTop_of_frames _ hr', State.setFrames_setFrames, hr]
      rfl
    have hsame : U.sameButNew ({ U with heap := s₂.heap, slotsUsed := s₂.slotsUsed } : State) L mc ms := by
      refine ⟨?_, q2, q3, q4, q5, q6⟩
      obtain ⟨t, ht, -⟩ := State.frames_cons hr
      show ({ U with heap := s₂.heap, slotsUsed := s₂.slotsUsed } : State) = { U.setFrames U.frames with heap := s₂.heap, slotsUsed := s₂.slotsUsed }
      rw [State.setFrames_self ht]
    subst hg
    refine Or.inr ⟨q, ⟨(({ U with heap := s₂.heap, slotsUsed := s₂.slotsUsed } : State).setVm s₂.vm), Ls ++ L, c0 + mc, s0 + ms⟩,
      ⟨X.admits, X.cas, X.clock, X.frames, X.room, X.hears, X.method, X.code, (X.here.setHeapUsed s₂.heap s₂.slotsUsed).setVm hW'.alike, X.tail, State.WarmedH.trans X.warmed hW', X.limits, X.bytes, X.same.trans (hsame.setVm s.vm)⟩,
      ⟨g, mk, s₂, L, E, ce, rfl, rfl, hx, hce, hcv, hcl, rfl, hL, rfl, rfl⟩, ?_⟩
    show Steps p.tables e below _ (((({ U with heap := s₂.heap, slotsUsed := s₂.slotsUsed } : State).setVm s₂.vm).setTop g).pushFrame (.throwing q))
    rw [← hs₂]
    exact hsteps
end Payer
section Calls
variable {p : Program} {l : Launch} {e : Env} {R : Room} {s : State} {m : MethodId} {args : Array Value} {below : List Frame} {meth : Method} {c : Code} {T : State} {locs : List Loc} {cells slots : Nat}
theorem vx_callV (X : Stand p l e R s m args below meth c T locs cells slots) (hexec : p.tables.exec = Jvm.exec) {own C : String} {index : Nat} {y : MethodName} {bytes : ByteArray} {maxL : Nat} {ret : Option FieldType}
    (hown : s.vm.findClass own = some m.cls) (hlink : (Cond.methodLink own index y).before args s = true) (hinst : (Cond.instanceMethod y).before args s = true) (hsel : (Cond.selects C y y).before args s = true)
    (hcode : (Cond.code y bytes maxL ret).before args s = true) (hy : y.cls ≠ "java/lang/invoke/MethodHandle" ∧ y.cls ≠ "java/lang/invoke/VarHandle")
    {W9 : Nat} {Pre : Pt → Array Value → Prop} {Post : Pt → Array Value → Option Value → Pt → Prop} {PostX : Pt → Array Value → Addr → Pt → Prop} (hK : vx_Back l R p e below s args y 3 W9 Pre Post PostX)
    {b : Addr} {cellB : Cell} (hcell : T.heap[b]? = some cellB) (hobj : cellB.vm.isStatics = false) (hcls : s.vm.findClass C = some cellB.cls)
    {g : JFrame} (hg : g.method = m) (hsize : g.locals.size = c.maxLocals) {argsL rest : List Value} (hlen : ∀ sig, parseMethodDescriptor y.desc = some sig → argsL.length = sig.parameters.length)
    (hstack : g.stack = argsL.reverse ++ .ref b :: rest) (hW : 2 * g.monitorRoom + (rest.map fun v => v.category).sum ≤ W9) (hdg : decode c.code g.pc = .ok (.invokevirtual index, 3))
    (hpre : ∀ vm₁, s.WarmedH vm₁ → Pre ⟨T.setVm vm₁, locs, cells, slots⟩ (Value.ref b :: argsL).toArray) :
    (∃ (v : Option Value) (vm₁ : Vm) (B : Pt), s.WarmedH vm₁ ∧ Stand p l e R s m args below meth c B.U B.locs B.cells B.slots ∧ Post ⟨T.setVm vm₁, locs, cells, slots⟩ (Value.ref b :: argsL).toArray v B ∧
      ∀ target, Steps p.tables e below (B.U.setTop { g with pc := g.pc + 3, stack := v.toList ++ rest }) target → Steps p.tables e below (T.setTop g) target) ∨
    (∃ (q : Addr) (vm₁ : Vm) (B : Pt), s.WarmedH vm₁ ∧ Stand p l e R s m args below meth c B.U B.locs B.cells B.slots ∧ PostX ⟨T.setVm vm₁, locs, cells, slots⟩ (Value.ref b :: argsL).toArray q B ∧
      Steps p.tables e below (T.setTop g) ((B.U.setTop { g with stack := rest }).pushFrame (.throwing q))) := by
  obtain ⟨mk, methM, hnamed, hmethM, hstM, habM⟩ := Cond.instanceMethod_spec hinst
  obtain ⟨methM', cM, hmethM', -, -, -, -, -, -, hsigM⟩ := Cond.code_spec hnamed hcode
  cases hmethM.symm.trans hmethM'
  obtain ⟨c2, r2, m2, q1, q2, q3, q4, kP, hkP, hkPi⟩ := Cond.selects_spec hsel
  cases hcls.symm.trans q1
  cases (State.methodFound?_of_named hnamed hy).symm.trans q2
  cases hnamed.symm.trans q3
  have hselP : selectMethod e.platform s.vm cellB.cls mk = .method mk := by rw [Launch.admits_selectMethod X.admits]; exact q4
  obtain ⟨vm₁, X₁, hstep₁⟩ := X.invokevirtual hexec hown hlink hnamed hmethM hstM hkP hkPi hy (a := b) (cell := cellB) hcell
    (fun z h => by rw [h] at hobj; cases hobj) hselP hmethM habM hkP hkPi (g := g) hg (argsL := argsL) (rest := rest) (hlen _ hsigM) hstack hdg
  rcases hK m meth c ⟨T.setVm vm₁, locs, cells, slots⟩ { g with stack := rest } (.invokevirtual index) mk (Value.ref b :: argsL).toArray X₁ hg hsize hdg hW (X₁.named hnamed) (hpre vm₁ X₁.warmed) with ⟨v, B, X', hpost, hsteps⟩ | ⟨q, B, X', hpost, hsteps⟩
  · exact Or.inl ⟨v, vm₁, B, X₁.warmed, X', hpost, fun target h => hstep₁ _ fun acts => by rw [doInvoke_state]; exact hsteps.trans h⟩
  · exact Or.inr ⟨q, vm₁, B, X₁.warmed, X', hpost, hstep₁ _ fun acts => by rw [doInvoke_state]; exact hsteps⟩
theorem vx_callS (X : Stand p l e R s m args below meth c T locs cells slots) (hexec : p.tables.exec = Jvm.exec) {own : String} {index : Nat} {y : MethodName} {bytes : ByteArray} {maxL : Nat} {ret : Option FieldType}
    (hown : s.vm.findClass own = some m.cls) (hlink : (Cond.methodLink own index y).before args s = true) (hstat : (Cond.static y).before args s = true) (hinit : (Cond.initialized y.cls).before args s = true)
    (hcode : (Cond.code y bytes maxL ret).before args s = true) (hy : y.cls ≠ "java/lang/invoke/MethodHandle" ∧ y.cls ≠ "java/lang/invoke/VarHandle")
    {W9 : Nat} {Pre : Pt → Array Value → Prop} {Post : Pt → Array Value → Option Value → Pt → Prop} {PostX : Pt → Array Value → Addr → Pt → Prop} (hK : vx_Back l R p e below s args y 3 W9 Pre Post PostX)
    {g : JFrame} (hg : g.method = m) (hsize : g.locals.size = c.maxLocals) {argsL rest : List Value} (hlen : ∀ sig, parseMethodDescriptor y.desc = some sig → argsL.length = sig.parameters.length)
    (hstack : g.stack = argsL.reverse ++ rest) (hW : 2 * g.monitorRoom + (rest.map fun v => v.category).sum ≤ W9) (hdg : decode c.code g.pc = .ok (.invokestatic index, 3))
    (hpre : ∀ vm₁, s.WarmedH vm₁ → Pre ⟨T.setVm vm₁, locs, cells, slots⟩ argsL.toArray) :
    (∃ (v : Option Value) (vm₁ : Vm) (B : Pt), s.WarmedH vm₁ ∧ Stand p l e R s m args below meth c B.U B.locs B.cells B.slots ∧ Post ⟨T.setVm vm₁, locs, cells, slots⟩ argsL.toArray v B ∧
      ∀ target, Steps p.tables e below (B.U.setTop { g with pc := g.pc + 3, stack := v.toList ++ rest }) target → Steps p.tables e below (T.setTop g) target) ∨
    (∃ (q : Addr) (vm₁ : Vm) (B : Pt), s.WarmedH vm₁ ∧ Stand p l e R s m args below meth c B.U B.locs B.cells B.slots ∧ PostX ⟨T.setVm vm₁, locs, cells, slots⟩ argsL.toArray q B ∧
      Steps p.tables e below (T.setTop g) ((B.U.setTop { g with stack := rest }).pushFrame (.throwing q))) := by
  obtain ⟨mk, hnamed⟩ := Cond.code_named hcode
  obtain ⟨methM, cM, hmethM, -, -, -, -, -, -, hsigM⟩ := Cond.code_spec hnamed hcode
  have hstatic : methM.isStatic = true := Cond.static_spec hnamed hmethM hstat
  obtain ⟨kP, hkP, -⟩ := className_of_methodNamed hnamed
  have hinitP : kP.init = .initialized := Cond.initialized_spec (findClass_of_methodNamed hnamed) hkP hinit
  obtain ⟨vm₁, X₁, hstep₁⟩ := X.invokestatic hexec hown hlink hnamed hmethM hstatic hkP hinitP hy (g := g) hg (argsL := argsL) (rest := rest) (hlen _ hsigM) hstack hdg
  rcases hK m meth c ⟨T.setVm vm₁, locs, cells, slots⟩ { g with stack := rest } (.invokestatic index) mk argsL.toArray X₁ hg hsize hdg hW (X₁.named hnamed) (hpre vm₁ X₁.warmed) with ⟨v, B, X', hpost, hsteps⟩ | ⟨q, B, X', hpost, hsteps⟩
  · exact Or.inl ⟨v, vm₁, B, X₁.warmed, X', hpost, fun target h => hstep₁ _ fun acts => by rw [doInvoke_state]; exact hsteps.trans h⟩
  · exact Or.inr ⟨q, vm₁, B, X₁.warmed, X', hpost, hstep₁ _ fun acts => by rw [doInvoke_state]; exact hsteps⟩
end Calls
theorem vx_cls {s : State} {T : State} {vm₁ : Vm} {E : String} {k : ClassId} (hW : s.WarmedH vm₁) (h : (T.setVm vm₁).vm.findClass E = some k) : s.vm.findClass E = some k := by
  have h1 : vm₁.findClass E = some k := h
  rw [hW.alike.findClass] at h1
  exact h1
/-- the method's frame g, with q thrown over it -/
def vx_W (p : Program) (l : Launch) (e : Env) (R : Room) (s : State) (m : MethodId) (args : Array Value) (below : List Frame) (meth : Method) (c : Code) (H : Heap) (locs : List Loc) (cells slots : Nat) (Q : State → Prop) (g : JFrame) (q : Addr) : Prop :=
  ∀ T : State, T.heap = H → Stand p l e R s m args below meth c T locs cells slots → ∃ t, Steps p.tables e below ((T.setTop g).pushFrame (.throwing q)) t ∧ Q t
def vx_Run (p : Program) (l : Launch) (e : Env) (R : Room) (s : State) (m : MethodId) (args : Array Value) (below : List Frame) (meth : Method) (c : Code) (H : Heap) (locs : List Loc) (cells slots mc ms : Nat) (g : JFrame) (rest : List Value) (Qa : State → Outcome → State → Prop) (XC : String → State → State → Prop) (free : Addr → Prop) : Prop :=
  ∀ T : State, T.heap = H → Stand p l e R s m args below meth c T locs cells slots →
    (∃ (v : Option Value) (st₀ t T' : State) (L : List Loc), st₀.heap = H ∧ Stand p l e R s m args below meth c T' (locs ++ L) (cells + mc) (slots + ms) ∧ (∀ q ∈ L, free q.base) ∧ T'.heap = t.heap ∧ T'.vm = t.vm ∧ Qa st₀ (.returned v) t ∧
      Goes p e below T g T' { g with pc := g.pc + 3, stack := v.toList ++ rest }) ∨
    (∃ (q : Addr) (st₀ t T' : State) (L : List Loc) (E : String) (ce : Cell), st₀.heap = H ∧ Stand p l e R s m args below meth c T' (locs ++ L) (cells + mc) (slots + ms) ∧ (∀ z ∈ L, free z.base) ∧ T'.heap = t.heap ∧ T'.vm = t.vm ∧ XC E st₀ t ∧ t.heap[q]? = some ce ∧ ce.vm = .none ∧ s.vm.findClass E = some ce.cls ∧
      Steps p.tables e below (T.setTop g) ((T'.setTop { g with stack := rest }).pushFrame (.throwing q)))
def vx_X {S : Type} (px : S → Prop) (B : String → S → State → Prop) (A : Nat → Prop) : String → State → State → Prop := fun E st t => ∃ u : S, px u ∧ B E u t ∧ va_F A st t
section Runs
variable {p : Program} {l : Launch} {e : Env} {R : Room} {s : State} {m : MethodId} {args : Array Value} {below : List Frame} {meth : Method} {c : Code} {H : Heap} {locs : List Loc} {cells slots : Nat}
variable {y : MethodName} {bytes cc : ByteArray} {maxL nL mc ms n index : Nat} {ret : Option FieldType} {ws : List Cond} {rm : Room} {Pc : Array Value → State → Prop} {Qc : Array Value → State → Outcome → State → Prop} {XC : String → State → State → Prop} {free : Addr → Prop} {Ts : List Cond} {own C : String} {b : Addr} {As rest : List Value} {g : JFrame}
theorem vx_callBack (cb : CallB R s args own index y bytes maxL ret ws rm mc ms n) (hM : vx_Met l y ws rm Pc Qc XC mc ms free) (hbl : FrameBlind Pc) : vx_Back l R p e below s args y 3 8 (PreOf R mc ms Pc) (PostOf Qc mc ms free) (vx_Post XC mc ms free) := by
  obtain ⟨hrc, hrs, hfr, hlo, hws, hcw, -, hini, -⟩ := cb
  exact vx_back (bytes := bytes) (maxL := maxL) (ret := ret) hM hbl hrc hrs hfr hlo hws hcw (fun a' U hW => word_at hW (Or.inl (by first | rfl | simp [Cond.onTables, Cond.keeps, Cond.steady])) hini)
theorem vx_runV (S : CallFix p m c cc nL s args Ts own) (hM : vx_Met l y ws rm Pc Qc XC mc ms free) (cw : CallW R s args own C index y bytes maxL ret ws rm mc ms n) (hp : PreV s H C b Pc As)
    (hg : g.method = m) (hn : As.length = n) (hsize : g.locals.size = nL) (hstack : g.stack = As.reverse ++ .ref b :: rest) (hW : 2 * g.monitorRoom + (rest.map fun v => v.category).sum ≤ 8) (hdg : decode cc g.pc = .ok (.invokevirtual index, 3)) (hf : cells + mc ≤ R.cells ∧ slots + ms ≤ R.slots) :
    vx_Run p l e R s m args below meth c H locs cells slots mc ms g rest (Qc (Value.ref b :: As).toArray) XC free := by
  have hK : vx_Back l R p e below s args y 3 8 (PreOf R mc ms Pc) (PostOf Qc mc ms free) (vx_Post XC mc ms free) := vx_callBack cw.1 hM hp.1
  obtain ⟨⟨-, -, -, -, -, -, hcode, -, hy, hlen, hl⟩, hin, hse⟩ := cw
  obtain ⟨hx, hb, hml, ho, -⟩ := S
  obtain ⟨-, ⟨cellB, hcB, hoB, hclB⟩, hPc⟩ := hp
  intro T hT X
  rcases vx_callV X hx (C := C) (bytes := bytes) (maxL := maxL) (ret := ret) ho hl hin hse hcode hy hK (by rw [hT]; exact hcB) hoB hclB hg (hsize.trans hml.symm) (argsL := As) (rest := rest) (fun sig h => hn.trans (hlen sig h)) hstack hW (by rw [hb]; exact hdg)
    (fun vm₁ hW₁ => ⟨hf.1, hf.2, hPc (T.setVm vm₁) hT hW₁⟩) with ⟨v, vm₁, ⟨U', l2, c2, s2⟩, hW₁, X', ⟨g', mk, t, L, e1, e2, hq, h1, hL, h2, h3⟩, st⟩ | ⟨q, vm₁, ⟨U', l2, c2, s2⟩, hW₁, X', ⟨g', mk, t, L, E, ce, e1, e2, hq, hce, hcv, hcl, h1, hL, h2, h3⟩, st⟩
  · dsimp only [Pt.U, Pt.locs, Pt.cells, Pt.slots] at X' e1 e2 h1 h2 h3 st
    subst h1; subst h2; subst h3
    exact Or.inl ⟨v, (T.setVm vm₁).calling g' mk (Value.ref b :: As).toArray, t, U', L, hT, X', hL, e1, e2, hq, st⟩
  · dsimp only [Pt.U, Pt.locs, Pt.cells, Pt.slots] at X' e1 e2 h1 h2 h3 st hcl
    subst h1; subst h2; subst h3
    exact Or.inr ⟨q, (T.setVm vm₁).calling g' mk (Value.ref b :: As).toArray, t, U', L, E, ce, hT, X', hL, e1, e2, hq, hce, hcv, vx_cls hW₁ hcl, st⟩
theorem vx_runS (S : CallFix p m c cc nL s args Ts own) (hM : vx_Met l y ws rm Pc Qc XC mc ms free) (cw : CallB R s args own index y bytes maxL ret ws rm mc ms n ∧ (Cond.static y).before args s = true) (hp : PreS s H Pc As)
    (hg : g.method = m) (hn : As.length = n) (hsize : g.locals.size = nL) (hstack : g.stack = As.reverse ++ rest) (hW : 2 * g.monitorRoom + (rest.map fun v => v.category).sum ≤ 8) (hdg : decode cc g.pc = .ok (.invokestatic index, 3)) (hf : cells + mc ≤ R.cells ∧ slots + ms ≤ R.slots) :
    vx_Run p l e R s m args below meth c H locs cells slots mc ms g rest (Qc As.toArray) XC free := by
  have hK : vx_Back l R p e below s args y 3 8 (PreOf R mc ms Pc) (PostOf Qc mc ms free) (vx_Post XC mc ms free) := vx_callBack cw.1 hM hp.1
  obtain ⟨⟨-, -, -, -, -, -, hcode, hini, hy, hlen, hl⟩, hstt⟩ := cw
  obtain ⟨hx, hb, hml, ho, -⟩ := S
  intro T hT X
  rcases vx_callS X hx (bytes := bytes) (maxL := maxL) (ret := ret) ho hl hstt hini hcode hy hK hg (hsize.trans hml.symm) (argsL := As) (rest := rest) (fun sig h => hn.trans (hlen sig h)) hstack hW (by rw [hb]; exact hdg)
    (fun vm₁ hW₁ => ⟨hf.1, hf.2, hp.2 (T.setVm vm₁) hT hW₁⟩) with ⟨v, vm₁, ⟨U', l2, c2, s2⟩, hW₁, X', ⟨g', mk, t, L, e1, e2, hq, h1, hL, h2, h3⟩, st⟩ | ⟨q, vm₁, ⟨U', l2, c2, s2⟩, hW₁, X', ⟨g', mk, t, L, E, ce, e1, e2, hq, hce, hcv, hcl, h1, hL, h2, h3⟩, st⟩
  · dsimp only [Pt.U, Pt.locs, Pt.cells, Pt.slots] at X' e1 e2 h1 h2 h3 st
    subst h1; subst h2; subst h3
    exact Or.inl ⟨v, (T.setVm vm₁).calling g' mk As.toArray, t, U', L, hT, X', hL, e1, e2, hq, st⟩
  · dsimp only [Pt.U, Pt.locs, Pt.cells, Pt.slots] at X' e1 e2 h1 h2 h3 st hcl
    subst h1; subst h2; subst h3
    exact Or.inr ⟨q, (T.setVm vm₁).calling g' mk As.toArray, t, U', L, E, ce, hT, X', hL, e1, e2, hq, hce, hcv, vx_cls hW₁ hcl, st⟩
end Runs
section Rows
variable {p : Program} {l : Launch} {e : Env} {R : Room} {s : State} {m : MethodId} {args : Array Value} {below : List Frame} {meth : Method} {c : Code} {H : Heap} {locs : List Loc} {cells slots : Nat} {Q : State → Prop}
variable {mc ms : Nat} {free : Addr → Prop} {A0 A1 : Nat → Prop} {H0 : Heap} {a : Array Value} {pc : Nat} {ls : Array Slot} {st0 rest : List Value}
theorem vx_keep {st₀ t T' : State} {L : List Loc} (h0 : st₀.heap = H) (e1 : T'.heap = t.heap) (hS : va_S A0 H0 H locs) (hA : ∀ q, q < H.size → A1 q → A0 q) (hf : ∀ q, free q → A0 q) (hL : ∀ q ∈ L, free q.base) (hF : va_F A1 st₀ t) :
    H.size ≤ T'.heap.size ∧ (∀ q : Nat, q < H.size → ¬ A1 q → T'.heap[q]? = H[q]?) ∧ va_S A0 H0 T'.heap (locs ++ L) := by
  obtain ⟨hz, hk⟩ := hF
  rw [h0] at hz hk
  exact ⟨by rw [e1]; exact hz, fun q h1 h2 => by rw [e1]; exact hk q h1 h2,
    ⟨Nat.le_trans hS.1 (by rw [e1]; exact hz), fun q h1 h2 => by rw [e1, hk q (Nat.lt_of_lt_of_le h1 hS.1) (fun z => h2 (hA q (Nat.lt_of_lt_of_le h1 hS.1) z))]; exact hS.2.1 q h1 h2, fun q hq => by
      rcases List.mem_append.mp hq with h | h
      · exact hS.2.2 q h
      · exact hf _ (hL q h)⟩⟩
theorem vx_calli {S SX : Type} {post : Int32 → S → Prop} {px : SX → Prop} {B : S → State → Prop} {BX : String → SX → State → Prop} {AX : Nat → Prop} (hr : vx_Run p l e R s m args below meth c H locs cells slots mc ms (F0 m pc ls st0) rest (va_Qi post B A1 a) (vx_X px BX AX) free) (hS : va_S A0 H0 H locs) (hA : ∀ q, q < H.size → A1 q → A0 q) (hf : ∀ q, free q → A0 q) (hAX : ∀ q, q < H.size → AX q → A0 q)
    (kx : ∀ (E : String) (ce : Cell) (q9 : Addr) (u : SX) (t : State) (H1 : Heap) (locs1 : List Loc), t.heap = H1 → s.vm.Alike t.vm → px u → BX E u t → H.size ≤ H1.size → (∀ q : Nat, q < H.size → ¬ AX q → H1[q]? = H[q]?) → va_S A0 H0 H1 locs1 → H1[q9]? = some ce → ce.vm = .none → s.vm.findClass E = some ce.cls → vx_W p l e R s m args below meth c H1 locs1 (cells + mc) (slots + ms) Q (F0 m pc ls rest) q9)
    (kk : ∀ (r : Int32) (u : S) (t : State) (H1 : Heap) (locs1 : List Loc), t.heap = H1 → s.vm.Alike t.vm → post r u → B u t → H.size ≤ H1.size → (∀ q : Nat, q < H.size → ¬ A1 q → H1[q]? = H[q]?) → va_S A0 H0 H1 locs1 → W p l e R s m args below meth c H1 locs1 (cells + mc) (slots + ms) Q (F0 m (pc + 3) ls (.int r :: rest))) : W p l e R s m args below meth c H locs cells slots Q (F0 m pc ls st0) := by
  intro T hT X
  rcases hr T hT X with ⟨v, st₀, t, T', L, h0, X', hL, e1, e2, ⟨⟨r, u, hv, hp, hb⟩, hF⟩, st⟩ | ⟨q, st₀, t, T', L, E, ce, h0, X', hL, e1, e2, ⟨u, hp, hb, hF⟩, hce, hcv, hcl, st⟩
  · cases hv
    obtain ⟨k1, k2, k3⟩ := vx_keep h0 e1 hS hA hf hL hF
    obtain ⟨t2, a1, b1⟩ := kk r u t T'.heap (locs ++ L) e1.symm (by rw [← e2]; exact X'.warmed.alike) hp hb k1 k2 k3 T' rfl X'
    exact ⟨t2, st t2 a1, b1⟩
  · obtain ⟨k1, k2, k3⟩ := vx_keep h0 e1 hS hAX hf hL hF
    obtain ⟨t2, a1, b1⟩ := kx E ce q u t T'.heap (locs ++ L) e1.symm (by rw [← e2]; exact X'.warmed.alike) hp hb k1 k2 k3 (by rw [e1]; exact hce) hcv hcl T' rfl X'
    exact ⟨t2, st.trans a1, b1⟩
theorem vx_calll {S SX : Type} {post : Int64 → S → Prop} {px : SX → Prop} {B : S → State → Prop} {BX : String → SX → State → Prop} {AX : Nat → Prop} (hr : vx_Run p l e R s m args below meth c H locs cells slots mc ms (F0 m pc ls st0) rest (va_Ql post B A1 a) (vx_X px BX AX) free) (hS : va_S A0 H0 H locs) (hA : ∀ q, q < H.size → A1 q → A0 q) (hf : ∀ q, free q → A0 q) (hAX : ∀ q, q < H.size → AX q → A0 q)
    (kx : ∀ (E : String) (ce : Cell) (q9 : Addr) (u : SX) (t : State) (H1 : Heap) (locs1 : List Loc), t.heap = H1 → s.vm.Alike t.vm → px u → BX E u t → H.size ≤ H1.size → (∀ q : Nat, q < H.size → ¬ AX q → H1[q]? = H[q]?) → va_S A0 H0 H1 locs1 → H1[q9]? = some ce → ce.vm = .none → s.vm.findClass E = some ce.cls → vx_W p l e R s m args below meth c H1 locs1 (cells + mc) (slots + ms) Q (F0 m pc ls rest) q9)
    (kk : ∀ (r : Int64) (u : S) (t : State) (H1 : Heap) (locs1 : List Loc), t.heap = H1 → s.vm.Alike t.vm → post r u → B u t → H.size ≤ H1.size → (∀ q : Nat, q < H.size → ¬ A1 q → H1[q]? = H[q]?) → va_S A0 H0 H1 locs1 → W p l e R s m args below meth c H1 locs1 (cells + mc) (slots + ms) Q (F0 m (pc + 3) ls (.long r :: rest))) : W p l e R s m args below meth c H locs cells slots Q (F0 m pc ls st0) := by
  intro T hT X
  rcases hr T hT X with ⟨v, st₀, t, T', L, h0, X', hL, e1, e2, ⟨⟨r, u, hv, hp, hb⟩, hF⟩, st⟩ | ⟨q, st₀, t, T', L, E, ce, h0, X', hL, e1, e2, ⟨u, hp, hb, hF⟩, hce, hcv, hcl, st⟩
  · cases hv
    obtain ⟨k1, k2, k3⟩ := vx_keep h0 e1 hS hA hf hL hF
    obtain ⟨t2, a1, b1⟩ := kk r u t T'.heap (locs ++ L) e1.symm (by rw [← e2]; exact X'.warmed.alike) hp hb k1 k2 k3 T' rfl X'
    exact ⟨t2, st t2 a1, b1⟩
  · obtain ⟨k1, k2, k3⟩ := vx_keep h0 e1 hS hAX hf hL hF
    obtain ⟨t2, a1, b1⟩ := kx E ce q u t T'.heap (locs ++ L) e1.symm (by rw [← e2]; exact X'.warmed.alike) hp hb k1 k2 k3 (by rw [e1]; exact hce) hcv hcl T' rfl X'
    exact ⟨t2, st.trans a1, b1⟩
theorem vx_callf {S SX : Type} {post : UInt32 → S → Prop} {px : SX → Prop} {B : S → State → Prop} {BX : String → SX → State → Prop} {AX : Nat → Prop} (hr : vx_Run p l e R s m args below meth c H locs cells slots mc ms (F0 m pc ls st0) rest (va_Qf post B A1 a) (vx_X px BX AX) free) (hS : va_S A0 H0 H locs) (hA : ∀ q, q < H.size → A1 q → A0 q) (hf : ∀ q, free q → A0 q) (hAX : ∀ q, q < H.size → AX q → A0 q)
    (kx : ∀ (E : String) (ce : Cell) (q9 : Addr) (u : SX) (t : State) (H1 : Heap) (locs1 : List Loc), t.heap = H1 → s.vm.Alike t.vm → px u → BX E u t → H.size ≤ H1.size → (∀ q : Nat, q < H.size → ¬ AX q → H1[q]? = H[q]?) → va_S A0 H0 H1 locs1 → H1[q9]? = some ce → ce.vm = .none → s.vm.findClass E = some ce.cls → vx_W p l e R s m args below meth c H1 locs1 (cells + mc) (slots + ms) Q (F0 m pc ls rest) q9)
    (kk : ∀ (r : UInt32) (u : S) (t : State) (H1 : Heap) (locs1 : List Loc), t.heap = H1 → s.vm.Alike t.vm → post r u → B u t → H.size ≤ H1.size → (∀ q : Nat, q < H.size → ¬ A1 q → H1[q]? = H[q]?) → va_S A0 H0 H1 locs1 → W p l e R s m args below meth c H1 locs1 (cells + mc) (slots + ms) Q (F0 m (pc + 3) ls (.float r :: rest))) : W p l e R s m args below meth c H locs cells slots Q (F0 m pc ls st0) := by
  intro T hT X
  rcases hr T hT X with ⟨v, st₀, t, T', L, h0, X', hL, e1, e2, ⟨⟨r, u, hv, hp, hb⟩, hF⟩, st⟩ | ⟨q, st₀, t, T', L, E, ce, h0, X', hL, e1, e2, ⟨u, hp, hb, hF⟩, hce, hcv, hcl, st⟩
  · cases hv
    obtain ⟨k1, k2, k3⟩ := vx_keep h0 e1 hS hA hf hL hF
    obtain ⟨t2, a1, b1⟩ := kk r u t T'.heap (locs ++ L) e1.symm (by rw [← e2]; exact X'.warmed.alike) hp hb k1 k2 k3 T' rfl X'
    exact ⟨t2, st t2 a1, b1⟩
  · obtain ⟨k1, k2, k3⟩ := vx_keep h0 e1 hS hAX hf hL hF
    obtain ⟨t2, a1, b1⟩ := kx E ce q u t T'.heap (locs ++ L) e1.symm (by rw [← e2]; exact X'.warmed.alike) hp hb k1 k2 k3 (by rw [e1]; exact hce) hcv hcl T' rfl X'
    exact ⟨t2, st.trans a1, b1⟩
theorem vx_calld {S SX : Type} {post : UInt64 → S → Prop} {px : SX → Prop} {B : S → State → Prop} {BX : String → SX → State → Prop} {AX : Nat → Prop} (hr : vx_Run p l e R s m args below meth c H locs cells slots mc ms (F0 m pc ls st0) rest (va_Qd post B A1 a) (vx_X px BX AX) free) (hS : va_S A0 H0 H locs) (hA : ∀ q, q < H.size → A1 q → A0 q) (hf : ∀ q, free q → A0 q) (hAX : ∀ q, q < H.size → AX q → A0 q)
    (kx : ∀ (E : String) (ce : Cell) (q9 : Addr) (u : SX) (t : State) (H1 : Heap) (locs1 : List Loc), t.heap = H1 → s.vm.Alike t.vm → px u → BX E u t → H.size ≤ H1.size → (∀ q : Nat, q < H.size → ¬ AX q → H1[q]? = H[q]?) → va_S A0 H0 H1 locs1 → H1[q9]? = some ce → ce.vm = .none → s.vm.findClass E = some ce.cls → vx_W p l e R s m args below meth c H1 locs1 (cells + mc) (slots + ms) Q (F0 m pc ls rest) q9)
    (kk : ∀ (r : UInt64) (u : S) (t : State) (H1 : Heap) (locs1 : List Loc), t.heap = H1 → s.vm.Alike t.vm → post r u → B u t → H.size ≤ H1.size → (∀ q : Nat, q < H.size → ¬ A1 q → H1[q]? = H[q]?) → va_S A0 H0 H1 locs1 → W p l e R s m args below meth c H1 locs1 (cells + mc) (slots + ms) Q (F0 m (pc + 3) ls (.double r :: rest))) : W p l e R s m args below meth c H locs cells slots Q (F0 m pc ls st0) := by
  intro T hT X
  rcases hr T hT X with ⟨v, st₀, t, T', L, h0, X', hL, e1, e2, ⟨⟨r, u, hv, hp, hb⟩, hF⟩, st⟩ | ⟨q, st₀, t, T', L, E, ce, h0, X', hL, e1, e2, ⟨u, hp, hb, hF⟩, hce, hcv, hcl, st⟩
  · cases hv
    obtain ⟨k1, k2, k3⟩ := vx_keep h0 e1 hS hA hf hL hF
    obtain ⟨t2, a1, b1⟩ := kk r u t T'.heap (locs ++ L) e1.symm (by rw [← e2]; exact X'.warmed.alike) hp hb k1 k2 k3 T' rfl X'
    exact ⟨t2, st t2 a1, b1⟩
  · obtain ⟨k1, k2, k3⟩ := vx_keep h0 e1 hS hAX hf hL hF
    obtain ⟨t2, a1, b1⟩ := kx E ce q u t T'.heap (locs ++ L) e1.symm (by rw [← e2]; exact X'.warmed.alike) hp hb k1 k2 k3 (by rw [e1]; exact hce) hcv hcl T' rfl X'
    exact ⟨t2, st.trans a1, b1⟩
theorem vx_callv {S SX : Type} {post : S → Prop} {px : SX → Prop} {B : S → State → Prop} {BX : String → SX → State → Prop} {AX : Nat → Prop} (hr : vx_Run p l e R s m args below meth c H locs cells slots mc ms (F0 m pc ls st0) rest (va_Qv post B A1 a) (vx_X px BX AX) free) (hS : va_S A0 H0 H locs) (hA : ∀ q, q < H.size → A1 q → A0 q) (hf : ∀ q, free q → A0 q) (hAX : ∀ q, q < H.size → AX q → A0 q)
    (kx : ∀ (E : String) (ce : Cell) (q9 : Addr) (u : SX) (t : State) (H1 : Heap) (locs1 : List Loc), t.heap = H1 → s.vm.Alike t.vm → px u → BX E u t → H.size ≤ H1.size → (∀ q : Nat, q < H.size → ¬ AX q → H1[q]? = H[q]?) → va_S A0 H0 H1 locs1 → H1[q9]? = some ce → ce.vm = .none → s.vm.findClass E = some ce.cls → vx_W p l e R s m args below meth c H1 locs1 (cells + mc) (slots + ms) Q (F0 m pc ls rest) q9)
    (kk : ∀ (u : S) (t : State) (H1 : Heap) (locs1 : List Loc), t.heap = H1 → s.vm.Alike t.vm → post u → B u t → H.size ≤ H1.size → (∀ q : Nat, q < H.size → ¬ A1 q → H1[q]? = H[q]?) → va_S A0 H0 H1 locs1 → W p l e R s m args below meth c H1 locs1 (cells + mc) (slots + ms) Q (F0 m (pc + 3) ls (rest))) : W p l e R s m args below meth c H locs cells slots Q (F0 m pc ls st0) := by
  intro T hT X
  rcases hr T hT X with ⟨v, st₀, t, T', L, h0, X', hL, e1, e2, ⟨⟨u, hv, hp, hb⟩, hF⟩, st⟩ | ⟨q, st₀, t, T', L, E, ce, h0, X', hL, e1, e2, ⟨u, hp, hb, hF⟩, hce, hcv, hcl, st⟩
  · cases hv
    obtain ⟨k1, k2, k3⟩ := vx_keep h0 e1 hS hA hf hL hF
    obtain ⟨t2, a1, b1⟩ := kk u t T'.heap (locs ++ L) e1.symm (by rw [← e2]; exact X'.warmed.alike) hp hb k1 k2 k3 T' rfl X'
    exact ⟨t2, st t2 a1, b1⟩
  · obtain ⟨k1, k2, k3⟩ := vx_keep h0 e1 hS hAX hf hL hF
    obtain ⟨t2, a1, b1⟩ := kx E ce q u t T'.heap (locs ++ L) e1.symm (by rw [← e2]; exact X'.warmed.alike) hp hb k1 k2 k3 (by rw [e1]; exact hce) hcv hcl T' rfl X'
    exact ⟨t2, st.trans a1, b1⟩
/-- caught by the row x of this method's table; the rows ahead don't take it -/
theorem vx_catch {own name : String} {E : String} {ce : Cell} {q : Addr} (hown : s.vm.findClass own = some m.cls) (pre : List ExceptionTableEntry) (x : ExceptionTableEntry) (suf : List ExceptionTableEntry) (hsplit : c.exceptionTable.toList = pre ++ x :: suf)
    (hpass : ∀ z ∈ pre, covers z pc = false ∨ (z.catchType ≠ 0 ∧ ∃ nm : String, (Cond.classLink own z.catchType nm).before args s = true ∧ va_Nc E nm s)) (hx : covers x pc = true) (h0 : x.catchType ≠ 0)
    (hlink : (Cond.classLink own x.catchType name).before args s = true) (hcast : (Cond.castable E name).before args s = true) (hcell : H[q]? = some ce) (hv : ce.vm = .none) (hcl : s.vm.findClass E = some ce.cls)
    (kk : W p l e R s m args below meth c H locs cells slots Q (F0 m x.handlerPc ls [.ref q])) : vx_W p l e R s m args below meth c H locs cells slots Q (F0 m pc ls rest) q := by
  intro T hT X
  have hpl : e.platform.magicAccessors = ({} : Platform).magicAccessors := by rw [X.admits.platform]
  obtain ⟨c3, c4, hc3, hc4, hasg⟩ := Cond.castable_spec hcast
  cases Option.some.inj (hc3.symm.trans hcl)
  obtain ⟨c5, hc5, hcl5⟩ := Cond.classLink_spec hown hlink e.platform hpl
  cases Option.some.inj (hc4.symm.trans hc5)
  obtain ⟨vm', X', st⟩ := X.thenCaughtThrough q (g := F0 m pc ls rest) rfl (Steps.refl _) (by rw [hT]; exact hcell) (by rw [hv]; rfl) (by obtain ⟨k9, h9, -⟩ := Vm.findClass_spec hcl; exact ⟨k9, h9⟩) pre x suf hsplit
    (fun z hz => by
      rcases hpass z hz with h | ⟨hz0, nm, hl1, hn1⟩
      · exact Or.inl h
      · obtain ⟨c6, hc6, hcl6⟩ := Cond.classLink_spec hown hl1 e.platform hpl
        obtain ⟨a8, b8, h1, h2, h3⟩ := hn1
        cases Option.some.inj (h1.symm.trans hcl)
        cases Option.some.inj (h2.symm.trans hc6)
        exact Or.inr ⟨hz0, _, hcl6, h3⟩) hx (Or.inr ⟨h0, c4, hcl5, hasg⟩)
  obtain ⟨t, a1, b1⟩ := kk (T.setVm vm') hT X'
  exact ⟨t, st.trans a1, b1⟩
end Rows
section Ends
variable {p : Program} {l : Launch} {e : Env} {R : Room} {s : State} {m : MethodId} {args : Array Value} {below : List Frame} {meth : Method} {c : Code} {H : Heap} {locs : List Loc} {cells slots : Nat} {Q : State → Prop}
variable {mc ms : Nat} {free : Addr → Prop} {A0 A1 : Nat → Prop} {H0 : Heap} {a : Array Value} {ls : Array Slot} {st0 rest : List Value}
variable {Qc : Array Value → State → Outcome → State → Prop} {XC : String → State → State → Prop}
/-- what a body that may throw owes at its end -/
def vx_MQ (below : List Frame) (Qc : Array Value → State → Outcome → State → Prop) (XC : String → State → State → Prop) (a : Array Value) (s : State) (mc ms : Nat) (free : Addr → Prop) : State → Prop := fun t =>
  ∃ o, t.status = .running ∧ Ended t below o ∧ vx_Q Qc XC mc ms free a s o t
theorem vx_ret {g : JFrame} {mc ms : Nat} (k : W p l e R s m args below meth c H locs cells slots (MQ below Qc args s mc ms free) g) : W p l e R s m args below meth c H locs cells slots (vx_MQ below Qc XC args s mc ms free) g := by
  intro T hT X
  obtain ⟨t, a1, o, b1, b2, b3, b4⟩ := k T hT X
  exact ⟨t, a1, o, b1, b2, Or.inl ⟨b3, b4⟩⟩
/-- not caught here: it goes on to the caller -/
theorem vx_widen {g : JFrame} {q : Addr} {k n : Nat} (h1 : cells ≤ k) (h2 : slots ≤ n) (kk : vx_W p l e R s m args below meth c H locs k n Q g q) : vx_W p l e R s m args below meth c H locs cells slots Q g q := fun T hT X => kk T hT (stand_widen X h1 h2)
theorem vx_out {pc : Nat} {E : String} {ce : Cell} {q : Addr} {mc ms : Nat} (hout : ∀ x ∈ c.exceptionTable.toList, covers x pc = false) (hlocks : meth.locks = false) (hcell : H[q]? = some ce) (hv : ce.vm = .none) (hcl : s.vm.findClass E = some ce.cls)
    (hx : ∀ t : State, t.heap = H → s.vm.Alike t.vm → XC E s t) (hf : ∀ z ∈ locs, free z.base) (hc : cells ≤ mc) (hs : slots ≤ ms) :
    vx_W p l e R s m args below meth c H locs cells slots (vx_MQ below Qc XC args s mc ms free) (F0 m pc ls rest) q := by
  intro T hT X
  obtain ⟨st1, hrun, hend, hW, hsm⟩ := X.leaveThrown q (g := F0 m pc ls rest) rfl rfl rfl hout hlocks
  have hcell9 : (T.setFrames (.throwing q :: below)).heap[q]? = some ce := by
    show T.heap[q]? = some ce
    rw [hT]; exact hcell
  exact ⟨_, st1, .threw q, hrun, hend, Or.inr ⟨q, rfl, E, ce, locs, hx _ hT hW.alike, hcell9, hv, hcl, hW, hsm.mono hc hs, hf⟩⟩
theorem vx_frame {U : State} {k n : Nat} (h : s.sameButNew ({ U with vm := s.vm } : State) locs k n) : s.heap.size ≤ U.heap.size ∧ ∀ q : Nat, q < s.heap.size → (∀ z ∈ locs, z.base ≠ q) → U.heap[q]? = s.heap[q]? := by
  obtain ⟨-, h2, -, -, -, h6⟩ := h
  refine ⟨h2, fun q hq hz => ?_⟩
  obtain ⟨c9, e1, e2, e3, e4⟩ := h6 q _ (Array.getElem?_eq_getElem hq)
  have hs : c9.slots = (s.heap[q]).slots := Array.ext_getElem? fun i => e4 i fun hm => hz _ hm rfl
  have h9 : c9 = s.heap[q] := by
    rw [hs] at e2
    exact e2
  have e5 : U.heap[q]? = some c9 := e1
  rw [e5, h9, Array.getElem?_eq_getElem hq]
/-- the words of a throw but the four that speak of the heap -/
def vx_no (w : Cond) : Bool := decide (w ≠ .isRef (.static Bundle.tN "UNASSIGNED_STACK" Bundle.steD)) && decide (w ≠ .isRef (.static Bundle.tN "SUPPRESSED_SENTINEL" Bundle.listD)) && decide (w ≠ .laysStatic Bundle.tN "UNASSIGNED_STACK" Bundle.steD) && decide (w ≠ .laysStatic Bundle.tN "SUPPRESSED_SENTINEL" Bundle.listD)
def vx_at0 (own : String) (ic : Nat) (X : String) (names : List String) : List Cond := (Bundle.ownAtoms0 own ic X names).filter vx_no
def vx_atS (own : String) (ic : Nat) (X : String) (names : List String) : List Cond := (Bundle.ownAtoms own ic X names).filter vx_no
/-- a word that the tables alone decide, or a good one -/
def vx_ot (w : Cond) : Bool := w.onTables || goodWord w
theorem vx_ot_at {args a' : Array Value} {s U : State} {w : Cond} (hW : s.WarmedH U.vm) (hvm : s.vm = U.vm) (hg : vx_ot w = true) (h : w.before args s = true) : w.before a' U = true := by
  simp only [vx_ot, Bool.or_eq_true] at hg
  rcases hg with hg | hg
  · exact va_tabs hg hvm h
  · exact word_at hW (good_of_word hg) h
/-- a list's words: the good ones out of the method's own list, the others by premises of their own -/
theorem vx_hat {args : Array Value} {s : State} {L B : List Cond} (h1 : ∀ w ∈ L.filter goodWord, w.before args s = true) (h2 : ∀ w ∈ L.filter (fun w => !goodWord w), w ∈ B) (h3 : ∀ w ∈ B, w.before args s = true) : ∀ w ∈ L, w.before args s = true := by
  intro w hw
  by_cases g : goodWord w = true
  · exact h1 w (List.mem_filter.mpr ⟨hw, g⟩)
  · refine h3 w (h2 w (List.mem_filter.mpr ⟨hw, ?_⟩))
    show (!goodWord w) = true
    cases hgw : goodWord w
    · rfl
    · exact absurd hgw g
theorem vx_c {args : Array Value} {s : State} {w : Cond} {B : List Cond} (h : w.before args s = true) (t : ∀ w ∈ B, w.before args s = true) : ∀ w' ∈ w :: B, w'.before args s = true := fun w' h' => (List.mem_cons.mp h').elim (fun e => by rw [e]; exact h) (t w')
theorem vx_n {args : Array Value} {s : State} : ∀ w ∈ ([] : List Cond), w.before args s = true := fun _ h => nomatch h
theorem vx_own {args : Array Value} {s : State} {L : List Cond} (h1 : ∀ w ∈ L.filter vx_no, w.before args s = true)
    (hU : (Cond.isRef (.static Bundle.tN "UNASSIGNED_STACK" Bundle.steD)).before args s = true) (hN : (Cond.isRef (.static Bundle.tN "SUPPRESSED_SENTINEL" Bundle.listD)).before args s = true)
    (lU : (Cond.laysStatic Bundle.tN "UNASSIGNED_STACK" Bundle.steD).before args s = true) (lN : (Cond.laysStatic Bundle.tN "SUPPRESSED_SENTINEL" Bundle.listD).before args s = true) : ∀ w ∈ L, w.before args s = true := by
  intro w hw
  by_cases e1 : w = .isRef (.static Bundle.tN "UNASSIGNED_STACK" Bundle.steD)
  · rw [e1]; exact hU
  · by_cases e2 : w = .isRef (.static Bundle.tN "SUPPRESSED_SENTINEL" Bundle.listD)
    · rw [e2]; exact hN
    · by_cases e3 : w = .laysStatic Bundle.tN "UNASSIGNED_STACK" Bundle.steD
      · rw [e3]; exact lU
      · by_cases e4 : w = .laysStatic Bundle.tN "SUPPRESSED_SENTINEL" Bundle.listD
        · rw [e4]; exact lN
        · exact h1 w (List.mem_filter.mpr ⟨hw, by unfold vx_no; rw [decide_eq_true e1, decide_eq_true e2, decide_eq_true e3, decide_eq_true e4]; rfl⟩)
/-- where a static field lies, its class's statics cell in H -/
def vx_L (C n d : String) (A : Nat → Prop) (U : State) (H : Heap) : Prop := ∃ (c : ClassId) (k : Class) (i : Nat) (f : Field) (a : Nat) (cell : Cell), U.vm.findClass C = some c ∧ U.fieldFound? C n d = some (c, k, i, f) ∧ f.isStatic = true ∧ k.statics = some a ∧ H[a]? = some cell ∧ cell.vm.isStatics = true ∧ cell.cls = c ∧ f.slot < cell.slots.size ∧ k.staticTypes[f.slot]? = some f.type ∧ ¬ A a
theorem vx_L.moved {C n d : String} {A : Nat → Prop} {u U : State} {H : Heap} (hvm : u.vm.Alike U.vm) (h : vx_L C n d A u H) : vx_L C n d A U H := by
  obtain ⟨c, k, i, f, a, cell, h1, h2, h3, h4, h5, h6, h7, h8, h9, h10⟩ := h
  obtain ⟨k', hi', he⟩ := State.fieldFound?_setVm hvm h2
  exact ⟨c, k', i, f, a, cell, by rw [hvm.findClass]; exact h1, hi', h3, by rw [he]; exact h4, h5, h6, h7, h8, by rw [he]; exact h9, h10⟩
theorem vx_L.kept {C n d : String} {A : Nat → Prop} {U : State} {H H1 : Heap} (h : vx_L C n d A U H) (hq : ∀ a : Nat, a < H.size → ¬ A a → H1[a]? = H[a]?) : vx_L C n d A U H1 := by
  obtain ⟨c, k, i, f, a, cell, h1, h2, h3, h4, h5, h6, h7, h8, h9, h10⟩ := h
  exact ⟨c, k, i, f, a, cell, h1, h2, h3, h4, by rw [hq a (Array.getElem?_eq_some_iff.mp h5).1 h10]; exact h5, h6, h7, h8, h9, h10⟩
theorem vx_L.narrow {C n d : String} {A B : Nat → Prop} {U : State} {H : Heap} (h : vx_L C n d A U H) (hAB : ∀ q, B q → A q) : vx_L C n d B U H := by
  obtain ⟨c, k, i, f, a, cell, h1, h2, h3, h4, h5, h6, h7, h8, h9, h10⟩ := h
  exact ⟨c, k, i, f, a, cell, h1, h2, h3, h4, h5, h6, h7, h8, h9, fun z => h10 (hAB _ z)⟩
theorem vx_L.word {C n d : String} {A : Nat → Prop} {s : State} {args : Array Value} (h : vx_L C n d A s s.heap) : (Cond.laysStatic C n d).before args s = true := by
  obtain ⟨c, k, i, f, a, cell, h1, h2, h3, h4, h5, h6, h7, h8, h9, -⟩ := h
  show (Cond.laysStatic C n d).holds args s none s [] = true
  exact Cond.laysStatic_of h1 h2 h3 h4 h5 h6 h7 h8 h9
/-- .. and what it holds: null or some reference -/
def vx_Zq (C n d : String) (A : Nat → Prop) (U : State) (H : Heap) : Prop := va_Zq C n d A U H ∧ vx_L C n d A U H
theorem vx_Zq.moved {C n d : String} {A : Nat → Prop} {u U : State} {H : Heap} (hvm : u.vm.Alike U.vm) (h : vx_Zq C n d A u H) : vx_Zq C n d A U H := ⟨va_Zq.moved hvm h.1, vx_L.moved hvm h.2⟩
theorem vx_Zq.kept {C n d : String} {A : Nat → Prop} {U : State} {H H1 : Heap} (h : vx_Zq C n d A U H) (hq : ∀ a : Nat, a < H.size → ¬ A a → H1[a]? = H[a]?) : vx_Zq C n d A U H1 := ⟨va_Zq.kept h.1 hq, vx_L.kept h.2 hq⟩
theorem vx_Zq.narrow {C n d : String} {A B : Nat → Prop} {U : State} {H : Heap} (h : vx_Zq C n d A U H) (hAB : ∀ q, B q → A q) : vx_Zq C n d B U H := ⟨va_Zq.narrow h.1 hAB, vx_L.narrow h.2 hAB⟩
theorem vx_Zqof {args : Array Value} {s : State} {C n d : String} {A : Nat → Prop} (hl : (Cond.laysStatic C n d).before args s = true) (hini : (Cond.initialized C).before args s = true) (h : (Cond.isRef (.static C n d)).before args s = true) (hA : ∀ a : Nat, a < s.heap.size → ¬ A a) : vx_Zq C n d A s s.heap := by
  refine ⟨va_Zqof hl hini h hA, ?_⟩
  obtain ⟨c, k, i, f, a, cell, h1, h2, h3, h4, h5, h6, h7, h8, h9⟩ := Cond.laysStatic_spec hl
  exact ⟨c, k, i, f, a, cell, h1, h2, h3, h4, h5, h6, h7, h8, h9, hA a (Array.getElem?_eq_some_iff.mp h5).1⟩
theorem vx_isRef {C n d : String} {v : Value} {A : Nat → Prop} {s : State} {args : Array Value} (h : va_Z C n d v A s s.heap) (hv : v.isRef = true) : (Cond.isRef (.static C n d)).before args s = true := by
  obtain ⟨cf, kf, fi, f, a, cell, h1, h2, h3, h4, h5, h6, h7, -⟩ := h
  have he : (Term.static C n d).eval args s none [] s = some v := by
    simp [Term.eval, State.fieldNamed?, h1, h2, h4, h5, h6, h7]
  simp only [Cond.before, Cond.holds, Cond.value, he]
  cases v <;> simp_all [Value.isRef]
theorem vx_isRefq {C n d : String} {A : Nat → Prop} {s : State} {args : Array Value} (h : va_Zq C n d A s s.heap) : (Cond.isRef (.static C n d)).before args s = true := by
  rcases h with h | ⟨t, h⟩
  · exact vx_isRef h rfl
  · exact vx_isRef h rfl
/-- the same frame, seen from here: as if the method were called anew in this heap -/
theorem vx_rebase {T : State} (X : Stand p l e R s m args below meth c T locs cells slots) {R' : Room} (hf : R'.frames ≤ R.frames) (hl : R'.locals ≤ R.locals) (hc : cells + R'.cells ≤ R.cells) (hs : slots + R'.slots ≤ R.slots) :
    Stand p l e R' ((T.setVm s.vm).setFrames (.invoking m args :: below)) m args below meth c T [] 0 0 := by
  have htop : (T.setVm s.vm).topJava?.isSome := X.here.top
  have hF : ((T.setVm s.vm).setFrames (.invoking m args :: below)).frames = .invoking m args :: below := State.frames_setFrames _ (State.cur_lt_of_top htop)
  obtain ⟨g₀, hg0⟩ := Option.isSome_iff_exists.mp htop
  obtain ⟨r, hr⟩ := State.topJava?_eq_some.mp hg0
  have hl9 : e.platform.stackLimits (T.setVm s.vm).me = e.platform.stackLimits s.me := X.limits
  have hb9 : (T.setVm s.vm).me.stackBytes = s.me.stackBytes := X.bytes
  refine ⟨X.admits, X.cas, X.clock, hF, ?_, X.hears, X.method, X.code, X.here, X.tail, X.warmed, ?_, ?_, ?_⟩
  · have h := X.room
    have hU : ((T.setVm s.vm).setFrames (.invoking m args :: below)).localsInUse = s.localsInUse := by
      rw [State.localsInUse_invoking hF (meth := meth) (c := c) X.method X.code, State.localsInUse_invoking X.frames X.method X.code]
    simp only [State.hasRoom, Bool.and_eq_true, decide_eq_true_eq] at h ⊢
    obtain ⟨⟨⟨⟨h1, h2, h3, h4, h5, h6⟩, h7⟩, h8⟩, h9⟩ := h
    rw [X.frames, List.length_cons] at h2 h3
    have q1 := X.heapSize
    have q2 := X.used
    simp only [hF, hU, List.length_cons, State.stackLimits_setFrames, State.stackBytes_setFrames, hl9, hb9]
    refine ⟨⟨⟨⟨by omega, by omega, by omega, by omega, by omega, h6⟩, ?_⟩, ?_⟩, X.book⟩
    · show T.heap.size + R'.cells ≤ e.platform.maxCells
      omega
    · show T.slotsUsed + R'.slots ≤ e.platform.maxSlots
      omega
  · rw [State.stackLimits_setFrames]; rfl
  · rw [State.stackBytes_setFrames]; rfl
  · refine ⟨?_, Nat.le_refl _, Nat.le_refl _, ?_, ?_, fun a c9 h9 => ⟨c9, h9, rfl, rfl, fun _ _ => rfl⟩⟩
    · obtain ⟨t, ht, -⟩ := State.frames_cons hr
      show T.setVm s.vm = { ((T.setVm s.vm).setFrames (.invoking m args :: below)).setFrames (T.setVm s.vm).frames with heap := T.heap, slotsUsed := T.slotsUsed }
      rw [State.setFrames_setFrames, State.setFrames_self ht]
      rfl
    · show T.slotsUsed = T.slotsUsed + ((T.heap.toList.drop T.heap.size).map (·.slots.size)).sum
      rw [List.drop_eq_nil_of_le (Nat.le_of_eq Array.length_toList)]
      rfl
    · show ((T.heap.toList.drop T.heap.size).map (·.slots.size)).sum ≤ 0
      rw [List.drop_eq_nil_of_le (Nat.le_of_eq Array.length_toList)]
      exact Nat.le_refl _
/-- 'throw new E()': new; dup; invokespecial; athrow -/
theorem vx_throw0 {cc : ByteArray} {pc : Nat} (hexec : p.tables.exec = Jvm.exec) (hb : c.code = cc) (hl : l.stackTraces = false) {own cls : String} {names : List String} {ik ic mc ms : Nat} {A : Nat → Prop}
    (hown : s.vm.findClass own = some m.cls) (hcls : Bundle.fit cls = true) (hnames : ∀ n ∈ names, Bundle.fit n = true)
    (hk : (Cond.classLink own ik cls).before args s = true) (hini : (Cond.initialized cls).before args s = true) (hat : ∀ w ∈ vx_at0 own ic cls names, w.before args s = true)
    (hgood : ∀ w ∈ Cond.classLink own ik cls :: Cond.initialized cls :: vx_at0 own ic cls names, vx_ot w = true)
    (hU : vx_Zq Bundle.tN "UNASSIGNED_STACK" Bundle.steD A s s.heap) (hN : vx_Zq Bundle.tN "SUPPRESSED_SENTINEL" Bundle.listD A s s.heap) (hS : va_S A s.heap H locs) (hsize : ls.size = c.maxLocals)
    (d0 : decode cc pc = .ok (.new ik, 3)) (d3 : decode cc (pc + 3) = .ok (.dup, 1)) (d4 : decode cc (pc + 4) = .ok (.invokespecial ic, 3)) (d7 : decode cc (pc + 7) = .ok (.athrow, 1))
    (hout : ∀ x ∈ c.exceptionTable.toList, covers x (pc + 7) = false)
    (hRframes : names.length + 3 < R.frames) (hRlocals : (rest.map fun v => v.category).sum + (13 * (names.length + 1) + 42) ≤ R.locals) (hRcells : cells + 1 ≤ R.cells) (hRslots : slots + 6 ≤ R.slots) (hlocks : meth.locks = false)
    (hx : ∀ t : State, s.vm.Alike t.vm → H.size ≤ t.heap.size → (∀ q : Nat, q < H.size → t.heap[q]? = H[q]?) → XC cls s t)
    (hf : ∀ z ∈ locs, free z.base) (hc : cells + 1 ≤ mc) (hs : slots + 6 ≤ ms) :
    W p l e R s m args below meth c H locs cells slots (vx_MQ below Qc XC args s mc ms free) (F0 m pc ls rest) := by
  intro T hT X
  have htr : e.platform.stackTraces = false := (show e.platform.stackTraces = l.stackTraces by rw [X.admits.platform]).trans hl
  have Y := vx_rebase X (R' := { frames := R.frames, locals := R.locals, cells := 1, slots := 6 }) (Nat.le_refl _) (Nat.le_refl _) hRcells hRslots
  obtain ⟨s', hA⟩ : ∃ z, z = (T.setVm s.vm).setFrames (.invoking m args :: below) := ⟨_, rfl⟩
  rw [← hA] at Y
  have hvm : s'.vm = s.vm := by rw [hA]; rfl
  have hhp : s'.heap = H := by rw [hA]; exact hT
  have hW0 : s.WarmedH s'.vm := by rw [hvm]; exact State.WarmedH.refl s
  have hat' : ∀ w ∈ vx_at0 own ic cls names, w.before args s' = true := fun w hw => vx_ot_at hW0 hvm.symm (hgood w (List.mem_cons_of_mem _ (List.mem_cons_of_mem _ hw))) (hat w hw)
  have hk' : (Cond.classLink own ik cls).before args s' = true := vx_ot_at hW0 hvm.symm (hgood _ List.mem_cons_self) hk
  have hini' : (Cond.initialized cls).before args s' = true := vx_ot_at hW0 hvm.symm (hgood _ (List.mem_cons_of_mem _ List.mem_cons_self)) hini
  have hU' : vx_Zq Bundle.tN "UNASSIGNED_STACK" Bundle.steD A s' s'.heap := by rw [hhp]; exact vx_Zq.moved hW0.alike (hU.kept hS.2.1)
  have hN' : vx_Zq Bundle.tN "SUPPRESSED_SENTINEL" Bundle.listD A s' s'.heap := by rw [hhp]; exact vx_Zq.moved hW0.alike (hN.kept hS.2.1)
  have h : ∀ w ∈ Bundle.ownAtoms0 own ic cls names, w.before args s' = true := vx_own hat' (vx_isRefq hU'.1) (vx_isRefq hN'.1) hU'.2.word hN'.2.word
  have hown' : s'.vm.findClass own = some m.cls := by rw [hvm]; exact hown
  have hins : (Cond.instantiable cls 6).before args s' = true := h _ (by simp [Bundle.ownAtoms0])
  obtain ⟨vm₁, cX, kX, hfX, hkX, -, -, X₁, st1⟩ := Y.newCold hexec (own := own) (C := cls) (index := ik) (n := 6) hown' hk' hins hini'
    (g := F0 m pc ls rest) rfl (by rw [hb]; exact d0) (Nat.le_refl _) (Nat.le_refl _)
  generalize hT1 : (T.setVm vm₁).pushCell { cls := cX, slots := kX.instanceTypes.map defaultValue, vm := .none } = T1 at X₁ st1
  have hcat : (Value.ref T.heap.size).category = 1 := rfl
  have hcellA : T1.heap[T.heap.size]? = some (freshCell cX kX) := by rw [← hT1]; exact State.heap_pushCell_size _ _
  have d3' : decode c.code (pc + 3) = .ok (.dup, 1) := by rw [hb]; exact d3
  obtain ⟨U, hsteps, hrun, hend, hW, hsame, ce, hce, hO⟩ := X₁.ctorThrow0 hexec htr (own := own) (cls := cls) (names := names) (ic := ic) hown' hcls hnames h (fun x hx => nomatch hx) hfX hkX hcellA (by rw [hhp, hT]; exact Nat.le_refl _)
    (g := { method := m, pc := pc + 4, locals := ls, stack := .ref T.heap.size :: .ref T.heap.size :: rest, locked := none }) rfl hsize rfl rfl (rest := rest) rfl
    (by rw [hb]; exact d4) (by rw [hb]; exact d7) hout hRframes (by simp only [List.map_cons, List.sum_cons, hcat]; omega) hlocks
  obtain ⟨f1, f2⟩ := vx_frame hsame
  rw [hhp] at f1 f2
  have hWs : s.WarmedH U.vm := State.WarmedH.trans hW0 hW
  have hcl : s.vm.findClass cls = some ce.cls := by
    have h9 := hO.cls
    rw [hvm] at h9
    exact h9
  have hall : s.sameButNew ({ U with vm := s.vm } : State) locs mc ms := by
    subst hA
    obtain ⟨e1, e2⟩ := hsame
    rw [State.setFrames_setFrames] at e1
    have h2 : (T.setVm s.vm).sameButNew ({ U with vm := s.vm } : State) [] (0 + 1) (0 + 6) := ⟨e1, e2⟩
    have h3 := X.same.trans h2
    rw [List.append_nil] at h3
    exact h3.mono hc hs
  refine ⟨U, ?_, .threw T.heap.size, hrun, hend, Or.inr ⟨T.heap.size, rfl, cls, ce, locs, hx U hWs.alike f1 (fun q hq => f2 q hq (fun z hz => nomatch hz)), hce, hO.vm, hcl, hWs, hall, hf⟩⟩
  refine st1 _ ?_
  show Steps p.tables e below (T1.setTop { method := m, pc := pc + 3, locals := ls, stack := .ref T.heap.size :: rest, locked := none }) _
  jvm_step X₁.here [X₁.here.top, hexec, d3', Value.category]
  exact hsteps
/-- 'throw new E("text")': new; dup; ldc; invokespecial; athrow -/
theorem vx_throwS {cc : ByteArray} {pc : Nat} (hexec : p.tables.exec = Jvm.exec) (hb : c.code = cc) (hl : l.stackTraces = false) {own cls text : String} {names : List String} {ik is ic mc ms sa : Nat} {A : Nat → Prop}
    (hown : s.vm.findClass own = some m.cls) (hcls : Bundle.fit cls = true) (hnames : ∀ n ∈ names, Bundle.fit n = true)
    (hk : (Cond.classLink own ik cls).before args s = true) (hini : (Cond.initialized cls).before args s = true) (hstr : vk_R own is text sa s) (hat : ∀ w ∈ vx_atS own ic cls names, w.before args s = true)
    (hgood : ∀ w ∈ Cond.classLink own ik cls :: Cond.initialized cls :: vx_atS own ic cls names, vx_ot w = true)
    (hU : vx_Zq Bundle.tN "UNASSIGNED_STACK" Bundle.steD A s s.heap) (hN : vx_Zq Bundle.tN "SUPPRESSED_SENTINEL" Bundle.listD A s s.heap) (hS : va_S A s.heap H locs) (hsize : ls.size = c.maxLocals)
    (d0 : decode cc pc = .ok (.new ik, 3)) (d3 : decode cc (pc + 3) = .ok (.dup, 1)) (d4 : decode cc (pc + 4) = .ok (.ldc is, 2)) (d6 : decode cc (pc + 6) = .ok (.invokespecial ic, 3)) (d9 : decode cc (pc + 9) = .ok (.athrow, 1))
    (hout : ∀ x ∈ c.exceptionTable.toList, covers x (pc + 9) = false)
    (hRframes : names.length + 3 < R.frames) (hRlocals : (rest.map fun v => v.category).sum + (13 * (names.length + 1) + 43) ≤ R.locals) (hRcells : cells + 1 ≤ R.cells) (hRslots : slots + 6 ≤ R.slots) (hlocks : meth.locks = false)
    (hx : ∀ t : State, s.vm.Alike t.vm → H.size ≤ t.heap.size → (∀ q : Nat, q < H.size → t.heap[q]? = H[q]?) → XC cls s t)
    (hf : ∀ z ∈ locs, free z.base) (hc : cells + 1 ≤ mc) (hs : slots + 6 ≤ ms) :
    W p l e R s m args below meth c H locs cells slots (vx_MQ below Qc XC args s mc ms free) (F0 m pc ls rest) := by
  intro T hT X
  have htr : e.platform.stackTraces = false := (show e.platform.stackTraces = l.stackTraces by rw [X.admits.platform]).trans hl
  have Y := vx_rebase X (R' := { frames := R.frames, locals := R.locals, cells := 1, slots := 6 }) (Nat.le_refl _) (Nat.le_refl _) hRcells hRslots
  obtain ⟨s', hA⟩ : ∃ z, z = (T.setVm s.vm).setFrames (.invoking m args :: below) := ⟨_, rfl⟩
  rw [← hA] at Y
  have hvm : s'.vm = s.vm := by rw [hA]; rfl
  have hhp : s'.heap = H := by rw [hA]; exact hT
  have hW0 : s.WarmedH s'.vm := by rw [hvm]; exact State.WarmedH.refl s
  have hat' : ∀ w ∈ vx_atS own ic cls names, w.before args s' = true := fun w hw => vx_ot_at hW0 hvm.symm (hgood w (List.mem_cons_of_mem _ (List.mem_cons_of_mem _ hw))) (hat w hw)
  have hk' : (Cond.classLink own ik cls).before args s' = true := vx_ot_at hW0 hvm.symm (hgood _ List.mem_cons_self) hk
  have hini' : (Cond.initialized cls).before args s' = true := vx_ot_at hW0 hvm.symm (hgood _ (List.mem_cons_of_mem _ List.mem_cons_self)) hini
  have hU' : vx_Zq Bundle.tN "UNASSIGNED_STACK" Bundle.steD A s' s'.heap := by rw [hhp]; exact vx_Zq.moved hW0.alike (hU.kept hS.2.1)
  have hN' : vx_Zq Bundle.tN "SUPPRESSED_SENTINEL" Bundle.listD A s' s'.heap := by rw [hhp]; exact vx_Zq.moved hW0.alike (hN.kept hS.2.1)
  have h : ∀ w ∈ Bundle.ownAtoms own ic cls names, w.before args s' = true := vx_own hat' (vx_isRefq hU'.1) (vx_isRefq hN'.1) hU'.2.word hN'.2.word
  have hown' : s'.vm.findClass own = some m.cls := by rw [hvm]; exact hown
  have hins : (Cond.instantiable cls 6).before args s' = true := h _ (by simp [Bundle.ownAtoms])
  obtain ⟨vm₁, cX, kX, hfX, hkX, -, -, X₁, st1⟩ := Y.newCold hexec (own := own) (C := cls) (index := ik) (n := 6) hown' hk' hins hini'
    (g := F0 m pc ls rest) rfl (by rw [hb]; exact d0) (Nat.le_refl _) (Nat.le_refl _)
  generalize hT1 : (T.setVm vm₁).pushCell { cls := cX, slots := kX.instanceTypes.map defaultValue, vm := .none } = T1 at X₁ st1
  have hcat : (Value.ref T.heap.size).category = 1 := rfl
  have hcellA : T1.heap[T.heap.size]? = some (freshCell cX kX) := by rw [← hT1]; exact State.heap_pushCell_size _ _
  have d3' : decode c.code (pc + 3) = .ok (.dup, 1) := by rw [hb]; exact d3
  have d4' : decode c.code (pc + 4) = .ok (.ldc is, 2) := by rw [hb]; exact d4
  have hstr' : vk_R own is text sa s' := vk_R.warm hW0 hstr
  obtain ⟨U, hsteps, hrun, hend, hW, hsame, ce, hce, hO⟩ := X₁.ctorThrowS hexec htr (own := own) (cls := cls) (names := names) (ic := ic) hown' hcls hnames h (fun x hx => nomatch hx) hfX hkX hcellA (by rw [hhp, hT]; exact Nat.le_refl _) (msg := .ref sa) rfl
    (g := { method := m, pc := pc + 6, locals := ls, stack := .ref sa :: .ref T.heap.size :: .ref T.heap.size :: rest, locked := none }) rfl hsize rfl rfl (rest := rest) rfl
    (by rw [hb]; exact d6) (by rw [hb]; exact d9) hout hRframes (by simp only [List.map_cons, List.sum_cons, hcat]; omega) hlocks
  obtain ⟨f1, f2⟩ := vx_frame hsame
  rw [hhp] at f1 f2
  have hWs : s.WarmedH U.vm := State.WarmedH.trans hW0 hW
  have hcl : s.vm.findClass cls = some ce.cls := by
    have h9 := hO.cls
    rw [hvm] at h9
    exact h9
  have hall : s.sameButNew ({ U with vm := s.vm } : State) locs mc ms := by
    subst hA
    obtain ⟨e1, e2⟩ := hsame
    rw [State.setFrames_setFrames] at e1
    have h2 : (T.setVm s.vm).sameButNew ({ U with vm := s.vm } : State) [] (0 + 1) (0 + 6) := ⟨e1, e2⟩
    have h3 := X.same.trans h2
    rw [List.append_nil] at h3
    exact h3.mono hc hs
  refine ⟨U, ?_, .threw T.heap.size, hrun, hend, Or.inr ⟨T.heap.size, rfl, cls, ce, locs, hx U hWs.alike f1 (fun q hq => f2 q hq (fun z hz => nomatch hz)), hce, hO.vm, hcl, hWs, hall, hf⟩⟩
  refine st1 _ ?_
  show Steps p.tables e below (T1.setTop { method := m, pc := pc + 3, locals := ls, stack := .ref T.heap.size :: rest, locked := none }) _
  jvm_step X₁.here [X₁.here.top, hexec, d3', Value.category]
  exact X₁.ldcString hexec (own := own) (text := text) (index := is) (a := sa) hown' hstr'.1 hstr'.2
    (g := { method := m, pc := pc + 4, locals := ls, stack := .ref T.heap.size :: .ref T.heap.size :: rest, locked := none }) rfl d4' _ hsteps
/-- 'throw new E("text")', the text by a wide index -/
theorem vx_throwSW {cc : ByteArray} {pc : Nat} (hexec : p.tables.exec = Jvm.exec) (hb : c.code = cc) (hl : l.stackTraces = false) {own cls text : String} {names : List String} {ik is ic mc ms sa : Nat} {A : Nat → Prop}
    (hown : s.vm.findClass own = some m.cls) (hcls : Bundle.fit cls = true) (hnames : ∀ n ∈ names, Bundle.fit n = true)
    (hk : (Cond.classLink own ik cls).before args s = true) (hini : (Cond.initialized cls).before args s = true) (hstr : vk_R own is text sa s) (hat : ∀ w ∈ vx_atS own ic cls names, w.before args s = true)
    (hgood : ∀ w ∈ Cond.classLink own ik cls :: Cond.initialized cls :: vx_atS own ic cls names, vx_ot w = true)
    (hU : vx_Zq Bundle.tN "UNASSIGNED_STACK" Bundle.steD A s s.heap) (hN : vx_Zq Bundle.tN "SUPPRESSED_SENTINEL" Bundle.listD A s s.heap) (hS : va_S A s.heap H locs) (hsize : ls.size = c.maxLocals)
    (d0 : decode cc pc = .ok (.new ik, 3)) (d3 : decode cc (pc + 3) = .ok (.dup, 1)) (d4 : decode cc (pc + 4) = .ok (.ldc_w is, 3)) (d7 : decode cc (pc + 7) = .ok (.invokespecial ic, 3)) (d10 : decode cc (pc + 10) = .ok (.athrow, 1))
    (hout : ∀ x ∈ c.exceptionTable.toList, covers x (pc + 10) = false)
    (hRframes : names.length + 3 < R.frames) (hRlocals : (rest.map fun v => v.category).sum + (13 * (names.length + 1) + 43) ≤ R.locals) (hRcells : cells + 1 ≤ R.cells) (hRslots : slots + 6 ≤ R.slots) (hlocks : meth.locks = false)
    (hx : ∀ t : State, s.vm.Alike t.vm → H.size ≤ t.heap.size → (∀ q : Nat, q < H.size → t.heap[q]? = H[q]?) → XC cls s t)
    (hf : ∀ z ∈ locs, free z.base) (hc : cells + 1 ≤ mc) (hs : slots + 6 ≤ ms) :
    W p l e R s m args below meth c H locs cells slots (vx_MQ below Qc XC args s mc ms free) (F0 m pc ls rest) := by
  intro T hT X
  have htr : e.platform.stackTraces = false := (show e.platform.stackTraces = l.stackTraces by rw [X.admits.platform]).trans hl
  have Y := vx_rebase X (R' := { frames := R.frames, locals := R.locals, cells := 1, slots := 6 }) (Nat.le_refl _) (Nat.le_refl _) hRcells hRslots
  obtain ⟨s', hA⟩ : ∃ z, z = (T.setVm s.vm).setFrames (.invoking m args :: below) := ⟨_, rfl⟩
  rw [← hA] at Y
  have hvm : s'.vm = s.vm := by rw [hA]; rfl
  have hhp : s'.heap = H := by rw [hA]; exact hT
  have hW0 : s.WarmedH s'.vm := by rw [hvm]; exact State.WarmedH.refl s
  have hat' : ∀ w ∈ vx_atS own ic cls names, w.before args s' = true := fun w hw => vx_ot_at hW0 hvm.symm (hgood w (List.mem_cons_of_mem _ (List.mem_cons_of_mem _ hw))) (hat w hw)
  have hk' : (Cond.classLink own ik cls).before args s' = true := vx_ot_at hW0 hvm.symm (hgood _ List.mem_cons_self) hk
  have hini' : (Cond.initialized cls).before args s' = true := vx_ot_at hW0 hvm.symm (hgood _ (List.mem_cons_of_mem _ List.mem_cons_self)) hini
  have hU' : vx_Zq Bundle.tN "UNASSIGNED_STACK" Bundle.steD A s' s'.heap := by rw [hhp]; exact vx_Zq.moved hW0.alike (hU.kept hS.2.1)
  have hN' : vx_Zq Bundle.tN "SUPPRESSED_SENTINEL" Bundle.listD A s' s'.heap := by rw [hhp]; exact vx_Zq.moved hW0.alike (hN.kept hS.2.1)
  have h : ∀ w ∈ Bundle.ownAtoms own ic cls names, w.before args s' = true := vx_own hat' (vx_isRefq hU'.1) (vx_isRefq hN'.1) hU'.2.word hN'.2.word
  have hown' : s'.vm.findClass own = some m.cls := by rw [hvm]; exact hown
  have hins : (Cond.instantiable cls 6).before args s' = true := h _ (by simp [Bundle.ownAtoms])
  obtain ⟨vm₁, cX, kX, hfX, hkX, -, -, X₁, st1⟩ := Y.newCold hexec (own := own) (C := cls) (index := ik) (n := 6) hown' hk' hins hini'
    (g := F0 m pc ls rest) rfl (by rw [hb]; exact d0) (Nat.le_refl _) (Nat.le_refl _)
  generalize hT1 : (T.setVm vm₁).pushCell { cls := cX, slots := kX.instanceTypes.map defaultValue, vm := .none } = T1 at X₁ st1
  have hcat : (Value.ref T.heap.size).category = 1 := rfl
  have hcellA : T1.heap[T.heap.size]? = some (freshCell cX kX) := by rw [← hT1]; exact State.heap_pushCell_size _ _
  have d3' : decode c.code (pc + 3) = .ok (.dup, 1) := by rw [hb]; exact d3
  have d4' : decode c.code (pc + 4) = .ok (.ldc_w is, 3) := by rw [hb]; exact d4
  have hstr' : vk_R own is text sa s' := vk_R.warm hW0 hstr
  obtain ⟨U, hsteps, hrun, hend, hW, hsame, ce, hce, hO⟩ := X₁.ctorThrowS hexec htr (own := own) (cls := cls) (names := names) (ic := ic) hown' hcls hnames h (fun x hx => nomatch hx) hfX hkX hcellA (by rw [hhp, hT]; exact Nat.le_refl _) (msg := .ref sa) rfl
    (g := { method := m, pc := pc + 7, locals := ls, stack := .ref sa :: .ref T.heap.size :: .ref T.heap.size :: rest, locked := none }) rfl hsize rfl rfl (rest := rest) rfl
    (by rw [hb]; exact d7) (by rw [hb]; exact d10) hout hRframes (by simp only [List.map_cons, List.sum_cons, hcat]; omega) hlocks
  obtain ⟨f1, f2⟩ := vx_frame hsame
  rw [hhp] at f1 f2
  have hWs : s.WarmedH U.vm := State.WarmedH.trans hW0 hW
  have hcl : s.vm.findClass cls = some ce.cls := by
    have h9 := hO.cls
    rw [hvm] at h9
    exact h9
  have hall : s.sameButNew ({ U with vm := s.vm } : State) locs mc ms := by
    subst hA
    obtain ⟨e1, e2⟩ := hsame
    rw [State.setFrames_setFrames] at e1
    have h2 : (T.setVm s.vm).sameButNew ({ U with vm := s.vm } : State) [] (0 + 1) (0 + 6) := ⟨e1, e2⟩
    have h3 := X.same.trans h2
    rw [List.append_nil] at h3
    exact h3.mono hc hs
  refine ⟨U, ?_, .threw T.heap.size, hrun, hend, Or.inr ⟨T.heap.size, rfl, cls, ce, locs, hx U hWs.alike f1 (fun q hq => f2 q hq (fun z hz => nomatch hz)), hce, hO.vm, hcl, hWs, hall, hf⟩⟩
  refine st1 _ ?_
  show Steps p.tables e below (T1.setTop { method := m, pc := pc + 3, locals := ls, stack := .ref T.heap.size :: rest, locked := none }) _
  jvm_step X₁.here [X₁.here.top, hexec, d3', Value.category]
  exact X₁.ldcStringW hexec (own := own) (text := text) (index := is) (a := sa) hown' hstr'.1 hstr'.2
    (g := { method := m, pc := pc + 4, locals := ls, stack := .ref T.heap.size :: .ref T.heap.size :: rest, locked := none }) rfl d4' _ hsteps
end Ends
section Bodies
variable {l : Launch}
theorem vx_ofW {y : MethodName} {ws ws' : List Cond} {rm : Room} {Pc : Array Value → State → Prop} {Qc : Array Value → State → Outcome → State → Prop} {XC : String → State → State → Prop} {mc ms : Nat} {free : Addr → Prop} {cc : ByteArray} {maxL : Nat} {ret : Option FieldType}
    (hy : plainName y.cls = true) (hw : ws = Cond.code y cc maxL ret :: ws')
    (body : ∀ p e s m args below meth c s₁, BodyLoose p l y (headSpec ws rm) cc maxL ret e s m args below meth c s₁ → c.maxLocals = maxL → (∀ x ∈ c.exceptionTable.toList, False) → Pc args s →
      W p l e (headSpec ws rm).room s m args below meth c s.heap [] 0 0 (vx_MQ below Qc XC args s mc ms free) (entryFrame m args maxL)) : vx_Met l y ws rm Pc Qc XC mc ms free := by
  refine MetFree.of_bodyS (code := cc) (maxLocals := maxL) (ret := ret) hy ?_ ?_
  · intro args s m h hn
    obtain ⟨meth, c, h1, h2, h3, h4, h5, h6, -, -⟩ := Cond.code_spec hn (atoms_spec (ws := ws) h _ (by rw [hw]; exact List.mem_cons_self))
    exact ⟨meth, c, h1, h2, h3, h4, h5, h6⟩
  · intro p e s m args below meth c s₁ B hml hP _
    have hh0 : s₁.heap = s.heap := by rw [B.state]; rfl
    have ht : ∀ x ∈ c.exceptionTable.toList, False := by
      obtain ⟨meth9, c9, h1, h2, -, -, -, -, h7, -⟩ := Cond.code_spec B.named (atoms_spec (ws := ws) B.pre _ (by rw [hw]; exact List.mem_cons_self))
      cases Option.some.inj (h1.symm.trans B.method)
      cases Option.some.inj (h2.symm.trans (Stand.of_body B).code)
      intro x hx
      rw [Array.isEmpty_iff.mp h7] at hx
      cases hx
    obtain ⟨t, a1, o, b1, b2, b3⟩ := body p e s m args below meth c s₁ B hml ht hP s₁ hh0 (Stand.of_body B)
    exact ⟨t, o, a1, b1, b2, b3⟩
/-- the table of a body with handlers -/
theorem vx_table {p : Program} {x y : MethodName} {S : Spec} {cc bytes : ByteArray} {maxL maxL' : Nat} {ret ret' : Option FieldType} {e : Env} {s s₁ : State} {m : MethodId} {args : Array Value} {below : List Frame} {meth : Method} {c : Code} {hh : List (Nat × Nat × Nat × Nat)}
    (B : BodyLoose p l y S cc maxL ret e s m args below meth c s₁) (h : (Cond.codeWith y bytes maxL' ret' hh).before args s = true) : c.exceptionTable.toList = tableOf hh := by
  obtain ⟨m9, meth9, c9, hn9, h1, h2, -, -, h6, -⟩ := Cond.codeWith_spec h
  cases Option.some.inj (hn9.symm.trans B.named)
  cases Option.some.inj (h1.symm.trans B.method)
  cases Option.some.inj (h2.symm.trans (Stand.of_body B).code)
  rw [← h6, table_eq]
end Bodies
end VXA
/-! ===== END ===== -/
/-! ===== BEGIN a static call of a method with an exception table ===== -/
section VXS
variable {p : Program} {l : Launch} {e : Env} {R : Room} {s : State} {m : MethodId} {args : Array Value} {below : List Frame} {meth : Method} {c : Code} {T : State} {H : Heap} {locs : List Loc} {cells slots : Nat}
abbrev vx_CSW (R : Room) (s : State) (args : Array Value) (own : String) (index : Nat) (y : MethodName) (bytes : ByteArray) (maxL : Nat) (ret : Option FieldType) (hh : List (Nat × Nat × Nat × Nat)) (ws : List Cond) (rm : Room) (mc ms n : Nat) : Prop :=
  (rm.cells = mc ∧ rm.slots = ms ∧ rm.frames + 1 ≤ R.frames ∧ 8 + (maxL + 11) + rm.locals ≤ R.locals ∧ (∀ w ∈ ws, ∀ (a' : Array Value) (U : State), s.WarmedH U.vm → w.before a' U = true) ∧ Cond.codeWith y bytes maxL ret hh ∈ ws) ∧
  (Cond.codeWith y bytes maxL ret hh).before args s = true ∧ (Cond.initialized y.cls).before args s = true ∧ (y.cls ≠ "java/lang/invoke/MethodHandle" ∧ y.cls ≠ "java/lang/invoke/VarHandle") ∧
  (∀ sig, parseMethodDescriptor y.desc = some sig → n = sig.parameters.length) ∧ (Cond.methodLink own index y).before args s = true ∧ (Cond.static y).before args s = true
theorem vx_cwSW {own : String} {index maxL mc ms : Nat} {y : MethodName} {bytes : ByteArray} {ret : Option FieldType} {hh : List (Nat × Nat × Nat × Nat)} {Ts ws ws' : List Cond} {rm : Room} (n : Nat) (ht : ∀ w ∈ Ts, w.before args s = true) (hT : GoodIn Ts (va_wsS own index y ws)) (hw : ws = Cond.codeWith y bytes maxL ret hh :: ws') (hrc : rm.cells = mc) (hrs : rm.slots = ms)
    (hd : y.cls ≠ "java/lang/invoke/MethodHandle" ∧ y.cls ≠ "java/lang/invoke/VarHandle" ∧ (parseMethodDescriptor y.desc).map (fun d => d.parameters.length) = some n) (hR : rm.frames + 1 ≤ R.frames ∧ 8 + (maxL + 11) + rm.locals ≤ R.locals) :
    vx_CSW R s args own index y bytes maxL ret hh ws rm mc ms n := by
  have ok : ∀ w ∈ va_wsS own index y ws, w.before args s = true := fun w h => ht w (hT w h).1
  have hG : GoodIn Ts ws := fun w h => hT w (by unfold va_wsS; exact List.mem_append_right _ h)
  have hc : Cond.codeWith y bytes maxL ret hh ∈ ws := by rw [hw]; exact List.mem_cons_self
  refine ⟨⟨hrc, hrs, hR.1, hR.2, pay_in ht hG, hc⟩, ht _ (hG _ hc).1, ok _ (by simp [va_wsS]), ⟨hd.1, hd.2.1⟩, fun sig h => ?_, ok _ (by simp [va_wsS]), ok _ (by simp [va_wsS])⟩
  have h2 := hd.2.2
  rw [h] at h2
  exact (Option.some.inj h2).symm
theorem vx_callSW (X : Stand p l e R s m args below meth c T locs cells slots) (hexec : p.tables.exec = Jvm.exec) {own : String} {index : Nat} {y : MethodName} {bytes : ByteArray} {maxL : Nat} {ret : Option FieldType} {hh : List (Nat × Nat × Nat × Nat)}
    (hown : s.vm.findClass own = some m.cls) (hlink : (Cond.methodLink own index y).before args s = true) (hstat : (Cond.static y).before args s = true) (hinit : (Cond.initialized y.cls).before args s = true)
    (hcode : (Cond.codeWith y bytes maxL ret hh).before args s = true) (hy : y.cls ≠ "java/lang/invoke/MethodHandle" ∧ y.cls ≠ "java/lang/invoke/VarHandle")
    {W9 : Nat} {Pre : Pt → Array Value → Prop} {Post : Pt → Array Value → Option Value → Pt → Prop} (hK : Back l R p e below s args y 3 W9 Pre Post)
    {g : JFrame} (hg : g.method = m) (hsize : g.locals.size = c.maxLocals) {argsL rest : List Value} (hlen : ∀ sig, parseMethodDescriptor y.desc = some sig → argsL.length = sig.parameters.length)
    (hstack : g.stack = argsL.reverse ++ rest) (hW : 2 * g.monitorRoom + (rest.map fun v => v.category).sum ≤ W9) (hdg : decode c.code g.pc = .ok (.invokestatic index, 3))
    (hpre : ∀ vm₁, s.WarmedH vm₁ → Pre ⟨T.setVm vm₁, locs, cells, slots⟩ argsL.toArray) :
    ∃ (v : Option Value) (vm₁ : Vm) (B : Pt), s.WarmedH vm₁ ∧ Stand p l e R s m args below meth c B.U B.locs B.cells B.slots ∧ Post ⟨T.setVm vm₁, locs, cells, slots⟩ argsL.toArray v B ∧
      ∀ target, Steps p.tables e below (B.U.setTop { g with pc := g.pc + 3, stack := v.toList ++ rest }) target → Steps p.tables e below (T.setTop g) target := by
  obtain ⟨mk, methM, cM, hnamed, hmethM, -, -, -, -, -, -, hsigM⟩ := Cond.codeWith_spec hcode
  have hstatic : methM.isStatic = true := Cond.static_spec hnamed hmethM hstat
  obtain ⟨kP, hkP, -⟩ := className_of_methodNamed hnamed
  have hinitP : kP.init = .initialized := Cond.initialized_spec (findClass_of_methodNamed hnamed) hkP hinit
  obtain ⟨vm₁, X₁, hstep₁⟩ := X.invokestatic hexec hown hlink hnamed hmethM hstatic hkP hinitP hy (g := g) hg (argsL := argsL) (rest := rest) (hlen _ hsigM) hstack hdg
  obtain ⟨v, B, X', hpost, hsteps⟩ := hK m meth c ⟨T.setVm vm₁, locs, cells, slots⟩ { g with stack := rest } (.invokestatic index) mk argsL.toArray X₁ hg hsize hdg hW (X₁.named hnamed) (hpre vm₁ X₁.warmed)
  exact ⟨v, vm₁, B, X₁.warmed, X', hpost, fun target h => hstep₁ _ fun acts => by rw [doInvoke_state]; exact hsteps.trans h⟩
theorem vx_runSW {y : MethodName} {bytes cc : ByteArray} {maxL nL mc ms n index : Nat} {ret : Option FieldType} {hh : List (Nat × Nat × Nat × Nat)} {ws : List Cond} {rm : Room} {Pc : Array Value → State → Prop} {Qc : Array Value → State → Outcome → State → Prop} {free : Addr → Prop} {Ts : List Cond} {own : String} {As rest : List Value} {g : JFrame}
    (S : CallFix p m c cc nL s args Ts own) (hM : Met l y ws rm Pc Qc mc ms free) (cw : vx_CSW R s args own index y bytes maxL ret hh ws rm mc ms n) (hp : PreS s H Pc As)
    (hg : g.method = m) (hn : As.length = n) (hsize : g.locals.size = nL) (hstack : g.stack = As.reverse ++ rest) (hW : 2 * g.monitorRoom + (rest.map fun v => v.category).sum ≤ 8) (hdg : decode cc g.pc = .ok (.invokestatic index, 3)) (hf : cells + mc ≤ R.cells ∧ slots + ms ≤ R.slots) :
    va_Run p l e R s m args below meth c H locs cells slots mc ms g rest (Qc As.toArray) (free) := by
  obtain ⟨⟨hrc, hrs, hfr, hlo, hws, hcw⟩, hcode, hini, hy, hlen, hl, hstt⟩ := cw
  have hK : Back l R p e below s args y 3 8 (PreOf R mc ms Pc) (PostOf Qc mc ms free) := va_backW (hh := hh) (bytes := bytes) (maxL := maxL) (ret := ret) hM hp.1 hrc hrs hfr hlo hws hcw (fun a' U hW => word_at hW (Or.inl (by first | rfl | simp [Cond.onTables, Cond.keeps, Cond.steady])) hini)
  obtain ⟨hx, hb, hml, ho, -⟩ := S
  intro T hT X
  obtain ⟨v, vm₁, ⟨U', l2, c2, s2⟩, hW₁, X', ⟨g', mk, t, L, e1, e2, hq, h1, hL, h2, h3⟩, st⟩ := vx_callSW X hx (hh := hh) (bytes := bytes) (maxL := maxL) (ret := ret) ho hl hstt hini hcode hy hK hg (hsize.trans hml.symm) (argsL := As) (rest := rest) (fun sig h => hn.trans (hlen sig h)) hstack hW (by rw [hb]; exact hdg)
    (fun vm₁ hW₁ => ⟨hf.1, hf.2, hp.2 (T.setVm vm₁) hT hW₁⟩)
  dsimp only [Pt.U, Pt.locs, Pt.cells, Pt.slots] at X' e1 e2 h1 h2 h3 st
  subst h1; subst h2; subst h3
  exact ⟨v, (T.setVm vm₁).calling g' mk As.toArray, t, U', L, hT, X', hL, e1, e2, hq, st⟩
/-- not caught here, past rows that name other classes: it goes on to the caller -/
theorem vx_outP {p : Program} {l : Launch} {e : Env} {R : Room} {s : State} {m : MethodId} {args : Array Value} {below : List Frame} {meth : Method} {c : Code} {H : Heap} {locs : List Loc} {cells slots : Nat} {free : Addr → Prop} {ls : Array Slot} {rest : List Value} {Qc : Array Value → State → Outcome → State → Prop} {XC : String → State → State → Prop}
    {pc : Nat} {own E : String} {ce : Cell} {q : Addr} {mc ms : Nat} (hown : s.vm.findClass own = some m.cls) (hlocks : meth.locks = false)
    (hpass : ∀ z ∈ c.exceptionTable.toList, covers z pc = false ∨ (z.catchType ≠ 0 ∧ ∃ nm : String, (Cond.classLink own z.catchType nm).before args s = true ∧ va_Nc E nm s)) (hcell : H[q]? = some ce) (hv : ce.vm = .none) (hcl : s.vm.findClass E = some ce.cls)
    (hx : ∀ t : State, t.heap = H → s.vm.Alike t.vm → XC E s t) (hf : ∀ z ∈ locs, free z.base) (hc : cells ≤ mc) (hs : slots ≤ ms) :
    vx_W p l e R s m args below meth c H locs cells slots (vx_MQ below Qc XC args s mc ms free) (F0 m pc ls rest) q := by
  intro T hT X
  have hpl : e.platform.magicAccessors = ({} : Platform).magicAccessors := by rw [X.admits.platform]
  obtain ⟨vm', hW', X', st⟩ := X.outThrough hlocks q (g := F0 m pc ls rest) rfl rfl rfl (cell := ce) (by rw [hT]; exact hcell) (by rw [hv]; rfl)
    (by obtain ⟨k9, h9, -⟩ := Vm.findClass_spec hcl; exact ⟨k9, h9⟩) (fun z hz => by
      rcases hpass z hz with h | ⟨hz0, nm, hl1, hn1⟩
      · exact Or.inl h
      · obtain ⟨c6, hc6, hcl6⟩ := Cond.classLink_spec hown hl1 e.platform hpl
        obtain ⟨a8, b8, h1, h2, h3⟩ := hn1
        cases Option.some.inj (h1.symm.trans hcl)
        cases Option.some.inj (h2.symm.trans hc6)
        exact Or.inr ⟨hz0, _, hcl6, h3⟩)
  obtain ⟨g₀, hfr⟩ := X'.frames_eq
  have hcell9 : ((T.setVm vm').setFrames (.throwing q :: below)).heap[q]? = some ce := by
    show T.heap[q]? = some ce
    rw [hT]; exact hcell
  have hend : Ended ((T.setVm vm').setFrames (.throwing q :: below)) below (.threw q) := State.frames_setFrames _ (State.cur_lt_of_frames hfr)
  refine ⟨(T.setVm vm').setFrames (.throwing q :: below), ?_, .threw q, X'.here.running, hend, Or.inr ⟨q, rfl, E, ce, locs, hx _ hT (X'.ends _).1.alike, hcell9, hv, hcl, (X'.ends _).1, (X'.ends _).2.mono hc hs, hf⟩⟩
  rw [X.pushThrowing_eq]
  exact st
/-- a thing of a world lies in the heap -/
theorem vx_lt {D : va_G} {cl : List vw_C} {ws : va_W} {H1 : Heap} (h : va_P D cl ws H1) {k : Nat} {q : Nat × va_E} (hk : ws[k]? = some q) : q.1 < H1.size := (h k q hk).lt
end VXS
/-! ===== END ===== -/
/-! ===== BEGIN methods with a table of their own: called by a name, returning or throwing ===== -/
section VXH
/-! vx_backW, vx_callVX, vx_callSX, vx_callVW, vx_runVW, vx_runVX, vx_runSX, vx_ofWH follow the same proofs as their sisters above (Free/Laws.lean, Shelf42/LK1.lean); vx_outP calls Shelf42/NT130.lean (outThrough). -/
section
variable {l : Launch} {R : Room} {p : Program} {e : Env} {below : List Frame} {s : State} {sargs : Array Value} {y : MethodName} {len W9 : Nat}
theorem vx_backW {ws : List Cond} {rm : Room} {Pc : Array Value → State → Prop} {Qc : Array Value → State → Outcome → State → Prop} {XC : String → State → State → Prop} {mc ms : Nat} {free : Addr → Prop} {bytes : ByteArray} {maxL : Nat} {ret : Option FieldType} {hh : List (Nat × Nat × Nat × Nat)}
    (hM : vx_Met l y ws rm Pc Qc XC mc ms free) (hblind : FrameBlind Pc) (hrc : rm.cells = mc) (hrs : rm.slots = ms)
    (hframes : rm.frames + 1 ≤ R.frames) (hlocals : W9 + (maxL + 11) + rm.locals ≤ R.locals)
    (hws : ∀ w ∈ ws, ∀ a' U, s.WarmedH U.vm → w.before a' U = true) (hcode : Cond.codeWith y bytes maxL ret hh ∈ ws) (hinit : ∀ a' U, s.WarmedH U.vm → (Cond.initialized y.cls).before a' U = true) :
    vx_Back l R p e below s sargs y len W9 (PreOf R mc ms Pc) (PostOf Qc mc ms free) (vx_Post XC mc ms free) := by
  intro m meth c A g ig mk a X hg hsize hdg hW hn hp
  have h1 : (headSpec ws rm).pre.before a A.U = true := atoms_intro fun w hw => hws w hw _ _ X.warmed
  have h2 : (Cond.codeWith y bytes maxL ret hh).before a A.U = true := hws _ hcode _ _ X.warmed
  have h3 : (Cond.initialized y.cls).before a A.U = true := hinit _ _ X.warmed
  have h4 : A.cells + (headSpec ws rm).room.cells ≤ R.cells := by rw [show (headSpec ws rm).room.cells = mc from hrc]; exact hp.1
  have h5 : A.slots + (headSpec ws rm).room.slots ≤ R.slots := by rw [show (headSpec ws rm).room.slots = ms from hrs]; exact hp.2.1
  have hPc : Pc a (A.U.calling g mk a) := hblind _ _ _ _ hp.2.2
  obtain ⟨U, Ls, c0, s0⟩ := A
  dsimp only [Pt.U, Pt.locs, Pt.cells, Pt.slots] at h1 h2 h3 h4 h5 X hn hPc ⊢
  obtain ⟨m9, methY, cY, hn9, hmY, hcY, -, hlY, -⟩ := Cond.codeWith_spec h2
  cases Option.some.inj (hn9.symm.trans hn)
  obtain ⟨kY, hkY, -⟩ := className_of_methodNamed hn
  have hinitY : kY.init = .initialized := Cond.initialized_spec (findClass_of_methodNamed hn) hkY h3
  have h : At U g.method c below := by rw [hg]; exact X.here
  have hlocals9 : W9 + (maxL + 11) + (headSpec ws rm).room.locals ≤ R.locals := hlocals
  have happ : (headSpec ws rm).appliesLoose y e.platform (U.calling g mk a) = true :=
    Spec.appliesLoose_calling (g := g) h hdg hn hkY hinitY
      (X.room_calling (g := g) (R' := (headSpec ws rm).room) hsize hmY hcY hframes (by rw [hlY]; omega) h4 h5) h1
  obtain ⟨mid, hmid⟩ := h.above
  have hfr : (U.setTop g).frames = (.java g :: mid) ++ below := by rw [State.frames_setTop' g h.top, hmid]; rfl
  obtain ⟨o, s₂, hsteps, -, hend, hq⟩ := Steps.callFree hM p X.admits X.cas X.clock (acts := []) hfr happ hPc trivial
  have hq' : vx_Q Qc XC mc ms free a (U.calling g mk a) o s₂ := hq
  rw [State.frames_setTop' g h.top] at hend
  obtain ⟨g₀, hg0⟩ := Option.isSome_iff_exists.mp h.top
  obtain ⟨r, hr⟩ := State.topJava?_eq_some.mp hg0
  have hr' : (({ U with heap := s₂.heap, slotsUsed := s₂.slotsUsed } : State).setVm s₂.vm).frames = .java g₀ :: r := hr
  rcases hq' with ⟨hqc, L, hfe, hL⟩ | ⟨q, rfl, E, ce, L, hx, hce, hcv, hcl, hW₂, hsm, hL⟩
  · obtain ⟨⟨v, rfl⟩, hW₂, e2, q2, q3, q4, q5, q6⟩ := id hfe
    have e3 : s₂ = ({ (U.calling g mk a).setFrames s₂.frames with heap := s₂.heap, slotsUsed := s₂.slotsUsed } : State).setVm s₂.vm := by
      have : s₂ = ({ s₂ with vm := (U.calling g mk a).vm } : State).setVm s₂.vm := rfl
      rw [e2] at this
      exact this
    obtain ⟨c₂, i₂, len₂, hc₂, hd₂, hf₂⟩ := hend
    have hW' : U.WarmedH s₂.vm := hW₂
    have hcc : c₂ = c := by
      have h1 : s₂.code? g.method = U.code? g.method := by
        rw [State.code?_eq, State.code?_eq, hW'.alike.method?]
      exact Option.some.inj (hc₂.symm.trans (h1.trans h.code))
    subst hcc
    have hlen : len₂ = len := by rw [hdg] at hd₂; cases hd₂; rfl
    subst hlen
    have hs₂ : s₂ = (({ U with heap := s₂.heap, slotsUsed := s₂.slotsUsed } : State).setVm s₂.vm).setTop { g with pc := g.pc + len₂, stack := v.toList ++ g.stack } := by
      refine e3.trans ?_
      rw [hf₂, State.calling_eq h.top, State.setFrames_setFrames, State.setTop_of_frames _ hr', hr]
      rfl
    have hsame : U.sameButNew ({ U with heap := s₂.heap, slotsUsed := s₂.slotsUsed } : State) L mc ms := by
      refine ⟨?_, q2, q3, q4, q5, q6⟩
      obtain ⟨t, ht, -⟩ := State.frames_cons hr
      show ({ U with heap := s₂.heap, slotsUsed := s₂.slotsUsed } : State) = { U.setFrames U.frames with heap := s₂.heap, slotsUsed := s₂.slotsUsed }
      rw [State.setFrames_self ht]
    subst hg
    refine Or.inl ⟨v, ⟨(({ U with heap := s₂.heap, slotsUsed := s₂.slotsUsed } : State).setVm s₂.vm), Ls ++ L, c0 + mc, s0 + ms⟩,
      ⟨X.admits, X.cas, X.clock, X.frames, X.room, X.hears, X.method, X.code, (X.here.setHeapUsed s₂.heap s₂.slotsUsed).setVm hW'.alike, X.tail, State.WarmedH.trans X.warmed hW', X.limits, X.bytes, X.same.trans (hsame.setVm s.vm)⟩,
      ⟨g, mk, s₂, L, rfl, rfl, hqc, rfl, hL, rfl, rfl⟩, ?_⟩
    show Steps p.tables e below _ ((({ U with heap := s₂.heap, slotsUsed := s₂.slotsUsed } : State).setVm s₂.vm).setTop { g with pc := g.pc + len₂, stack := v.toList ++ g.stack })
    rw [← hs₂]
    exact hsteps
  · obtain ⟨e2, q2, q3, q4, q5, q6⟩ := id hsm
    have e3 : s₂ = ({ (U.calling g mk a).setFrames s₂.frames with heap := s₂.heap, slotsUsed := s₂.slotsUsed } : State).setVm s₂.vm := by
      have : s₂ = ({ s₂ with vm := (U.calling g mk a).vm } : State).setVm s₂.vm := rfl
      rw [e2] at this
      exact this
    have hf₂ : s₂.frames = .throwing q :: .java g :: U.frames.tail := hend
    have hW' : U.WarmedH s₂.vm := hW₂
    have hs₂ : s₂ = ((({ U with heap := s₂.heap, slotsUsed := s₂.slotsUsed } : State).setVm s₂.vm).setTop g).pushFrame (.throwing q) := by
      refine e3.trans ?_
      rw [hf₂, State.calling_eq h.top, State.setFrames_setFrames, State.pushFrame, State.frames_setTop _ hr', State.setTop_of_frames _ hr', State.setFrames_setFrames, hr]
      rfl
    have hsame : U.sameButNew ({ U with heap := s₂.heap, slotsUsed := s₂.slotsUsed } : State) L mc ms := by
      refine ⟨?_, q2, q3, q4, q5, q6⟩
      obtain ⟨t, ht, -⟩ := State.frames_cons hr
      show ({ U with heap := s₂.heap, slotsUsed := s₂.slotsUsed } : State) = { U.setFrames U.frames with heap := s₂.heap, slotsUsed := s₂.slotsUsed }
      rw [State.setFrames_self ht]
    subst hg
    refine Or.inr ⟨q, ⟨(({ U with heap := s₂.heap, slotsUsed := s₂.slotsUsed } : State).setVm s₂.vm), Ls ++ L, c0 + mc, s0 + ms⟩,
      ⟨X.admits, X.cas, X.clock, X.frames, X.room, X.hears, X.method, X.code, (X.here.setHeapUsed s₂.heap s₂.slotsUsed).setVm hW'.alike, X.tail, State.WarmedH.trans X.warmed hW', X.limits, X.bytes, X.same.trans (hsame.setVm s.vm)⟩,
      ⟨g, mk, s₂, L, E, ce, rfl, rfl, hx, hce, hcv, hcl, rfl, hL, rfl, rfl⟩, ?_⟩
    show Steps p.tables e below _ (((({ U with heap := s₂.heap, slotsUsed := s₂.slotsUsed } : State).setVm s₂.vm).setTop g).pushFrame (.throwing q))
    rw [← hs₂]
    exact hsteps
end
variable {p : Program} {l : Launch} {e : Env} {R : Room} {s : State} {m : MethodId} {args : Array Value} {below : List Frame} {meth : Method} {c : Code} {T : State} {H : Heap} {locs : List Loc} {cells slots : Nat}
theorem vx_callVX (X : Stand p l e R s m args below meth c T locs cells slots) (hexec : p.tables.exec = Jvm.exec) {own C : String} {index : Nat} {y : MethodName} {bytes : ByteArray} {maxL : Nat} {ret : Option FieldType} {hh : List (Nat × Nat × Nat × Nat)}
    (hown : s.vm.findClass own = some m.cls) (hlink : (Cond.methodLink own index y).before args s = true) (hinst : (Cond.instanceMethod y).before args s = true) (hsel : (Cond.selects C y y).before args s = true)
    (hcode : (Cond.codeWith y bytes maxL ret hh).before args s = true) (hy : y.cls ≠ "java/lang/invoke/MethodHandle" ∧ y.cls ≠ "java/lang/invoke/VarHandle")
    {W9 : Nat} {Pre : Pt → Array Value → Prop} {Post : Pt → Array Value → Option Value → Pt → Prop} {PostX : Pt → Array Value → Addr → Pt → Prop} (hK : vx_Back l R p e below s args y 3 W9 Pre Post PostX)
    {b : Addr} {cellB : Cell} (hcell : T.heap[b]? = some cellB) (hobj : cellB.vm.isStatics = false) (hcls : s.vm.findClass C = some cellB.cls)
    {g : JFrame} (hg : g.method = m) (hsize : g.locals.size = c.maxLocals) {argsL rest : List Value} (hlen : ∀ sig, parseMethodDescriptor y.desc = some sig → argsL.length = sig.parameters.length)
    (hstack : g.stack = argsL.reverse ++ .ref b :: rest) (hW : 2 * g.monitorRoom + (rest.map fun v => v.category).sum ≤ W9) (hdg : decode c.code g.pc = .ok (.invokevirtual index, 3))
    (hpre : ∀ vm₁, s.WarmedH vm₁ → Pre ⟨T.setVm vm₁, locs, cells, slots⟩ (Value.ref b :: argsL).toArray) :
    (∃ (v : Option Value) (vm₁ : Vm) (B : Pt), s.WarmedH vm₁ ∧ Stand p l e R s m args below meth c B.U B.locs B.cells B.slots ∧ Post ⟨T.setVm vm₁, locs, cells, slots⟩ (Value.ref b :: argsL).toArray v B ∧
      ∀ target, Steps p.tables e below (B.U.setTop { g with pc := g.pc + 3, stack := v.toList ++ rest }) target → Steps p.tables e below (T.setTop g) target) ∨
    (∃ (q : Addr) (vm₁ : Vm) (B : Pt), s.WarmedH vm₁ ∧ Stand p l e R s m args below meth c B.U B.locs B.cells B.slots ∧ PostX ⟨T.setVm vm₁, locs, cells, slots⟩ (Value.ref b :: argsL).toArray q B ∧
      Steps p.tables e below (T.setTop g) ((B.U.setTop { g with stack := rest }).pushFrame (.throwing q))) := by
  obtain ⟨mk, methM, hnamed, hmethM, hstM, habM⟩ := Cond.instanceMethod_spec hinst
  obtain ⟨m8, methM', cM, hn8, hmethM', -, -, -, -, -, -, hsigM⟩ := Cond.codeWith_spec hcode
  cases Option.some.inj (hn8.symm.trans hnamed)
  cases hmethM.symm.trans hmethM'
  obtain ⟨c2, r2, m2, q1, q2, q3, q4, kP, hkP, hkPi⟩ := Cond.selects_spec hsel
  cases hcls.symm.trans q1
  cases (State.methodFound?_of_named hnamed hy).symm.trans q2
  cases hnamed.symm.trans q3
  have hselP : selectMethod e.platform s.vm cellB.cls mk = .method mk := by rw [Launch.admits_selectMethod X.admits]; exact q4
  obtain ⟨vm₁, X₁, hstep₁⟩ := X.invokevirtual hexec hown hlink hnamed hmethM hstM hkP hkPi hy (a := b) (cell := cellB) hcell
    (fun z h => by rw [h] at hobj; cases hobj) hselP hmethM habM hkP hkPi (g := g) hg (argsL := argsL) (rest := rest) (hlen _ hsigM) hstack hdg
  rcases hK m meth c ⟨T.setVm vm₁, locs, cells, slots⟩ { g with stack := rest } (.invokevirtual index) mk (Value.ref b :: argsL).toArray X₁ hg hsize hdg hW (X₁.named hnamed) (hpre vm₁ X₁.warmed) with ⟨v, B, X', hpost, hsteps⟩ | ⟨q, B, X', hpost, hsteps⟩
  · exact Or.inl ⟨v, vm₁, B, X₁.warmed, X', hpost, fun target h => hstep₁ _ fun acts => by rw [doInvoke_state]; exact hsteps.trans h⟩
  · exact Or.inr ⟨q, vm₁, B, X₁.warmed, X', hpost, hstep₁ _ fun acts => by rw [doInvoke_state]; exact hsteps⟩
theorem vx_callSX (X : Stand p l e R s m args below meth c T locs cells slots) (hexec : p.tables.exec = Jvm.exec) {own : String} {index : Nat} {y : MethodName} {bytes : ByteArray} {maxL : Nat} {ret : Option FieldType} {hh : List (Nat × Nat × Nat × Nat)}
    (hown : s.vm.findClass own = some m.cls) (hlink : (Cond.methodLink own index y).before args s = true) (hstat : (Cond.static y).before args s = true) (hinit : (Cond.initialized y.cls).before args s = true)
    (hcode : (Cond.codeWith y bytes maxL ret hh).before args s = true) (hy : y.cls ≠ "java/lang/invoke/MethodHandle" ∧ y.cls ≠ "java/lang/invoke/VarHandle")
    {W9 : Nat} {Pre : Pt → Array Value → Prop} {Post : Pt → Array Value → Option Value → Pt → Prop} {PostX : Pt → Array Value → Addr → Pt → Prop} (hK : vx_Back l R p e below s args y 3 W9 Pre Post PostX)
    {g : JFrame} (hg : g.method = m) (hsize : g.locals.size = c.maxLocals) {argsL rest : List Value} (hlen : ∀ sig, parseMethodDescriptor y.desc = some sig → argsL.length = sig.parameters.length)
    (hstack : g.stack = argsL.reverse ++ rest) (hW : 2 * g.monitorRoom + (rest.map fun v => v.category).sum ≤ W9) (hdg : decode c.code g.pc = .ok (.invokestatic index, 3))
    (hpre : ∀ vm₁, s.WarmedH vm₁ → Pre ⟨T.setVm vm₁, locs, cells, slots⟩ argsL.toArray) :
    (∃ (v : Option Value) (vm₁ : Vm) (B : Pt), s.WarmedH vm₁ ∧ Stand p l e R s m args below meth c B.U B.locs B.cells B.slots ∧ Post ⟨T.setVm vm₁, locs, cells, slots⟩ argsL.toArray v B ∧
      ∀ target, Steps p.tables e below (B.U.setTop { g with pc := g.pc + 3, stack := v.toList ++ rest }) target → Steps p.tables e below (T.setTop g) target) ∨
    (∃ (q : Addr) (vm₁ : Vm) (B : Pt), s.WarmedH vm₁ ∧ Stand p l e R s m args below meth c B.U B.locs B.cells B.slots ∧ PostX ⟨T.setVm vm₁, locs, cells, slots⟩ argsL.toArray q B ∧
      Steps p.tables e below (T.setTop g) ((B.U.setTop { g with stack := rest }).pushFrame (.throwing q))) := by
  obtain ⟨mk, methM, cM, hnamed, hmethM, -, -, -, -, -, -, hsigM⟩ := Cond.codeWith_spec hcode
  have hstatic : methM.isStatic = true := Cond.static_spec hnamed hmethM hstat
  obtain ⟨kP, hkP, -⟩ := className_of_methodNamed hnamed
  have hinitP : kP.init = .initialized := Cond.initialized_spec (findClass_of_methodNamed hnamed) hkP hinit
  obtain ⟨vm₁, X₁, hstep₁⟩ := X.invokestatic hexec hown hlink hnamed hmethM hstatic hkP hinitP hy (g := g) hg (argsL := argsL) (rest := rest) (hlen _ hsigM) hstack hdg
  rcases hK m meth c ⟨T.setVm vm₁, locs, cells, slots⟩ { g with stack := rest } (.invokestatic index) mk argsL.toArray X₁ hg hsize hdg hW (X₁.named hnamed) (hpre vm₁ X₁.warmed) with ⟨v, B, X', hpost, hsteps⟩ | ⟨q, B, X', hpost, hsteps⟩
  · exact Or.inl ⟨v, vm₁, B, X₁.warmed, X', hpost, fun target h => hstep₁ _ fun acts => by rw [doInvoke_state]; exact hsteps.trans h⟩
  · exact Or.inr ⟨q, vm₁, B, X₁.warmed, X', hpost, hstep₁ _ fun acts => by rw [doInvoke_state]; exact hsteps⟩
theorem vx_callVW (X : Stand p l e R s m args below meth c T locs cells slots) (hexec : p.tables.exec = Jvm.exec) {own C : String} {index : Nat} {y : MethodName} {bytes : ByteArray} {maxL : Nat} {ret : Option FieldType} {hh : List (Nat × Nat × Nat × Nat)}
    (hown : s.vm.findClass own = some m.cls) (hlink : (Cond.methodLink own index y).before args s = true) (hinst : (Cond.instanceMethod y).before args s = true) (hsel : (Cond.selects C y y).before args s = true)
    (hcode : (Cond.codeWith y bytes maxL ret hh).before args s = true) (hy : y.cls ≠ "java/lang/invoke/MethodHandle" ∧ y.cls ≠ "java/lang/invoke/VarHandle")
    {W9 : Nat} {Pre : Pt → Array Value → Prop} {Post : Pt → Array Value → Option Value → Pt → Prop} (hK : Back l R p e below s args y 3 W9 Pre Post)
    {b : Addr} {cellB : Cell} (hcell : T.heap[b]? = some cellB) (hobj : cellB.vm.isStatics = false) (hcls : s.vm.findClass C = some cellB.cls)
    {g : JFrame} (hg : g.method = m) (hsize : g.locals.size = c.maxLocals) {argsL rest : List Value} (hlen : ∀ sig, parseMethodDescriptor y.desc = some sig → argsL.length = sig.parameters.length)
    (hstack : g.stack = argsL.reverse ++ .ref b :: rest) (hW : 2 * g.monitorRoom + (rest.map fun v => v.category).sum ≤ W9) (hdg : decode c.code g.pc = .ok (.invokevirtual index, 3))
    (hpre : ∀ vm₁, s.WarmedH vm₁ → Pre ⟨T.setVm vm₁, locs, cells, slots⟩ (Value.ref b :: argsL).toArray) :
    ∃ (v : Option Value) (vm₁ : Vm) (B : Pt), s.WarmedH vm₁ ∧ Stand p l e R s m args below meth c B.U B.locs B.cells B.slots ∧ Post ⟨T.setVm vm₁, locs, cells, slots⟩ (Value.ref b :: argsL).toArray v B ∧
      ∀ target, Steps p.tables e below (B.U.setTop { g with pc := g.pc + 3, stack := v.toList ++ rest }) target → Steps p.tables e below (T.setTop g) target := by
  obtain ⟨mk, methM, hnamed, hmethM, hstM, habM⟩ := Cond.instanceMethod_spec hinst
  obtain ⟨m8, methM', cM, hn8, hmethM', -, -, -, -, -, -, hsigM⟩ := Cond.codeWith_spec hcode
  cases Option.some.inj (hn8.symm.trans hnamed)
  cases hmethM.symm.trans hmethM'
  obtain ⟨c2, r2, m2, q1, q2, q3, q4, kP, hkP, hkPi⟩ := Cond.selects_spec hsel
  cases hcls.symm.trans q1
  cases (State.methodFound?_of_named hnamed hy).symm.trans q2
  cases hnamed.symm.trans q3
  have hselP : selectMethod e.platform s.vm cellB.cls mk = .method mk := by rw [Launch.admits_selectMethod X.admits]; exact q4
  obtain ⟨vm₁, X₁, hstep₁⟩ := X.invokevirtual hexec hown hlink hnamed hmethM hstM hkP hkPi hy (a := b) (cell := cellB) hcell
    (fun z h => by rw [h] at hobj; cases hobj) hselP hmethM habM hkP hkPi (g := g) hg (argsL := argsL) (rest := rest) (hlen _ hsigM) hstack hdg
  obtain ⟨v, B, X', hpost, hsteps⟩ := hK m meth c ⟨T.setVm vm₁, locs, cells, slots⟩ { g with stack := rest } (.invokevirtual index) mk (Value.ref b :: argsL).toArray X₁ hg hsize hdg hW (X₁.named hnamed) (hpre vm₁ X₁.warmed)
  exact ⟨v, vm₁, B, X₁.warmed, X', hpost, fun target h => hstep₁ _ fun acts => by rw [doInvoke_state]; exact hsteps.trans h⟩
abbrev vx_CVW (R : Room) (s : State) (args : Array Value) (own C : String) (index : Nat) (y : MethodName) (bytes : ByteArray) (maxL : Nat) (ret : Option FieldType) (hh : List (Nat × Nat × Nat × Nat)) (ws : List Cond) (rm : Room) (mc ms n : Nat) : Prop :=
  (rm.cells = mc ∧ rm.slots = ms ∧ rm.frames + 1 ≤ R.frames ∧ 8 + (maxL + 11) + rm.locals ≤ R.locals ∧ (∀ w ∈ ws, ∀ (a' : Array Value) (U : State), s.WarmedH U.vm → w.before a' U = true) ∧ Cond.codeWith y bytes maxL ret hh ∈ ws) ∧
  (Cond.codeWith y bytes maxL ret hh).before args s = true ∧ (Cond.initialized y.cls).before args s = true ∧ (y.cls ≠ "java/lang/invoke/MethodHandle" ∧ y.cls ≠ "java/lang/invoke/VarHandle") ∧
  (∀ sig, parseMethodDescriptor y.desc = some sig → n = sig.parameters.length) ∧ (Cond.methodLink own index y).before args s = true ∧ (Cond.instanceMethod y).before args s = true ∧ (Cond.selects C y y).before args s = true
theorem vx_cwVW {own C : String} {index maxL mc ms : Nat} {y : MethodName} {bytes : ByteArray} {ret : Option FieldType} {hh : List (Nat × Nat × Nat × Nat)} {Ts ws ws' : List Cond} {rm : Room} (n : Nat) (ht : ∀ w ∈ Ts, w.before args s = true) (hT : GoodIn Ts (wsV own index C y ws)) (hw : ws = Cond.codeWith y bytes maxL ret hh :: ws') (hrc : rm.cells = mc) (hrs : rm.slots = ms)
    (hd : y.cls = C ∧ y.cls ≠ "java/lang/invoke/MethodHandle" ∧ y.cls ≠ "java/lang/invoke/VarHandle" ∧ (parseMethodDescriptor y.desc).map (fun d => d.parameters.length) = some n) (hR : rm.frames + 1 ≤ R.frames ∧ 8 + (maxL + 11) + rm.locals ≤ R.locals) :
    vx_CVW R s args own C index y bytes maxL ret hh ws rm mc ms n := by
  obtain ⟨hC, hd⟩ := hd
  subst hC
  have ok : ∀ w ∈ wsV own index y.cls y ws, w.before args s = true := fun w h => ht w (hT w h).1
  have hG : GoodIn Ts ws := fun w h => hT w (by unfold wsV; exact List.mem_append_right _ h)
  have hc : Cond.codeWith y bytes maxL ret hh ∈ ws := by rw [hw]; exact List.mem_cons_self
  refine ⟨⟨hrc, hrs, hR.1, hR.2, pay_in ht hG, hc⟩, ht _ (hG _ hc).1, ok _ (by simp [wsV]), ⟨hd.1, hd.2.1⟩, fun sig h => ?_, ok _ (by simp [wsV]), ok _ (by simp [wsV]), ok _ (by simp [wsV])⟩
  have h2 := hd.2.2
  rw [h] at h2
  exact (Option.some.inj h2).symm
theorem vx_runVW {y : MethodName} {bytes cc : ByteArray} {maxL nL mc ms n index : Nat} {ret : Option FieldType} {hh : List (Nat × Nat × Nat × Nat)} {ws : List Cond} {rm : Room} {Pc : Array Value → State → Prop} {Qc : Array Value → State → Outcome → State → Prop} {free : Addr → Prop} {Ts : List Cond} {own C : String} {b : Addr} {As rest : List Value} {g : JFrame}
    (S : CallFix p m c cc nL s args Ts own) (hM : Met l y ws rm Pc Qc mc ms free) (cw : vx_CVW R s args own C index y bytes maxL ret hh ws rm mc ms n) (hp : PreV s H C b Pc As)
    (hg : g.method = m) (hn : As.length = n) (hsize : g.locals.size = nL) (hstack : g.stack = As.reverse ++ .ref b :: rest) (hW : 2 * g.monitorRoom + (rest.map fun v => v.category).sum ≤ 8) (hdg : decode cc g.pc = .ok (.invokevirtual index, 3)) (hf : cells + mc ≤ R.cells ∧ slots + ms ≤ R.slots) :
    va_Run p l e R s m args below meth c H locs cells slots mc ms g rest (Qc (Value.ref b :: As).toArray) free := by
  obtain ⟨⟨hrc, hrs, hfr, hlo, hws, hcw⟩, hcode, hini, hy, hlen, hl, hin, hse⟩ := cw
  have hK : Back l R p e below s args y 3 8 (PreOf R mc ms Pc) (PostOf Qc mc ms free) := va_backW (hh := hh) (bytes := bytes) (maxL := maxL) (ret := ret) hM hp.1 hrc hrs hfr hlo hws hcw (fun a' U hW => word_at hW (Or.inl (by first | rfl | simp [Cond.onTables, Cond.keeps, Cond.steady])) hini)
  obtain ⟨hx, hb, hml, ho, -⟩ := S
  obtain ⟨-, ⟨cellB, hcB, hoB, hclB⟩, hPc⟩ := hp
  intro T hT X
  obtain ⟨v, vm₁, ⟨U', l2, c2, s2⟩, hW₁, X', ⟨g', mk, t, L, e1, e2, hq, h1, hL, h2, h3⟩, st⟩ := vx_callVW X hx (C := C) (hh := hh) (bytes := bytes) (maxL := maxL) (ret := ret) ho hl hin hse hcode hy hK (by rw [hT]; exact hcB) hoB hclB hg (hsize.trans hml.symm) (argsL := As) (rest := rest) (fun sig h => hn.trans (hlen sig h)) hstack hW (by rw [hb]; exact hdg)
    (fun vm₁ hW₁ => ⟨hf.1, hf.2, hPc (T.setVm vm₁) hT hW₁⟩)
  dsimp only [Pt.U, Pt.locs, Pt.cells, Pt.slots] at X' e1 e2 h1 h2 h3 st
  subst h1; subst h2; subst h3
  exact ⟨v, (T.setVm vm₁).calling g' mk (Value.ref b :: As).toArray, t, U', L, hT, X', hL, e1, e2, hq, st⟩
section
variable {y : MethodName} {bytes cc : ByteArray} {maxL nL mc ms n index : Nat} {ret : Option FieldType} {ws : List Cond} {rm : Room} {Pc : Array Value → State → Prop} {Qc : Array Value → State → Outcome → State → Prop} {XC : String → State → State → Prop} {free : Addr → Prop} {Ts : List Cond} {own C : String} {b : Addr} {As rest : List Value} {g : JFrame}
theorem vx_runVX {hh : List (Nat × Nat × Nat × Nat)} (S : CallFix p m c cc nL s args Ts own) (hM : vx_Met l y ws rm Pc Qc XC mc ms free) (cw : vx_CVW R s args own C index y bytes maxL ret hh ws rm mc ms n) (hp : PreV s H C b Pc As)
    (hg : g.method = m) (hn : As.length = n) (hsize : g.locals.size = nL) (hstack : g.stack = As.reverse ++ .ref b :: rest) (hW : 2 * g.monitorRoom + (rest.map fun v => v.category).sum ≤ 8) (hdg : decode cc g.pc = .ok (.invokevirtual index, 3)) (hf : cells + mc ≤ R.cells ∧ slots + ms ≤ R.slots) :
    vx_Run p l e R s m args below meth c H locs cells slots mc ms g rest (Qc (Value.ref b :: As).toArray) XC free := by
  obtain ⟨⟨hrc, hrs, hfr, hlo, hws, hcw⟩, hcode, hini, hy, hlen, hl, hin, hse⟩ := cw
  have hK : vx_Back l R p e below s args y 3 8 (PreOf R mc ms Pc) (PostOf Qc mc ms free) (vx_Post XC mc ms free) := vx_backW (hh := hh) (bytes := bytes) (maxL := maxL) (ret := ret) hM hp.1 hrc hrs hfr hlo hws hcw (fun a' U hW => word_at hW (Or.inl (by first | rfl | simp [Cond.onTables, Cond.keeps, Cond.steady])) hini)
  obtain ⟨hx, hb, hml, ho, -⟩ := S
  obtain ⟨-, ⟨cellB, hcB, hoB, hclB⟩, hPc⟩ := hp
  intro T hT X
  rcases vx_callVX X hx (C := C) (hh := hh) (bytes := bytes) (maxL := maxL) (ret := ret) ho hl hin hse hcode hy hK (by rw [hT]; exact hcB) hoB hclB hg (hsize.trans hml.symm) (argsL := As) (rest := rest) (fun sig h => hn.trans (hlen sig h)) hstack hW (by rw [hb]; exact hdg)
    (fun vm₁ hW₁ => ⟨hf.1, hf.2, hPc (T.setVm vm₁) hT hW₁⟩) with ⟨v, vm₁, ⟨U', l2, c2, s2⟩, hW₁, X', ⟨g', mk, t, L, e1, e2, hq, h1, hL, h2, h3⟩, st⟩ | ⟨q, vm₁, ⟨U', l2, c2, s2⟩, hW₁, X', ⟨g', mk, t, L, E, ce, e1, e2, hq, hce, hcv, hcl, h1, hL, h2, h3⟩, st⟩
  · dsimp only [Pt.U, Pt.locs, Pt.cells, Pt.slots] at X' e1 e2 h1 h2 h3 st
    subst h1; subst h2; subst h3
    exact Or.inl ⟨v, (T.setVm vm₁).calling g' mk (Value.ref b :: As).toArray, t, U', L, hT, X', hL, e1, e2, hq, st⟩
  · dsimp only [Pt.U, Pt.locs, Pt.cells, Pt.slots] at X' e1 e2 h1 h2 h3 st hcl
    subst h1; subst h2; subst h3
    exact Or.inr ⟨q, (T.setVm vm₁).calling g' mk (Value.ref b :: As).toArray, t, U', L, E, ce, hT, X', hL, e1, e2, hq, hce, hcv, vx_cls hW₁ hcl, st⟩
theorem vx_runSX {hh : List (Nat × Nat × Nat × Nat)} (S : CallFix p m c cc nL s args Ts own) (hM : vx_Met l y ws rm Pc Qc XC mc ms free) (cw : vx_CSW R s args own index y bytes maxL ret hh ws rm mc ms n) (hp : PreS s H Pc As)
    (hg : g.method = m) (hn : As.length = n) (hsize : g.locals.size = nL) (hstack : g.stack = As.reverse ++ rest) (hW : 2 * g.monitorRoom + (rest.map fun v => v.category).sum ≤ 8) (hdg : decode cc g.pc = .ok (.invokestatic index, 3)) (hf : cells + mc ≤ R.cells ∧ slots + ms ≤ R.slots) :
    vx_Run p l e R s m args below meth c H locs cells slots mc ms g rest (Qc As.toArray) XC free := by
  obtain ⟨⟨hrc, hrs, hfr, hlo, hws, hcw⟩, hcode, hini, hy, hlen, hl, hstt⟩ := cw
  have hK : vx_Back l R p e below s args y 3 8 (PreOf R mc ms Pc) (PostOf Qc mc ms free) (vx_Post XC mc ms free) := vx_backW (hh := hh) (bytes := bytes) (maxL := maxL) (ret := ret) hM hp.1 hrc hrs hfr hlo hws hcw (fun a' U hW => word_at hW (Or.inl (by first | rfl | simp [Cond.onTables, Cond.keeps, Cond.steady])) hini)
  obtain ⟨hx, hb, hml, ho, -⟩ := S
  intro T hT X
  rcases vx_callSX X hx (hh := hh) (bytes := bytes) (maxL := maxL) (ret := ret) ho hl hstt hini hcode hy hK hg (hsize.trans hml.symm) (argsL := As) (rest := rest) (fun sig h => hn.trans (hlen sig h)) hstack hW (by rw [hb]; exact hdg)
    (fun vm₁ hW₁ => ⟨hf.1, hf.2, hp.2 (T.setVm vm₁) hT hW₁⟩) with ⟨v, vm₁, ⟨U', l2, c2, s2⟩, hW₁, X', ⟨g', mk, t, L, e1, e2, hq, h1, hL, h2, h3⟩, st⟩ | ⟨q, vm₁, ⟨U', l2, c2, s2⟩, hW₁, X', ⟨g', mk, t, L, E, ce, e1, e2, hq, hce, hcv, hcl, h1, hL, h2, h3⟩, st⟩
  · dsimp only [Pt.U, Pt.locs, Pt.cells, Pt.slots] at X' e1 e2 h1 h2 h3 st
    subst h1; subst h2; subst h3
    exact Or.inl ⟨v, (T.setVm vm₁).calling g' mk As.toArray, t, U', L, hT, X', hL, e1, e2, hq, st⟩
  · dsimp only [Pt.U, Pt.locs, Pt.cells, Pt.slots] at X' e1 e2 h1 h2 h3 st hcl
    subst h1; subst h2; subst h3
    exact Or.inr ⟨q, (T.setVm vm₁).calling g' mk As.toArray, t, U', L, E, ce, hT, X', hL, e1, e2, hq, hce, hcv, vx_cls hW₁ hcl, st⟩
end
end VXH
theorem vx_ofWH {l : Launch} {y : MethodName} {ws ws' : List Cond} {rm : Room} {Pc : Array Value → State → Prop} {Qc : Array Value → State → Outcome → State → Prop} {XC : String → State → State → Prop} {mc ms : Nat} {free : Addr → Prop} {cc : ByteArray} {maxL : Nat} {ret : Option FieldType} {hh : List (Nat × Nat × Nat × Nat)}
    (hy : plainName y.cls = true) (hw : ws = Cond.codeWith y cc maxL ret hh :: ws')
    (body : ∀ p e s m args below meth c s₁, BodyLoose p l y (headSpec ws rm) cc maxL ret e s m args below meth c s₁ → c.maxLocals = maxL → Pc args s →
      W p l e (headSpec ws rm).room s m args below meth c s.heap [] 0 0 (vx_MQ below Qc XC args s mc ms free) (entryFrame m args maxL)) : vx_Met l y ws rm Pc Qc XC mc ms free := by
  refine MetFree.of_bodyS (code := cc) (maxLocals := maxL) (ret := ret) hy ?_ ?_
  · intro args s m h hn
    obtain ⟨m9, meth, c, hn9, h1, h2, h3, h4, -, h5, h6, -⟩ := Cond.codeWith_spec (atoms_spec (ws := ws) h _ (by rw [hw]; exact List.mem_cons_self))
    cases hn.symm.trans hn9
    exact ⟨meth, c, h1, h2, h3, h4, h5, h6⟩
  · intro p e s m args below meth c s₁ B hml hP _
    have hh0 : s₁.heap = s.heap := by rw [B.state]; rfl
    obtain ⟨t, a1, o, b1, b2, b3⟩ := body p e s m args below meth c s₁ B hml hP s₁ hh0 (Stand.of_body B)
    exact ⟨t, o, a1, b1, b2, b3⟩
/-! ===== END ===== -/
end
section
def cn_B : String := "ControlDesk$Bank"
def ft_B : u_T := fun k => match k with
  | 0 => ("ControlDesk$Bank", "vectors", "J", false)
  | 1 => ("ControlDesk$Bank", "openCounts", "J", false)
  | 2 => ("ControlDesk$Bank", "scratch", "J", false)
  | 3 => ("ControlDesk$Bank", "resume", "J", false)
  | 4 => ("ControlDesk$Bank", "cause", "J", false)
  | _ => ("ControlDesk$Bank", "value", "J", false)
def ty_B : Nat → FieldType := fun k => match k with
  | 0 => .long
  | 1 => .long
  | 2 => .long
  | 3 => .long
  | 4 => .long
  | _ => .long
theorem nn_B : ∀ a, a < 6 → ∀ b, b < 6 → a ≠ b → (ft_B a).2.1 ≠ (ft_B b).2.1 := by decide +kernel
theorem tk_B : ∀ k, k < 6 → parseFieldDescriptor (ft_B k).2.2.1 = some (ty_B k) := by decide +kernel
theorem in_B : ∀ w ∈ u_ws cn_B ft_B 6, w ∈ xw_T := by decide +kernel
def cn_X : String := "ControlDesk"
def ft_X : u_T := fun k => match k with
  | 0 => ("ControlDesk", "machineBank", "LControlDesk$Bank;", true)
  | 1 => ("ControlDesk", "supervisorBank", "LControlDesk$Bank;", true)
  | 2 => ("ControlDesk", "processor", "J", true)
  | 3 => ("ControlDesk", "currentMode", "I", false)
  | 4 => ("ControlDesk", "status", "J", false)
  | 5 => ("ControlDesk", "delegatedExceptions", "J", false)
  | 6 => ("ControlDesk", "delegatedInterrupts", "J", false)
  | 7 => ("ControlDesk", "enabled", "J", false)
  | 8 => ("ControlDesk", "pendingWritten", "J", false)
  | 9 => ("ControlDesk", "lines", "J", false)
  | 10 => ("ControlDesk", "table", "J", false)
  | 11 => ("ControlDesk", "cycleCount", "J", false)
  | 12 => ("ControlDesk", "instructionCount", "J", false)
  | 13 => ("ControlDesk", "clock", "J", false)
  | 14 => ("ControlDesk", "lastHad", "J", false)
  | _ => ("ControlDesk", "lastPlace", "J", false)
def ty_X : Nat → FieldType := fun k => match k with
  | 0 => .object "ControlDesk$Bank"
  | 1 => .object "ControlDesk$Bank"
  | 2 => .long
  | 3 => .int
  | 4 => .long
  | 5 => .long
  | 6 => .long
  | 7 => .long
  | 8 => .long
  | 9 => .long
  | 10 => .long
  | 11 => .long
  | 12 => .long
  | 13 => .long
  | 14 => .long
  | _ => .long
theorem nn_X : ∀ a, a < 16 → ∀ b, b < 16 → a ≠ b → (ft_X a).2.1 ≠ (ft_X b).2.1 := by decide +kernel
theorem tk_X : ∀ k, k < 16 → parseFieldDescriptor (ft_X k).2.2.1 = some (ty_X k) := by decide +kernel
theorem in_X : ∀ w ∈ u_ws cn_X ft_X 16, w ∈ xw_T := by decide +kernel
def cn_M : String := "ControlDeskModel"
def ft_M : u_T := fun k => match k with
  | 0 => ("ControlDeskModel", "thrown", "I", false)
  | 1 => ("ControlDeskModel", "processor", "I", true)
  | 2 => ("ControlDeskModel", "mode", "I", false)
  | 3 => ("ControlDeskModel", "held", "[J", true)
  | 4 => ("ControlDeskModel", "lines", "[Z", true)
  | 5 => ("ControlDeskModel", "time", "J", false)
  | 6 => ("ControlDeskModel", "had", "J", false)
  | _ => ("ControlDeskModel", "place", "J", false)
def ty_M : Nat → FieldType := fun k => match k with
  | 0 => .int
  | 1 => .int
  | 2 => .int
  | 3 => .array .long
  | 4 => .array .boolean
  | 5 => .long
  | 6 => .long
  | _ => .long
theorem nn_M : ∀ a, a < 8 → ∀ b, b < 8 → a ≠ b → (ft_M a).2.1 ≠ (ft_M b).2.1 := by decide +kernel
theorem tk_M : ∀ k, k < 8 → parseFieldDescriptor (ft_M k).2.2.1 = some (ty_M k) := by decide +kernel
theorem in_M : ∀ w ∈ u_ws cn_M ft_M 8, w ∈ xw_T := by decide +kernel
abbrev xw_Cl : List vw_C := [(cn_B, ft_B, 6), (cn_X, ft_X, 16), (cn_M, ft_M, 8)]
def cn_L : String := "ControlDeskLaw"
abbrev bc_X_init : ByteArray := prog_1_method_1_code
def yn_X_init : MethodName := ⟨"ControlDesk", "<init>", "(I)V"⟩
abbrev bc_X_mode : ByteArray := prog_1_method_2_code
def yn_X_mode : MethodName := ⟨"ControlDesk", "mode", "()I"⟩
abbrev bc_X_dataMode : ByteArray := prog_1_method_3_code
def yn_X_dataMode : MethodName := ⟨"ControlDesk", "dataMode", "()I"⟩
abbrev bc_X_access : ByteArray := prog_1_method_4_code
def yn_X_access : MethodName := ⟨"ControlDesk", "access", "(IIZJ)I"⟩
abbrev bc_X_had : ByteArray := prog_1_method_5_code
def yn_X_had : MethodName := ⟨"ControlDesk", "had", "()J"⟩
abbrev bc_X_peek : ByteArray := prog_1_method_6_code
def yn_X_peek : MethodName := ⟨"ControlDesk", "peek", "(I)J"⟩
abbrev bc_X_trap : ByteArray := prog_1_method_7_code
def yn_X_trap : MethodName := ⟨"ControlDesk", "trap", "(ZIJJ)J"⟩
abbrev bc_X_back : ByteArray := prog_1_method_8_code
def yn_X_back : MethodName := ⟨"ControlDesk", "back", "(Z)Z"⟩
abbrev bc_X_place : ByteArray := prog_1_method_9_code
def yn_X_place : MethodName := ⟨"ControlDesk", "place", "()J"⟩
abbrev bc_X_taken : ByteArray := prog_1_method_10_code
def yn_X_taken : MethodName := ⟨"ControlDesk", "taken", "()I"⟩
abbrev bc_X_wakes : ByteArray := prog_1_method_11_code
def yn_X_wakes : MethodName := ⟨"ControlDesk", "wakes", "()Z"⟩
abbrev bc_X_line : ByteArray := prog_1_method_12_code
def yn_X_line : MethodName := ⟨"ControlDesk", "line", "(IZ)V"⟩
abbrev bc_X_allowed : ByteArray := prog_1_method_13_code
def yn_X_allowed : MethodName := ⟨"ControlDesk", "allowed", "(I)Z"⟩
abbrev bc_X_floats : ByteArray := prog_1_method_14_code
def yn_X_floats : MethodName := ⟨"ControlDesk", "floats", "()Z"⟩
abbrev bc_X_dirty : ByteArray := prog_1_method_15_code
def yn_X_dirty : MethodName := ⟨"ControlDesk", "dirty", "()V"⟩
abbrev bc_X_count : ByteArray := prog_1_method_16_code
def yn_X_count : MethodName := ⟨"ControlDesk", "count", "(JJ)V"⟩
abbrev bc_X_time : ByteArray := prog_1_method_17_code
def yn_X_time : MethodName := ⟨"ControlDesk", "time", "(J)V"⟩
abbrev bc_X_has : ByteArray := prog_1_method_18_code
def yn_X_has : MethodName := ⟨"ControlDesk", "has", "(J)Z"⟩
abbrev bc_X_previousMachineMode : ByteArray := prog_1_method_19_code
def yn_X_previousMachineMode : MethodName := ⟨"ControlDesk", "previousMachineMode", "()I"⟩
abbrev bc_X_machineOrSupervisorWithout : ByteArray := prog_1_method_20_code
def yn_X_machineOrSupervisorWithout : MethodName := ⟨"ControlDesk", "machineOrSupervisorWithout", "(J)Z"⟩
abbrev bc_X_isFloat : ByteArray := prog_1_method_21_code
def yn_X_isFloat : MethodName := ⟨"ControlDesk", "isFloat", "(I)Z"⟩
abbrev bc_X_isElsewhere : ByteArray := prog_1_method_22_code
def yn_X_isElsewhere : MethodName := ⟨"ControlDesk", "isElsewhere", "(I)Z"⟩
abbrev bc_X_isOpenCount : ByteArray := prog_1_method_23_code
def yn_X_isOpenCount : MethodName := ⟨"ControlDesk", "isOpenCount", "(I)Z"⟩
abbrev bc_X_isHere : ByteArray := prog_1_method_24_code
def yn_X_isHere : MethodName := ⟨"ControlDesk", "isHere", "(I)Z"⟩
abbrev bc_X_isIllegal : ByteArray := prog_1_method_25_code
def yn_X_isIllegal : MethodName := ⟨"ControlDesk", "isIllegal", "(IZ)Z"⟩
abbrev bc_X_isClosed : ByteArray := prog_1_method_26_code
def yn_X_isClosed : MethodName := ⟨"ControlDesk", "isClosed", "(I)Z"⟩
abbrev bc_X_shownStatus : ByteArray := prog_1_method_27_code
def yn_X_shownStatus : MethodName := ⟨"ControlDesk", "shownStatus", "()J"⟩
abbrev bc_X_pending : ByteArray := prog_1_method_28_code
def yn_X_pending : MethodName := ⟨"ControlDesk", "pending", "()J"⟩
abbrev bc_X_shown : ByteArray := prog_1_method_29_code
def yn_X_shown : MethodName := ⟨"ControlDesk", "shown", "(I)J"⟩
abbrev bc_X_changeable : ByteArray := prog_1_method_30_code
def yn_X_changeable : MethodName := ⟨"ControlDesk", "changeable", "(IJ)J"⟩
abbrev bc_X_combined : ByteArray := prog_1_method_31_code
def yn_X_combined : MethodName := ⟨"ControlDesk", "combined", "(IJJ)J"⟩
abbrev bc_X_merged : ByteArray := prog_1_method_32_code
def yn_X_merged : MethodName := ⟨"ControlDesk", "merged", "(JJJ)J"⟩
abbrev bc_X_store : ByteArray := prog_1_method_33_code
def yn_X_store : MethodName := ⟨"ControlDesk", "store", "(IJ)V"⟩
abbrev bc_X_storeStatus : ByteArray := prog_1_method_34_code
def yn_X_storeStatus : MethodName := ⟨"ControlDesk", "storeStatus", "(JJ)V"⟩
abbrev bc_X_storeSupervisorPending : ByteArray := prog_1_method_35_code
def yn_X_storeSupervisorPending : MethodName := ⟨"ControlDesk", "storeSupervisorPending", "(J)V"⟩
abbrev bc_X_storeTable : ByteArray := prog_1_method_36_code
def yn_X_storeTable : MethodName := ⟨"ControlDesk", "storeTable", "(J)V"⟩
abbrev bc_X_goesToSupervisor : ByteArray := prog_1_method_37_code
def yn_X_goesToSupervisor : MethodName := ⟨"ControlDesk", "goesToSupervisor", "(ZI)Z"⟩
abbrev bc_X_enterSupervisor : ByteArray := prog_1_method_38_code
def yn_X_enterSupervisor : MethodName := ⟨"ControlDesk", "enterSupervisor", "()V"⟩
abbrev bc_X_enterMachine : ByteArray := prog_1_method_39_code
def yn_X_enterMachine : MethodName := ⟨"ControlDesk", "enterMachine", "()V"⟩
abbrev bc_X_mayReturn : ByteArray := prog_1_method_40_code
def yn_X_mayReturn : MethodName := ⟨"ControlDesk", "mayReturn", "(Z)Z"⟩
abbrev bc_X_leaveMachine : ByteArray := prog_1_method_41_code
def yn_X_leaveMachine : MethodName := ⟨"ControlDesk", "leaveMachine", "()V"⟩
abbrev bc_X_leaveSupervisor : ByteArray := prog_1_method_42_code
def yn_X_leaveSupervisor : MethodName := ⟨"ControlDesk", "leaveSupervisor", "()V"⟩
abbrev bc_X_takesUndelegated : ByteArray := prog_1_method_43_code
def yn_X_takesUndelegated : MethodName := ⟨"ControlDesk", "takesUndelegated", "()Z"⟩
abbrev bc_X_takesDelegated : ByteArray := prog_1_method_44_code
def yn_X_takesDelegated : MethodName := ⟨"ControlDesk", "takesDelegated", "()Z"⟩
abbrev bc_X_firstInOrder : ByteArray := prog_1_method_45_code
def yn_X_firstInOrder : MethodName := ⟨"ControlDesk", "firstInOrder", "(J)I"⟩
abbrev bc_B_init : ByteArray := prog_2_method_1_code
def yn_B_init : MethodName := ⟨"ControlDesk$Bank", "<init>", "()V"⟩
abbrev bc_B_keepVectors : ByteArray := prog_2_method_2_code
def yn_B_keepVectors : MethodName := ⟨"ControlDesk$Bank", "keepVectors", "(J)V"⟩
abbrev bc_B_keepResume : ByteArray := prog_2_method_3_code
def yn_B_keepResume : MethodName := ⟨"ControlDesk$Bank", "keepResume", "(J)V"⟩
abbrev bc_B_remember : ByteArray := prog_2_method_4_code
def yn_B_remember : MethodName := ⟨"ControlDesk$Bank", "remember", "(ZIJJ)V"⟩
abbrev bc_B_entry : ByteArray := prog_2_method_5_code
def yn_B_entry : MethodName := ⟨"ControlDesk$Bank", "entry", "(ZI)J"⟩
abbrev bc_M_init : ByteArray := prog_4_method_1_code
def yn_M_init : MethodName := ⟨"ControlDeskModel", "<init>", "(I)V"⟩
abbrev bc_M_thrown : ByteArray := prog_4_method_2_code
def yn_M_thrown : MethodName := ⟨"ControlDeskModel", "thrown", "()I"⟩
abbrev bc_M_status : ByteArray := prog_4_method_3_code
def yn_M_status : MethodName := ⟨"ControlDeskModel", "status", "(I)I"⟩
abbrev bc_M_put : ByteArray := prog_4_method_4_code
def yn_M_put : MethodName := ⟨"ControlDeskModel", "put", "(II)V"⟩
abbrev bc_M_below : ByteArray := prog_4_method_5_code
def yn_M_below : MethodName := ⟨"ControlDeskModel", "below", "()I"⟩
abbrev bc_M_floating : ByteArray := prog_4_method_6_code
def yn_M_floating : MethodName := ⟨"ControlDeskModel", "floating", "()I"⟩
abbrev bc_M_mode : ByteArray := prog_4_method_7_code
def yn_M_mode : MethodName := ⟨"ControlDeskModel", "mode", "()I"⟩
abbrev bc_M_dataMode : ByteArray := prog_4_method_8_code
def yn_M_dataMode : MethodName := ⟨"ControlDeskModel", "dataMode", "()I"⟩
abbrev bc_M_isElsewhere : ByteArray := prog_4_method_9_code
def yn_M_isElsewhere : MethodName := ⟨"ControlDeskModel", "isElsewhere", "(I)Z"⟩
abbrev bc_M_isCount : ByteArray := prog_4_method_10_code
def yn_M_isCount : MethodName := ⟨"ControlDeskModel", "isCount", "(I)Z"⟩
abbrev bc_M_isThere : ByteArray := prog_4_method_11_code
def yn_M_isThere : MethodName := ⟨"ControlDeskModel", "isThere", "(I)Z"⟩
abbrev bc_M_lineBits : ByteArray := prog_4_method_12_code
def yn_M_lineBits : MethodName := ⟨"ControlDeskModel", "lineBits", "()J"⟩
abbrev bc_M_statusSeen : ByteArray := prog_4_method_13_code
def yn_M_statusSeen : MethodName := ⟨"ControlDeskModel", "statusSeen", "(Z)J"⟩
abbrev bc_M_shown : ByteArray := prog_4_method_14_code
def yn_M_shown : MethodName := ⟨"ControlDeskModel", "shown", "(I)J"⟩
abbrev bc_M_peek : ByteArray := prog_4_method_15_code
def yn_M_peek : MethodName := ⟨"ControlDeskModel", "peek", "(I)J"⟩
abbrev bc_M_through : ByteArray := prog_4_method_16_code
def yn_M_through : MethodName := ⟨"ControlDeskModel", "through", "(IJJ)V"⟩
abbrev bc_M_writeStatus : ByteArray := prog_4_method_17_code
def yn_M_writeStatus : MethodName := ⟨"ControlDeskModel", "writeStatus", "(JJ)V"⟩
abbrev bc_M_write : ByteArray := prog_4_method_18_code
def yn_M_write : MethodName := ⟨"ControlDeskModel", "write", "(IJ)V"⟩
abbrev bc_M_isIllegal : ByteArray := prog_4_method_19_code
def yn_M_isIllegal : MethodName := ⟨"ControlDeskModel", "isIllegal", "(IZ)Z"⟩
abbrev bc_M_access : ByteArray := prog_4_method_20_code
def yn_M_access : MethodName := ⟨"ControlDeskModel", "access", "(IIZJ)I"⟩
abbrev bc_M_had : ByteArray := prog_4_method_21_code
def yn_M_had : MethodName := ⟨"ControlDeskModel", "had", "()J"⟩
abbrev bc_M_beginning : ByteArray := prog_4_method_22_code
def yn_M_beginning : MethodName := ⟨"ControlDeskModel", "beginning", "(JZI)J"⟩
abbrev bc_M_trap : ByteArray := prog_4_method_23_code
def yn_M_trap : MethodName := ⟨"ControlDeskModel", "trap", "(ZIJJ)J"⟩
abbrev bc_M_back : ByteArray := prog_4_method_24_code
def yn_M_back : MethodName := ⟨"ControlDeskModel", "back", "(Z)Z"⟩
abbrev bc_M_place : ByteArray := prog_4_method_25_code
def yn_M_place : MethodName := ⟨"ControlDeskModel", "place", "()J"⟩
abbrev bc_M_isPending : ByteArray := prog_4_method_26_code
def yn_M_isPending : MethodName := ⟨"ControlDeskModel", "isPending", "(I)Z"⟩
abbrev bc_M_mayBe : ByteArray := prog_4_method_27_code
def yn_M_mayBe : MethodName := ⟨"ControlDeskModel", "mayBe", "(IZ)Z"⟩
abbrev bc_M_first : ByteArray := prog_4_method_28_code
def yn_M_first : MethodName := ⟨"ControlDeskModel", "first", "(Z)I"⟩
abbrev bc_M_taken : ByteArray := prog_4_method_29_code
def yn_M_taken : MethodName := ⟨"ControlDeskModel", "taken", "()I"⟩
abbrev bc_M_wakes : ByteArray := prog_4_method_30_code
def yn_M_wakes : MethodName := ⟨"ControlDeskModel", "wakes", "()Z"⟩
abbrev bc_M_line : ByteArray := prog_4_method_31_code
def yn_M_line : MethodName := ⟨"ControlDeskModel", "line", "(IZ)V"⟩
abbrev bc_M_allowed : ByteArray := prog_4_method_32_code
def yn_M_allowed : MethodName := ⟨"ControlDeskModel", "allowed", "(I)Z"⟩
abbrev bc_M_floats : ByteArray := prog_4_method_33_code
def yn_M_floats : MethodName := ⟨"ControlDeskModel", "floats", "()Z"⟩
abbrev bc_M_dirty : ByteArray := prog_4_method_34_code
def yn_M_dirty : MethodName := ⟨"ControlDeskModel", "dirty", "()V"⟩
abbrev bc_M_count : ByteArray := prog_4_method_35_code
def yn_M_count : MethodName := ⟨"ControlDeskModel", "count", "(JJ)V"⟩
abbrev bc_M_time : ByteArray := prog_4_method_36_code
def yn_M_time : MethodName := ⟨"ControlDeskModel", "time", "(J)V"⟩
abbrev bc_L_cell : ByteArray := method_2_code
def yn_L_cell : MethodName := ⟨"ControlDeskLaw", "cell", "([II)I"⟩
abbrev bc_L_access : ByteArray := method_3_code
def yn_L_access : MethodName := ⟨"ControlDeskLaw", "access", "(LControlDesk;IIZJ[J)I"⟩
abbrev bc_L_trap : ByteArray := method_4_code
def yn_L_trap : MethodName := ⟨"ControlDeskLaw", "trap", "(LControlDesk;ZIJJ[J)I"⟩
abbrev bc_L_line : ByteArray := method_5_code
def yn_L_line : MethodName := ⟨"ControlDeskLaw", "line", "(LControlDesk;IZ)I"⟩
abbrev bc_L_allowed : ByteArray := method_6_code
def yn_L_allowed : MethodName := ⟨"ControlDeskLaw", "allowed", "(LControlDesk;I[J)I"⟩
end
section
theorem dc_X_init_0 : decode bc_X_init 0 = .ok (.aload_n 0, 1) := by decide +kernel
theorem dc_X_init_1 : decode bc_X_init 1 = .ok (.invokespecial 3, 3) := by decide +kernel
theorem dc_X_init_4 : decode bc_X_init 4 = .ok (.aload_n 0, 1) := by decide +kernel
theorem dc_X_init_5 : decode bc_X_init 5 = .ok (.new 9, 3) := by decide +kernel
theorem dc_X_init_8 : decode bc_X_init 8 = .ok (.dup, 1) := by decide +kernel
theorem dc_X_init_9 : decode bc_X_init 9 = .ok (.invokespecial 11, 3) := by decide +kernel
theorem dc_X_init_12 : decode bc_X_init 12 = .ok (.putfield 12, 3) := by decide +kernel
theorem dc_X_init_15 : decode bc_X_init 15 = .ok (.aload_n 0, 1) := by decide +kernel
theorem dc_X_init_16 : decode bc_X_init 16 = .ok (.new 9, 3) := by decide +kernel
theorem dc_X_init_19 : decode bc_X_init 19 = .ok (.dup, 1) := by decide +kernel
theorem dc_X_init_20 : decode bc_X_init 20 = .ok (.invokespecial 11, 3) := by decide +kernel
theorem dc_X_init_23 : decode bc_X_init 23 = .ok (.putfield 16, 3) := by decide +kernel
theorem dc_X_init_26 : decode bc_X_init 26 = .ok (.aload_n 0, 1) := by decide +kernel
theorem dc_X_init_27 : decode bc_X_init 27 = .ok (.iconst 3, 1) := by decide +kernel
theorem dc_X_init_28 : decode bc_X_init 28 = .ok (.putfield 19, 3) := by decide +kernel
theorem dc_X_init_31 : decode bc_X_init 31 = .ok (.aload_n 0, 1) := by decide +kernel
theorem dc_X_init_32 : decode bc_X_init 32 = .ok (.iload_n 1, 1) := by decide +kernel
theorem dc_X_init_33 : decode bc_X_init 33 = .ok (.ifCond .lt 13, 3) := by decide +kernel
theorem dc_X_init_36 : decode bc_X_init 36 = .ok (.iload_n 1, 1) := by decide +kernel
theorem dc_X_init_37 : decode bc_X_init 37 = .ok (.iconst 3, 1) := by decide +kernel
theorem dc_X_init_38 : decode bc_X_init 38 = .ok (.if_icmp .gt 8, 3) := by decide +kernel
theorem dc_X_init_41 : decode bc_X_init 41 = .ok (.iload_n 1, 1) := by decide +kernel
theorem dc_X_init_42 : decode bc_X_init 42 = .ok (.i2l, 1) := by decide +kernel
theorem dc_X_init_43 : decode bc_X_init 43 = .ok (.goto 4, 3) := by decide +kernel
theorem dc_X_init_46 : decode bc_X_init 46 = .ok (.lconst 0, 1) := by decide +kernel
theorem dc_X_init_47 : decode bc_X_init 47 = .ok (.putfield 23, 3) := by decide +kernel
theorem dc_X_init_50 : decode bc_X_init 50 = .ok (.return_, 1) := by decide +kernel
theorem dc_X_mode_0 : decode bc_X_mode 0 = .ok (.aload_n 0, 1) := by decide +kernel
theorem dc_X_mode_1 : decode bc_X_mode 1 = .ok (.getfield 19, 3) := by decide +kernel
theorem dc_X_mode_4 : decode bc_X_mode 4 = .ok (.ireturn, 1) := by decide +kernel
theorem dc_X_dataMode_0 : decode bc_X_dataMode 0 = .ok (.aload_n 0, 1) := by decide +kernel
theorem dc_X_dataMode_1 : decode bc_X_dataMode 1 = .ok (.ldc2_w 27, 3) := by decide +kernel
theorem dc_X_dataMode_4 : decode bc_X_dataMode 4 = .ok (.invokevirtual 29, 3) := by decide +kernel
theorem dc_X_dataMode_7 : decode bc_X_dataMode 7 = .ok (.ifCond .eq 10, 3) := by decide +kernel
theorem dc_X_dataMode_10 : decode bc_X_dataMode 10 = .ok (.aload_n 0, 1) := by decide +kernel
theorem dc_X_dataMode_11 : decode bc_X_dataMode 11 = .ok (.invokevirtual 33, 3) := by decide +kernel
theorem dc_X_dataMode_14 : decode bc_X_dataMode 14 = .ok (.goto 7, 3) := by decide +kernel
theorem dc_X_dataMode_17 : decode bc_X_dataMode 17 = .ok (.aload_n 0, 1) := by decide +kernel
theorem dc_X_dataMode_18 : decode bc_X_dataMode 18 = .ok (.getfield 19, 3) := by decide +kernel
theorem dc_X_dataMode_21 : decode bc_X_dataMode 21 = .ok (.ireturn, 1) := by decide +kernel
theorem dc_X_access_0 : decode bc_X_access 0 = .ok (.iload_n 1, 1) := by decide +kernel
theorem dc_X_access_1 : decode bc_X_access 1 = .ok (.ifCond .lt 10, 3) := by decide +kernel
theorem dc_X_access_4 : decode bc_X_access 4 = .ok (.iload_n 1, 1) := by decide +kernel
theorem dc_X_access_5 : decode bc_X_access 5 = .ok (.sipush 4095, 3) := by decide +kernel
theorem dc_X_access_8 : decode bc_X_access 8 = .ok (.if_icmp .le 13, 3) := by decide +kernel
theorem dc_X_access_11 : decode bc_X_access 11 = .ok (.new 37, 3) := by decide +kernel
theorem dc_X_access_14 : decode bc_X_access 14 = .ok (.dup, 1) := by decide +kernel
theorem dc_X_access_15 : decode bc_X_access 15 = .ok (.ldc 39, 2) := by decide +kernel
theorem dc_X_access_17 : decode bc_X_access 17 = .ok (.invokespecial 41, 3) := by decide +kernel
theorem dc_X_access_20 : decode bc_X_access 20 = .ok (.athrow, 1) := by decide +kernel
theorem dc_X_access_21 : decode bc_X_access 21 = .ok (.iload_n 2, 1) := by decide +kernel
theorem dc_X_access_22 : decode bc_X_access 22 = .ok (.iconst 1, 1) := by decide +kernel
theorem dc_X_access_23 : decode bc_X_access 23 = .ok (.if_icmp .lt 8, 3) := by decide +kernel
theorem dc_X_access_26 : decode bc_X_access 26 = .ok (.iload_n 2, 1) := by decide +kernel
theorem dc_X_access_27 : decode bc_X_access 27 = .ok (.iconst 3, 1) := by decide +kernel
theorem dc_X_access_28 : decode bc_X_access 28 = .ok (.if_icmp .le 13, 3) := by decide +kernel
theorem dc_X_access_31 : decode bc_X_access 31 = .ok (.new 37, 3) := by decide +kernel
theorem dc_X_access_34 : decode bc_X_access 34 = .ok (.dup, 1) := by decide +kernel
theorem dc_X_access_35 : decode bc_X_access 35 = .ok (.ldc 44, 2) := by decide +kernel
theorem dc_X_access_37 : decode bc_X_access 37 = .ok (.invokespecial 41, 3) := by decide +kernel
theorem dc_X_access_40 : decode bc_X_access 40 = .ok (.athrow, 1) := by decide +kernel
theorem dc_X_access_41 : decode bc_X_access 41 = .ok (.aload_n 0, 1) := by decide +kernel
theorem dc_X_access_42 : decode bc_X_access 42 = .ok (.iload_n 1, 1) := by decide +kernel
theorem dc_X_access_43 : decode bc_X_access 43 = .ok (.iload_n 3, 1) := by decide +kernel
theorem dc_X_access_44 : decode bc_X_access 44 = .ok (.invokevirtual 46, 3) := by decide +kernel
theorem dc_X_access_47 : decode bc_X_access 47 = .ok (.ifCond .eq 5, 3) := by decide +kernel
theorem dc_X_access_50 : decode bc_X_access 50 = .ok (.iconst 2, 1) := by decide +kernel
theorem dc_X_access_51 : decode bc_X_access 51 = .ok (.ireturn, 1) := by decide +kernel
theorem dc_X_access_52 : decode bc_X_access 52 = .ok (.iload_n 1, 1) := by decide +kernel
theorem dc_X_access_53 : decode bc_X_access 53 = .ok (.invokestatic 50, 3) := by decide +kernel
theorem dc_X_access_56 : decode bc_X_access 56 = .ok (.ifCond .eq 28, 3) := by decide +kernel
theorem dc_X_access_59 : decode bc_X_access 59 = .ok (.iload_n 3, 1) := by decide +kernel
theorem dc_X_access_60 : decode bc_X_access 60 = .ok (.ifCond .eq 22, 3) := by decide +kernel
theorem dc_X_access_63 : decode bc_X_access 63 = .ok (.iload_n 1, 1) := by decide +kernel
theorem dc_X_access_64 : decode bc_X_access 64 = .ok (.invokestatic 54, 3) := by decide +kernel
theorem dc_X_access_67 : decode bc_X_access 67 = .ok (.ifCond .eq 15, 3) := by decide +kernel
theorem dc_X_access_70 : decode bc_X_access 70 = .ok (.aload_n 0, 1) := by decide +kernel
theorem dc_X_access_71 : decode bc_X_access 71 = .ok (.dup, 1) := by decide +kernel
theorem dc_X_access_72 : decode bc_X_access 72 = .ok (.getfield 57, 3) := by decide +kernel
theorem dc_X_access_75 : decode bc_X_access 75 = .ok (.ldc2_w 60, 3) := by decide +kernel
theorem dc_X_access_78 : decode bc_X_access 78 = .ok (.lor, 1) := by decide +kernel
theorem dc_X_access_79 : decode bc_X_access 79 = .ok (.putfield 57, 3) := by decide +kernel
theorem dc_X_access_82 : decode bc_X_access 82 = .ok (.iconst 1, 1) := by decide +kernel
theorem dc_X_access_83 : decode bc_X_access 83 = .ok (.ireturn, 1) := by decide +kernel
theorem dc_X_access_84 : decode bc_X_access 84 = .ok (.aload_n 0, 1) := by decide +kernel
theorem dc_X_access_85 : decode bc_X_access 85 = .ok (.iload_n 1, 1) := by decide +kernel
theorem dc_X_access_86 : decode bc_X_access 86 = .ok (.invokevirtual 62, 3) := by decide +kernel
theorem dc_X_access_89 : decode bc_X_access 89 = .ok (.lstore 6, 2) := by decide +kernel
theorem dc_X_access_91 : decode bc_X_access 91 = .ok (.iload_n 3, 1) := by decide +kernel
theorem dc_X_access_92 : decode bc_X_access 92 = .ok (.ifCond .eq 21, 3) := by decide +kernel
theorem dc_X_access_95 : decode bc_X_access 95 = .ok (.aload_n 0, 1) := by decide +kernel
theorem dc_X_access_96 : decode bc_X_access 96 = .ok (.iload_n 1, 1) := by decide +kernel
theorem dc_X_access_97 : decode bc_X_access 97 = .ok (.iload_n 2, 1) := by decide +kernel
theorem dc_X_access_98 : decode bc_X_access 98 = .ok (.aload_n 0, 1) := by decide +kernel
theorem dc_X_access_99 : decode bc_X_access 99 = .ok (.iload_n 1, 1) := by decide +kernel
theorem dc_X_access_100 : decode bc_X_access 100 = .ok (.lload 6, 2) := by decide +kernel
theorem dc_X_access_102 : decode bc_X_access 102 = .ok (.invokevirtual 66, 3) := by decide +kernel
theorem dc_X_access_105 : decode bc_X_access 105 = .ok (.lload 4, 2) := by decide +kernel
theorem dc_X_access_107 : decode bc_X_access 107 = .ok (.invokestatic 70, 3) := by decide +kernel
theorem dc_X_access_110 : decode bc_X_access 110 = .ok (.invokevirtual 74, 3) := by decide +kernel
theorem dc_X_access_113 : decode bc_X_access 113 = .ok (.aload_n 0, 1) := by decide +kernel
theorem dc_X_access_114 : decode bc_X_access 114 = .ok (.lload 6, 2) := by decide +kernel
theorem dc_X_access_116 : decode bc_X_access 116 = .ok (.putfield 78, 3) := by decide +kernel
theorem dc_X_access_119 : decode bc_X_access 119 = .ok (.iconst 0, 1) := by decide +kernel
theorem dc_X_access_120 : decode bc_X_access 120 = .ok (.ireturn, 1) := by decide +kernel
theorem dc_X_had_0 : decode bc_X_had 0 = .ok (.aload_n 0, 1) := by decide +kernel
theorem dc_X_had_1 : decode bc_X_had 1 = .ok (.getfield 78, 3) := by decide +kernel
theorem dc_X_had_4 : decode bc_X_had 4 = .ok (.lreturn, 1) := by decide +kernel
theorem dc_X_peek_0 : decode bc_X_peek 0 = .ok (.aload_n 0, 1) := by decide +kernel
theorem dc_X_peek_1 : decode bc_X_peek 1 = .ok (.iload_n 1, 1) := by decide +kernel
theorem dc_X_peek_2 : decode bc_X_peek 2 = .ok (.invokevirtual 62, 3) := by decide +kernel
theorem dc_X_peek_5 : decode bc_X_peek 5 = .ok (.lreturn, 1) := by decide +kernel
theorem dc_X_trap_0 : decode bc_X_trap 0 = .ok (.iload_n 2, 1) := by decide +kernel
theorem dc_X_trap_1 : decode bc_X_trap 1 = .ok (.ifCond .lt 9, 3) := by decide +kernel
theorem dc_X_trap_4 : decode bc_X_trap 4 = .ok (.iload_n 2, 1) := by decide +kernel
theorem dc_X_trap_5 : decode bc_X_trap 5 = .ok (.bipush 63, 2) := by decide +kernel
theorem dc_X_trap_7 : decode bc_X_trap 7 = .ok (.if_icmp .le 13, 3) := by decide +kernel
theorem dc_X_trap_10 : decode bc_X_trap 10 = .ok (.new 37, 3) := by decide +kernel
theorem dc_X_trap_13 : decode bc_X_trap 13 = .ok (.dup, 1) := by decide +kernel
theorem dc_X_trap_14 : decode bc_X_trap 14 = .ok (.ldc 81, 2) := by decide +kernel
theorem dc_X_trap_16 : decode bc_X_trap 16 = .ok (.invokespecial 41, 3) := by decide +kernel
theorem dc_X_trap_19 : decode bc_X_trap 19 = .ok (.athrow, 1) := by decide +kernel
theorem dc_X_trap_20 : decode bc_X_trap 20 = .ok (.aload_n 0, 1) := by decide +kernel
theorem dc_X_trap_21 : decode bc_X_trap 21 = .ok (.iload_n 1, 1) := by decide +kernel
theorem dc_X_trap_22 : decode bc_X_trap 22 = .ok (.iload_n 2, 1) := by decide +kernel
theorem dc_X_trap_23 : decode bc_X_trap 23 = .ok (.invokevirtual 83, 3) := by decide +kernel
theorem dc_X_trap_26 : decode bc_X_trap 26 = .ok (.ifCond .eq 16, 3) := by decide +kernel
theorem dc_X_trap_29 : decode bc_X_trap 29 = .ok (.aload_n 0, 1) := by decide +kernel
theorem dc_X_trap_30 : decode bc_X_trap 30 = .ok (.getfield 16, 3) := by decide +kernel
theorem dc_X_trap_33 : decode bc_X_trap 33 = .ok (.astore 7, 2) := by decide +kernel
theorem dc_X_trap_35 : decode bc_X_trap 35 = .ok (.aload_n 0, 1) := by decide +kernel
theorem dc_X_trap_36 : decode bc_X_trap 36 = .ok (.invokevirtual 87, 3) := by decide +kernel
theorem dc_X_trap_39 : decode bc_X_trap 39 = .ok (.goto 13, 3) := by decide +kernel
theorem dc_X_trap_42 : decode bc_X_trap 42 = .ok (.aload_n 0, 1) := by decide +kernel
theorem dc_X_trap_43 : decode bc_X_trap 43 = .ok (.getfield 12, 3) := by decide +kernel
theorem dc_X_trap_46 : decode bc_X_trap 46 = .ok (.astore 7, 2) := by decide +kernel
theorem dc_X_trap_48 : decode bc_X_trap 48 = .ok (.aload_n 0, 1) := by decide +kernel
theorem dc_X_trap_49 : decode bc_X_trap 49 = .ok (.invokevirtual 90, 3) := by decide +kernel
theorem dc_X_trap_52 : decode bc_X_trap 52 = .ok (.aload 7, 2) := by decide +kernel
theorem dc_X_trap_54 : decode bc_X_trap 54 = .ok (.iload_n 1, 1) := by decide +kernel
theorem dc_X_trap_55 : decode bc_X_trap 55 = .ok (.iload_n 2, 1) := by decide +kernel
theorem dc_X_trap_56 : decode bc_X_trap 56 = .ok (.lload_n 3, 1) := by decide +kernel
theorem dc_X_trap_57 : decode bc_X_trap 57 = .ok (.lload 5, 2) := by decide +kernel
theorem dc_X_trap_59 : decode bc_X_trap 59 = .ok (.invokevirtual 93, 3) := by decide +kernel
theorem dc_X_trap_62 : decode bc_X_trap 62 = .ok (.aload_n 0, 1) := by decide +kernel
theorem dc_X_trap_63 : decode bc_X_trap 63 = .ok (.aload 7, 2) := by decide +kernel
theorem dc_X_trap_65 : decode bc_X_trap 65 = .ok (.iload_n 1, 1) := by decide +kernel
theorem dc_X_trap_66 : decode bc_X_trap 66 = .ok (.iload_n 2, 1) := by decide +kernel
theorem dc_X_trap_67 : decode bc_X_trap 67 = .ok (.invokevirtual 97, 3) := by decide +kernel
theorem dc_X_trap_70 : decode bc_X_trap 70 = .ok (.putfield 101, 3) := by decide +kernel
theorem dc_X_trap_73 : decode bc_X_trap 73 = .ok (.aload_n 0, 1) := by decide +kernel
theorem dc_X_trap_74 : decode bc_X_trap 74 = .ok (.getfield 101, 3) := by decide +kernel
theorem dc_X_trap_77 : decode bc_X_trap 77 = .ok (.lreturn, 1) := by decide +kernel
theorem dc_X_back_0 : decode bc_X_back 0 = .ok (.aload_n 0, 1) := by decide +kernel
theorem dc_X_back_1 : decode bc_X_back 1 = .ok (.iload_n 1, 1) := by decide +kernel
theorem dc_X_back_2 : decode bc_X_back 2 = .ok (.invokevirtual 104, 3) := by decide +kernel
theorem dc_X_back_5 : decode bc_X_back 5 = .ok (.ifCond .ne 5, 3) := by decide +kernel
theorem dc_X_back_8 : decode bc_X_back 8 = .ok (.iconst 0, 1) := by decide +kernel
theorem dc_X_back_9 : decode bc_X_back 9 = .ok (.ireturn, 1) := by decide +kernel
theorem dc_X_back_10 : decode bc_X_back 10 = .ok (.iload_n 1, 1) := by decide +kernel
theorem dc_X_back_11 : decode bc_X_back 11 = .ok (.ifCond .eq 10, 3) := by decide +kernel
theorem dc_X_back_14 : decode bc_X_back 14 = .ok (.aload_n 0, 1) := by decide +kernel
theorem dc_X_back_15 : decode bc_X_back 15 = .ok (.invokevirtual 108, 3) := by decide +kernel
theorem dc_X_back_18 : decode bc_X_back 18 = .ok (.goto 7, 3) := by decide +kernel
theorem dc_X_back_21 : decode bc_X_back 21 = .ok (.aload_n 0, 1) := by decide +kernel
theorem dc_X_back_22 : decode bc_X_back 22 = .ok (.invokevirtual 111, 3) := by decide +kernel
theorem dc_X_back_25 : decode bc_X_back 25 = .ok (.aload_n 0, 1) := by decide +kernel
theorem dc_X_back_26 : decode bc_X_back 26 = .ok (.getfield 19, 3) := by decide +kernel
theorem dc_X_back_29 : decode bc_X_back 29 = .ok (.iconst 3, 1) := by decide +kernel
theorem dc_X_back_30 : decode bc_X_back 30 = .ok (.if_icmp .eq 15, 3) := by decide +kernel
theorem dc_X_back_33 : decode bc_X_back 33 = .ok (.aload_n 0, 1) := by decide +kernel
theorem dc_X_back_34 : decode bc_X_back 34 = .ok (.dup, 1) := by decide +kernel
theorem dc_X_back_35 : decode bc_X_back 35 = .ok (.getfield 57, 3) := by decide +kernel
theorem dc_X_back_38 : decode bc_X_back 38 = .ok (.ldc2_w 114, 3) := by decide +kernel
theorem dc_X_back_41 : decode bc_X_back 41 = .ok (.land, 1) := by decide +kernel
theorem dc_X_back_42 : decode bc_X_back 42 = .ok (.putfield 57, 3) := by decide +kernel
theorem dc_X_back_45 : decode bc_X_back 45 = .ok (.iconst 1, 1) := by decide +kernel
theorem dc_X_back_46 : decode bc_X_back 46 = .ok (.ireturn, 1) := by decide +kernel
theorem dc_X_place_0 : decode bc_X_place 0 = .ok (.aload_n 0, 1) := by decide +kernel
theorem dc_X_place_1 : decode bc_X_place 1 = .ok (.getfield 101, 3) := by decide +kernel
theorem dc_X_place_4 : decode bc_X_place 4 = .ok (.lreturn, 1) := by decide +kernel
theorem dc_X_taken_0 : decode bc_X_taken 0 = .ok (.aload_n 0, 1) := by decide +kernel
theorem dc_X_taken_1 : decode bc_X_taken 1 = .ok (.invokevirtual 116, 3) := by decide +kernel
theorem dc_X_taken_4 : decode bc_X_taken 4 = .ok (.aload_n 0, 1) := by decide +kernel
theorem dc_X_taken_5 : decode bc_X_taken 5 = .ok (.getfield 120, 3) := by decide +kernel
theorem dc_X_taken_8 : decode bc_X_taken 8 = .ok (.land, 1) := by decide +kernel
theorem dc_X_taken_9 : decode bc_X_taken 9 = .ok (.lstore_n 1, 1) := by decide +kernel
theorem dc_X_taken_10 : decode bc_X_taken 10 = .ok (.iconst (-1), 1) := by decide +kernel
theorem dc_X_taken_11 : decode bc_X_taken 11 = .ok (.istore_n 3, 1) := by decide +kernel
theorem dc_X_taken_12 : decode bc_X_taken 12 = .ok (.aload_n 0, 1) := by decide +kernel
theorem dc_X_taken_13 : decode bc_X_taken 13 = .ok (.invokevirtual 123, 3) := by decide +kernel
theorem dc_X_taken_16 : decode bc_X_taken 16 = .ok (.ifCond .eq 17, 3) := by decide +kernel
theorem dc_X_taken_19 : decode bc_X_taken 19 = .ok (.lload_n 1, 1) := by decide +kernel
theorem dc_X_taken_20 : decode bc_X_taken 20 = .ok (.aload_n 0, 1) := by decide +kernel
theorem dc_X_taken_21 : decode bc_X_taken 21 = .ok (.getfield 127, 3) := by decide +kernel
theorem dc_X_taken_24 : decode bc_X_taken 24 = .ok (.ldc2_w 130, 3) := by decide +kernel
theorem dc_X_taken_27 : decode bc_X_taken 27 = .ok (.lxor, 1) := by decide +kernel
theorem dc_X_taken_28 : decode bc_X_taken 28 = .ok (.land, 1) := by decide +kernel
theorem dc_X_taken_29 : decode bc_X_taken 29 = .ok (.invokestatic 132, 3) := by decide +kernel
theorem dc_X_taken_32 : decode bc_X_taken 32 = .ok (.istore_n 3, 1) := by decide +kernel
theorem dc_X_taken_33 : decode bc_X_taken 33 = .ok (.iload_n 3, 1) := by decide +kernel
theorem dc_X_taken_34 : decode bc_X_taken 34 = .ok (.iconst (-1), 1) := by decide +kernel
theorem dc_X_taken_35 : decode bc_X_taken 35 = .ok (.if_icmp .ne 20, 3) := by decide +kernel
theorem dc_X_taken_38 : decode bc_X_taken 38 = .ok (.aload_n 0, 1) := by decide +kernel
theorem dc_X_taken_39 : decode bc_X_taken 39 = .ok (.invokevirtual 136, 3) := by decide +kernel
theorem dc_X_taken_42 : decode bc_X_taken 42 = .ok (.ifCond .eq 13, 3) := by decide +kernel
theorem dc_X_taken_45 : decode bc_X_taken 45 = .ok (.lload_n 1, 1) := by decide +kernel
theorem dc_X_taken_46 : decode bc_X_taken 46 = .ok (.aload_n 0, 1) := by decide +kernel
theorem dc_X_taken_47 : decode bc_X_taken 47 = .ok (.getfield 127, 3) := by decide +kernel
theorem dc_X_taken_50 : decode bc_X_taken 50 = .ok (.land, 1) := by decide +kernel
theorem dc_X_taken_51 : decode bc_X_taken 51 = .ok (.invokestatic 132, 3) := by decide +kernel
theorem dc_X_taken_54 : decode bc_X_taken 54 = .ok (.istore_n 3, 1) := by decide +kernel
theorem dc_X_taken_55 : decode bc_X_taken 55 = .ok (.iload_n 3, 1) := by decide +kernel
theorem dc_X_taken_56 : decode bc_X_taken 56 = .ok (.ireturn, 1) := by decide +kernel
theorem dc_X_wakes_0 : decode bc_X_wakes 0 = .ok (.aload_n 0, 1) := by decide +kernel
theorem dc_X_wakes_1 : decode bc_X_wakes 1 = .ok (.invokevirtual 116, 3) := by decide +kernel
theorem dc_X_wakes_4 : decode bc_X_wakes 4 = .ok (.aload_n 0, 1) := by decide +kernel
theorem dc_X_wakes_5 : decode bc_X_wakes 5 = .ok (.getfield 120, 3) := by decide +kernel
theorem dc_X_wakes_8 : decode bc_X_wakes 8 = .ok (.land, 1) := by decide +kernel
theorem dc_X_wakes_9 : decode bc_X_wakes 9 = .ok (.lconst 0, 1) := by decide +kernel
theorem dc_X_wakes_10 : decode bc_X_wakes 10 = .ok (.lcmp, 1) := by decide +kernel
theorem dc_X_wakes_11 : decode bc_X_wakes 11 = .ok (.ifCond .eq 7, 3) := by decide +kernel
theorem dc_X_wakes_14 : decode bc_X_wakes 14 = .ok (.iconst 1, 1) := by decide +kernel
theorem dc_X_wakes_15 : decode bc_X_wakes 15 = .ok (.goto 4, 3) := by decide +kernel
theorem dc_X_wakes_18 : decode bc_X_wakes 18 = .ok (.iconst 0, 1) := by decide +kernel
theorem dc_X_wakes_19 : decode bc_X_wakes 19 = .ok (.ireturn, 1) := by decide +kernel
theorem dc_X_line_0 : decode bc_X_line 0 = .ok (.iload_n 1, 1) := by decide +kernel
theorem dc_X_line_1 : decode bc_X_line 1 = .ok (.iconst 3, 1) := by decide +kernel
theorem dc_X_line_2 : decode bc_X_line 2 = .ok (.if_icmp .eq 31, 3) := by decide +kernel
theorem dc_X_line_5 : decode bc_X_line 5 = .ok (.iload_n 1, 1) := by decide +kernel
theorem dc_X_line_6 : decode bc_X_line 6 = .ok (.bipush 7, 2) := by decide +kernel
theorem dc_X_line_8 : decode bc_X_line 8 = .ok (.if_icmp .eq 25, 3) := by decide +kernel
theorem dc_X_line_11 : decode bc_X_line 11 = .ok (.iload_n 1, 1) := by decide +kernel
theorem dc_X_line_12 : decode bc_X_line 12 = .ok (.bipush 9, 2) := by decide +kernel
theorem dc_X_line_14 : decode bc_X_line 14 = .ok (.if_icmp .eq 19, 3) := by decide +kernel
theorem dc_X_line_17 : decode bc_X_line 17 = .ok (.iload_n 1, 1) := by decide +kernel
theorem dc_X_line_18 : decode bc_X_line 18 = .ok (.bipush 11, 2) := by decide +kernel
theorem dc_X_line_20 : decode bc_X_line 20 = .ok (.if_icmp .eq 13, 3) := by decide +kernel
theorem dc_X_line_23 : decode bc_X_line 23 = .ok (.new 37, 3) := by decide +kernel
theorem dc_X_line_26 : decode bc_X_line 26 = .ok (.dup, 1) := by decide +kernel
theorem dc_X_line_27 : decode bc_X_line 27 = .ok (.ldc 139, 2) := by decide +kernel
theorem dc_X_line_29 : decode bc_X_line 29 = .ok (.invokespecial 41, 3) := by decide +kernel
theorem dc_X_line_32 : decode bc_X_line 32 = .ok (.athrow, 1) := by decide +kernel
theorem dc_X_line_33 : decode bc_X_line 33 = .ok (.lconst 1, 1) := by decide +kernel
theorem dc_X_line_34 : decode bc_X_line 34 = .ok (.iload_n 1, 1) := by decide +kernel
theorem dc_X_line_35 : decode bc_X_line 35 = .ok (.lshl, 1) := by decide +kernel
theorem dc_X_line_36 : decode bc_X_line 36 = .ok (.lstore_n 3, 1) := by decide +kernel
theorem dc_X_line_37 : decode bc_X_line 37 = .ok (.aload_n 0, 1) := by decide +kernel
theorem dc_X_line_38 : decode bc_X_line 38 = .ok (.iload_n 2, 1) := by decide +kernel
theorem dc_X_line_39 : decode bc_X_line 39 = .ok (.ifCond .eq 12, 3) := by decide +kernel
theorem dc_X_line_42 : decode bc_X_line 42 = .ok (.aload_n 0, 1) := by decide +kernel
theorem dc_X_line_43 : decode bc_X_line 43 = .ok (.getfield 141, 3) := by decide +kernel
theorem dc_X_line_46 : decode bc_X_line 46 = .ok (.lload_n 3, 1) := by decide +kernel
theorem dc_X_line_47 : decode bc_X_line 47 = .ok (.lor, 1) := by decide +kernel
theorem dc_X_line_48 : decode bc_X_line 48 = .ok (.goto 13, 3) := by decide +kernel
theorem dc_X_line_51 : decode bc_X_line 51 = .ok (.aload_n 0, 1) := by decide +kernel
theorem dc_X_line_52 : decode bc_X_line 52 = .ok (.getfield 141, 3) := by decide +kernel
theorem dc_X_line_55 : decode bc_X_line 55 = .ok (.lload_n 3, 1) := by decide +kernel
theorem dc_X_line_56 : decode bc_X_line 56 = .ok (.ldc2_w 130, 3) := by decide +kernel
theorem dc_X_line_59 : decode bc_X_line 59 = .ok (.lxor, 1) := by decide +kernel
theorem dc_X_line_60 : decode bc_X_line 60 = .ok (.land, 1) := by decide +kernel
theorem dc_X_line_61 : decode bc_X_line 61 = .ok (.putfield 141, 3) := by decide +kernel
theorem dc_X_line_64 : decode bc_X_line 64 = .ok (.return_, 1) := by decide +kernel
theorem dc_X_allowed_0 : decode bc_X_allowed 0 = .ok (.iload_n 1, 1) := by decide +kernel
theorem dc_X_allowed_1 : decode bc_X_allowed 1 = .ok (.ifCond .eq 18, 3) := by decide +kernel
theorem dc_X_allowed_4 : decode bc_X_allowed 4 = .ok (.iload_n 1, 1) := by decide +kernel
theorem dc_X_allowed_5 : decode bc_X_allowed 5 = .ok (.iconst 1, 1) := by decide +kernel
theorem dc_X_allowed_6 : decode bc_X_allowed 6 = .ok (.if_icmp .eq 13, 3) := by decide +kernel
theorem dc_X_allowed_9 : decode bc_X_allowed 9 = .ok (.new 37, 3) := by decide +kernel
theorem dc_X_allowed_12 : decode bc_X_allowed 12 = .ok (.dup, 1) := by decide +kernel
theorem dc_X_allowed_13 : decode bc_X_allowed 13 = .ok (.ldc 144, 2) := by decide +kernel
theorem dc_X_allowed_15 : decode bc_X_allowed 15 = .ok (.invokespecial 41, 3) := by decide +kernel
theorem dc_X_allowed_18 : decode bc_X_allowed 18 = .ok (.athrow, 1) := by decide +kernel
theorem dc_X_allowed_19 : decode bc_X_allowed 19 = .ok (.aload_n 0, 1) := by decide +kernel
theorem dc_X_allowed_20 : decode bc_X_allowed 20 = .ok (.iload_n 1, 1) := by decide +kernel
theorem dc_X_allowed_21 : decode bc_X_allowed 21 = .ok (.ifCond .ne 9, 3) := by decide +kernel
theorem dc_X_allowed_24 : decode bc_X_allowed 24 = .ok (.ldc2_w 146, 3) := by decide +kernel
theorem dc_X_allowed_27 : decode bc_X_allowed 27 = .ok (.goto 6, 3) := by decide +kernel
theorem dc_X_allowed_30 : decode bc_X_allowed 30 = .ok (.ldc2_w 148, 3) := by decide +kernel
theorem dc_X_allowed_33 : decode bc_X_allowed 33 = .ok (.invokevirtual 150, 3) := by decide +kernel
theorem dc_X_allowed_36 : decode bc_X_allowed 36 = .ok (.ireturn, 1) := by decide +kernel
theorem dc_X_floats_0 : decode bc_X_floats 0 = .ok (.aload_n 0, 1) := by decide +kernel
theorem dc_X_floats_1 : decode bc_X_floats 1 = .ok (.ldc2_w 60, 3) := by decide +kernel
theorem dc_X_floats_4 : decode bc_X_floats 4 = .ok (.invokevirtual 29, 3) := by decide +kernel
theorem dc_X_floats_7 : decode bc_X_floats 7 = .ok (.ireturn, 1) := by decide +kernel
theorem dc_X_dirty_0 : decode bc_X_dirty 0 = .ok (.aload_n 0, 1) := by decide +kernel
theorem dc_X_dirty_1 : decode bc_X_dirty 1 = .ok (.ldc2_w 60, 3) := by decide +kernel
theorem dc_X_dirty_4 : decode bc_X_dirty 4 = .ok (.invokevirtual 29, 3) := by decide +kernel
theorem dc_X_dirty_7 : decode bc_X_dirty 7 = .ok (.ifCond .eq 15, 3) := by decide +kernel
theorem dc_X_dirty_10 : decode bc_X_dirty 10 = .ok (.aload_n 0, 1) := by decide +kernel
theorem dc_X_dirty_11 : decode bc_X_dirty 11 = .ok (.dup, 1) := by decide +kernel
theorem dc_X_dirty_12 : decode bc_X_dirty 12 = .ok (.getfield 57, 3) := by decide +kernel
theorem dc_X_dirty_15 : decode bc_X_dirty 15 = .ok (.ldc2_w 60, 3) := by decide +kernel
theorem dc_X_dirty_18 : decode bc_X_dirty 18 = .ok (.lor, 1) := by decide +kernel
theorem dc_X_dirty_19 : decode bc_X_dirty 19 = .ok (.putfield 57, 3) := by decide +kernel
theorem dc_X_dirty_22 : decode bc_X_dirty 22 = .ok (.return_, 1) := by decide +kernel
theorem dc_X_count_0 : decode bc_X_count 0 = .ok (.aload_n 0, 1) := by decide +kernel
theorem dc_X_count_1 : decode bc_X_count 1 = .ok (.dup, 1) := by decide +kernel
theorem dc_X_count_2 : decode bc_X_count 2 = .ok (.getfield 153, 3) := by decide +kernel
theorem dc_X_count_5 : decode bc_X_count 5 = .ok (.lload_n 1, 1) := by decide +kernel
theorem dc_X_count_6 : decode bc_X_count 6 = .ok (.ladd, 1) := by decide +kernel
theorem dc_X_count_7 : decode bc_X_count 7 = .ok (.putfield 153, 3) := by decide +kernel
theorem dc_X_count_10 : decode bc_X_count 10 = .ok (.aload_n 0, 1) := by decide +kernel
theorem dc_X_count_11 : decode bc_X_count 11 = .ok (.dup, 1) := by decide +kernel
theorem dc_X_count_12 : decode bc_X_count 12 = .ok (.getfield 156, 3) := by decide +kernel
theorem dc_X_count_15 : decode bc_X_count 15 = .ok (.lload_n 3, 1) := by decide +kernel
theorem dc_X_count_16 : decode bc_X_count 16 = .ok (.ladd, 1) := by decide +kernel
theorem dc_X_count_17 : decode bc_X_count 17 = .ok (.putfield 156, 3) := by decide +kernel
theorem dc_X_count_20 : decode bc_X_count 20 = .ok (.return_, 1) := by decide +kernel
theorem dc_X_time_0 : decode bc_X_time 0 = .ok (.aload_n 0, 1) := by decide +kernel
theorem dc_X_time_1 : decode bc_X_time 1 = .ok (.lload_n 1, 1) := by decide +kernel
theorem dc_X_time_2 : decode bc_X_time 2 = .ok (.putfield 159, 3) := by decide +kernel
theorem dc_X_time_5 : decode bc_X_time 5 = .ok (.return_, 1) := by decide +kernel
theorem dc_X_has_0 : decode bc_X_has 0 = .ok (.aload_n 0, 1) := by decide +kernel
theorem dc_X_has_1 : decode bc_X_has 1 = .ok (.getfield 57, 3) := by decide +kernel
theorem dc_X_has_4 : decode bc_X_has 4 = .ok (.lload_n 1, 1) := by decide +kernel
theorem dc_X_has_5 : decode bc_X_has 5 = .ok (.land, 1) := by decide +kernel
theorem dc_X_has_6 : decode bc_X_has 6 = .ok (.lconst 0, 1) := by decide +kernel
theorem dc_X_has_7 : decode bc_X_has 7 = .ok (.lcmp, 1) := by decide +kernel
theorem dc_X_has_8 : decode bc_X_has 8 = .ok (.ifCond .eq 7, 3) := by decide +kernel
theorem dc_X_has_11 : decode bc_X_has 11 = .ok (.iconst 1, 1) := by decide +kernel
theorem dc_X_has_12 : decode bc_X_has 12 = .ok (.goto 4, 3) := by decide +kernel
theorem dc_X_has_15 : decode bc_X_has 15 = .ok (.iconst 0, 1) := by decide +kernel
theorem dc_X_has_16 : decode bc_X_has 16 = .ok (.ireturn, 1) := by decide +kernel
theorem dc_X_previousMachineMode_0 : decode bc_X_previousMachineMode 0 = .ok (.aload_n 0, 1) := by decide +kernel
theorem dc_X_previousMachineMode_1 : decode bc_X_previousMachineMode 1 = .ok (.getfield 57, 3) := by decide +kernel
theorem dc_X_previousMachineMode_4 : decode bc_X_previousMachineMode 4 = .ok (.ldc2_w 162, 3) := by decide +kernel
theorem dc_X_previousMachineMode_7 : decode bc_X_previousMachineMode 7 = .ok (.land, 1) := by decide +kernel
theorem dc_X_previousMachineMode_8 : decode bc_X_previousMachineMode 8 = .ok (.bipush 11, 2) := by decide +kernel
theorem dc_X_previousMachineMode_10 : decode bc_X_previousMachineMode 10 = .ok (.lushr, 1) := by decide +kernel
theorem dc_X_previousMachineMode_11 : decode bc_X_previousMachineMode 11 = .ok (.l2i, 1) := by decide +kernel
theorem dc_X_previousMachineMode_12 : decode bc_X_previousMachineMode 12 = .ok (.ireturn, 1) := by decide +kernel
theorem dc_X_machineOrSupervisorWithout_0 : decode bc_X_machineOrSupervisorWithout 0 = .ok (.aload_n 0, 1) := by decide +kernel
theorem dc_X_machineOrSupervisorWithout_1 : decode bc_X_machineOrSupervisorWithout 1 = .ok (.getfield 19, 3) := by decide +kernel
theorem dc_X_machineOrSupervisorWithout_4 : decode bc_X_machineOrSupervisorWithout 4 = .ok (.iconst 3, 1) := by decide +kernel
theorem dc_X_machineOrSupervisorWithout_5 : decode bc_X_machineOrSupervisorWithout 5 = .ok (.if_icmp .eq 19, 3) := by decide +kernel
theorem dc_X_machineOrSupervisorWithout_8 : decode bc_X_machineOrSupervisorWithout 8 = .ok (.aload_n 0, 1) := by decide +kernel
theorem dc_X_machineOrSupervisorWithout_9 : decode bc_X_machineOrSupervisorWithout 9 = .ok (.getfield 19, 3) := by decide +kernel
theorem dc_X_machineOrSupervisorWithout_12 : decode bc_X_machineOrSupervisorWithout 12 = .ok (.iconst 1, 1) := by decide +kernel
theorem dc_X_machineOrSupervisorWithout_13 : decode bc_X_machineOrSupervisorWithout 13 = .ok (.if_icmp .ne 15, 3) := by decide +kernel
theorem dc_X_machineOrSupervisorWithout_16 : decode bc_X_machineOrSupervisorWithout 16 = .ok (.aload_n 0, 1) := by decide +kernel
theorem dc_X_machineOrSupervisorWithout_17 : decode bc_X_machineOrSupervisorWithout 17 = .ok (.lload_n 1, 1) := by decide +kernel
theorem dc_X_machineOrSupervisorWithout_18 : decode bc_X_machineOrSupervisorWithout 18 = .ok (.invokevirtual 29, 3) := by decide +kernel
theorem dc_X_machineOrSupervisorWithout_21 : decode bc_X_machineOrSupervisorWithout 21 = .ok (.ifCond .ne 7, 3) := by decide +kernel
theorem dc_X_machineOrSupervisorWithout_24 : decode bc_X_machineOrSupervisorWithout 24 = .ok (.iconst 1, 1) := by decide +kernel
theorem dc_X_machineOrSupervisorWithout_25 : decode bc_X_machineOrSupervisorWithout 25 = .ok (.goto 4, 3) := by decide +kernel
theorem dc_X_machineOrSupervisorWithout_28 : decode bc_X_machineOrSupervisorWithout 28 = .ok (.iconst 0, 1) := by decide +kernel
theorem dc_X_machineOrSupervisorWithout_29 : decode bc_X_machineOrSupervisorWithout 29 = .ok (.ireturn, 1) := by decide +kernel
theorem dc_X_isFloat_0 : decode bc_X_isFloat 0 = .ok (.iload_n 0, 1) := by decide +kernel
theorem dc_X_isFloat_1 : decode bc_X_isFloat 1 = .ok (.iconst 1, 1) := by decide +kernel
theorem dc_X_isFloat_2 : decode bc_X_isFloat 2 = .ok (.if_icmp .lt 12, 3) := by decide +kernel
theorem dc_X_isFloat_5 : decode bc_X_isFloat 5 = .ok (.iload_n 0, 1) := by decide +kernel
theorem dc_X_isFloat_6 : decode bc_X_isFloat 6 = .ok (.iconst 3, 1) := by decide +kernel
theorem dc_X_isFloat_7 : decode bc_X_isFloat 7 = .ok (.if_icmp .gt 7, 3) := by decide +kernel
theorem dc_X_isFloat_10 : decode bc_X_isFloat 10 = .ok (.iconst 1, 1) := by decide +kernel
theorem dc_X_isFloat_11 : decode bc_X_isFloat 11 = .ok (.goto 4, 3) := by decide +kernel
theorem dc_X_isFloat_14 : decode bc_X_isFloat 14 = .ok (.iconst 0, 1) := by decide +kernel
theorem dc_X_isFloat_15 : decode bc_X_isFloat 15 = .ok (.ireturn, 1) := by decide +kernel
theorem dc_X_isElsewhere_0 : decode bc_X_isElsewhere 0 = .ok (.iload_n 0, 1) := by decide +kernel
theorem dc_X_isElsewhere_1 : decode bc_X_isElsewhere 1 = .ok (.invokestatic 54, 3) := by decide +kernel
theorem dc_X_isElsewhere_4 : decode bc_X_isElsewhere 4 = .ok (.ifCond .ne 31, 3) := by decide +kernel
theorem dc_X_isElsewhere_7 : decode bc_X_isElsewhere 7 = .ok (.iload_n 0, 1) := by decide +kernel
theorem dc_X_isElsewhere_8 : decode bc_X_isElsewhere 8 = .ok (.sipush 928, 3) := by decide +kernel
theorem dc_X_isElsewhere_11 : decode bc_X_isElsewhere 11 = .ok (.if_icmp .eq 24, 3) := by decide +kernel
theorem dc_X_isElsewhere_14 : decode bc_X_isElsewhere 14 = .ok (.iload_n 0, 1) := by decide +kernel
theorem dc_X_isElsewhere_15 : decode bc_X_isElsewhere 15 = .ok (.sipush 930, 3) := by decide +kernel
theorem dc_X_isElsewhere_18 : decode bc_X_isElsewhere 18 = .ok (.if_icmp .eq 17, 3) := by decide +kernel
theorem dc_X_isElsewhere_21 : decode bc_X_isElsewhere 21 = .ok (.iload_n 0, 1) := by decide +kernel
theorem dc_X_isElsewhere_22 : decode bc_X_isElsewhere 22 = .ok (.sipush 944, 3) := by decide +kernel
theorem dc_X_isElsewhere_25 : decode bc_X_isElsewhere 25 = .ok (.if_icmp .lt 14, 3) := by decide +kernel
theorem dc_X_isElsewhere_28 : decode bc_X_isElsewhere 28 = .ok (.iload_n 0, 1) := by decide +kernel
theorem dc_X_isElsewhere_29 : decode bc_X_isElsewhere 29 = .ok (.sipush 959, 3) := by decide +kernel
theorem dc_X_isElsewhere_32 : decode bc_X_isElsewhere 32 = .ok (.if_icmp .gt 7, 3) := by decide +kernel
theorem dc_X_isElsewhere_35 : decode bc_X_isElsewhere 35 = .ok (.iconst 1, 1) := by decide +kernel
theorem dc_X_isElsewhere_36 : decode bc_X_isElsewhere 36 = .ok (.goto 4, 3) := by decide +kernel
theorem dc_X_isElsewhere_39 : decode bc_X_isElsewhere 39 = .ok (.iconst 0, 1) := by decide +kernel
theorem dc_X_isElsewhere_40 : decode bc_X_isElsewhere 40 = .ok (.ireturn, 1) := by decide +kernel
theorem dc_X_isOpenCount_0 : decode bc_X_isOpenCount 0 = .ok (.iload_n 0, 1) := by decide +kernel
theorem dc_X_isOpenCount_1 : decode bc_X_isOpenCount 1 = .ok (.sipush 3072, 3) := by decide +kernel
theorem dc_X_isOpenCount_4 : decode bc_X_isOpenCount 4 = .ok (.if_icmp .lt 14, 3) := by decide +kernel
theorem dc_X_isOpenCount_7 : decode bc_X_isOpenCount 7 = .ok (.iload_n 0, 1) := by decide +kernel
theorem dc_X_isOpenCount_8 : decode bc_X_isOpenCount 8 = .ok (.sipush 3074, 3) := by decide +kernel
theorem dc_X_isOpenCount_11 : decode bc_X_isOpenCount 11 = .ok (.if_icmp .gt 7, 3) := by decide +kernel
theorem dc_X_isOpenCount_14 : decode bc_X_isOpenCount 14 = .ok (.iconst 1, 1) := by decide +kernel
theorem dc_X_isOpenCount_15 : decode bc_X_isOpenCount 15 = .ok (.goto 4, 3) := by decide +kernel
theorem dc_X_isOpenCount_18 : decode bc_X_isOpenCount 18 = .ok (.iconst 0, 1) := by decide +kernel
theorem dc_X_isOpenCount_19 : decode bc_X_isOpenCount 19 = .ok (.ireturn, 1) := by decide +kernel
theorem dc_X_isHere_0 : decode bc_X_isHere 0 = .ok (.iload_n 0, 1) := by decide +kernel
theorem dc_X_isHere_1 : decode bc_X_isHere 1 = .ok (.lookupswitch 269 #[(256, 267), (260, 267), (261, 267), (262, 267), (320, 267), (321, 267), (322, 267), (323, 267), (324, 267), (384, 267), (768, 267), (769, 267), (770, 267), (771, 267), (772, 267), (773, 267), (774, 267), (832, 267), (833, 267), (834, 267), (835, 267), (836, 267), (2816, 267), (2818, 267), (3072, 267), (3073, 267), (3074, 267), (3857, 267), (3858, 267), (3859, 267), (3860, 267), (3861, 267)], 267) := by decide +kernel
theorem dc_X_isHere_268 : decode bc_X_isHere 268 = .ok (.iconst 1, 1) := by decide +kernel
theorem dc_X_isHere_269 : decode bc_X_isHere 269 = .ok (.ireturn, 1) := by decide +kernel
theorem dc_X_isHere_270 : decode bc_X_isHere 270 = .ok (.iconst 0, 1) := by decide +kernel
theorem dc_X_isHere_271 : decode bc_X_isHere 271 = .ok (.ireturn, 1) := by decide +kernel
theorem dc_X_isIllegal_0 : decode bc_X_isIllegal 0 = .ok (.iload_n 1, 1) := by decide +kernel
theorem dc_X_isIllegal_1 : decode bc_X_isIllegal 1 = .ok (.bipush 8, 2) := by decide +kernel
theorem dc_X_isIllegal_3 : decode bc_X_isIllegal 3 = .ok (.ishr, 1) := by decide +kernel
theorem dc_X_isIllegal_4 : decode bc_X_isIllegal 4 = .ok (.iconst 3, 1) := by decide +kernel
theorem dc_X_isIllegal_5 : decode bc_X_isIllegal 5 = .ok (.iand, 1) := by decide +kernel
theorem dc_X_isIllegal_6 : decode bc_X_isIllegal 6 = .ok (.istore_n 3, 1) := by decide +kernel
theorem dc_X_isIllegal_7 : decode bc_X_isIllegal 7 = .ok (.iload_n 1, 1) := by decide +kernel
theorem dc_X_isIllegal_8 : decode bc_X_isIllegal 8 = .ok (.bipush 10, 2) := by decide +kernel
theorem dc_X_isIllegal_10 : decode bc_X_isIllegal 10 = .ok (.ishr, 1) := by decide +kernel
theorem dc_X_isIllegal_11 : decode bc_X_isIllegal 11 = .ok (.iconst 3, 1) := by decide +kernel
theorem dc_X_isIllegal_12 : decode bc_X_isIllegal 12 = .ok (.iand, 1) := by decide +kernel
theorem dc_X_isIllegal_13 : decode bc_X_isIllegal 13 = .ok (.iconst 3, 1) := by decide +kernel
theorem dc_X_isIllegal_14 : decode bc_X_isIllegal 14 = .ok (.if_icmp .ne 7, 3) := by decide +kernel
theorem dc_X_isIllegal_17 : decode bc_X_isIllegal 17 = .ok (.iconst 1, 1) := by decide +kernel
theorem dc_X_isIllegal_18 : decode bc_X_isIllegal 18 = .ok (.goto 4, 3) := by decide +kernel
theorem dc_X_isIllegal_21 : decode bc_X_isIllegal 21 = .ok (.iconst 0, 1) := by decide +kernel
theorem dc_X_isIllegal_22 : decode bc_X_isIllegal 22 = .ok (.istore 4, 2) := by decide +kernel
theorem dc_X_isIllegal_24 : decode bc_X_isIllegal 24 = .ok (.iload_n 1, 1) := by decide +kernel
theorem dc_X_isIllegal_25 : decode bc_X_isIllegal 25 = .ok (.invokestatic 164, 3) := by decide +kernel
theorem dc_X_isIllegal_28 : decode bc_X_isIllegal 28 = .ok (.ifCond .ne 10, 3) := by decide +kernel
theorem dc_X_isIllegal_31 : decode bc_X_isIllegal 31 = .ok (.iload_n 1, 1) := by decide +kernel
theorem dc_X_isIllegal_32 : decode bc_X_isIllegal 32 = .ok (.invokestatic 50, 3) := by decide +kernel
theorem dc_X_isIllegal_35 : decode bc_X_isIllegal 35 = .ok (.ifCond .eq 81, 3) := by decide +kernel
theorem dc_X_isIllegal_38 : decode bc_X_isIllegal 38 = .ok (.iload_n 3, 1) := by decide +kernel
theorem dc_X_isIllegal_39 : decode bc_X_isIllegal 39 = .ok (.aload_n 0, 1) := by decide +kernel
theorem dc_X_isIllegal_40 : decode bc_X_isIllegal 40 = .ok (.getfield 19, 3) := by decide +kernel
theorem dc_X_isIllegal_43 : decode bc_X_isIllegal 43 = .ok (.if_icmp .gt 73, 3) := by decide +kernel
theorem dc_X_isIllegal_46 : decode bc_X_isIllegal 46 = .ok (.iload_n 2, 1) := by decide +kernel
theorem dc_X_isIllegal_47 : decode bc_X_isIllegal 47 = .ok (.ifCond .eq 8, 3) := by decide +kernel
theorem dc_X_isIllegal_50 : decode bc_X_isIllegal 50 = .ok (.iload 4, 2) := by decide +kernel
theorem dc_X_isIllegal_52 : decode bc_X_isIllegal 52 = .ok (.ifCond .ne 64, 3) := by decide +kernel
theorem dc_X_isIllegal_55 : decode bc_X_isIllegal 55 = .ok (.iload_n 1, 1) := by decide +kernel
theorem dc_X_isIllegal_56 : decode bc_X_isIllegal 56 = .ok (.sipush 384, 3) := by decide +kernel
theorem dc_X_isIllegal_59 : decode bc_X_isIllegal 59 = .ok (.if_icmp .ne 21, 3) := by decide +kernel
theorem dc_X_isIllegal_62 : decode bc_X_isIllegal 62 = .ok (.aload_n 0, 1) := by decide +kernel
theorem dc_X_isIllegal_63 : decode bc_X_isIllegal 63 = .ok (.getfield 19, 3) := by decide +kernel
theorem dc_X_isIllegal_66 : decode bc_X_isIllegal 66 = .ok (.iconst 1, 1) := by decide +kernel
theorem dc_X_isIllegal_67 : decode bc_X_isIllegal 67 = .ok (.if_icmp .ne 13, 3) := by decide +kernel
theorem dc_X_isIllegal_70 : decode bc_X_isIllegal 70 = .ok (.aload_n 0, 1) := by decide +kernel
theorem dc_X_isIllegal_71 : decode bc_X_isIllegal 71 = .ok (.ldc2_w 148, 3) := by decide +kernel
theorem dc_X_isIllegal_74 : decode bc_X_isIllegal 74 = .ok (.invokevirtual 29, 3) := by decide +kernel
theorem dc_X_isIllegal_77 : decode bc_X_isIllegal 77 = .ok (.ifCond .ne 39, 3) := by decide +kernel
theorem dc_X_isIllegal_80 : decode bc_X_isIllegal 80 = .ok (.iload_n 1, 1) := by decide +kernel
theorem dc_X_isIllegal_81 : decode bc_X_isIllegal 81 = .ok (.invokestatic 54, 3) := by decide +kernel
theorem dc_X_isIllegal_84 : decode bc_X_isIllegal 84 = .ok (.ifCond .eq 13, 3) := by decide +kernel
theorem dc_X_isIllegal_87 : decode bc_X_isIllegal 87 = .ok (.aload_n 0, 1) := by decide +kernel
theorem dc_X_isIllegal_88 : decode bc_X_isIllegal 88 = .ok (.ldc2_w 60, 3) := by decide +kernel
theorem dc_X_isIllegal_91 : decode bc_X_isIllegal 91 = .ok (.invokevirtual 29, 3) := by decide +kernel
theorem dc_X_isIllegal_94 : decode bc_X_isIllegal 94 = .ok (.ifCond .eq 22, 3) := by decide +kernel
theorem dc_X_isIllegal_97 : decode bc_X_isIllegal 97 = .ok (.iload_n 1, 1) := by decide +kernel
theorem dc_X_isIllegal_98 : decode bc_X_isIllegal 98 = .ok (.invokestatic 167, 3) := by decide +kernel
theorem dc_X_isIllegal_101 : decode bc_X_isIllegal 101 = .ok (.ifCond .eq 19, 3) := by decide +kernel
theorem dc_X_isIllegal_104 : decode bc_X_isIllegal 104 = .ok (.aload_n 0, 1) := by decide +kernel
theorem dc_X_isIllegal_105 : decode bc_X_isIllegal 105 = .ok (.iload_n 1, 1) := by decide +kernel
theorem dc_X_isIllegal_106 : decode bc_X_isIllegal 106 = .ok (.sipush 3072, 3) := by decide +kernel
theorem dc_X_isIllegal_109 : decode bc_X_isIllegal 109 = .ok (.isub, 1) := by decide +kernel
theorem dc_X_isIllegal_110 : decode bc_X_isIllegal 110 = .ok (.invokevirtual 170, 3) := by decide +kernel
theorem dc_X_isIllegal_113 : decode bc_X_isIllegal 113 = .ok (.ifCond .eq 7, 3) := by decide +kernel
theorem dc_X_isIllegal_116 : decode bc_X_isIllegal 116 = .ok (.iconst 1, 1) := by decide +kernel
theorem dc_X_isIllegal_117 : decode bc_X_isIllegal 117 = .ok (.goto 4, 3) := by decide +kernel
theorem dc_X_isIllegal_120 : decode bc_X_isIllegal 120 = .ok (.iconst 0, 1) := by decide +kernel
theorem dc_X_isIllegal_121 : decode bc_X_isIllegal 121 = .ok (.ireturn, 1) := by decide +kernel
theorem dc_X_isClosed_0 : decode bc_X_isClosed 0 = .ok (.lconst 1, 1) := by decide +kernel
theorem dc_X_isClosed_1 : decode bc_X_isClosed 1 = .ok (.iload_n 1, 1) := by decide +kernel
theorem dc_X_isClosed_2 : decode bc_X_isClosed 2 = .ok (.lshl, 1) := by decide +kernel
theorem dc_X_isClosed_3 : decode bc_X_isClosed 3 = .ok (.lstore_n 2, 1) := by decide +kernel
theorem dc_X_isClosed_4 : decode bc_X_isClosed 4 = .ok (.aload_n 0, 1) := by decide +kernel
theorem dc_X_isClosed_5 : decode bc_X_isClosed 5 = .ok (.getfield 19, 3) := by decide +kernel
theorem dc_X_isClosed_8 : decode bc_X_isClosed 8 = .ok (.iconst 3, 1) := by decide +kernel
theorem dc_X_isClosed_9 : decode bc_X_isClosed 9 = .ok (.if_icmp .eq 17, 3) := by decide +kernel
theorem dc_X_isClosed_12 : decode bc_X_isClosed 12 = .ok (.aload_n 0, 1) := by decide +kernel
theorem dc_X_isClosed_13 : decode bc_X_isClosed 13 = .ok (.getfield 12, 3) := by decide +kernel
theorem dc_X_isClosed_16 : decode bc_X_isClosed 16 = .ok (.getfield 173, 3) := by decide +kernel
theorem dc_X_isClosed_19 : decode bc_X_isClosed 19 = .ok (.lload_n 2, 1) := by decide +kernel
theorem dc_X_isClosed_20 : decode bc_X_isClosed 20 = .ok (.land, 1) := by decide +kernel
theorem dc_X_isClosed_21 : decode bc_X_isClosed 21 = .ok (.lconst 0, 1) := by decide +kernel
theorem dc_X_isClosed_22 : decode bc_X_isClosed 22 = .ok (.lcmp, 1) := by decide +kernel
theorem dc_X_isClosed_23 : decode bc_X_isClosed 23 = .ok (.ifCond .eq 24, 3) := by decide +kernel
theorem dc_X_isClosed_26 : decode bc_X_isClosed 26 = .ok (.aload_n 0, 1) := by decide +kernel
theorem dc_X_isClosed_27 : decode bc_X_isClosed 27 = .ok (.getfield 19, 3) := by decide +kernel
theorem dc_X_isClosed_30 : decode bc_X_isClosed 30 = .ok (.ifCond .ne 21, 3) := by decide +kernel
theorem dc_X_isClosed_33 : decode bc_X_isClosed 33 = .ok (.aload_n 0, 1) := by decide +kernel
theorem dc_X_isClosed_34 : decode bc_X_isClosed 34 = .ok (.getfield 16, 3) := by decide +kernel
theorem dc_X_isClosed_37 : decode bc_X_isClosed 37 = .ok (.getfield 173, 3) := by decide +kernel
theorem dc_X_isClosed_40 : decode bc_X_isClosed 40 = .ok (.lload_n 2, 1) := by decide +kernel
theorem dc_X_isClosed_41 : decode bc_X_isClosed 41 = .ok (.land, 1) := by decide +kernel
theorem dc_X_isClosed_42 : decode bc_X_isClosed 42 = .ok (.lconst 0, 1) := by decide +kernel
theorem dc_X_isClosed_43 : decode bc_X_isClosed 43 = .ok (.lcmp, 1) := by decide +kernel
theorem dc_X_isClosed_44 : decode bc_X_isClosed 44 = .ok (.ifCond .ne 7, 3) := by decide +kernel
theorem dc_X_isClosed_47 : decode bc_X_isClosed 47 = .ok (.iconst 1, 1) := by decide +kernel
theorem dc_X_isClosed_48 : decode bc_X_isClosed 48 = .ok (.goto 4, 3) := by decide +kernel
theorem dc_X_isClosed_51 : decode bc_X_isClosed 51 = .ok (.iconst 0, 1) := by decide +kernel
theorem dc_X_isClosed_52 : decode bc_X_isClosed 52 = .ok (.ireturn, 1) := by decide +kernel
theorem dc_X_shownStatus_0 : decode bc_X_shownStatus 0 = .ok (.aload_n 0, 1) := by decide +kernel
theorem dc_X_shownStatus_1 : decode bc_X_shownStatus 1 = .ok (.getfield 57, 3) := by decide +kernel
theorem dc_X_shownStatus_4 : decode bc_X_shownStatus 4 = .ok (.ldc2_w 176, 3) := by decide +kernel
theorem dc_X_shownStatus_7 : decode bc_X_shownStatus 7 = .ok (.lor, 1) := by decide +kernel
theorem dc_X_shownStatus_8 : decode bc_X_shownStatus 8 = .ok (.lstore_n 1, 1) := by decide +kernel
theorem dc_X_shownStatus_9 : decode bc_X_shownStatus 9 = .ok (.aload_n 0, 1) := by decide +kernel
theorem dc_X_shownStatus_10 : decode bc_X_shownStatus 10 = .ok (.getfield 57, 3) := by decide +kernel
theorem dc_X_shownStatus_13 : decode bc_X_shownStatus 13 = .ok (.ldc2_w 60, 3) := by decide +kernel
theorem dc_X_shownStatus_16 : decode bc_X_shownStatus 16 = .ok (.land, 1) := by decide +kernel
theorem dc_X_shownStatus_17 : decode bc_X_shownStatus 17 = .ok (.ldc2_w 60, 3) := by decide +kernel
theorem dc_X_shownStatus_20 : decode bc_X_shownStatus 20 = .ok (.lcmp, 1) := by decide +kernel
theorem dc_X_shownStatus_21 : decode bc_X_shownStatus 21 = .ok (.ifCond .ne 11, 3) := by decide +kernel
theorem dc_X_shownStatus_24 : decode bc_X_shownStatus 24 = .ok (.lload_n 1, 1) := by decide +kernel
theorem dc_X_shownStatus_25 : decode bc_X_shownStatus 25 = .ok (.ldc2_w 178, 3) := by decide +kernel
theorem dc_X_shownStatus_28 : decode bc_X_shownStatus 28 = .ok (.lor, 1) := by decide +kernel
theorem dc_X_shownStatus_29 : decode bc_X_shownStatus 29 = .ok (.goto 4, 3) := by decide +kernel
theorem dc_X_shownStatus_32 : decode bc_X_shownStatus 32 = .ok (.lload_n 1, 1) := by decide +kernel
theorem dc_X_shownStatus_33 : decode bc_X_shownStatus 33 = .ok (.lreturn, 1) := by decide +kernel
theorem dc_X_pending_0 : decode bc_X_pending 0 = .ok (.aload_n 0, 1) := by decide +kernel
theorem dc_X_pending_1 : decode bc_X_pending 1 = .ok (.getfield 180, 3) := by decide +kernel
theorem dc_X_pending_4 : decode bc_X_pending 4 = .ok (.aload_n 0, 1) := by decide +kernel
theorem dc_X_pending_5 : decode bc_X_pending 5 = .ok (.getfield 141, 3) := by decide +kernel
theorem dc_X_pending_8 : decode bc_X_pending 8 = .ok (.lor, 1) := by decide +kernel
theorem dc_X_pending_9 : decode bc_X_pending 9 = .ok (.lreturn, 1) := by decide +kernel
theorem dc_X_shown_0 : decode bc_X_shown 0 = .ok (.iload_n 1, 1) := by decide +kernel
theorem dc_X_shown_1 : decode bc_X_shown 1 = .ok (.lookupswitch 414 #[(256, 240), (260, 268), (261, 341), (262, 349), (320, 357), (321, 365), (322, 373), (323, 381), (324, 283), (384, 389), (768, 235), (769, 249), (770, 253), (771, 258), (772, 263), (773, 293), (774, 301), (832, 309), (833, 317), (834, 325), (835, 333), (836, 278), (2816, 394), (2818, 399), (3072, 394), (3073, 404), (3074, 399), (3860, 409)], 235) := by decide +kernel
theorem dc_X_shown_236 : decode bc_X_shown 236 = .ok (.aload_n 0, 1) := by decide +kernel
theorem dc_X_shown_237 : decode bc_X_shown 237 = .ok (.invokevirtual 183, 3) := by decide +kernel
theorem dc_X_shown_240 : decode bc_X_shown 240 = .ok (.lreturn, 1) := by decide +kernel
theorem dc_X_shown_241 : decode bc_X_shown 241 = .ok (.aload_n 0, 1) := by decide +kernel
theorem dc_X_shown_242 : decode bc_X_shown 242 = .ok (.invokevirtual 183, 3) := by decide +kernel
theorem dc_X_shown_245 : decode bc_X_shown 245 = .ok (.ldc2_w 186, 3) := by decide +kernel
theorem dc_X_shown_248 : decode bc_X_shown 248 = .ok (.land, 1) := by decide +kernel
theorem dc_X_shown_249 : decode bc_X_shown 249 = .ok (.lreturn, 1) := by decide +kernel
theorem dc_X_shown_250 : decode bc_X_shown 250 = .ok (.ldc2_w 188, 3) := by decide +kernel
theorem dc_X_shown_253 : decode bc_X_shown 253 = .ok (.lreturn, 1) := by decide +kernel
theorem dc_X_shown_254 : decode bc_X_shown 254 = .ok (.aload_n 0, 1) := by decide +kernel
theorem dc_X_shown_255 : decode bc_X_shown 255 = .ok (.getfield 190, 3) := by decide +kernel
theorem dc_X_shown_258 : decode bc_X_shown 258 = .ok (.lreturn, 1) := by decide +kernel
theorem dc_X_shown_259 : decode bc_X_shown 259 = .ok (.aload_n 0, 1) := by decide +kernel
theorem dc_X_shown_260 : decode bc_X_shown 260 = .ok (.getfield 127, 3) := by decide +kernel
theorem dc_X_shown_263 : decode bc_X_shown 263 = .ok (.lreturn, 1) := by decide +kernel
theorem dc_X_shown_264 : decode bc_X_shown 264 = .ok (.aload_n 0, 1) := by decide +kernel
theorem dc_X_shown_265 : decode bc_X_shown 265 = .ok (.getfield 120, 3) := by decide +kernel
theorem dc_X_shown_268 : decode bc_X_shown 268 = .ok (.lreturn, 1) := by decide +kernel
theorem dc_X_shown_269 : decode bc_X_shown 269 = .ok (.aload_n 0, 1) := by decide +kernel
theorem dc_X_shown_270 : decode bc_X_shown 270 = .ok (.getfield 120, 3) := by decide +kernel
theorem dc_X_shown_273 : decode bc_X_shown 273 = .ok (.aload_n 0, 1) := by decide +kernel
theorem dc_X_shown_274 : decode bc_X_shown 274 = .ok (.getfield 127, 3) := by decide +kernel
theorem dc_X_shown_277 : decode bc_X_shown 277 = .ok (.land, 1) := by decide +kernel
theorem dc_X_shown_278 : decode bc_X_shown 278 = .ok (.lreturn, 1) := by decide +kernel
theorem dc_X_shown_279 : decode bc_X_shown 279 = .ok (.aload_n 0, 1) := by decide +kernel
theorem dc_X_shown_280 : decode bc_X_shown 280 = .ok (.invokevirtual 116, 3) := by decide +kernel
theorem dc_X_shown_283 : decode bc_X_shown 283 = .ok (.lreturn, 1) := by decide +kernel
theorem dc_X_shown_284 : decode bc_X_shown 284 = .ok (.aload_n 0, 1) := by decide +kernel
theorem dc_X_shown_285 : decode bc_X_shown 285 = .ok (.invokevirtual 116, 3) := by decide +kernel
theorem dc_X_shown_288 : decode bc_X_shown 288 = .ok (.aload_n 0, 1) := by decide +kernel
theorem dc_X_shown_289 : decode bc_X_shown 289 = .ok (.getfield 127, 3) := by decide +kernel
theorem dc_X_shown_292 : decode bc_X_shown 292 = .ok (.land, 1) := by decide +kernel
theorem dc_X_shown_293 : decode bc_X_shown 293 = .ok (.lreturn, 1) := by decide +kernel
theorem dc_X_shown_294 : decode bc_X_shown 294 = .ok (.aload_n 0, 1) := by decide +kernel
theorem dc_X_shown_295 : decode bc_X_shown 295 = .ok (.getfield 12, 3) := by decide +kernel
theorem dc_X_shown_298 : decode bc_X_shown 298 = .ok (.getfield 193, 3) := by decide +kernel
theorem dc_X_shown_301 : decode bc_X_shown 301 = .ok (.lreturn, 1) := by decide +kernel
theorem dc_X_shown_302 : decode bc_X_shown 302 = .ok (.aload_n 0, 1) := by decide +kernel
theorem dc_X_shown_303 : decode bc_X_shown 303 = .ok (.getfield 12, 3) := by decide +kernel
theorem dc_X_shown_306 : decode bc_X_shown 306 = .ok (.getfield 173, 3) := by decide +kernel
theorem dc_X_shown_309 : decode bc_X_shown 309 = .ok (.lreturn, 1) := by decide +kernel
theorem dc_X_shown_310 : decode bc_X_shown 310 = .ok (.aload_n 0, 1) := by decide +kernel
theorem dc_X_shown_311 : decode bc_X_shown 311 = .ok (.getfield 12, 3) := by decide +kernel
theorem dc_X_shown_314 : decode bc_X_shown 314 = .ok (.getfield 196, 3) := by decide +kernel
theorem dc_X_shown_317 : decode bc_X_shown 317 = .ok (.lreturn, 1) := by decide +kernel
theorem dc_X_shown_318 : decode bc_X_shown 318 = .ok (.aload_n 0, 1) := by decide +kernel
theorem dc_X_shown_319 : decode bc_X_shown 319 = .ok (.getfield 12, 3) := by decide +kernel
theorem dc_X_shown_322 : decode bc_X_shown 322 = .ok (.getfield 199, 3) := by decide +kernel
theorem dc_X_shown_325 : decode bc_X_shown 325 = .ok (.lreturn, 1) := by decide +kernel
theorem dc_X_shown_326 : decode bc_X_shown 326 = .ok (.aload_n 0, 1) := by decide +kernel
theorem dc_X_shown_327 : decode bc_X_shown 327 = .ok (.getfield 12, 3) := by decide +kernel
theorem dc_X_shown_330 : decode bc_X_shown 330 = .ok (.getfield 202, 3) := by decide +kernel
theorem dc_X_shown_333 : decode bc_X_shown 333 = .ok (.lreturn, 1) := by decide +kernel
theorem dc_X_shown_334 : decode bc_X_shown 334 = .ok (.aload_n 0, 1) := by decide +kernel
theorem dc_X_shown_335 : decode bc_X_shown 335 = .ok (.getfield 12, 3) := by decide +kernel
theorem dc_X_shown_338 : decode bc_X_shown 338 = .ok (.getfield 205, 3) := by decide +kernel
theorem dc_X_shown_341 : decode bc_X_shown 341 = .ok (.lreturn, 1) := by decide +kernel
theorem dc_X_shown_342 : decode bc_X_shown 342 = .ok (.aload_n 0, 1) := by decide +kernel
theorem dc_X_shown_343 : decode bc_X_shown 343 = .ok (.getfield 16, 3) := by decide +kernel
theorem dc_X_shown_346 : decode bc_X_shown 346 = .ok (.getfield 193, 3) := by decide +kernel
theorem dc_X_shown_349 : decode bc_X_shown 349 = .ok (.lreturn, 1) := by decide +kernel
theorem dc_X_shown_350 : decode bc_X_shown 350 = .ok (.aload_n 0, 1) := by decide +kernel
theorem dc_X_shown_351 : decode bc_X_shown 351 = .ok (.getfield 16, 3) := by decide +kernel
theorem dc_X_shown_354 : decode bc_X_shown 354 = .ok (.getfield 173, 3) := by decide +kernel
theorem dc_X_shown_357 : decode bc_X_shown 357 = .ok (.lreturn, 1) := by decide +kernel
theorem dc_X_shown_358 : decode bc_X_shown 358 = .ok (.aload_n 0, 1) := by decide +kernel
theorem dc_X_shown_359 : decode bc_X_shown 359 = .ok (.getfield 16, 3) := by decide +kernel
theorem dc_X_shown_362 : decode bc_X_shown 362 = .ok (.getfield 196, 3) := by decide +kernel
theorem dc_X_shown_365 : decode bc_X_shown 365 = .ok (.lreturn, 1) := by decide +kernel
theorem dc_X_shown_366 : decode bc_X_shown 366 = .ok (.aload_n 0, 1) := by decide +kernel
theorem dc_X_shown_367 : decode bc_X_shown 367 = .ok (.getfield 16, 3) := by decide +kernel
theorem dc_X_shown_370 : decode bc_X_shown 370 = .ok (.getfield 199, 3) := by decide +kernel
theorem dc_X_shown_373 : decode bc_X_shown 373 = .ok (.lreturn, 1) := by decide +kernel
theorem dc_X_shown_374 : decode bc_X_shown 374 = .ok (.aload_n 0, 1) := by decide +kernel
theorem dc_X_shown_375 : decode bc_X_shown 375 = .ok (.getfield 16, 3) := by decide +kernel
theorem dc_X_shown_378 : decode bc_X_shown 378 = .ok (.getfield 202, 3) := by decide +kernel
theorem dc_X_shown_381 : decode bc_X_shown 381 = .ok (.lreturn, 1) := by decide +kernel
theorem dc_X_shown_382 : decode bc_X_shown 382 = .ok (.aload_n 0, 1) := by decide +kernel
theorem dc_X_shown_383 : decode bc_X_shown 383 = .ok (.getfield 16, 3) := by decide +kernel
theorem dc_X_shown_386 : decode bc_X_shown 386 = .ok (.getfield 205, 3) := by decide +kernel
theorem dc_X_shown_389 : decode bc_X_shown 389 = .ok (.lreturn, 1) := by decide +kernel
theorem dc_X_shown_390 : decode bc_X_shown 390 = .ok (.aload_n 0, 1) := by decide +kernel
theorem dc_X_shown_391 : decode bc_X_shown 391 = .ok (.getfield 208, 3) := by decide +kernel
theorem dc_X_shown_394 : decode bc_X_shown 394 = .ok (.lreturn, 1) := by decide +kernel
theorem dc_X_shown_395 : decode bc_X_shown 395 = .ok (.aload_n 0, 1) := by decide +kernel
theorem dc_X_shown_396 : decode bc_X_shown 396 = .ok (.getfield 153, 3) := by decide +kernel
theorem dc_X_shown_399 : decode bc_X_shown 399 = .ok (.lreturn, 1) := by decide +kernel
theorem dc_X_shown_400 : decode bc_X_shown 400 = .ok (.aload_n 0, 1) := by decide +kernel
theorem dc_X_shown_401 : decode bc_X_shown 401 = .ok (.getfield 156, 3) := by decide +kernel
theorem dc_X_shown_404 : decode bc_X_shown 404 = .ok (.lreturn, 1) := by decide +kernel
theorem dc_X_shown_405 : decode bc_X_shown 405 = .ok (.aload_n 0, 1) := by decide +kernel
theorem dc_X_shown_406 : decode bc_X_shown 406 = .ok (.getfield 159, 3) := by decide +kernel
theorem dc_X_shown_409 : decode bc_X_shown 409 = .ok (.lreturn, 1) := by decide +kernel
theorem dc_X_shown_410 : decode bc_X_shown 410 = .ok (.aload_n 0, 1) := by decide +kernel
theorem dc_X_shown_411 : decode bc_X_shown 411 = .ok (.getfield 23, 3) := by decide +kernel
theorem dc_X_shown_414 : decode bc_X_shown 414 = .ok (.lreturn, 1) := by decide +kernel
theorem dc_X_shown_415 : decode bc_X_shown 415 = .ok (.lconst 0, 1) := by decide +kernel
theorem dc_X_shown_416 : decode bc_X_shown 416 = .ok (.lreturn, 1) := by decide +kernel
theorem dc_X_changeable_0 : decode bc_X_changeable 0 = .ok (.iload_n 1, 1) := by decide +kernel
theorem dc_X_changeable_1 : decode bc_X_changeable 1 = .ok (.sipush 836, 3) := by decide +kernel
theorem dc_X_changeable_4 : decode bc_X_changeable 4 = .ok (.if_icmp .ne 17, 3) := by decide +kernel
theorem dc_X_changeable_7 : decode bc_X_changeable 7 = .ok (.lload_n 2, 1) := by decide +kernel
theorem dc_X_changeable_8 : decode bc_X_changeable 8 = .ok (.aload_n 0, 1) := by decide +kernel
theorem dc_X_changeable_9 : decode bc_X_changeable 9 = .ok (.getfield 180, 3) := by decide +kernel
theorem dc_X_changeable_12 : decode bc_X_changeable 12 = .ok (.ldc2_w 211, 3) := by decide +kernel
theorem dc_X_changeable_15 : decode bc_X_changeable 15 = .ok (.invokestatic 213, 3) := by decide +kernel
theorem dc_X_changeable_18 : decode bc_X_changeable 18 = .ok (.goto 4, 3) := by decide +kernel
theorem dc_X_changeable_21 : decode bc_X_changeable 21 = .ok (.lload_n 2, 1) := by decide +kernel
theorem dc_X_changeable_22 : decode bc_X_changeable 22 = .ok (.lreturn, 1) := by decide +kernel
theorem dc_X_combined_0 : decode bc_X_combined 0 = .ok (.iload_n 0, 1) := by decide +kernel
theorem dc_X_combined_1 : decode bc_X_combined 1 = .ok (.lookupswitch 39 #[(2, 27), (3, 31)], 27) := by decide +kernel
theorem dc_X_combined_28 : decode bc_X_combined 28 = .ok (.lload_n 1, 1) := by decide +kernel
theorem dc_X_combined_29 : decode bc_X_combined 29 = .ok (.lload_n 3, 1) := by decide +kernel
theorem dc_X_combined_30 : decode bc_X_combined 30 = .ok (.lor, 1) := by decide +kernel
theorem dc_X_combined_31 : decode bc_X_combined 31 = .ok (.lreturn, 1) := by decide +kernel
theorem dc_X_combined_32 : decode bc_X_combined 32 = .ok (.lload_n 1, 1) := by decide +kernel
theorem dc_X_combined_33 : decode bc_X_combined 33 = .ok (.lload_n 3, 1) := by decide +kernel
theorem dc_X_combined_34 : decode bc_X_combined 34 = .ok (.ldc2_w 130, 3) := by decide +kernel
theorem dc_X_combined_37 : decode bc_X_combined 37 = .ok (.lxor, 1) := by decide +kernel
theorem dc_X_combined_38 : decode bc_X_combined 38 = .ok (.land, 1) := by decide +kernel
theorem dc_X_combined_39 : decode bc_X_combined 39 = .ok (.lreturn, 1) := by decide +kernel
theorem dc_X_combined_40 : decode bc_X_combined 40 = .ok (.lload_n 3, 1) := by decide +kernel
theorem dc_X_combined_41 : decode bc_X_combined 41 = .ok (.lreturn, 1) := by decide +kernel
theorem dc_X_merged_0 : decode bc_X_merged 0 = .ok (.lload_n 0, 1) := by decide +kernel
theorem dc_X_merged_1 : decode bc_X_merged 1 = .ok (.lload 4, 2) := by decide +kernel
theorem dc_X_merged_3 : decode bc_X_merged 3 = .ok (.ldc2_w 130, 3) := by decide +kernel
theorem dc_X_merged_6 : decode bc_X_merged 6 = .ok (.lxor, 1) := by decide +kernel
theorem dc_X_merged_7 : decode bc_X_merged 7 = .ok (.land, 1) := by decide +kernel
theorem dc_X_merged_8 : decode bc_X_merged 8 = .ok (.lload_n 2, 1) := by decide +kernel
theorem dc_X_merged_9 : decode bc_X_merged 9 = .ok (.lload 4, 2) := by decide +kernel
theorem dc_X_merged_11 : decode bc_X_merged 11 = .ok (.land, 1) := by decide +kernel
theorem dc_X_merged_12 : decode bc_X_merged 12 = .ok (.lor, 1) := by decide +kernel
theorem dc_X_merged_13 : decode bc_X_merged 13 = .ok (.lreturn, 1) := by decide +kernel
theorem dc_X_store_0 : decode bc_X_store 0 = .ok (.iload_n 1, 1) := by decide +kernel
theorem dc_X_store_1 : decode bc_X_store 1 = .ok (.lookupswitch 456 #[(256, 206), (260, 253), (261, 362), (262, 373), (320, 388), (321, 399), (322, 410), (323, 421), (324, 284), (384, 432), (768, 195), (770, 217), (771, 229), (772, 241), (773, 292), (774, 303), (832, 318), (833, 329), (834, 340), (835, 351), (836, 272), (2816, 440), (2818, 448)], 195) := by decide +kernel
theorem dc_X_store_196 : decode bc_X_store 196 = .ok (.aload_n 0, 1) := by decide +kernel
theorem dc_X_store_197 : decode bc_X_store 197 = .ok (.lload_n 2, 1) := by decide +kernel
theorem dc_X_store_198 : decode bc_X_store 198 = .ok (.ldc2_w 217, 3) := by decide +kernel
theorem dc_X_store_201 : decode bc_X_store 201 = .ok (.invokevirtual 219, 3) := by decide +kernel
theorem dc_X_store_204 : decode bc_X_store 204 = .ok (.goto 253, 3) := by decide +kernel
theorem dc_X_store_207 : decode bc_X_store 207 = .ok (.aload_n 0, 1) := by decide +kernel
theorem dc_X_store_208 : decode bc_X_store 208 = .ok (.lload_n 2, 1) := by decide +kernel
theorem dc_X_store_209 : decode bc_X_store 209 = .ok (.ldc2_w 223, 3) := by decide +kernel
theorem dc_X_store_212 : decode bc_X_store 212 = .ok (.invokevirtual 219, 3) := by decide +kernel
theorem dc_X_store_215 : decode bc_X_store 215 = .ok (.goto 242, 3) := by decide +kernel
theorem dc_X_store_218 : decode bc_X_store 218 = .ok (.aload_n 0, 1) := by decide +kernel
theorem dc_X_store_219 : decode bc_X_store 219 = .ok (.lload_n 2, 1) := by decide +kernel
theorem dc_X_store_220 : decode bc_X_store 220 = .ok (.ldc2_w 225, 3) := by decide +kernel
theorem dc_X_store_223 : decode bc_X_store 223 = .ok (.land, 1) := by decide +kernel
theorem dc_X_store_224 : decode bc_X_store 224 = .ok (.putfield 190, 3) := by decide +kernel
theorem dc_X_store_227 : decode bc_X_store 227 = .ok (.goto 230, 3) := by decide +kernel
theorem dc_X_store_230 : decode bc_X_store 230 = .ok (.aload_n 0, 1) := by decide +kernel
theorem dc_X_store_231 : decode bc_X_store 231 = .ok (.lload_n 2, 1) := by decide +kernel
theorem dc_X_store_232 : decode bc_X_store 232 = .ok (.ldc2_w 227, 3) := by decide +kernel
theorem dc_X_store_235 : decode bc_X_store 235 = .ok (.land, 1) := by decide +kernel
theorem dc_X_store_236 : decode bc_X_store 236 = .ok (.putfield 127, 3) := by decide +kernel
theorem dc_X_store_239 : decode bc_X_store 239 = .ok (.goto 218, 3) := by decide +kernel
theorem dc_X_store_242 : decode bc_X_store 242 = .ok (.aload_n 0, 1) := by decide +kernel
theorem dc_X_store_243 : decode bc_X_store 243 = .ok (.lload_n 2, 1) := by decide +kernel
theorem dc_X_store_244 : decode bc_X_store 244 = .ok (.ldc2_w 229, 3) := by decide +kernel
theorem dc_X_store_247 : decode bc_X_store 247 = .ok (.land, 1) := by decide +kernel
theorem dc_X_store_248 : decode bc_X_store 248 = .ok (.putfield 120, 3) := by decide +kernel
theorem dc_X_store_251 : decode bc_X_store 251 = .ok (.goto 206, 3) := by decide +kernel
theorem dc_X_store_254 : decode bc_X_store 254 = .ok (.aload_n 0, 1) := by decide +kernel
theorem dc_X_store_255 : decode bc_X_store 255 = .ok (.aload_n 0, 1) := by decide +kernel
theorem dc_X_store_256 : decode bc_X_store 256 = .ok (.getfield 120, 3) := by decide +kernel
theorem dc_X_store_259 : decode bc_X_store 259 = .ok (.lload_n 2, 1) := by decide +kernel
theorem dc_X_store_260 : decode bc_X_store 260 = .ok (.aload_n 0, 1) := by decide +kernel
theorem dc_X_store_261 : decode bc_X_store 261 = .ok (.getfield 127, 3) := by decide +kernel
theorem dc_X_store_264 : decode bc_X_store 264 = .ok (.invokestatic 213, 3) := by decide +kernel
theorem dc_X_store_267 : decode bc_X_store 267 = .ok (.putfield 120, 3) := by decide +kernel
theorem dc_X_store_270 : decode bc_X_store 270 = .ok (.goto 187, 3) := by decide +kernel
theorem dc_X_store_273 : decode bc_X_store 273 = .ok (.aload_n 0, 1) := by decide +kernel
theorem dc_X_store_274 : decode bc_X_store 274 = .ok (.lload_n 2, 1) := by decide +kernel
theorem dc_X_store_275 : decode bc_X_store 275 = .ok (.ldc2_w 227, 3) := by decide +kernel
theorem dc_X_store_278 : decode bc_X_store 278 = .ok (.land, 1) := by decide +kernel
theorem dc_X_store_279 : decode bc_X_store 279 = .ok (.putfield 180, 3) := by decide +kernel
theorem dc_X_store_282 : decode bc_X_store 282 = .ok (.goto 175, 3) := by decide +kernel
theorem dc_X_store_285 : decode bc_X_store 285 = .ok (.aload_n 0, 1) := by decide +kernel
theorem dc_X_store_286 : decode bc_X_store 286 = .ok (.lload_n 2, 1) := by decide +kernel
theorem dc_X_store_287 : decode bc_X_store 287 = .ok (.invokevirtual 231, 3) := by decide +kernel
theorem dc_X_store_290 : decode bc_X_store 290 = .ok (.goto 167, 3) := by decide +kernel
theorem dc_X_store_293 : decode bc_X_store 293 = .ok (.aload_n 0, 1) := by decide +kernel
theorem dc_X_store_294 : decode bc_X_store 294 = .ok (.getfield 12, 3) := by decide +kernel
theorem dc_X_store_297 : decode bc_X_store 297 = .ok (.lload_n 2, 1) := by decide +kernel
theorem dc_X_store_298 : decode bc_X_store 298 = .ok (.invokevirtual 235, 3) := by decide +kernel
theorem dc_X_store_301 : decode bc_X_store 301 = .ok (.goto 156, 3) := by decide +kernel
theorem dc_X_store_304 : decode bc_X_store 304 = .ok (.aload_n 0, 1) := by decide +kernel
theorem dc_X_store_305 : decode bc_X_store 305 = .ok (.getfield 12, 3) := by decide +kernel
theorem dc_X_store_308 : decode bc_X_store 308 = .ok (.lload_n 2, 1) := by decide +kernel
theorem dc_X_store_309 : decode bc_X_store 309 = .ok (.ldc2_w 238, 3) := by decide +kernel
theorem dc_X_store_312 : decode bc_X_store 312 = .ok (.land, 1) := by decide +kernel
theorem dc_X_store_313 : decode bc_X_store 313 = .ok (.putfield 173, 3) := by decide +kernel
theorem dc_X_store_316 : decode bc_X_store 316 = .ok (.goto 141, 3) := by decide +kernel
theorem dc_X_store_319 : decode bc_X_store 319 = .ok (.aload_n 0, 1) := by decide +kernel
theorem dc_X_store_320 : decode bc_X_store 320 = .ok (.getfield 12, 3) := by decide +kernel
theorem dc_X_store_323 : decode bc_X_store 323 = .ok (.lload_n 2, 1) := by decide +kernel
theorem dc_X_store_324 : decode bc_X_store 324 = .ok (.putfield 196, 3) := by decide +kernel
theorem dc_X_store_327 : decode bc_X_store 327 = .ok (.goto 130, 3) := by decide +kernel
theorem dc_X_store_330 : decode bc_X_store 330 = .ok (.aload_n 0, 1) := by decide +kernel
theorem dc_X_store_331 : decode bc_X_store 331 = .ok (.getfield 12, 3) := by decide +kernel
theorem dc_X_store_334 : decode bc_X_store 334 = .ok (.lload_n 2, 1) := by decide +kernel
theorem dc_X_store_335 : decode bc_X_store 335 = .ok (.invokevirtual 240, 3) := by decide +kernel
theorem dc_X_store_338 : decode bc_X_store 338 = .ok (.goto 119, 3) := by decide +kernel
theorem dc_X_store_341 : decode bc_X_store 341 = .ok (.aload_n 0, 1) := by decide +kernel
theorem dc_X_store_342 : decode bc_X_store 342 = .ok (.getfield 12, 3) := by decide +kernel
theorem dc_X_store_345 : decode bc_X_store 345 = .ok (.lload_n 2, 1) := by decide +kernel
theorem dc_X_store_346 : decode bc_X_store 346 = .ok (.putfield 202, 3) := by decide +kernel
theorem dc_X_store_349 : decode bc_X_store 349 = .ok (.goto 108, 3) := by decide +kernel
theorem dc_X_store_352 : decode bc_X_store 352 = .ok (.aload_n 0, 1) := by decide +kernel
theorem dc_X_store_353 : decode bc_X_store 353 = .ok (.getfield 12, 3) := by decide +kernel
theorem dc_X_store_356 : decode bc_X_store 356 = .ok (.lload_n 2, 1) := by decide +kernel
theorem dc_X_store_357 : decode bc_X_store 357 = .ok (.putfield 205, 3) := by decide +kernel
theorem dc_X_store_360 : decode bc_X_store 360 = .ok (.goto 97, 3) := by decide +kernel
theorem dc_X_store_363 : decode bc_X_store 363 = .ok (.aload_n 0, 1) := by decide +kernel
theorem dc_X_store_364 : decode bc_X_store 364 = .ok (.getfield 16, 3) := by decide +kernel
theorem dc_X_store_367 : decode bc_X_store 367 = .ok (.lload_n 2, 1) := by decide +kernel
theorem dc_X_store_368 : decode bc_X_store 368 = .ok (.invokevirtual 235, 3) := by decide +kernel
theorem dc_X_store_371 : decode bc_X_store 371 = .ok (.goto 86, 3) := by decide +kernel
theorem dc_X_store_374 : decode bc_X_store 374 = .ok (.aload_n 0, 1) := by decide +kernel
theorem dc_X_store_375 : decode bc_X_store 375 = .ok (.getfield 16, 3) := by decide +kernel
theorem dc_X_store_378 : decode bc_X_store 378 = .ok (.lload_n 2, 1) := by decide +kernel
theorem dc_X_store_379 : decode bc_X_store 379 = .ok (.ldc2_w 238, 3) := by decide +kernel
theorem dc_X_store_382 : decode bc_X_store 382 = .ok (.land, 1) := by decide +kernel
theorem dc_X_store_383 : decode bc_X_store 383 = .ok (.putfield 173, 3) := by decide +kernel
theorem dc_X_store_386 : decode bc_X_store 386 = .ok (.goto 71, 3) := by decide +kernel
theorem dc_X_store_389 : decode bc_X_store 389 = .ok (.aload_n 0, 1) := by decide +kernel
theorem dc_X_store_390 : decode bc_X_store 390 = .ok (.getfield 16, 3) := by decide +kernel
theorem dc_X_store_393 : decode bc_X_store 393 = .ok (.lload_n 2, 1) := by decide +kernel
theorem dc_X_store_394 : decode bc_X_store 394 = .ok (.putfield 196, 3) := by decide +kernel
theorem dc_X_store_397 : decode bc_X_store 397 = .ok (.goto 60, 3) := by decide +kernel
theorem dc_X_store_400 : decode bc_X_store 400 = .ok (.aload_n 0, 1) := by decide +kernel
theorem dc_X_store_401 : decode bc_X_store 401 = .ok (.getfield 16, 3) := by decide +kernel
theorem dc_X_store_404 : decode bc_X_store 404 = .ok (.lload_n 2, 1) := by decide +kernel
theorem dc_X_store_405 : decode bc_X_store 405 = .ok (.invokevirtual 240, 3) := by decide +kernel
theorem dc_X_store_408 : decode bc_X_store 408 = .ok (.goto 49, 3) := by decide +kernel
theorem dc_X_store_411 : decode bc_X_store 411 = .ok (.aload_n 0, 1) := by decide +kernel
theorem dc_X_store_412 : decode bc_X_store 412 = .ok (.getfield 16, 3) := by decide +kernel
theorem dc_X_store_415 : decode bc_X_store 415 = .ok (.lload_n 2, 1) := by decide +kernel
theorem dc_X_store_416 : decode bc_X_store 416 = .ok (.putfield 202, 3) := by decide +kernel
theorem dc_X_store_419 : decode bc_X_store 419 = .ok (.goto 38, 3) := by decide +kernel
theorem dc_X_store_422 : decode bc_X_store 422 = .ok (.aload_n 0, 1) := by decide +kernel
theorem dc_X_store_423 : decode bc_X_store 423 = .ok (.getfield 16, 3) := by decide +kernel
theorem dc_X_store_426 : decode bc_X_store 426 = .ok (.lload_n 2, 1) := by decide +kernel
theorem dc_X_store_427 : decode bc_X_store 427 = .ok (.putfield 205, 3) := by decide +kernel
theorem dc_X_store_430 : decode bc_X_store 430 = .ok (.goto 27, 3) := by decide +kernel
theorem dc_X_store_433 : decode bc_X_store 433 = .ok (.aload_n 0, 1) := by decide +kernel
theorem dc_X_store_434 : decode bc_X_store 434 = .ok (.lload_n 2, 1) := by decide +kernel
theorem dc_X_store_435 : decode bc_X_store 435 = .ok (.invokevirtual 243, 3) := by decide +kernel
theorem dc_X_store_438 : decode bc_X_store 438 = .ok (.goto 19, 3) := by decide +kernel
theorem dc_X_store_441 : decode bc_X_store 441 = .ok (.aload_n 0, 1) := by decide +kernel
theorem dc_X_store_442 : decode bc_X_store 442 = .ok (.lload_n 2, 1) := by decide +kernel
theorem dc_X_store_443 : decode bc_X_store 443 = .ok (.putfield 153, 3) := by decide +kernel
theorem dc_X_store_446 : decode bc_X_store 446 = .ok (.goto 11, 3) := by decide +kernel
theorem dc_X_store_449 : decode bc_X_store 449 = .ok (.aload_n 0, 1) := by decide +kernel
theorem dc_X_store_450 : decode bc_X_store 450 = .ok (.lload_n 2, 1) := by decide +kernel
theorem dc_X_store_451 : decode bc_X_store 451 = .ok (.putfield 156, 3) := by decide +kernel
theorem dc_X_store_454 : decode bc_X_store 454 = .ok (.goto 3, 3) := by decide +kernel
theorem dc_X_store_457 : decode bc_X_store 457 = .ok (.return_, 1) := by decide +kernel
theorem dc_X_storeStatus_0 : decode bc_X_storeStatus 0 = .ok (.aload_n 0, 1) := by decide +kernel
theorem dc_X_storeStatus_1 : decode bc_X_storeStatus 1 = .ok (.getfield 57, 3) := by decide +kernel
theorem dc_X_storeStatus_4 : decode bc_X_storeStatus 4 = .ok (.lload_n 1, 1) := by decide +kernel
theorem dc_X_storeStatus_5 : decode bc_X_storeStatus 5 = .ok (.lload_n 3, 1) := by decide +kernel
theorem dc_X_storeStatus_6 : decode bc_X_storeStatus 6 = .ok (.invokestatic 213, 3) := by decide +kernel
theorem dc_X_storeStatus_9 : decode bc_X_storeStatus 9 = .ok (.lstore 5, 2) := by decide +kernel
theorem dc_X_storeStatus_11 : decode bc_X_storeStatus 11 = .ok (.lload 5, 2) := by decide +kernel
theorem dc_X_storeStatus_13 : decode bc_X_storeStatus 13 = .ok (.ldc2_w 162, 3) := by decide +kernel
theorem dc_X_storeStatus_16 : decode bc_X_storeStatus 16 = .ok (.land, 1) := by decide +kernel
theorem dc_X_storeStatus_17 : decode bc_X_storeStatus 17 = .ok (.ldc2_w 246, 3) := by decide +kernel
theorem dc_X_storeStatus_20 : decode bc_X_storeStatus 20 = .ok (.lcmp, 1) := by decide +kernel
theorem dc_X_storeStatus_21 : decode bc_X_storeStatus 21 = .ok (.ifCond .ne 7, 3) := by decide +kernel
theorem dc_X_storeStatus_24 : decode bc_X_storeStatus 24 = .ok (.iconst 1, 1) := by decide +kernel
theorem dc_X_storeStatus_25 : decode bc_X_storeStatus 25 = .ok (.goto 4, 3) := by decide +kernel
theorem dc_X_storeStatus_28 : decode bc_X_storeStatus 28 = .ok (.iconst 0, 1) := by decide +kernel
theorem dc_X_storeStatus_29 : decode bc_X_storeStatus 29 = .ok (.istore 7, 2) := by decide +kernel
theorem dc_X_storeStatus_31 : decode bc_X_storeStatus 31 = .ok (.aload_n 0, 1) := by decide +kernel
theorem dc_X_storeStatus_32 : decode bc_X_storeStatus 32 = .ok (.iload 7, 2) := by decide +kernel
theorem dc_X_storeStatus_34 : decode bc_X_storeStatus 34 = .ok (.ifCond .eq 18, 3) := by decide +kernel
theorem dc_X_storeStatus_37 : decode bc_X_storeStatus 37 = .ok (.lload 5, 2) := by decide +kernel
theorem dc_X_storeStatus_39 : decode bc_X_storeStatus 39 = .ok (.aload_n 0, 1) := by decide +kernel
theorem dc_X_storeStatus_40 : decode bc_X_storeStatus 40 = .ok (.getfield 57, 3) := by decide +kernel
theorem dc_X_storeStatus_43 : decode bc_X_storeStatus 43 = .ok (.ldc2_w 162, 3) := by decide +kernel
theorem dc_X_storeStatus_46 : decode bc_X_storeStatus 46 = .ok (.invokestatic 213, 3) := by decide +kernel
theorem dc_X_storeStatus_49 : decode bc_X_storeStatus 49 = .ok (.goto 5, 3) := by decide +kernel
theorem dc_X_storeStatus_52 : decode bc_X_storeStatus 52 = .ok (.lload 5, 2) := by decide +kernel
theorem dc_X_storeStatus_54 : decode bc_X_storeStatus 54 = .ok (.putfield 57, 3) := by decide +kernel
theorem dc_X_storeStatus_57 : decode bc_X_storeStatus 57 = .ok (.return_, 1) := by decide +kernel
theorem dc_X_storeSupervisorPending_0 : decode bc_X_storeSupervisorPending 0 = .ok (.aload_n 0, 1) := by decide +kernel
theorem dc_X_storeSupervisorPending_1 : decode bc_X_storeSupervisorPending 1 = .ok (.aload_n 0, 1) := by decide +kernel
theorem dc_X_storeSupervisorPending_2 : decode bc_X_storeSupervisorPending 2 = .ok (.getfield 180, 3) := by decide +kernel
theorem dc_X_storeSupervisorPending_5 : decode bc_X_storeSupervisorPending 5 = .ok (.lload_n 1, 1) := by decide +kernel
theorem dc_X_storeSupervisorPending_6 : decode bc_X_storeSupervisorPending 6 = .ok (.ldc2_w 248, 3) := by decide +kernel
theorem dc_X_storeSupervisorPending_9 : decode bc_X_storeSupervisorPending 9 = .ok (.aload_n 0, 1) := by decide +kernel
theorem dc_X_storeSupervisorPending_10 : decode bc_X_storeSupervisorPending 10 = .ok (.getfield 127, 3) := by decide +kernel
theorem dc_X_storeSupervisorPending_13 : decode bc_X_storeSupervisorPending 13 = .ok (.land, 1) := by decide +kernel
theorem dc_X_storeSupervisorPending_14 : decode bc_X_storeSupervisorPending 14 = .ok (.invokestatic 213, 3) := by decide +kernel
theorem dc_X_storeSupervisorPending_17 : decode bc_X_storeSupervisorPending 17 = .ok (.putfield 180, 3) := by decide +kernel
theorem dc_X_storeSupervisorPending_20 : decode bc_X_storeSupervisorPending 20 = .ok (.return_, 1) := by decide +kernel
theorem dc_X_storeTable_0 : decode bc_X_storeTable 0 = .ok (.lload_n 1, 1) := by decide +kernel
theorem dc_X_storeTable_1 : decode bc_X_storeTable 1 = .ok (.bipush 60, 2) := by decide +kernel
theorem dc_X_storeTable_3 : decode bc_X_storeTable 3 = .ok (.lushr, 1) := by decide +kernel
theorem dc_X_storeTable_4 : decode bc_X_storeTable 4 = .ok (.lstore_n 3, 1) := by decide +kernel
theorem dc_X_storeTable_5 : decode bc_X_storeTable 5 = .ok (.lload_n 3, 1) := by decide +kernel
theorem dc_X_storeTable_6 : decode bc_X_storeTable 6 = .ok (.lconst 0, 1) := by decide +kernel
theorem dc_X_storeTable_7 : decode bc_X_storeTable 7 = .ok (.lcmp, 1) := by decide +kernel
theorem dc_X_storeTable_8 : decode bc_X_storeTable 8 = .ok (.ifCond .eq 19, 3) := by decide +kernel
theorem dc_X_storeTable_11 : decode bc_X_storeTable 11 = .ok (.lload_n 3, 1) := by decide +kernel
theorem dc_X_storeTable_12 : decode bc_X_storeTable 12 = .ok (.ldc2_w 250, 3) := by decide +kernel
theorem dc_X_storeTable_15 : decode bc_X_storeTable 15 = .ok (.lcmp, 1) := by decide +kernel
theorem dc_X_storeTable_16 : decode bc_X_storeTable 16 = .ok (.ifCond .eq 11, 3) := by decide +kernel
theorem dc_X_storeTable_19 : decode bc_X_storeTable 19 = .ok (.lload_n 3, 1) := by decide +kernel
theorem dc_X_storeTable_20 : decode bc_X_storeTable 20 = .ok (.ldc2_w 252, 3) := by decide +kernel
theorem dc_X_storeTable_23 : decode bc_X_storeTable 23 = .ok (.lcmp, 1) := by decide +kernel
theorem dc_X_storeTable_24 : decode bc_X_storeTable 24 = .ok (.ifCond .ne 8, 3) := by decide +kernel
theorem dc_X_storeTable_27 : decode bc_X_storeTable 27 = .ok (.aload_n 0, 1) := by decide +kernel
theorem dc_X_storeTable_28 : decode bc_X_storeTable 28 = .ok (.lload_n 1, 1) := by decide +kernel
theorem dc_X_storeTable_29 : decode bc_X_storeTable 29 = .ok (.putfield 208, 3) := by decide +kernel
theorem dc_X_storeTable_32 : decode bc_X_storeTable 32 = .ok (.return_, 1) := by decide +kernel
theorem dc_X_goesToSupervisor_0 : decode bc_X_goesToSupervisor 0 = .ok (.iload_n 1, 1) := by decide +kernel
theorem dc_X_goesToSupervisor_1 : decode bc_X_goesToSupervisor 1 = .ok (.ifCond .eq 10, 3) := by decide +kernel
theorem dc_X_goesToSupervisor_4 : decode bc_X_goesToSupervisor 4 = .ok (.aload_n 0, 1) := by decide +kernel
theorem dc_X_goesToSupervisor_5 : decode bc_X_goesToSupervisor 5 = .ok (.getfield 127, 3) := by decide +kernel
theorem dc_X_goesToSupervisor_8 : decode bc_X_goesToSupervisor 8 = .ok (.goto 7, 3) := by decide +kernel
theorem dc_X_goesToSupervisor_11 : decode bc_X_goesToSupervisor 11 = .ok (.aload_n 0, 1) := by decide +kernel
theorem dc_X_goesToSupervisor_12 : decode bc_X_goesToSupervisor 12 = .ok (.getfield 190, 3) := by decide +kernel
theorem dc_X_goesToSupervisor_15 : decode bc_X_goesToSupervisor 15 = .ok (.lstore_n 3, 1) := by decide +kernel
theorem dc_X_goesToSupervisor_16 : decode bc_X_goesToSupervisor 16 = .ok (.aload_n 0, 1) := by decide +kernel
theorem dc_X_goesToSupervisor_17 : decode bc_X_goesToSupervisor 17 = .ok (.getfield 19, 3) := by decide +kernel
theorem dc_X_goesToSupervisor_20 : decode bc_X_goesToSupervisor 20 = .ok (.iconst 3, 1) := by decide +kernel
theorem dc_X_goesToSupervisor_21 : decode bc_X_goesToSupervisor 21 = .ok (.if_icmp .eq 17, 3) := by decide +kernel
theorem dc_X_goesToSupervisor_24 : decode bc_X_goesToSupervisor 24 = .ok (.lload_n 3, 1) := by decide +kernel
theorem dc_X_goesToSupervisor_25 : decode bc_X_goesToSupervisor 25 = .ok (.iload_n 2, 1) := by decide +kernel
theorem dc_X_goesToSupervisor_26 : decode bc_X_goesToSupervisor 26 = .ok (.lushr, 1) := by decide +kernel
theorem dc_X_goesToSupervisor_27 : decode bc_X_goesToSupervisor 27 = .ok (.lconst 1, 1) := by decide +kernel
theorem dc_X_goesToSupervisor_28 : decode bc_X_goesToSupervisor 28 = .ok (.land, 1) := by decide +kernel
theorem dc_X_goesToSupervisor_29 : decode bc_X_goesToSupervisor 29 = .ok (.lconst 0, 1) := by decide +kernel
theorem dc_X_goesToSupervisor_30 : decode bc_X_goesToSupervisor 30 = .ok (.lcmp, 1) := by decide +kernel
theorem dc_X_goesToSupervisor_31 : decode bc_X_goesToSupervisor 31 = .ok (.ifCond .eq 7, 3) := by decide +kernel
theorem dc_X_goesToSupervisor_34 : decode bc_X_goesToSupervisor 34 = .ok (.iconst 1, 1) := by decide +kernel
theorem dc_X_goesToSupervisor_35 : decode bc_X_goesToSupervisor 35 = .ok (.goto 4, 3) := by decide +kernel
theorem dc_X_goesToSupervisor_38 : decode bc_X_goesToSupervisor 38 = .ok (.iconst 0, 1) := by decide +kernel
theorem dc_X_goesToSupervisor_39 : decode bc_X_goesToSupervisor 39 = .ok (.ireturn, 1) := by decide +kernel
theorem dc_X_enterSupervisor_0 : decode bc_X_enterSupervisor 0 = .ok (.aload_n 0, 1) := by decide +kernel
theorem dc_X_enterSupervisor_1 : decode bc_X_enterSupervisor 1 = .ok (.getfield 57, 3) := by decide +kernel
theorem dc_X_enterSupervisor_4 : decode bc_X_enterSupervisor 4 = .ok (.ldc2_w 254, 3) := by decide +kernel
theorem dc_X_enterSupervisor_7 : decode bc_X_enterSupervisor 7 = .ok (.land, 1) := by decide +kernel
theorem dc_X_enterSupervisor_8 : decode bc_X_enterSupervisor 8 = .ok (.lstore_n 1, 1) := by decide +kernel
theorem dc_X_enterSupervisor_9 : decode bc_X_enterSupervisor 9 = .ok (.aload_n 0, 1) := by decide +kernel
theorem dc_X_enterSupervisor_10 : decode bc_X_enterSupervisor 10 = .ok (.getfield 19, 3) := by decide +kernel
theorem dc_X_enterSupervisor_13 : decode bc_X_enterSupervisor 13 = .ok (.iconst 1, 1) := by decide +kernel
theorem dc_X_enterSupervisor_14 : decode bc_X_enterSupervisor 14 = .ok (.if_icmp .ne 9, 3) := by decide +kernel
theorem dc_X_enterSupervisor_17 : decode bc_X_enterSupervisor 17 = .ok (.ldc2_w 256, 3) := by decide +kernel
theorem dc_X_enterSupervisor_20 : decode bc_X_enterSupervisor 20 = .ok (.goto 4, 3) := by decide +kernel
theorem dc_X_enterSupervisor_23 : decode bc_X_enterSupervisor 23 = .ok (.lconst 0, 1) := by decide +kernel
theorem dc_X_enterSupervisor_24 : decode bc_X_enterSupervisor 24 = .ok (.lstore_n 3, 1) := by decide +kernel
theorem dc_X_enterSupervisor_25 : decode bc_X_enterSupervisor 25 = .ok (.aload_n 0, 1) := by decide +kernel
theorem dc_X_enterSupervisor_26 : decode bc_X_enterSupervisor 26 = .ok (.ldc2_w 248, 3) := by decide +kernel
theorem dc_X_enterSupervisor_29 : decode bc_X_enterSupervisor 29 = .ok (.invokevirtual 29, 3) := by decide +kernel
theorem dc_X_enterSupervisor_32 : decode bc_X_enterSupervisor 32 = .ok (.ifCond .eq 9, 3) := by decide +kernel
theorem dc_X_enterSupervisor_35 : decode bc_X_enterSupervisor 35 = .ok (.ldc2_w 258, 3) := by decide +kernel
theorem dc_X_enterSupervisor_38 : decode bc_X_enterSupervisor 38 = .ok (.goto 4, 3) := by decide +kernel
theorem dc_X_enterSupervisor_41 : decode bc_X_enterSupervisor 41 = .ok (.lconst 0, 1) := by decide +kernel
theorem dc_X_enterSupervisor_42 : decode bc_X_enterSupervisor 42 = .ok (.lstore 5, 2) := by decide +kernel
theorem dc_X_enterSupervisor_44 : decode bc_X_enterSupervisor 44 = .ok (.aload_n 0, 1) := by decide +kernel
theorem dc_X_enterSupervisor_45 : decode bc_X_enterSupervisor 45 = .ok (.lload_n 1, 1) := by decide +kernel
theorem dc_X_enterSupervisor_46 : decode bc_X_enterSupervisor 46 = .ok (.lload_n 3, 1) := by decide +kernel
theorem dc_X_enterSupervisor_47 : decode bc_X_enterSupervisor 47 = .ok (.lor, 1) := by decide +kernel
theorem dc_X_enterSupervisor_48 : decode bc_X_enterSupervisor 48 = .ok (.lload 5, 2) := by decide +kernel
theorem dc_X_enterSupervisor_50 : decode bc_X_enterSupervisor 50 = .ok (.lor, 1) := by decide +kernel
theorem dc_X_enterSupervisor_51 : decode bc_X_enterSupervisor 51 = .ok (.putfield 57, 3) := by decide +kernel
theorem dc_X_enterSupervisor_54 : decode bc_X_enterSupervisor 54 = .ok (.aload_n 0, 1) := by decide +kernel
theorem dc_X_enterSupervisor_55 : decode bc_X_enterSupervisor 55 = .ok (.iconst 1, 1) := by decide +kernel
theorem dc_X_enterSupervisor_56 : decode bc_X_enterSupervisor 56 = .ok (.putfield 19, 3) := by decide +kernel
theorem dc_X_enterSupervisor_59 : decode bc_X_enterSupervisor 59 = .ok (.return_, 1) := by decide +kernel
theorem dc_X_enterMachine_0 : decode bc_X_enterMachine 0 = .ok (.aload_n 0, 1) := by decide +kernel
theorem dc_X_enterMachine_1 : decode bc_X_enterMachine 1 = .ok (.getfield 57, 3) := by decide +kernel
theorem dc_X_enterMachine_4 : decode bc_X_enterMachine 4 = .ok (.ldc2_w 260, 3) := by decide +kernel
theorem dc_X_enterMachine_7 : decode bc_X_enterMachine 7 = .ok (.land, 1) := by decide +kernel
theorem dc_X_enterMachine_8 : decode bc_X_enterMachine 8 = .ok (.lstore_n 1, 1) := by decide +kernel
theorem dc_X_enterMachine_9 : decode bc_X_enterMachine 9 = .ok (.aload_n 0, 1) := by decide +kernel
theorem dc_X_enterMachine_10 : decode bc_X_enterMachine 10 = .ok (.getfield 19, 3) := by decide +kernel
theorem dc_X_enterMachine_13 : decode bc_X_enterMachine 13 = .ok (.i2l, 1) := by decide +kernel
theorem dc_X_enterMachine_14 : decode bc_X_enterMachine 14 = .ok (.bipush 11, 2) := by decide +kernel
theorem dc_X_enterMachine_16 : decode bc_X_enterMachine 16 = .ok (.lshl, 1) := by decide +kernel
theorem dc_X_enterMachine_17 : decode bc_X_enterMachine 17 = .ok (.lstore_n 3, 1) := by decide +kernel
theorem dc_X_enterMachine_18 : decode bc_X_enterMachine 18 = .ok (.aload_n 0, 1) := by decide +kernel
theorem dc_X_enterMachine_19 : decode bc_X_enterMachine 19 = .ok (.ldc2_w 250, 3) := by decide +kernel
theorem dc_X_enterMachine_22 : decode bc_X_enterMachine 22 = .ok (.invokevirtual 29, 3) := by decide +kernel
theorem dc_X_enterMachine_25 : decode bc_X_enterMachine 25 = .ok (.ifCond .eq 9, 3) := by decide +kernel
theorem dc_X_enterMachine_28 : decode bc_X_enterMachine 28 = .ok (.ldc2_w 262, 3) := by decide +kernel
theorem dc_X_enterMachine_31 : decode bc_X_enterMachine 31 = .ok (.goto 4, 3) := by decide +kernel
theorem dc_X_enterMachine_34 : decode bc_X_enterMachine 34 = .ok (.lconst 0, 1) := by decide +kernel
theorem dc_X_enterMachine_35 : decode bc_X_enterMachine 35 = .ok (.lstore 5, 2) := by decide +kernel
theorem dc_X_enterMachine_37 : decode bc_X_enterMachine 37 = .ok (.aload_n 0, 1) := by decide +kernel
theorem dc_X_enterMachine_38 : decode bc_X_enterMachine 38 = .ok (.lload_n 1, 1) := by decide +kernel
theorem dc_X_enterMachine_39 : decode bc_X_enterMachine 39 = .ok (.lload_n 3, 1) := by decide +kernel
theorem dc_X_enterMachine_40 : decode bc_X_enterMachine 40 = .ok (.lor, 1) := by decide +kernel
theorem dc_X_enterMachine_41 : decode bc_X_enterMachine 41 = .ok (.lload 5, 2) := by decide +kernel
theorem dc_X_enterMachine_43 : decode bc_X_enterMachine 43 = .ok (.lor, 1) := by decide +kernel
theorem dc_X_enterMachine_44 : decode bc_X_enterMachine 44 = .ok (.putfield 57, 3) := by decide +kernel
theorem dc_X_enterMachine_47 : decode bc_X_enterMachine 47 = .ok (.aload_n 0, 1) := by decide +kernel
theorem dc_X_enterMachine_48 : decode bc_X_enterMachine 48 = .ok (.iconst 3, 1) := by decide +kernel
theorem dc_X_enterMachine_49 : decode bc_X_enterMachine 49 = .ok (.putfield 19, 3) := by decide +kernel
theorem dc_X_enterMachine_52 : decode bc_X_enterMachine 52 = .ok (.return_, 1) := by decide +kernel
theorem dc_X_mayReturn_0 : decode bc_X_mayReturn 0 = .ok (.iload_n 1, 1) := by decide +kernel
theorem dc_X_mayReturn_1 : decode bc_X_mayReturn 1 = .ok (.ifCond .eq 19, 3) := by decide +kernel
theorem dc_X_mayReturn_4 : decode bc_X_mayReturn 4 = .ok (.aload_n 0, 1) := by decide +kernel
theorem dc_X_mayReturn_5 : decode bc_X_mayReturn 5 = .ok (.getfield 19, 3) := by decide +kernel
theorem dc_X_mayReturn_8 : decode bc_X_mayReturn 8 = .ok (.iconst 3, 1) := by decide +kernel
theorem dc_X_mayReturn_9 : decode bc_X_mayReturn 9 = .ok (.if_icmp .ne 7, 3) := by decide +kernel
theorem dc_X_mayReturn_12 : decode bc_X_mayReturn 12 = .ok (.iconst 1, 1) := by decide +kernel
theorem dc_X_mayReturn_13 : decode bc_X_mayReturn 13 = .ok (.goto 14, 3) := by decide +kernel
theorem dc_X_mayReturn_16 : decode bc_X_mayReturn 16 = .ok (.iconst 0, 1) := by decide +kernel
theorem dc_X_mayReturn_17 : decode bc_X_mayReturn 17 = .ok (.goto 10, 3) := by decide +kernel
theorem dc_X_mayReturn_20 : decode bc_X_mayReturn 20 = .ok (.aload_n 0, 1) := by decide +kernel
theorem dc_X_mayReturn_21 : decode bc_X_mayReturn 21 = .ok (.ldc2_w 264, 3) := by decide +kernel
theorem dc_X_mayReturn_24 : decode bc_X_mayReturn 24 = .ok (.invokevirtual 150, 3) := by decide +kernel
theorem dc_X_mayReturn_27 : decode bc_X_mayReturn 27 = .ok (.ireturn, 1) := by decide +kernel
theorem dc_X_leaveMachine_0 : decode bc_X_leaveMachine 0 = .ok (.aload_n 0, 1) := by decide +kernel
theorem dc_X_leaveMachine_1 : decode bc_X_leaveMachine 1 = .ok (.ldc2_w 262, 3) := by decide +kernel
theorem dc_X_leaveMachine_4 : decode bc_X_leaveMachine 4 = .ok (.invokevirtual 29, 3) := by decide +kernel
theorem dc_X_leaveMachine_7 : decode bc_X_leaveMachine 7 = .ok (.ifCond .eq 9, 3) := by decide +kernel
theorem dc_X_leaveMachine_10 : decode bc_X_leaveMachine 10 = .ok (.ldc2_w 250, 3) := by decide +kernel
theorem dc_X_leaveMachine_13 : decode bc_X_leaveMachine 13 = .ok (.goto 4, 3) := by decide +kernel
theorem dc_X_leaveMachine_16 : decode bc_X_leaveMachine 16 = .ok (.lconst 0, 1) := by decide +kernel
theorem dc_X_leaveMachine_17 : decode bc_X_leaveMachine 17 = .ok (.lstore_n 1, 1) := by decide +kernel
theorem dc_X_leaveMachine_18 : decode bc_X_leaveMachine 18 = .ok (.aload_n 0, 1) := by decide +kernel
theorem dc_X_leaveMachine_19 : decode bc_X_leaveMachine 19 = .ok (.aload_n 0, 1) := by decide +kernel
theorem dc_X_leaveMachine_20 : decode bc_X_leaveMachine 20 = .ok (.invokevirtual 33, 3) := by decide +kernel
theorem dc_X_leaveMachine_23 : decode bc_X_leaveMachine 23 = .ok (.putfield 19, 3) := by decide +kernel
theorem dc_X_leaveMachine_26 : decode bc_X_leaveMachine 26 = .ok (.aload_n 0, 1) := by decide +kernel
theorem dc_X_leaveMachine_27 : decode bc_X_leaveMachine 27 = .ok (.aload_n 0, 1) := by decide +kernel
theorem dc_X_leaveMachine_28 : decode bc_X_leaveMachine 28 = .ok (.getfield 57, 3) := by decide +kernel
theorem dc_X_leaveMachine_31 : decode bc_X_leaveMachine 31 = .ok (.ldc2_w 266, 3) := by decide +kernel
theorem dc_X_leaveMachine_34 : decode bc_X_leaveMachine 34 = .ok (.land, 1) := by decide +kernel
theorem dc_X_leaveMachine_35 : decode bc_X_leaveMachine 35 = .ok (.ldc2_w 262, 3) := by decide +kernel
theorem dc_X_leaveMachine_38 : decode bc_X_leaveMachine 38 = .ok (.lor, 1) := by decide +kernel
theorem dc_X_leaveMachine_39 : decode bc_X_leaveMachine 39 = .ok (.lload_n 1, 1) := by decide +kernel
theorem dc_X_leaveMachine_40 : decode bc_X_leaveMachine 40 = .ok (.lor, 1) := by decide +kernel
theorem dc_X_leaveMachine_41 : decode bc_X_leaveMachine 41 = .ok (.putfield 57, 3) := by decide +kernel
theorem dc_X_leaveMachine_44 : decode bc_X_leaveMachine 44 = .ok (.aload_n 0, 1) := by decide +kernel
theorem dc_X_leaveMachine_45 : decode bc_X_leaveMachine 45 = .ok (.aload_n 0, 1) := by decide +kernel
theorem dc_X_leaveMachine_46 : decode bc_X_leaveMachine 46 = .ok (.getfield 12, 3) := by decide +kernel
theorem dc_X_leaveMachine_49 : decode bc_X_leaveMachine 49 = .ok (.getfield 199, 3) := by decide +kernel
theorem dc_X_leaveMachine_52 : decode bc_X_leaveMachine 52 = .ok (.putfield 101, 3) := by decide +kernel
theorem dc_X_leaveMachine_55 : decode bc_X_leaveMachine 55 = .ok (.return_, 1) := by decide +kernel
theorem dc_X_leaveSupervisor_0 : decode bc_X_leaveSupervisor 0 = .ok (.aload_n 0, 1) := by decide +kernel
theorem dc_X_leaveSupervisor_1 : decode bc_X_leaveSupervisor 1 = .ok (.ldc2_w 258, 3) := by decide +kernel
theorem dc_X_leaveSupervisor_4 : decode bc_X_leaveSupervisor 4 = .ok (.invokevirtual 29, 3) := by decide +kernel
theorem dc_X_leaveSupervisor_7 : decode bc_X_leaveSupervisor 7 = .ok (.ifCond .eq 9, 3) := by decide +kernel
theorem dc_X_leaveSupervisor_10 : decode bc_X_leaveSupervisor 10 = .ok (.ldc2_w 248, 3) := by decide +kernel
theorem dc_X_leaveSupervisor_13 : decode bc_X_leaveSupervisor 13 = .ok (.goto 4, 3) := by decide +kernel
theorem dc_X_leaveSupervisor_16 : decode bc_X_leaveSupervisor 16 = .ok (.lconst 0, 1) := by decide +kernel
theorem dc_X_leaveSupervisor_17 : decode bc_X_leaveSupervisor 17 = .ok (.lstore_n 1, 1) := by decide +kernel
theorem dc_X_leaveSupervisor_18 : decode bc_X_leaveSupervisor 18 = .ok (.aload_n 0, 1) := by decide +kernel
theorem dc_X_leaveSupervisor_19 : decode bc_X_leaveSupervisor 19 = .ok (.aload_n 0, 1) := by decide +kernel
theorem dc_X_leaveSupervisor_20 : decode bc_X_leaveSupervisor 20 = .ok (.ldc2_w 256, 3) := by decide +kernel
theorem dc_X_leaveSupervisor_23 : decode bc_X_leaveSupervisor 23 = .ok (.invokevirtual 29, 3) := by decide +kernel
theorem dc_X_leaveSupervisor_26 : decode bc_X_leaveSupervisor 26 = .ok (.ifCond .eq 7, 3) := by decide +kernel
theorem dc_X_leaveSupervisor_29 : decode bc_X_leaveSupervisor 29 = .ok (.iconst 1, 1) := by decide +kernel
theorem dc_X_leaveSupervisor_30 : decode bc_X_leaveSupervisor 30 = .ok (.goto 4, 3) := by decide +kernel
theorem dc_X_leaveSupervisor_33 : decode bc_X_leaveSupervisor 33 = .ok (.iconst 0, 1) := by decide +kernel
theorem dc_X_leaveSupervisor_34 : decode bc_X_leaveSupervisor 34 = .ok (.putfield 19, 3) := by decide +kernel
theorem dc_X_leaveSupervisor_37 : decode bc_X_leaveSupervisor 37 = .ok (.aload_n 0, 1) := by decide +kernel
theorem dc_X_leaveSupervisor_38 : decode bc_X_leaveSupervisor 38 = .ok (.aload_n 0, 1) := by decide +kernel
theorem dc_X_leaveSupervisor_39 : decode bc_X_leaveSupervisor 39 = .ok (.getfield 57, 3) := by decide +kernel
theorem dc_X_leaveSupervisor_42 : decode bc_X_leaveSupervisor 42 = .ok (.ldc2_w 268, 3) := by decide +kernel
theorem dc_X_leaveSupervisor_45 : decode bc_X_leaveSupervisor 45 = .ok (.land, 1) := by decide +kernel
theorem dc_X_leaveSupervisor_46 : decode bc_X_leaveSupervisor 46 = .ok (.ldc2_w 258, 3) := by decide +kernel
theorem dc_X_leaveSupervisor_49 : decode bc_X_leaveSupervisor 49 = .ok (.lor, 1) := by decide +kernel
theorem dc_X_leaveSupervisor_50 : decode bc_X_leaveSupervisor 50 = .ok (.lload_n 1, 1) := by decide +kernel
theorem dc_X_leaveSupervisor_51 : decode bc_X_leaveSupervisor 51 = .ok (.lor, 1) := by decide +kernel
theorem dc_X_leaveSupervisor_52 : decode bc_X_leaveSupervisor 52 = .ok (.putfield 57, 3) := by decide +kernel
theorem dc_X_leaveSupervisor_55 : decode bc_X_leaveSupervisor 55 = .ok (.aload_n 0, 1) := by decide +kernel
theorem dc_X_leaveSupervisor_56 : decode bc_X_leaveSupervisor 56 = .ok (.aload_n 0, 1) := by decide +kernel
theorem dc_X_leaveSupervisor_57 : decode bc_X_leaveSupervisor 57 = .ok (.getfield 16, 3) := by decide +kernel
theorem dc_X_leaveSupervisor_60 : decode bc_X_leaveSupervisor 60 = .ok (.getfield 199, 3) := by decide +kernel
theorem dc_X_leaveSupervisor_63 : decode bc_X_leaveSupervisor 63 = .ok (.putfield 101, 3) := by decide +kernel
theorem dc_X_leaveSupervisor_66 : decode bc_X_leaveSupervisor 66 = .ok (.return_, 1) := by decide +kernel
theorem dc_X_takesUndelegated_0 : decode bc_X_takesUndelegated 0 = .ok (.aload_n 0, 1) := by decide +kernel
theorem dc_X_takesUndelegated_1 : decode bc_X_takesUndelegated 1 = .ok (.getfield 19, 3) := by decide +kernel
theorem dc_X_takesUndelegated_4 : decode bc_X_takesUndelegated 4 = .ok (.iconst 3, 1) := by decide +kernel
theorem dc_X_takesUndelegated_5 : decode bc_X_takesUndelegated 5 = .ok (.if_icmp .ne 13, 3) := by decide +kernel
theorem dc_X_takesUndelegated_8 : decode bc_X_takesUndelegated 8 = .ok (.aload_n 0, 1) := by decide +kernel
theorem dc_X_takesUndelegated_9 : decode bc_X_takesUndelegated 9 = .ok (.ldc2_w 250, 3) := by decide +kernel
theorem dc_X_takesUndelegated_12 : decode bc_X_takesUndelegated 12 = .ok (.invokevirtual 29, 3) := by decide +kernel
theorem dc_X_takesUndelegated_15 : decode bc_X_takesUndelegated 15 = .ok (.ifCond .eq 7, 3) := by decide +kernel
theorem dc_X_takesUndelegated_18 : decode bc_X_takesUndelegated 18 = .ok (.iconst 1, 1) := by decide +kernel
theorem dc_X_takesUndelegated_19 : decode bc_X_takesUndelegated 19 = .ok (.goto 4, 3) := by decide +kernel
theorem dc_X_takesUndelegated_22 : decode bc_X_takesUndelegated 22 = .ok (.iconst 0, 1) := by decide +kernel
theorem dc_X_takesUndelegated_23 : decode bc_X_takesUndelegated 23 = .ok (.ireturn, 1) := by decide +kernel
theorem dc_X_takesDelegated_0 : decode bc_X_takesDelegated 0 = .ok (.aload_n 0, 1) := by decide +kernel
theorem dc_X_takesDelegated_1 : decode bc_X_takesDelegated 1 = .ok (.getfield 19, 3) := by decide +kernel
theorem dc_X_takesDelegated_4 : decode bc_X_takesDelegated 4 = .ok (.ifCond .eq 21, 3) := by decide +kernel
theorem dc_X_takesDelegated_7 : decode bc_X_takesDelegated 7 = .ok (.aload_n 0, 1) := by decide +kernel
theorem dc_X_takesDelegated_8 : decode bc_X_takesDelegated 8 = .ok (.getfield 19, 3) := by decide +kernel
theorem dc_X_takesDelegated_11 : decode bc_X_takesDelegated 11 = .ok (.iconst 1, 1) := by decide +kernel
theorem dc_X_takesDelegated_12 : decode bc_X_takesDelegated 12 = .ok (.if_icmp .ne 17, 3) := by decide +kernel
theorem dc_X_takesDelegated_15 : decode bc_X_takesDelegated 15 = .ok (.aload_n 0, 1) := by decide +kernel
theorem dc_X_takesDelegated_16 : decode bc_X_takesDelegated 16 = .ok (.ldc2_w 248, 3) := by decide +kernel
theorem dc_X_takesDelegated_19 : decode bc_X_takesDelegated 19 = .ok (.invokevirtual 29, 3) := by decide +kernel
theorem dc_X_takesDelegated_22 : decode bc_X_takesDelegated 22 = .ok (.ifCond .eq 7, 3) := by decide +kernel
theorem dc_X_takesDelegated_25 : decode bc_X_takesDelegated 25 = .ok (.iconst 1, 1) := by decide +kernel
theorem dc_X_takesDelegated_26 : decode bc_X_takesDelegated 26 = .ok (.goto 4, 3) := by decide +kernel
theorem dc_X_takesDelegated_29 : decode bc_X_takesDelegated 29 = .ok (.iconst 0, 1) := by decide +kernel
theorem dc_X_takesDelegated_30 : decode bc_X_takesDelegated 30 = .ok (.ireturn, 1) := by decide +kernel
theorem dc_X_firstInOrder_0 : decode bc_X_firstInOrder 0 = .ok (.getstatic 270, 3) := by decide +kernel
theorem dc_X_firstInOrder_3 : decode bc_X_firstInOrder 3 = .ok (.astore_n 2, 1) := by decide +kernel
theorem dc_X_firstInOrder_4 : decode bc_X_firstInOrder 4 = .ok (.aload_n 2, 1) := by decide +kernel
theorem dc_X_firstInOrder_5 : decode bc_X_firstInOrder 5 = .ok (.arraylength, 1) := by decide +kernel
theorem dc_X_firstInOrder_6 : decode bc_X_firstInOrder 6 = .ok (.istore_n 3, 1) := by decide +kernel
theorem dc_X_firstInOrder_7 : decode bc_X_firstInOrder 7 = .ok (.iconst 0, 1) := by decide +kernel
theorem dc_X_firstInOrder_8 : decode bc_X_firstInOrder 8 = .ok (.istore 4, 2) := by decide +kernel
theorem dc_X_firstInOrder_10 : decode bc_X_firstInOrder 10 = .ok (.iload 4, 2) := by decide +kernel
theorem dc_X_firstInOrder_12 : decode bc_X_firstInOrder 12 = .ok (.iload_n 3, 1) := by decide +kernel
theorem dc_X_firstInOrder_13 : decode bc_X_firstInOrder 13 = .ok (.if_icmp .ge 29, 3) := by decide +kernel
theorem dc_X_firstInOrder_16 : decode bc_X_firstInOrder 16 = .ok (.aload_n 2, 1) := by decide +kernel
theorem dc_X_firstInOrder_17 : decode bc_X_firstInOrder 17 = .ok (.iload 4, 2) := by decide +kernel
theorem dc_X_firstInOrder_19 : decode bc_X_firstInOrder 19 = .ok (.iaload, 1) := by decide +kernel
theorem dc_X_firstInOrder_20 : decode bc_X_firstInOrder 20 = .ok (.istore 5, 2) := by decide +kernel
theorem dc_X_firstInOrder_22 : decode bc_X_firstInOrder 22 = .ok (.lload_n 0, 1) := by decide +kernel
theorem dc_X_firstInOrder_23 : decode bc_X_firstInOrder 23 = .ok (.iload 5, 2) := by decide +kernel
theorem dc_X_firstInOrder_25 : decode bc_X_firstInOrder 25 = .ok (.lushr, 1) := by decide +kernel
theorem dc_X_firstInOrder_26 : decode bc_X_firstInOrder 26 = .ok (.lconst 1, 1) := by decide +kernel
theorem dc_X_firstInOrder_27 : decode bc_X_firstInOrder 27 = .ok (.land, 1) := by decide +kernel
theorem dc_X_firstInOrder_28 : decode bc_X_firstInOrder 28 = .ok (.lconst 0, 1) := by decide +kernel
theorem dc_X_firstInOrder_29 : decode bc_X_firstInOrder 29 = .ok (.lcmp, 1) := by decide +kernel
theorem dc_X_firstInOrder_30 : decode bc_X_firstInOrder 30 = .ok (.ifCond .eq 6, 3) := by decide +kernel
theorem dc_X_firstInOrder_33 : decode bc_X_firstInOrder 33 = .ok (.iload 5, 2) := by decide +kernel
theorem dc_X_firstInOrder_35 : decode bc_X_firstInOrder 35 = .ok (.ireturn, 1) := by decide +kernel
theorem dc_X_firstInOrder_36 : decode bc_X_firstInOrder 36 = .ok (.iinc 4 1, 3) := by decide +kernel
theorem dc_X_firstInOrder_39 : decode bc_X_firstInOrder 39 = .ok (.goto (-29), 3) := by decide +kernel
theorem dc_X_firstInOrder_42 : decode bc_X_firstInOrder 42 = .ok (.iconst (-1), 1) := by decide +kernel
theorem dc_X_firstInOrder_43 : decode bc_X_firstInOrder 43 = .ok (.ireturn, 1) := by decide +kernel
theorem dc_B_init_0 : decode bc_B_init 0 = .ok (.aload_n 0, 1) := by decide +kernel
theorem dc_B_init_1 : decode bc_B_init 1 = .ok (.invokespecial 3, 3) := by decide +kernel
theorem dc_B_init_4 : decode bc_B_init 4 = .ok (.return_, 1) := by decide +kernel
theorem dc_B_keepVectors_0 : decode bc_B_keepVectors 0 = .ok (.aload_n 0, 1) := by decide +kernel
theorem dc_B_keepVectors_1 : decode bc_B_keepVectors 1 = .ok (.lload_n 1, 1) := by decide +kernel
theorem dc_B_keepVectors_2 : decode bc_B_keepVectors 2 = .ok (.ldc2_w 9, 3) := by decide +kernel
theorem dc_B_keepVectors_5 : decode bc_B_keepVectors 5 = .ok (.land, 1) := by decide +kernel
theorem dc_B_keepVectors_6 : decode bc_B_keepVectors 6 = .ok (.putfield 11, 3) := by decide +kernel
theorem dc_B_keepVectors_9 : decode bc_B_keepVectors 9 = .ok (.return_, 1) := by decide +kernel
theorem dc_B_keepResume_0 : decode bc_B_keepResume 0 = .ok (.aload_n 0, 1) := by decide +kernel
theorem dc_B_keepResume_1 : decode bc_B_keepResume 1 = .ok (.lload_n 1, 1) := by decide +kernel
theorem dc_B_keepResume_2 : decode bc_B_keepResume 2 = .ok (.ldc2_w 17, 3) := by decide +kernel
theorem dc_B_keepResume_5 : decode bc_B_keepResume 5 = .ok (.land, 1) := by decide +kernel
theorem dc_B_keepResume_6 : decode bc_B_keepResume 6 = .ok (.putfield 19, 3) := by decide +kernel
theorem dc_B_keepResume_9 : decode bc_B_keepResume 9 = .ok (.return_, 1) := by decide +kernel
theorem dc_B_remember_0 : decode bc_B_remember 0 = .ok (.aload_n 0, 1) := by decide +kernel
theorem dc_B_remember_1 : decode bc_B_remember 1 = .ok (.lload 5, 2) := by decide +kernel
theorem dc_B_remember_3 : decode bc_B_remember 3 = .ok (.invokevirtual 22, 3) := by decide +kernel
theorem dc_B_remember_6 : decode bc_B_remember 6 = .ok (.aload_n 0, 1) := by decide +kernel
theorem dc_B_remember_7 : decode bc_B_remember 7 = .ok (.iload_n 1, 1) := by decide +kernel
theorem dc_B_remember_8 : decode bc_B_remember 8 = .ok (.ifCond .eq 12, 3) := by decide +kernel
theorem dc_B_remember_11 : decode bc_B_remember 11 = .ok (.iload_n 2, 1) := by decide +kernel
theorem dc_B_remember_12 : decode bc_B_remember 12 = .ok (.i2l, 1) := by decide +kernel
theorem dc_B_remember_13 : decode bc_B_remember 13 = .ok (.ldc2_w 26, 3) := by decide +kernel
theorem dc_B_remember_16 : decode bc_B_remember 16 = .ok (.lor, 1) := by decide +kernel
theorem dc_B_remember_17 : decode bc_B_remember 17 = .ok (.goto 5, 3) := by decide +kernel
theorem dc_B_remember_20 : decode bc_B_remember 20 = .ok (.iload_n 2, 1) := by decide +kernel
theorem dc_B_remember_21 : decode bc_B_remember 21 = .ok (.i2l, 1) := by decide +kernel
theorem dc_B_remember_22 : decode bc_B_remember 22 = .ok (.putfield 28, 3) := by decide +kernel
theorem dc_B_remember_25 : decode bc_B_remember 25 = .ok (.aload_n 0, 1) := by decide +kernel
theorem dc_B_remember_26 : decode bc_B_remember 26 = .ok (.lload_n 3, 1) := by decide +kernel
theorem dc_B_remember_27 : decode bc_B_remember 27 = .ok (.putfield 31, 3) := by decide +kernel
theorem dc_B_remember_30 : decode bc_B_remember 30 = .ok (.return_, 1) := by decide +kernel
theorem dc_B_entry_0 : decode bc_B_entry 0 = .ok (.aload_n 0, 1) := by decide +kernel
theorem dc_B_entry_1 : decode bc_B_entry 1 = .ok (.getfield 11, 3) := by decide +kernel
theorem dc_B_entry_4 : decode bc_B_entry 4 = .ok (.ldc2_w 34, 3) := by decide +kernel
theorem dc_B_entry_7 : decode bc_B_entry 7 = .ok (.land, 1) := by decide +kernel
theorem dc_B_entry_8 : decode bc_B_entry 8 = .ok (.lstore_n 3, 1) := by decide +kernel
theorem dc_B_entry_9 : decode bc_B_entry 9 = .ok (.iload_n 1, 1) := by decide +kernel
theorem dc_B_entry_10 : decode bc_B_entry 10 = .ok (.ifCond .eq 18, 3) := by decide +kernel
theorem dc_B_entry_13 : decode bc_B_entry 13 = .ok (.aload_n 0, 1) := by decide +kernel
theorem dc_B_entry_14 : decode bc_B_entry 14 = .ok (.getfield 11, 3) := by decide +kernel
theorem dc_B_entry_17 : decode bc_B_entry 17 = .ok (.lconst 1, 1) := by decide +kernel
theorem dc_B_entry_18 : decode bc_B_entry 18 = .ok (.land, 1) := by decide +kernel
theorem dc_B_entry_19 : decode bc_B_entry 19 = .ok (.lconst 0, 1) := by decide +kernel
theorem dc_B_entry_20 : decode bc_B_entry 20 = .ok (.lcmp, 1) := by decide +kernel
theorem dc_B_entry_21 : decode bc_B_entry 21 = .ok (.ifCond .eq 7, 3) := by decide +kernel
theorem dc_B_entry_24 : decode bc_B_entry 24 = .ok (.iconst 1, 1) := by decide +kernel
theorem dc_B_entry_25 : decode bc_B_entry 25 = .ok (.goto 4, 3) := by decide +kernel
theorem dc_B_entry_28 : decode bc_B_entry 28 = .ok (.iconst 0, 1) := by decide +kernel
theorem dc_B_entry_29 : decode bc_B_entry 29 = .ok (.istore 5, 2) := by decide +kernel
theorem dc_B_entry_31 : decode bc_B_entry 31 = .ok (.iload 5, 2) := by decide +kernel
theorem dc_B_entry_33 : decode bc_B_entry 33 = .ok (.ifCond .eq 14, 3) := by decide +kernel
theorem dc_B_entry_36 : decode bc_B_entry 36 = .ok (.lload_n 3, 1) := by decide +kernel
theorem dc_B_entry_37 : decode bc_B_entry 37 = .ok (.ldc2_w 36, 3) := by decide +kernel
theorem dc_B_entry_40 : decode bc_B_entry 40 = .ok (.iload_n 2, 1) := by decide +kernel
theorem dc_B_entry_41 : decode bc_B_entry 41 = .ok (.i2l, 1) := by decide +kernel
theorem dc_B_entry_42 : decode bc_B_entry 42 = .ok (.lmul, 1) := by decide +kernel
theorem dc_B_entry_43 : decode bc_B_entry 43 = .ok (.ladd, 1) := by decide +kernel
theorem dc_B_entry_44 : decode bc_B_entry 44 = .ok (.goto 4, 3) := by decide +kernel
theorem dc_B_entry_47 : decode bc_B_entry 47 = .ok (.lload_n 3, 1) := by decide +kernel
theorem dc_B_entry_48 : decode bc_B_entry 48 = .ok (.lreturn, 1) := by decide +kernel
end
section
theorem dc_M_init_0 : decode bc_M_init 0 = .ok (.aload_n 0, 1) := by decide +kernel
theorem dc_M_init_1 : decode bc_M_init 1 = .ok (.invokespecial 1, 3) := by decide +kernel
theorem dc_M_init_4 : decode bc_M_init 4 = .ok (.aload_n 0, 1) := by decide +kernel
theorem dc_M_init_5 : decode bc_M_init 5 = .ok (.iconst 3, 1) := by decide +kernel
theorem dc_M_init_6 : decode bc_M_init 6 = .ok (.putfield 7, 3) := by decide +kernel
theorem dc_M_init_9 : decode bc_M_init 9 = .ok (.aload_n 0, 1) := by decide +kernel
theorem dc_M_init_10 : decode bc_M_init 10 = .ok (.sipush 4096, 3) := by decide +kernel
theorem dc_M_init_13 : decode bc_M_init 13 = .ok (.newarray .long, 2) := by decide +kernel
theorem dc_M_init_15 : decode bc_M_init 15 = .ok (.putfield 13, 3) := by decide +kernel
theorem dc_M_init_18 : decode bc_M_init 18 = .ok (.aload_n 0, 1) := by decide +kernel
theorem dc_M_init_19 : decode bc_M_init 19 = .ok (.bipush 12, 2) := by decide +kernel
theorem dc_M_init_21 : decode bc_M_init 21 = .ok (.newarray .boolean, 2) := by decide +kernel
theorem dc_M_init_23 : decode bc_M_init 23 = .ok (.putfield 17, 3) := by decide +kernel
theorem dc_M_init_26 : decode bc_M_init 26 = .ok (.aload_n 0, 1) := by decide +kernel
theorem dc_M_init_27 : decode bc_M_init 27 = .ok (.iload_n 1, 1) := by decide +kernel
theorem dc_M_init_28 : decode bc_M_init 28 = .ok (.ifCond .lt 12, 3) := by decide +kernel
theorem dc_M_init_31 : decode bc_M_init 31 = .ok (.iload_n 1, 1) := by decide +kernel
theorem dc_M_init_32 : decode bc_M_init 32 = .ok (.iconst 4, 1) := by decide +kernel
theorem dc_M_init_33 : decode bc_M_init 33 = .ok (.if_icmp .ge 7, 3) := by decide +kernel
theorem dc_M_init_36 : decode bc_M_init 36 = .ok (.iload_n 1, 1) := by decide +kernel
theorem dc_M_init_37 : decode bc_M_init 37 = .ok (.goto 4, 3) := by decide +kernel
theorem dc_M_init_40 : decode bc_M_init 40 = .ok (.iconst 0, 1) := by decide +kernel
theorem dc_M_init_41 : decode bc_M_init 41 = .ok (.putfield 21, 3) := by decide +kernel
theorem dc_M_init_44 : decode bc_M_init 44 = .ok (.return_, 1) := by decide +kernel
theorem dc_M_thrown_0 : decode bc_M_thrown 0 = .ok (.aload_n 0, 1) := by decide +kernel
theorem dc_M_thrown_1 : decode bc_M_thrown 1 = .ok (.getfield 24, 3) := by decide +kernel
theorem dc_M_thrown_4 : decode bc_M_thrown 4 = .ok (.ireturn, 1) := by decide +kernel
theorem dc_M_status_0 : decode bc_M_status 0 = .ok (.aload_n 0, 1) := by decide +kernel
theorem dc_M_status_1 : decode bc_M_status 1 = .ok (.getfield 13, 3) := by decide +kernel
theorem dc_M_status_4 : decode bc_M_status 4 = .ok (.sipush 768, 3) := by decide +kernel
theorem dc_M_status_7 : decode bc_M_status 7 = .ok (.laload, 1) := by decide +kernel
theorem dc_M_status_8 : decode bc_M_status 8 = .ok (.iload_n 1, 1) := by decide +kernel
theorem dc_M_status_9 : decode bc_M_status 9 = .ok (.lshr, 1) := by decide +kernel
theorem dc_M_status_10 : decode bc_M_status 10 = .ok (.lconst 1, 1) := by decide +kernel
theorem dc_M_status_11 : decode bc_M_status 11 = .ok (.land, 1) := by decide +kernel
theorem dc_M_status_12 : decode bc_M_status 12 = .ok (.l2i, 1) := by decide +kernel
theorem dc_M_status_13 : decode bc_M_status 13 = .ok (.ireturn, 1) := by decide +kernel
theorem dc_M_put_0 : decode bc_M_put 0 = .ok (.aload_n 0, 1) := by decide +kernel
theorem dc_M_put_1 : decode bc_M_put 1 = .ok (.getfield 13, 3) := by decide +kernel
theorem dc_M_put_4 : decode bc_M_put 4 = .ok (.sipush 768, 3) := by decide +kernel
theorem dc_M_put_7 : decode bc_M_put 7 = .ok (.aload_n 0, 1) := by decide +kernel
theorem dc_M_put_8 : decode bc_M_put 8 = .ok (.getfield 13, 3) := by decide +kernel
theorem dc_M_put_11 : decode bc_M_put 11 = .ok (.sipush 768, 3) := by decide +kernel
theorem dc_M_put_14 : decode bc_M_put 14 = .ok (.laload, 1) := by decide +kernel
theorem dc_M_put_15 : decode bc_M_put 15 = .ok (.lconst 1, 1) := by decide +kernel
theorem dc_M_put_16 : decode bc_M_put 16 = .ok (.iload_n 1, 1) := by decide +kernel
theorem dc_M_put_17 : decode bc_M_put 17 = .ok (.lshl, 1) := by decide +kernel
theorem dc_M_put_18 : decode bc_M_put 18 = .ok (.ldc2_w 27, 3) := by decide +kernel
theorem dc_M_put_21 : decode bc_M_put 21 = .ok (.lxor, 1) := by decide +kernel
theorem dc_M_put_22 : decode bc_M_put 22 = .ok (.land, 1) := by decide +kernel
theorem dc_M_put_23 : decode bc_M_put 23 = .ok (.iload_n 2, 1) := by decide +kernel
theorem dc_M_put_24 : decode bc_M_put 24 = .ok (.i2l, 1) := by decide +kernel
theorem dc_M_put_25 : decode bc_M_put 25 = .ok (.iload_n 1, 1) := by decide +kernel
theorem dc_M_put_26 : decode bc_M_put 26 = .ok (.lshl, 1) := by decide +kernel
theorem dc_M_put_27 : decode bc_M_put 27 = .ok (.lor, 1) := by decide +kernel
theorem dc_M_put_28 : decode bc_M_put 28 = .ok (.lastore, 1) := by decide +kernel
theorem dc_M_put_29 : decode bc_M_put 29 = .ok (.return_, 1) := by decide +kernel
theorem dc_M_below_0 : decode bc_M_below 0 = .ok (.aload_n 0, 1) := by decide +kernel
theorem dc_M_below_1 : decode bc_M_below 1 = .ok (.bipush 11, 2) := by decide +kernel
theorem dc_M_below_3 : decode bc_M_below 3 = .ok (.invokevirtual 29, 3) := by decide +kernel
theorem dc_M_below_6 : decode bc_M_below 6 = .ok (.iconst 2, 1) := by decide +kernel
theorem dc_M_below_7 : decode bc_M_below 7 = .ok (.aload_n 0, 1) := by decide +kernel
theorem dc_M_below_8 : decode bc_M_below 8 = .ok (.bipush 12, 2) := by decide +kernel
theorem dc_M_below_10 : decode bc_M_below 10 = .ok (.invokevirtual 29, 3) := by decide +kernel
theorem dc_M_below_13 : decode bc_M_below 13 = .ok (.imul, 1) := by decide +kernel
theorem dc_M_below_14 : decode bc_M_below 14 = .ok (.iadd, 1) := by decide +kernel
theorem dc_M_below_15 : decode bc_M_below 15 = .ok (.ireturn, 1) := by decide +kernel
theorem dc_M_floating_0 : decode bc_M_floating 0 = .ok (.aload_n 0, 1) := by decide +kernel
theorem dc_M_floating_1 : decode bc_M_floating 1 = .ok (.bipush 13, 2) := by decide +kernel
theorem dc_M_floating_3 : decode bc_M_floating 3 = .ok (.invokevirtual 29, 3) := by decide +kernel
theorem dc_M_floating_6 : decode bc_M_floating 6 = .ok (.iconst 2, 1) := by decide +kernel
theorem dc_M_floating_7 : decode bc_M_floating 7 = .ok (.aload_n 0, 1) := by decide +kernel
theorem dc_M_floating_8 : decode bc_M_floating 8 = .ok (.bipush 14, 2) := by decide +kernel
theorem dc_M_floating_10 : decode bc_M_floating 10 = .ok (.invokevirtual 29, 3) := by decide +kernel
theorem dc_M_floating_13 : decode bc_M_floating 13 = .ok (.imul, 1) := by decide +kernel
theorem dc_M_floating_14 : decode bc_M_floating 14 = .ok (.iadd, 1) := by decide +kernel
theorem dc_M_floating_15 : decode bc_M_floating 15 = .ok (.ireturn, 1) := by decide +kernel
theorem dc_M_mode_0 : decode bc_M_mode 0 = .ok (.aload_n 0, 1) := by decide +kernel
theorem dc_M_mode_1 : decode bc_M_mode 1 = .ok (.iconst 0, 1) := by decide +kernel
theorem dc_M_mode_2 : decode bc_M_mode 2 = .ok (.putfield 24, 3) := by decide +kernel
theorem dc_M_mode_5 : decode bc_M_mode 5 = .ok (.aload_n 0, 1) := by decide +kernel
theorem dc_M_mode_6 : decode bc_M_mode 6 = .ok (.getfield 7, 3) := by decide +kernel
theorem dc_M_mode_9 : decode bc_M_mode 9 = .ok (.ireturn, 1) := by decide +kernel
theorem dc_M_dataMode_0 : decode bc_M_dataMode 0 = .ok (.aload_n 0, 1) := by decide +kernel
theorem dc_M_dataMode_1 : decode bc_M_dataMode 1 = .ok (.iconst 0, 1) := by decide +kernel
theorem dc_M_dataMode_2 : decode bc_M_dataMode 2 = .ok (.putfield 24, 3) := by decide +kernel
theorem dc_M_dataMode_5 : decode bc_M_dataMode 5 = .ok (.aload_n 0, 1) := by decide +kernel
theorem dc_M_dataMode_6 : decode bc_M_dataMode 6 = .ok (.bipush 17, 2) := by decide +kernel
theorem dc_M_dataMode_8 : decode bc_M_dataMode 8 = .ok (.invokevirtual 29, 3) := by decide +kernel
theorem dc_M_dataMode_11 : decode bc_M_dataMode 11 = .ok (.iconst 1, 1) := by decide +kernel
theorem dc_M_dataMode_12 : decode bc_M_dataMode 12 = .ok (.if_icmp .ne 10, 3) := by decide +kernel
theorem dc_M_dataMode_15 : decode bc_M_dataMode 15 = .ok (.aload_n 0, 1) := by decide +kernel
theorem dc_M_dataMode_16 : decode bc_M_dataMode 16 = .ok (.invokevirtual 33, 3) := by decide +kernel
theorem dc_M_dataMode_19 : decode bc_M_dataMode 19 = .ok (.goto 7, 3) := by decide +kernel
theorem dc_M_dataMode_22 : decode bc_M_dataMode 22 = .ok (.aload_n 0, 1) := by decide +kernel
theorem dc_M_dataMode_23 : decode bc_M_dataMode 23 = .ok (.getfield 7, 3) := by decide +kernel
theorem dc_M_dataMode_26 : decode bc_M_dataMode 26 = .ok (.ireturn, 1) := by decide +kernel
theorem dc_M_isElsewhere_0 : decode bc_M_isElsewhere 0 = .ok (.iload_n 0, 1) := by decide +kernel
theorem dc_M_isElsewhere_1 : decode bc_M_isElsewhere 1 = .ok (.ifCond .le 8, 3) := by decide +kernel
theorem dc_M_isElsewhere_4 : decode bc_M_isElsewhere 4 = .ok (.iload_n 0, 1) := by decide +kernel
theorem dc_M_isElsewhere_5 : decode bc_M_isElsewhere 5 = .ok (.iconst 4, 1) := by decide +kernel
theorem dc_M_isElsewhere_6 : decode bc_M_isElsewhere 6 = .ok (.if_icmp .lt 31, 3) := by decide +kernel
theorem dc_M_isElsewhere_9 : decode bc_M_isElsewhere 9 = .ok (.iload_n 0, 1) := by decide +kernel
theorem dc_M_isElsewhere_10 : decode bc_M_isElsewhere 10 = .ok (.sipush 928, 3) := by decide +kernel
theorem dc_M_isElsewhere_13 : decode bc_M_isElsewhere 13 = .ok (.if_icmp .eq 24, 3) := by decide +kernel
theorem dc_M_isElsewhere_16 : decode bc_M_isElsewhere 16 = .ok (.iload_n 0, 1) := by decide +kernel
theorem dc_M_isElsewhere_17 : decode bc_M_isElsewhere 17 = .ok (.sipush 930, 3) := by decide +kernel
theorem dc_M_isElsewhere_20 : decode bc_M_isElsewhere 20 = .ok (.if_icmp .eq 17, 3) := by decide +kernel
theorem dc_M_isElsewhere_23 : decode bc_M_isElsewhere 23 = .ok (.iload_n 0, 1) := by decide +kernel
theorem dc_M_isElsewhere_24 : decode bc_M_isElsewhere 24 = .ok (.sipush 944, 3) := by decide +kernel
theorem dc_M_isElsewhere_27 : decode bc_M_isElsewhere 27 = .ok (.if_icmp .lt 14, 3) := by decide +kernel
theorem dc_M_isElsewhere_30 : decode bc_M_isElsewhere 30 = .ok (.iload_n 0, 1) := by decide +kernel
theorem dc_M_isElsewhere_31 : decode bc_M_isElsewhere 31 = .ok (.sipush 960, 3) := by decide +kernel
theorem dc_M_isElsewhere_34 : decode bc_M_isElsewhere 34 = .ok (.if_icmp .ge 7, 3) := by decide +kernel
theorem dc_M_isElsewhere_37 : decode bc_M_isElsewhere 37 = .ok (.iconst 1, 1) := by decide +kernel
theorem dc_M_isElsewhere_38 : decode bc_M_isElsewhere 38 = .ok (.goto 4, 3) := by decide +kernel
theorem dc_M_isElsewhere_41 : decode bc_M_isElsewhere 41 = .ok (.iconst 0, 1) := by decide +kernel
theorem dc_M_isElsewhere_42 : decode bc_M_isElsewhere 42 = .ok (.ireturn, 1) := by decide +kernel
theorem dc_M_isCount_0 : decode bc_M_isCount 0 = .ok (.iload_n 0, 1) := by decide +kernel
theorem dc_M_isCount_1 : decode bc_M_isCount 1 = .ok (.sipush 3072, 3) := by decide +kernel
theorem dc_M_isCount_4 : decode bc_M_isCount 4 = .ok (.if_icmp .lt 14, 3) := by decide +kernel
theorem dc_M_isCount_7 : decode bc_M_isCount 7 = .ok (.iload_n 0, 1) := by decide +kernel
theorem dc_M_isCount_8 : decode bc_M_isCount 8 = .ok (.sipush 3075, 3) := by decide +kernel
theorem dc_M_isCount_11 : decode bc_M_isCount 11 = .ok (.if_icmp .ge 7, 3) := by decide +kernel
theorem dc_M_isCount_14 : decode bc_M_isCount 14 = .ok (.iconst 1, 1) := by decide +kernel
theorem dc_M_isCount_15 : decode bc_M_isCount 15 = .ok (.goto 4, 3) := by decide +kernel
theorem dc_M_isCount_18 : decode bc_M_isCount 18 = .ok (.iconst 0, 1) := by decide +kernel
theorem dc_M_isCount_19 : decode bc_M_isCount 19 = .ok (.ireturn, 1) := by decide +kernel
theorem dc_M_isThere_0 : decode bc_M_isThere 0 = .ok (.iload_n 0, 1) := by decide +kernel
theorem dc_M_isThere_1 : decode bc_M_isThere 1 = .ok (.sipush 768, 3) := by decide +kernel
theorem dc_M_isThere_4 : decode bc_M_isThere 4 = .ok (.if_icmp .lt 10, 3) := by decide +kernel
theorem dc_M_isThere_7 : decode bc_M_isThere 7 = .ok (.iload_n 0, 1) := by decide +kernel
theorem dc_M_isThere_8 : decode bc_M_isThere 8 = .ok (.sipush 775, 3) := by decide +kernel
theorem dc_M_isThere_11 : decode bc_M_isThere 11 = .ok (.if_icmp .lt 45, 3) := by decide +kernel
theorem dc_M_isThere_14 : decode bc_M_isThere 14 = .ok (.iload_n 0, 1) := by decide +kernel
theorem dc_M_isThere_15 : decode bc_M_isThere 15 = .ok (.sipush 832, 3) := by decide +kernel
theorem dc_M_isThere_18 : decode bc_M_isThere 18 = .ok (.if_icmp .lt 10, 3) := by decide +kernel
theorem dc_M_isThere_21 : decode bc_M_isThere 21 = .ok (.iload_n 0, 1) := by decide +kernel
theorem dc_M_isThere_22 : decode bc_M_isThere 22 = .ok (.sipush 837, 3) := by decide +kernel
theorem dc_M_isThere_25 : decode bc_M_isThere 25 = .ok (.if_icmp .lt 31, 3) := by decide +kernel
theorem dc_M_isThere_28 : decode bc_M_isThere 28 = .ok (.iload_n 0, 1) := by decide +kernel
theorem dc_M_isThere_29 : decode bc_M_isThere 29 = .ok (.sipush 2816, 3) := by decide +kernel
theorem dc_M_isThere_32 : decode bc_M_isThere 32 = .ok (.if_icmp .eq 24, 3) := by decide +kernel
theorem dc_M_isThere_35 : decode bc_M_isThere 35 = .ok (.iload_n 0, 1) := by decide +kernel
theorem dc_M_isThere_36 : decode bc_M_isThere 36 = .ok (.sipush 2818, 3) := by decide +kernel
theorem dc_M_isThere_39 : decode bc_M_isThere 39 = .ok (.if_icmp .eq 17, 3) := by decide +kernel
theorem dc_M_isThere_42 : decode bc_M_isThere 42 = .ok (.iload_n 0, 1) := by decide +kernel
theorem dc_M_isThere_43 : decode bc_M_isThere 43 = .ok (.sipush 3857, 3) := by decide +kernel
theorem dc_M_isThere_46 : decode bc_M_isThere 46 = .ok (.if_icmp .lt 14, 3) := by decide +kernel
theorem dc_M_isThere_49 : decode bc_M_isThere 49 = .ok (.iload_n 0, 1) := by decide +kernel
theorem dc_M_isThere_50 : decode bc_M_isThere 50 = .ok (.sipush 3862, 3) := by decide +kernel
theorem dc_M_isThere_53 : decode bc_M_isThere 53 = .ok (.if_icmp .ge 7, 3) := by decide +kernel
theorem dc_M_isThere_56 : decode bc_M_isThere 56 = .ok (.iconst 1, 1) := by decide +kernel
theorem dc_M_isThere_57 : decode bc_M_isThere 57 = .ok (.goto 4, 3) := by decide +kernel
theorem dc_M_isThere_60 : decode bc_M_isThere 60 = .ok (.iconst 0, 1) := by decide +kernel
theorem dc_M_isThere_61 : decode bc_M_isThere 61 = .ok (.istore_n 1, 1) := by decide +kernel
theorem dc_M_isThere_62 : decode bc_M_isThere 62 = .ok (.iload_n 0, 1) := by decide +kernel
theorem dc_M_isThere_63 : decode bc_M_isThere 63 = .ok (.sipush 256, 3) := by decide +kernel
theorem dc_M_isThere_66 : decode bc_M_isThere 66 = .ok (.if_icmp .eq 38, 3) := by decide +kernel
theorem dc_M_isThere_69 : decode bc_M_isThere 69 = .ok (.iload_n 0, 1) := by decide +kernel
theorem dc_M_isThere_70 : decode bc_M_isThere 70 = .ok (.sipush 260, 3) := by decide +kernel
theorem dc_M_isThere_73 : decode bc_M_isThere 73 = .ok (.if_icmp .lt 10, 3) := by decide +kernel
theorem dc_M_isThere_76 : decode bc_M_isThere 76 = .ok (.iload_n 0, 1) := by decide +kernel
theorem dc_M_isThere_77 : decode bc_M_isThere 77 = .ok (.sipush 263, 3) := by decide +kernel
theorem dc_M_isThere_80 : decode bc_M_isThere 80 = .ok (.if_icmp .lt 24, 3) := by decide +kernel
theorem dc_M_isThere_83 : decode bc_M_isThere 83 = .ok (.iload_n 0, 1) := by decide +kernel
theorem dc_M_isThere_84 : decode bc_M_isThere 84 = .ok (.sipush 320, 3) := by decide +kernel
theorem dc_M_isThere_87 : decode bc_M_isThere 87 = .ok (.if_icmp .lt 10, 3) := by decide +kernel
theorem dc_M_isThere_90 : decode bc_M_isThere 90 = .ok (.iload_n 0, 1) := by decide +kernel
theorem dc_M_isThere_91 : decode bc_M_isThere 91 = .ok (.sipush 325, 3) := by decide +kernel
theorem dc_M_isThere_94 : decode bc_M_isThere 94 = .ok (.if_icmp .lt 10, 3) := by decide +kernel
theorem dc_M_isThere_97 : decode bc_M_isThere 97 = .ok (.iload_n 0, 1) := by decide +kernel
theorem dc_M_isThere_98 : decode bc_M_isThere 98 = .ok (.sipush 384, 3) := by decide +kernel
theorem dc_M_isThere_101 : decode bc_M_isThere 101 = .ok (.if_icmp .ne 7, 3) := by decide +kernel
theorem dc_M_isThere_104 : decode bc_M_isThere 104 = .ok (.iconst 1, 1) := by decide +kernel
theorem dc_M_isThere_105 : decode bc_M_isThere 105 = .ok (.goto 4, 3) := by decide +kernel
theorem dc_M_isThere_108 : decode bc_M_isThere 108 = .ok (.iconst 0, 1) := by decide +kernel
theorem dc_M_isThere_109 : decode bc_M_isThere 109 = .ok (.istore_n 2, 1) := by decide +kernel
theorem dc_M_isThere_110 : decode bc_M_isThere 110 = .ok (.iload_n 1, 1) := by decide +kernel
theorem dc_M_isThere_111 : decode bc_M_isThere 111 = .ok (.ifCond .ne 21, 3) := by decide +kernel
theorem dc_M_isThere_114 : decode bc_M_isThere 114 = .ok (.iload_n 2, 1) := by decide +kernel
theorem dc_M_isThere_115 : decode bc_M_isThere 115 = .ok (.ifCond .ne 17, 3) := by decide +kernel
theorem dc_M_isThere_118 : decode bc_M_isThere 118 = .ok (.iload_n 0, 1) := by decide +kernel
theorem dc_M_isThere_119 : decode bc_M_isThere 119 = .ok (.invokestatic 37, 3) := by decide +kernel
theorem dc_M_isThere_122 : decode bc_M_isThere 122 = .ok (.ifCond .ne 10, 3) := by decide +kernel
theorem dc_M_isThere_125 : decode bc_M_isThere 125 = .ok (.iload_n 0, 1) := by decide +kernel
theorem dc_M_isThere_126 : decode bc_M_isThere 126 = .ok (.invokestatic 41, 3) := by decide +kernel
theorem dc_M_isThere_129 : decode bc_M_isThere 129 = .ok (.ifCond .eq 7, 3) := by decide +kernel
theorem dc_M_isThere_132 : decode bc_M_isThere 132 = .ok (.iconst 1, 1) := by decide +kernel
theorem dc_M_isThere_133 : decode bc_M_isThere 133 = .ok (.goto 4, 3) := by decide +kernel
theorem dc_M_isThere_136 : decode bc_M_isThere 136 = .ok (.iconst 0, 1) := by decide +kernel
theorem dc_M_isThere_137 : decode bc_M_isThere 137 = .ok (.ireturn, 1) := by decide +kernel
theorem dc_M_lineBits_0 : decode bc_M_lineBits 0 = .ok (.lconst 0, 1) := by decide +kernel
theorem dc_M_lineBits_1 : decode bc_M_lineBits 1 = .ok (.lstore_n 1, 1) := by decide +kernel
theorem dc_M_lineBits_2 : decode bc_M_lineBits 2 = .ok (.iconst 3, 1) := by decide +kernel
theorem dc_M_lineBits_3 : decode bc_M_lineBits 3 = .ok (.istore_n 3, 1) := by decide +kernel
theorem dc_M_lineBits_4 : decode bc_M_lineBits 4 = .ok (.iload_n 3, 1) := by decide +kernel
theorem dc_M_lineBits_5 : decode bc_M_lineBits 5 = .ok (.bipush 12, 2) := by decide +kernel
theorem dc_M_lineBits_7 : decode bc_M_lineBits 7 = .ok (.if_icmp .ge 28, 3) := by decide +kernel
theorem dc_M_lineBits_10 : decode bc_M_lineBits 10 = .ok (.aload_n 0, 1) := by decide +kernel
theorem dc_M_lineBits_11 : decode bc_M_lineBits 11 = .ok (.getfield 17, 3) := by decide +kernel
theorem dc_M_lineBits_14 : decode bc_M_lineBits 14 = .ok (.iload_n 3, 1) := by decide +kernel
theorem dc_M_lineBits_15 : decode bc_M_lineBits 15 = .ok (.baload, 1) := by decide +kernel
theorem dc_M_lineBits_16 : decode bc_M_lineBits 16 = .ok (.ifCond .eq 11, 3) := by decide +kernel
theorem dc_M_lineBits_19 : decode bc_M_lineBits 19 = .ok (.lload_n 1, 1) := by decide +kernel
theorem dc_M_lineBits_20 : decode bc_M_lineBits 20 = .ok (.lconst 1, 1) := by decide +kernel
theorem dc_M_lineBits_21 : decode bc_M_lineBits 21 = .ok (.iload_n 3, 1) := by decide +kernel
theorem dc_M_lineBits_22 : decode bc_M_lineBits 22 = .ok (.lshl, 1) := by decide +kernel
theorem dc_M_lineBits_23 : decode bc_M_lineBits 23 = .ok (.lor, 1) := by decide +kernel
theorem dc_M_lineBits_24 : decode bc_M_lineBits 24 = .ok (.goto 4, 3) := by decide +kernel
theorem dc_M_lineBits_27 : decode bc_M_lineBits 27 = .ok (.lload_n 1, 1) := by decide +kernel
theorem dc_M_lineBits_28 : decode bc_M_lineBits 28 = .ok (.lstore_n 1, 1) := by decide +kernel
theorem dc_M_lineBits_29 : decode bc_M_lineBits 29 = .ok (.iinc 3 1, 3) := by decide +kernel
theorem dc_M_lineBits_32 : decode bc_M_lineBits 32 = .ok (.goto (-28), 3) := by decide +kernel
theorem dc_M_lineBits_35 : decode bc_M_lineBits 35 = .ok (.lload_n 1, 1) := by decide +kernel
theorem dc_M_lineBits_36 : decode bc_M_lineBits 36 = .ok (.lreturn, 1) := by decide +kernel
theorem dc_M_statusSeen_0 : decode bc_M_statusSeen 0 = .ok (.lconst 0, 1) := by decide +kernel
theorem dc_M_statusSeen_1 : decode bc_M_statusSeen 1 = .ok (.lstore_n 1, 1) := by decide +kernel
theorem dc_M_statusSeen_2 : decode bc_M_statusSeen 2 = .ok (.iconst 0, 1) := by decide +kernel
theorem dc_M_statusSeen_3 : decode bc_M_statusSeen 3 = .ok (.istore_n 3, 1) := by decide +kernel
theorem dc_M_statusSeen_4 : decode bc_M_statusSeen 4 = .ok (.iload_n 3, 1) := by decide +kernel
theorem dc_M_statusSeen_5 : decode bc_M_statusSeen 5 = .ok (.bipush 23, 2) := by decide +kernel
theorem dc_M_statusSeen_7 : decode bc_M_statusSeen 7 = .ok (.if_icmp .ge 134, 3) := by decide +kernel
theorem dc_M_statusSeen_10 : decode bc_M_statusSeen 10 = .ok (.iload_n 3, 1) := by decide +kernel
theorem dc_M_statusSeen_11 : decode bc_M_statusSeen 11 = .ok (.iconst 1, 1) := by decide +kernel
theorem dc_M_statusSeen_12 : decode bc_M_statusSeen 12 = .ok (.if_icmp .eq 38, 3) := by decide +kernel
theorem dc_M_statusSeen_15 : decode bc_M_statusSeen 15 = .ok (.iload_n 3, 1) := by decide +kernel
theorem dc_M_statusSeen_16 : decode bc_M_statusSeen 16 = .ok (.iconst 5, 1) := by decide +kernel
theorem dc_M_statusSeen_17 : decode bc_M_statusSeen 17 = .ok (.if_icmp .eq 33, 3) := by decide +kernel
theorem dc_M_statusSeen_20 : decode bc_M_statusSeen 20 = .ok (.iload_n 3, 1) := by decide +kernel
theorem dc_M_statusSeen_21 : decode bc_M_statusSeen 21 = .ok (.bipush 8, 2) := by decide +kernel
theorem dc_M_statusSeen_23 : decode bc_M_statusSeen 23 = .ok (.if_icmp .eq 27, 3) := by decide +kernel
theorem dc_M_statusSeen_26 : decode bc_M_statusSeen 26 = .ok (.iload_n 3, 1) := by decide +kernel
theorem dc_M_statusSeen_27 : decode bc_M_statusSeen 27 = .ok (.bipush 13, 2) := by decide +kernel
theorem dc_M_statusSeen_29 : decode bc_M_statusSeen 29 = .ok (.if_icmp .eq 21, 3) := by decide +kernel
theorem dc_M_statusSeen_32 : decode bc_M_statusSeen 32 = .ok (.iload_n 3, 1) := by decide +kernel
theorem dc_M_statusSeen_33 : decode bc_M_statusSeen 33 = .ok (.bipush 14, 2) := by decide +kernel
theorem dc_M_statusSeen_35 : decode bc_M_statusSeen 35 = .ok (.if_icmp .eq 15, 3) := by decide +kernel
theorem dc_M_statusSeen_38 : decode bc_M_statusSeen 38 = .ok (.iload_n 3, 1) := by decide +kernel
theorem dc_M_statusSeen_39 : decode bc_M_statusSeen 39 = .ok (.bipush 18, 2) := by decide +kernel
theorem dc_M_statusSeen_41 : decode bc_M_statusSeen 41 = .ok (.if_icmp .eq 9, 3) := by decide +kernel
theorem dc_M_statusSeen_44 : decode bc_M_statusSeen 44 = .ok (.iload_n 3, 1) := by decide +kernel
theorem dc_M_statusSeen_45 : decode bc_M_statusSeen 45 = .ok (.bipush 19, 2) := by decide +kernel
theorem dc_M_statusSeen_47 : decode bc_M_statusSeen 47 = .ok (.if_icmp .ne 7, 3) := by decide +kernel
theorem dc_M_statusSeen_50 : decode bc_M_statusSeen 50 = .ok (.iconst 1, 1) := by decide +kernel
theorem dc_M_statusSeen_51 : decode bc_M_statusSeen 51 = .ok (.goto 4, 3) := by decide +kernel
theorem dc_M_statusSeen_54 : decode bc_M_statusSeen 54 = .ok (.iconst 0, 1) := by decide +kernel
theorem dc_M_statusSeen_55 : decode bc_M_statusSeen 55 = .ok (.istore 4, 2) := by decide +kernel
theorem dc_M_statusSeen_57 : decode bc_M_statusSeen 57 = .ok (.iload_n 3, 1) := by decide +kernel
theorem dc_M_statusSeen_58 : decode bc_M_statusSeen 58 = .ok (.iconst 3, 1) := by decide +kernel
theorem dc_M_statusSeen_59 : decode bc_M_statusSeen 59 = .ok (.if_icmp .eq 45, 3) := by decide +kernel
theorem dc_M_statusSeen_62 : decode bc_M_statusSeen 62 = .ok (.iload_n 3, 1) := by decide +kernel
theorem dc_M_statusSeen_63 : decode bc_M_statusSeen 63 = .ok (.bipush 7, 2) := by decide +kernel
theorem dc_M_statusSeen_65 : decode bc_M_statusSeen 65 = .ok (.if_icmp .eq 39, 3) := by decide +kernel
theorem dc_M_statusSeen_68 : decode bc_M_statusSeen 68 = .ok (.iload_n 3, 1) := by decide +kernel
theorem dc_M_statusSeen_69 : decode bc_M_statusSeen 69 = .ok (.bipush 11, 2) := by decide +kernel
theorem dc_M_statusSeen_71 : decode bc_M_statusSeen 71 = .ok (.if_icmp .eq 33, 3) := by decide +kernel
theorem dc_M_statusSeen_74 : decode bc_M_statusSeen 74 = .ok (.iload_n 3, 1) := by decide +kernel
theorem dc_M_statusSeen_75 : decode bc_M_statusSeen 75 = .ok (.bipush 12, 2) := by decide +kernel
theorem dc_M_statusSeen_77 : decode bc_M_statusSeen 77 = .ok (.if_icmp .eq 27, 3) := by decide +kernel
theorem dc_M_statusSeen_80 : decode bc_M_statusSeen 80 = .ok (.iload_n 3, 1) := by decide +kernel
theorem dc_M_statusSeen_81 : decode bc_M_statusSeen 81 = .ok (.bipush 17, 2) := by decide +kernel
theorem dc_M_statusSeen_83 : decode bc_M_statusSeen 83 = .ok (.if_icmp .eq 21, 3) := by decide +kernel
theorem dc_M_statusSeen_86 : decode bc_M_statusSeen 86 = .ok (.iload_n 3, 1) := by decide +kernel
theorem dc_M_statusSeen_87 : decode bc_M_statusSeen 87 = .ok (.bipush 20, 2) := by decide +kernel
theorem dc_M_statusSeen_89 : decode bc_M_statusSeen 89 = .ok (.if_icmp .eq 15, 3) := by decide +kernel
theorem dc_M_statusSeen_92 : decode bc_M_statusSeen 92 = .ok (.iload_n 3, 1) := by decide +kernel
theorem dc_M_statusSeen_93 : decode bc_M_statusSeen 93 = .ok (.bipush 21, 2) := by decide +kernel
theorem dc_M_statusSeen_95 : decode bc_M_statusSeen 95 = .ok (.if_icmp .eq 9, 3) := by decide +kernel
theorem dc_M_statusSeen_98 : decode bc_M_statusSeen 98 = .ok (.iload_n 3, 1) := by decide +kernel
theorem dc_M_statusSeen_99 : decode bc_M_statusSeen 99 = .ok (.bipush 22, 2) := by decide +kernel
theorem dc_M_statusSeen_101 : decode bc_M_statusSeen 101 = .ok (.if_icmp .ne 7, 3) := by decide +kernel
theorem dc_M_statusSeen_104 : decode bc_M_statusSeen 104 = .ok (.iconst 1, 1) := by decide +kernel
theorem dc_M_statusSeen_105 : decode bc_M_statusSeen 105 = .ok (.goto 4, 3) := by decide +kernel
theorem dc_M_statusSeen_108 : decode bc_M_statusSeen 108 = .ok (.iconst 0, 1) := by decide +kernel
theorem dc_M_statusSeen_109 : decode bc_M_statusSeen 109 = .ok (.istore 5, 2) := by decide +kernel
theorem dc_M_statusSeen_111 : decode bc_M_statusSeen 111 = .ok (.iload 4, 2) := by decide +kernel
theorem dc_M_statusSeen_113 : decode bc_M_statusSeen 113 = .ok (.ifCond .ne 12, 3) := by decide +kernel
theorem dc_M_statusSeen_116 : decode bc_M_statusSeen 116 = .ok (.iload_n 0, 1) := by decide +kernel
theorem dc_M_statusSeen_117 : decode bc_M_statusSeen 117 = .ok (.ifCond .eq 16, 3) := by decide +kernel
theorem dc_M_statusSeen_120 : decode bc_M_statusSeen 120 = .ok (.iload 5, 2) := by decide +kernel
theorem dc_M_statusSeen_122 : decode bc_M_statusSeen 122 = .ok (.ifCond .eq 11, 3) := by decide +kernel
theorem dc_M_statusSeen_125 : decode bc_M_statusSeen 125 = .ok (.lload_n 1, 1) := by decide +kernel
theorem dc_M_statusSeen_126 : decode bc_M_statusSeen 126 = .ok (.lconst 1, 1) := by decide +kernel
theorem dc_M_statusSeen_127 : decode bc_M_statusSeen 127 = .ok (.iload_n 3, 1) := by decide +kernel
theorem dc_M_statusSeen_128 : decode bc_M_statusSeen 128 = .ok (.lshl, 1) := by decide +kernel
theorem dc_M_statusSeen_129 : decode bc_M_statusSeen 129 = .ok (.lor, 1) := by decide +kernel
theorem dc_M_statusSeen_130 : decode bc_M_statusSeen 130 = .ok (.goto 4, 3) := by decide +kernel
theorem dc_M_statusSeen_133 : decode bc_M_statusSeen 133 = .ok (.lload_n 1, 1) := by decide +kernel
theorem dc_M_statusSeen_134 : decode bc_M_statusSeen 134 = .ok (.lstore_n 1, 1) := by decide +kernel
theorem dc_M_statusSeen_135 : decode bc_M_statusSeen 135 = .ok (.iinc 3 1, 3) := by decide +kernel
theorem dc_M_statusSeen_138 : decode bc_M_statusSeen 138 = .ok (.goto (-134), 3) := by decide +kernel
theorem dc_M_statusSeen_141 : decode bc_M_statusSeen 141 = .ok (.lload_n 1, 1) := by decide +kernel
theorem dc_M_statusSeen_142 : decode bc_M_statusSeen 142 = .ok (.lreturn, 1) := by decide +kernel
theorem dc_M_shown_0 : decode bc_M_shown 0 = .ok (.aload_n 0, 1) := by decide +kernel
theorem dc_M_shown_1 : decode bc_M_shown 1 = .ok (.invokevirtual 44, 3) := by decide +kernel
theorem dc_M_shown_4 : decode bc_M_shown 4 = .ok (.iconst 3, 1) := by decide +kernel
theorem dc_M_shown_5 : decode bc_M_shown 5 = .ok (.if_icmp .ne 9, 3) := by decide +kernel
theorem dc_M_shown_8 : decode bc_M_shown 8 = .ok (.ldc2_w 47, 3) := by decide +kernel
theorem dc_M_shown_11 : decode bc_M_shown 11 = .ok (.goto 4, 3) := by decide +kernel
theorem dc_M_shown_14 : decode bc_M_shown 14 = .ok (.lconst 0, 1) := by decide +kernel
theorem dc_M_shown_15 : decode bc_M_shown 15 = .ok (.lstore_n 2, 1) := by decide +kernel
theorem dc_M_shown_16 : decode bc_M_shown 16 = .ok (.iload_n 1, 1) := by decide +kernel
theorem dc_M_shown_17 : decode bc_M_shown 17 = .ok (.lookupswitch 214 #[(256, 106), (260, 130), (324, 162), (768, 91), (769, 126), (836, 148), (3072, 191), (3073, 200), (3074, 205), (3860, 185)], 91) := by decide +kernel
theorem dc_M_shown_108 : decode bc_M_shown 108 = .ok (.aload_n 0, 1) := by decide +kernel
theorem dc_M_shown_109 : decode bc_M_shown 109 = .ok (.getfield 13, 3) := by decide +kernel
theorem dc_M_shown_112 : decode bc_M_shown 112 = .ok (.sipush 768, 3) := by decide +kernel
theorem dc_M_shown_115 : decode bc_M_shown 115 = .ok (.laload, 1) := by decide +kernel
theorem dc_M_shown_116 : decode bc_M_shown 116 = .ok (.ldc2_w 49, 3) := by decide +kernel
theorem dc_M_shown_119 : decode bc_M_shown 119 = .ok (.lor, 1) := by decide +kernel
theorem dc_M_shown_120 : decode bc_M_shown 120 = .ok (.lload_n 2, 1) := by decide +kernel
theorem dc_M_shown_121 : decode bc_M_shown 121 = .ok (.lor, 1) := by decide +kernel
theorem dc_M_shown_122 : decode bc_M_shown 122 = .ok (.lreturn, 1) := by decide +kernel
theorem dc_M_shown_123 : decode bc_M_shown 123 = .ok (.aload_n 0, 1) := by decide +kernel
theorem dc_M_shown_124 : decode bc_M_shown 124 = .ok (.getfield 13, 3) := by decide +kernel
theorem dc_M_shown_127 : decode bc_M_shown 127 = .ok (.sipush 768, 3) := by decide +kernel
theorem dc_M_shown_130 : decode bc_M_shown 130 = .ok (.laload, 1) := by decide +kernel
theorem dc_M_shown_131 : decode bc_M_shown 131 = .ok (.iconst 0, 1) := by decide +kernel
theorem dc_M_shown_132 : decode bc_M_shown 132 = .ok (.invokestatic 51, 3) := by decide +kernel
theorem dc_M_shown_135 : decode bc_M_shown 135 = .ok (.land, 1) := by decide +kernel
theorem dc_M_shown_136 : decode bc_M_shown 136 = .ok (.ldc2_w 55, 3) := by decide +kernel
theorem dc_M_shown_139 : decode bc_M_shown 139 = .ok (.lor, 1) := by decide +kernel
theorem dc_M_shown_140 : decode bc_M_shown 140 = .ok (.lload_n 2, 1) := by decide +kernel
theorem dc_M_shown_141 : decode bc_M_shown 141 = .ok (.lor, 1) := by decide +kernel
theorem dc_M_shown_142 : decode bc_M_shown 142 = .ok (.lreturn, 1) := by decide +kernel
theorem dc_M_shown_143 : decode bc_M_shown 143 = .ok (.ldc2_w 57, 3) := by decide +kernel
theorem dc_M_shown_146 : decode bc_M_shown 146 = .ok (.lreturn, 1) := by decide +kernel
theorem dc_M_shown_147 : decode bc_M_shown 147 = .ok (.aload_n 0, 1) := by decide +kernel
theorem dc_M_shown_148 : decode bc_M_shown 148 = .ok (.getfield 13, 3) := by decide +kernel
theorem dc_M_shown_151 : decode bc_M_shown 151 = .ok (.sipush 772, 3) := by decide +kernel
theorem dc_M_shown_154 : decode bc_M_shown 154 = .ok (.laload, 1) := by decide +kernel
theorem dc_M_shown_155 : decode bc_M_shown 155 = .ok (.aload_n 0, 1) := by decide +kernel
theorem dc_M_shown_156 : decode bc_M_shown 156 = .ok (.getfield 13, 3) := by decide +kernel
theorem dc_M_shown_159 : decode bc_M_shown 159 = .ok (.sipush 771, 3) := by decide +kernel
theorem dc_M_shown_162 : decode bc_M_shown 162 = .ok (.laload, 1) := by decide +kernel
theorem dc_M_shown_163 : decode bc_M_shown 163 = .ok (.land, 1) := by decide +kernel
theorem dc_M_shown_164 : decode bc_M_shown 164 = .ok (.lreturn, 1) := by decide +kernel
theorem dc_M_shown_165 : decode bc_M_shown 165 = .ok (.aload_n 0, 1) := by decide +kernel
theorem dc_M_shown_166 : decode bc_M_shown 166 = .ok (.getfield 13, 3) := by decide +kernel
theorem dc_M_shown_169 : decode bc_M_shown 169 = .ok (.sipush 836, 3) := by decide +kernel
theorem dc_M_shown_172 : decode bc_M_shown 172 = .ok (.laload, 1) := by decide +kernel
theorem dc_M_shown_173 : decode bc_M_shown 173 = .ok (.aload_n 0, 1) := by decide +kernel
theorem dc_M_shown_174 : decode bc_M_shown 174 = .ok (.invokevirtual 59, 3) := by decide +kernel
theorem dc_M_shown_177 : decode bc_M_shown 177 = .ok (.lor, 1) := by decide +kernel
theorem dc_M_shown_178 : decode bc_M_shown 178 = .ok (.lreturn, 1) := by decide +kernel
theorem dc_M_shown_179 : decode bc_M_shown 179 = .ok (.aload_n 0, 1) := by decide +kernel
theorem dc_M_shown_180 : decode bc_M_shown 180 = .ok (.getfield 13, 3) := by decide +kernel
theorem dc_M_shown_183 : decode bc_M_shown 183 = .ok (.sipush 836, 3) := by decide +kernel
theorem dc_M_shown_186 : decode bc_M_shown 186 = .ok (.laload, 1) := by decide +kernel
theorem dc_M_shown_187 : decode bc_M_shown 187 = .ok (.aload_n 0, 1) := by decide +kernel
theorem dc_M_shown_188 : decode bc_M_shown 188 = .ok (.invokevirtual 59, 3) := by decide +kernel
theorem dc_M_shown_191 : decode bc_M_shown 191 = .ok (.lor, 1) := by decide +kernel
theorem dc_M_shown_192 : decode bc_M_shown 192 = .ok (.aload_n 0, 1) := by decide +kernel
theorem dc_M_shown_193 : decode bc_M_shown 193 = .ok (.getfield 13, 3) := by decide +kernel
theorem dc_M_shown_196 : decode bc_M_shown 196 = .ok (.sipush 771, 3) := by decide +kernel
theorem dc_M_shown_199 : decode bc_M_shown 199 = .ok (.laload, 1) := by decide +kernel
theorem dc_M_shown_200 : decode bc_M_shown 200 = .ok (.land, 1) := by decide +kernel
theorem dc_M_shown_201 : decode bc_M_shown 201 = .ok (.lreturn, 1) := by decide +kernel
theorem dc_M_shown_202 : decode bc_M_shown 202 = .ok (.aload_n 0, 1) := by decide +kernel
theorem dc_M_shown_203 : decode bc_M_shown 203 = .ok (.getfield 21, 3) := by decide +kernel
theorem dc_M_shown_206 : decode bc_M_shown 206 = .ok (.i2l, 1) := by decide +kernel
theorem dc_M_shown_207 : decode bc_M_shown 207 = .ok (.lreturn, 1) := by decide +kernel
theorem dc_M_shown_208 : decode bc_M_shown 208 = .ok (.aload_n 0, 1) := by decide +kernel
theorem dc_M_shown_209 : decode bc_M_shown 209 = .ok (.getfield 13, 3) := by decide +kernel
theorem dc_M_shown_212 : decode bc_M_shown 212 = .ok (.sipush 2816, 3) := by decide +kernel
theorem dc_M_shown_215 : decode bc_M_shown 215 = .ok (.laload, 1) := by decide +kernel
theorem dc_M_shown_216 : decode bc_M_shown 216 = .ok (.lreturn, 1) := by decide +kernel
theorem dc_M_shown_217 : decode bc_M_shown 217 = .ok (.aload_n 0, 1) := by decide +kernel
theorem dc_M_shown_218 : decode bc_M_shown 218 = .ok (.getfield 63, 3) := by decide +kernel
theorem dc_M_shown_221 : decode bc_M_shown 221 = .ok (.lreturn, 1) := by decide +kernel
theorem dc_M_shown_222 : decode bc_M_shown 222 = .ok (.aload_n 0, 1) := by decide +kernel
theorem dc_M_shown_223 : decode bc_M_shown 223 = .ok (.getfield 13, 3) := by decide +kernel
theorem dc_M_shown_226 : decode bc_M_shown 226 = .ok (.sipush 2818, 3) := by decide +kernel
theorem dc_M_shown_229 : decode bc_M_shown 229 = .ok (.laload, 1) := by decide +kernel
theorem dc_M_shown_230 : decode bc_M_shown 230 = .ok (.lreturn, 1) := by decide +kernel
theorem dc_M_shown_231 : decode bc_M_shown 231 = .ok (.iload_n 1, 1) := by decide +kernel
theorem dc_M_shown_232 : decode bc_M_shown 232 = .ok (.invokestatic 67, 3) := by decide +kernel
theorem dc_M_shown_235 : decode bc_M_shown 235 = .ok (.ifCond .eq 19, 3) := by decide +kernel
theorem dc_M_shown_238 : decode bc_M_shown 238 = .ok (.iload_n 1, 1) := by decide +kernel
theorem dc_M_shown_239 : decode bc_M_shown 239 = .ok (.invokestatic 41, 3) := by decide +kernel
theorem dc_M_shown_242 : decode bc_M_shown 242 = .ok (.ifCond .ne 12, 3) := by decide +kernel
theorem dc_M_shown_245 : decode bc_M_shown 245 = .ok (.aload_n 0, 1) := by decide +kernel
theorem dc_M_shown_246 : decode bc_M_shown 246 = .ok (.getfield 13, 3) := by decide +kernel
theorem dc_M_shown_249 : decode bc_M_shown 249 = .ok (.iload_n 1, 1) := by decide +kernel
theorem dc_M_shown_250 : decode bc_M_shown 250 = .ok (.laload, 1) := by decide +kernel
theorem dc_M_shown_251 : decode bc_M_shown 251 = .ok (.goto 4, 3) := by decide +kernel
theorem dc_M_shown_254 : decode bc_M_shown 254 = .ok (.lconst 0, 1) := by decide +kernel
theorem dc_M_shown_255 : decode bc_M_shown 255 = .ok (.lreturn, 1) := by decide +kernel
theorem dc_M_peek_0 : decode bc_M_peek 0 = .ok (.aload_n 0, 1) := by decide +kernel
theorem dc_M_peek_1 : decode bc_M_peek 1 = .ok (.iconst 0, 1) := by decide +kernel
theorem dc_M_peek_2 : decode bc_M_peek 2 = .ok (.putfield 24, 3) := by decide +kernel
theorem dc_M_peek_5 : decode bc_M_peek 5 = .ok (.iload_n 1, 1) := by decide +kernel
theorem dc_M_peek_6 : decode bc_M_peek 6 = .ok (.ifCond .lt 10, 3) := by decide +kernel
theorem dc_M_peek_9 : decode bc_M_peek 9 = .ok (.iload_n 1, 1) := by decide +kernel
theorem dc_M_peek_10 : decode bc_M_peek 10 = .ok (.sipush 4095, 3) := by decide +kernel
theorem dc_M_peek_13 : decode bc_M_peek 13 = .ok (.if_icmp .le 7, 3) := by decide +kernel
theorem dc_M_peek_16 : decode bc_M_peek 16 = .ok (.lconst 0, 1) := by decide +kernel
theorem dc_M_peek_17 : decode bc_M_peek 17 = .ok (.goto 8, 3) := by decide +kernel
theorem dc_M_peek_20 : decode bc_M_peek 20 = .ok (.aload_n 0, 1) := by decide +kernel
theorem dc_M_peek_21 : decode bc_M_peek 21 = .ok (.iload_n 1, 1) := by decide +kernel
theorem dc_M_peek_22 : decode bc_M_peek 22 = .ok (.invokevirtual 70, 3) := by decide +kernel
theorem dc_M_peek_25 : decode bc_M_peek 25 = .ok (.lreturn, 1) := by decide +kernel
theorem dc_M_through_0 : decode bc_M_through 0 = .ok (.aload_n 0, 1) := by decide +kernel
theorem dc_M_through_1 : decode bc_M_through 1 = .ok (.getfield 13, 3) := by decide +kernel
theorem dc_M_through_4 : decode bc_M_through 4 = .ok (.iload_n 1, 1) := by decide +kernel
theorem dc_M_through_5 : decode bc_M_through 5 = .ok (.aload_n 0, 1) := by decide +kernel
theorem dc_M_through_6 : decode bc_M_through 6 = .ok (.getfield 13, 3) := by decide +kernel
theorem dc_M_through_9 : decode bc_M_through 9 = .ok (.iload_n 1, 1) := by decide +kernel
theorem dc_M_through_10 : decode bc_M_through 10 = .ok (.laload, 1) := by decide +kernel
theorem dc_M_through_11 : decode bc_M_through 11 = .ok (.lload_n 2, 1) := by decide +kernel
theorem dc_M_through_12 : decode bc_M_through 12 = .ok (.ldc2_w 27, 3) := by decide +kernel
theorem dc_M_through_15 : decode bc_M_through 15 = .ok (.lxor, 1) := by decide +kernel
theorem dc_M_through_16 : decode bc_M_through 16 = .ok (.land, 1) := by decide +kernel
theorem dc_M_through_17 : decode bc_M_through 17 = .ok (.lload 4, 2) := by decide +kernel
theorem dc_M_through_19 : decode bc_M_through 19 = .ok (.lload_n 2, 1) := by decide +kernel
theorem dc_M_through_20 : decode bc_M_through 20 = .ok (.land, 1) := by decide +kernel
theorem dc_M_through_21 : decode bc_M_through 21 = .ok (.lor, 1) := by decide +kernel
theorem dc_M_through_22 : decode bc_M_through 22 = .ok (.lastore, 1) := by decide +kernel
theorem dc_M_through_23 : decode bc_M_through 23 = .ok (.return_, 1) := by decide +kernel
theorem dc_M_writeStatus_0 : decode bc_M_writeStatus 0 = .ok (.aload_n 0, 1) := by decide +kernel
theorem dc_M_writeStatus_1 : decode bc_M_writeStatus 1 = .ok (.invokevirtual 33, 3) := by decide +kernel
theorem dc_M_writeStatus_4 : decode bc_M_writeStatus 4 = .ok (.istore 5, 2) := by decide +kernel
theorem dc_M_writeStatus_6 : decode bc_M_writeStatus 6 = .ok (.aload_n 0, 1) := by decide +kernel
theorem dc_M_writeStatus_7 : decode bc_M_writeStatus 7 = .ok (.sipush 768, 3) := by decide +kernel
theorem dc_M_writeStatus_10 : decode bc_M_writeStatus 10 = .ok (.lload_n 1, 1) := by decide +kernel
theorem dc_M_writeStatus_11 : decode bc_M_writeStatus 11 = .ok (.lload_n 3, 1) := by decide +kernel
theorem dc_M_writeStatus_12 : decode bc_M_writeStatus 12 = .ok (.invokevirtual 74, 3) := by decide +kernel
theorem dc_M_writeStatus_15 : decode bc_M_writeStatus 15 = .ok (.aload_n 0, 1) := by decide +kernel
theorem dc_M_writeStatus_16 : decode bc_M_writeStatus 16 = .ok (.invokevirtual 33, 3) := by decide +kernel
theorem dc_M_writeStatus_19 : decode bc_M_writeStatus 19 = .ok (.iconst 2, 1) := by decide +kernel
theorem dc_M_writeStatus_20 : decode bc_M_writeStatus 20 = .ok (.if_icmp .ne 23, 3) := by decide +kernel
theorem dc_M_writeStatus_23 : decode bc_M_writeStatus 23 = .ok (.aload_n 0, 1) := by decide +kernel
theorem dc_M_writeStatus_24 : decode bc_M_writeStatus 24 = .ok (.bipush 11, 2) := by decide +kernel
theorem dc_M_writeStatus_26 : decode bc_M_writeStatus 26 = .ok (.iload 5, 2) := by decide +kernel
theorem dc_M_writeStatus_28 : decode bc_M_writeStatus 28 = .ok (.iconst 2, 1) := by decide +kernel
theorem dc_M_writeStatus_29 : decode bc_M_writeStatus 29 = .ok (.irem, 1) := by decide +kernel
theorem dc_M_writeStatus_30 : decode bc_M_writeStatus 30 = .ok (.invokevirtual 78, 3) := by decide +kernel
theorem dc_M_writeStatus_33 : decode bc_M_writeStatus 33 = .ok (.aload_n 0, 1) := by decide +kernel
theorem dc_M_writeStatus_34 : decode bc_M_writeStatus 34 = .ok (.bipush 12, 2) := by decide +kernel
theorem dc_M_writeStatus_36 : decode bc_M_writeStatus 36 = .ok (.iload 5, 2) := by decide +kernel
theorem dc_M_writeStatus_38 : decode bc_M_writeStatus 38 = .ok (.iconst 2, 1) := by decide +kernel
theorem dc_M_writeStatus_39 : decode bc_M_writeStatus 39 = .ok (.idiv, 1) := by decide +kernel
theorem dc_M_writeStatus_40 : decode bc_M_writeStatus 40 = .ok (.invokevirtual 78, 3) := by decide +kernel
theorem dc_M_writeStatus_43 : decode bc_M_writeStatus 43 = .ok (.return_, 1) := by decide +kernel
theorem dc_M_write_0 : decode bc_M_write 0 = .ok (.iload_n 1, 1) := by decide +kernel
theorem dc_M_write_1 : decode bc_M_write 1 = .ok (.lookupswitch 351 #[(256, 151), (260, 205), (261, 261), (262, 285), (321, 273), (324, 238), (384, 297), (768, 139), (769, 348), (770, 163), (771, 177), (772, 191), (773, 261), (774, 285), (833, 273), (836, 224)], 139) := by decide +kernel
theorem dc_M_write_140 : decode bc_M_write 140 = .ok (.aload_n 0, 1) := by decide +kernel
theorem dc_M_write_141 : decode bc_M_write 141 = .ok (.iconst 1, 1) := by decide +kernel
theorem dc_M_write_142 : decode bc_M_write 142 = .ok (.invokestatic 51, 3) := by decide +kernel
theorem dc_M_write_145 : decode bc_M_write 145 = .ok (.lload_n 2, 1) := by decide +kernel
theorem dc_M_write_146 : decode bc_M_write 146 = .ok (.invokevirtual 82, 3) := by decide +kernel
theorem dc_M_write_149 : decode bc_M_write 149 = .ok (.goto 210, 3) := by decide +kernel
theorem dc_M_write_152 : decode bc_M_write 152 = .ok (.aload_n 0, 1) := by decide +kernel
theorem dc_M_write_153 : decode bc_M_write 153 = .ok (.iconst 0, 1) := by decide +kernel
theorem dc_M_write_154 : decode bc_M_write 154 = .ok (.invokestatic 51, 3) := by decide +kernel
theorem dc_M_write_157 : decode bc_M_write 157 = .ok (.lload_n 2, 1) := by decide +kernel
theorem dc_M_write_158 : decode bc_M_write 158 = .ok (.invokevirtual 82, 3) := by decide +kernel
theorem dc_M_write_161 : decode bc_M_write 161 = .ok (.goto 198, 3) := by decide +kernel
theorem dc_M_write_164 : decode bc_M_write 164 = .ok (.aload_n 0, 1) := by decide +kernel
theorem dc_M_write_165 : decode bc_M_write 165 = .ok (.sipush 770, 3) := by decide +kernel
theorem dc_M_write_168 : decode bc_M_write 168 = .ok (.ldc2_w 86, 3) := by decide +kernel
theorem dc_M_write_171 : decode bc_M_write 171 = .ok (.lload_n 2, 1) := by decide +kernel
theorem dc_M_write_172 : decode bc_M_write 172 = .ok (.invokevirtual 74, 3) := by decide +kernel
theorem dc_M_write_175 : decode bc_M_write 175 = .ok (.goto 184, 3) := by decide +kernel
theorem dc_M_write_178 : decode bc_M_write 178 = .ok (.aload_n 0, 1) := by decide +kernel
theorem dc_M_write_179 : decode bc_M_write 179 = .ok (.sipush 771, 3) := by decide +kernel
theorem dc_M_write_182 : decode bc_M_write 182 = .ok (.ldc2_w 88, 3) := by decide +kernel
theorem dc_M_write_185 : decode bc_M_write 185 = .ok (.lload_n 2, 1) := by decide +kernel
theorem dc_M_write_186 : decode bc_M_write 186 = .ok (.invokevirtual 74, 3) := by decide +kernel
theorem dc_M_write_189 : decode bc_M_write 189 = .ok (.goto 170, 3) := by decide +kernel
theorem dc_M_write_192 : decode bc_M_write 192 = .ok (.aload_n 0, 1) := by decide +kernel
theorem dc_M_write_193 : decode bc_M_write 193 = .ok (.sipush 772, 3) := by decide +kernel
theorem dc_M_write_196 : decode bc_M_write 196 = .ok (.ldc2_w 90, 3) := by decide +kernel
theorem dc_M_write_199 : decode bc_M_write 199 = .ok (.lload_n 2, 1) := by decide +kernel
theorem dc_M_write_200 : decode bc_M_write 200 = .ok (.invokevirtual 74, 3) := by decide +kernel
theorem dc_M_write_203 : decode bc_M_write 203 = .ok (.goto 156, 3) := by decide +kernel
theorem dc_M_write_206 : decode bc_M_write 206 = .ok (.aload_n 0, 1) := by decide +kernel
theorem dc_M_write_207 : decode bc_M_write 207 = .ok (.sipush 772, 3) := by decide +kernel
theorem dc_M_write_210 : decode bc_M_write 210 = .ok (.aload_n 0, 1) := by decide +kernel
theorem dc_M_write_211 : decode bc_M_write 211 = .ok (.getfield 13, 3) := by decide +kernel
theorem dc_M_write_214 : decode bc_M_write 214 = .ok (.sipush 771, 3) := by decide +kernel
theorem dc_M_write_217 : decode bc_M_write 217 = .ok (.laload, 1) := by decide +kernel
theorem dc_M_write_218 : decode bc_M_write 218 = .ok (.lload_n 2, 1) := by decide +kernel
theorem dc_M_write_219 : decode bc_M_write 219 = .ok (.invokevirtual 74, 3) := by decide +kernel
theorem dc_M_write_222 : decode bc_M_write 222 = .ok (.goto 137, 3) := by decide +kernel
theorem dc_M_write_225 : decode bc_M_write 225 = .ok (.aload_n 0, 1) := by decide +kernel
theorem dc_M_write_226 : decode bc_M_write 226 = .ok (.sipush 836, 3) := by decide +kernel
theorem dc_M_write_229 : decode bc_M_write 229 = .ok (.ldc2_w 88, 3) := by decide +kernel
theorem dc_M_write_232 : decode bc_M_write 232 = .ok (.lload_n 2, 1) := by decide +kernel
theorem dc_M_write_233 : decode bc_M_write 233 = .ok (.invokevirtual 74, 3) := by decide +kernel
theorem dc_M_write_236 : decode bc_M_write 236 = .ok (.goto 123, 3) := by decide +kernel
theorem dc_M_write_239 : decode bc_M_write 239 = .ok (.aload_n 0, 1) := by decide +kernel
theorem dc_M_write_240 : decode bc_M_write 240 = .ok (.sipush 836, 3) := by decide +kernel
theorem dc_M_write_243 : decode bc_M_write 243 = .ok (.aload_n 0, 1) := by decide +kernel
theorem dc_M_write_244 : decode bc_M_write 244 = .ok (.getfield 13, 3) := by decide +kernel
theorem dc_M_write_247 : decode bc_M_write 247 = .ok (.sipush 771, 3) := by decide +kernel
theorem dc_M_write_250 : decode bc_M_write 250 = .ok (.laload, 1) := by decide +kernel
theorem dc_M_write_251 : decode bc_M_write 251 = .ok (.ldc2_w 92, 3) := by decide +kernel
theorem dc_M_write_254 : decode bc_M_write 254 = .ok (.land, 1) := by decide +kernel
theorem dc_M_write_255 : decode bc_M_write 255 = .ok (.lload_n 2, 1) := by decide +kernel
theorem dc_M_write_256 : decode bc_M_write 256 = .ok (.invokevirtual 74, 3) := by decide +kernel
theorem dc_M_write_259 : decode bc_M_write 259 = .ok (.goto 100, 3) := by decide +kernel
theorem dc_M_write_262 : decode bc_M_write 262 = .ok (.aload_n 0, 1) := by decide +kernel
theorem dc_M_write_263 : decode bc_M_write 263 = .ok (.iload_n 1, 1) := by decide +kernel
theorem dc_M_write_264 : decode bc_M_write 264 = .ok (.ldc2_w 94, 3) := by decide +kernel
theorem dc_M_write_267 : decode bc_M_write 267 = .ok (.lload_n 2, 1) := by decide +kernel
theorem dc_M_write_268 : decode bc_M_write 268 = .ok (.invokevirtual 74, 3) := by decide +kernel
theorem dc_M_write_271 : decode bc_M_write 271 = .ok (.goto 88, 3) := by decide +kernel
theorem dc_M_write_274 : decode bc_M_write 274 = .ok (.aload_n 0, 1) := by decide +kernel
theorem dc_M_write_275 : decode bc_M_write 275 = .ok (.iload_n 1, 1) := by decide +kernel
theorem dc_M_write_276 : decode bc_M_write 276 = .ok (.ldc2_w 96, 3) := by decide +kernel
theorem dc_M_write_279 : decode bc_M_write 279 = .ok (.lload_n 2, 1) := by decide +kernel
theorem dc_M_write_280 : decode bc_M_write 280 = .ok (.invokevirtual 74, 3) := by decide +kernel
theorem dc_M_write_283 : decode bc_M_write 283 = .ok (.goto 76, 3) := by decide +kernel
theorem dc_M_write_286 : decode bc_M_write 286 = .ok (.aload_n 0, 1) := by decide +kernel
theorem dc_M_write_287 : decode bc_M_write 287 = .ok (.iload_n 1, 1) := by decide +kernel
theorem dc_M_write_288 : decode bc_M_write 288 = .ok (.ldc2_w 98, 3) := by decide +kernel
theorem dc_M_write_291 : decode bc_M_write 291 = .ok (.lload_n 2, 1) := by decide +kernel
theorem dc_M_write_292 : decode bc_M_write 292 = .ok (.invokevirtual 74, 3) := by decide +kernel
theorem dc_M_write_295 : decode bc_M_write 295 = .ok (.goto 64, 3) := by decide +kernel
theorem dc_M_write_298 : decode bc_M_write 298 = .ok (.lload_n 2, 1) := by decide +kernel
theorem dc_M_write_299 : decode bc_M_write 299 = .ok (.bipush 60, 2) := by decide +kernel
theorem dc_M_write_301 : decode bc_M_write 301 = .ok (.lshr, 1) := by decide +kernel
theorem dc_M_write_302 : decode bc_M_write 302 = .ok (.ldc2_w 100, 3) := by decide +kernel
theorem dc_M_write_305 : decode bc_M_write 305 = .ok (.land, 1) := by decide +kernel
theorem dc_M_write_306 : decode bc_M_write 306 = .ok (.lstore 4, 2) := by decide +kernel
theorem dc_M_write_308 : decode bc_M_write 308 = .ok (.aload_n 0, 1) := by decide +kernel
theorem dc_M_write_309 : decode bc_M_write 309 = .ok (.iload_n 1, 1) := by decide +kernel
theorem dc_M_write_310 : decode bc_M_write 310 = .ok (.lload 4, 2) := by decide +kernel
theorem dc_M_write_312 : decode bc_M_write 312 = .ok (.lconst 0, 1) := by decide +kernel
theorem dc_M_write_313 : decode bc_M_write 313 = .ok (.lcmp, 1) := by decide +kernel
theorem dc_M_write_314 : decode bc_M_write 314 = .ok (.ifCond .eq 21, 3) := by decide +kernel
theorem dc_M_write_317 : decode bc_M_write 317 = .ok (.lload 4, 2) := by decide +kernel
theorem dc_M_write_319 : decode bc_M_write 319 = .ok (.ldc2_w 102, 3) := by decide +kernel
theorem dc_M_write_322 : decode bc_M_write 322 = .ok (.lcmp, 1) := by decide +kernel
theorem dc_M_write_323 : decode bc_M_write 323 = .ok (.ifCond .eq 12, 3) := by decide +kernel
theorem dc_M_write_326 : decode bc_M_write 326 = .ok (.lload 4, 2) := by decide +kernel
theorem dc_M_write_328 : decode bc_M_write 328 = .ok (.ldc2_w 104, 3) := by decide +kernel
theorem dc_M_write_331 : decode bc_M_write 331 = .ok (.lcmp, 1) := by decide +kernel
theorem dc_M_write_332 : decode bc_M_write 332 = .ok (.ifCond .ne 9, 3) := by decide +kernel
theorem dc_M_write_335 : decode bc_M_write 335 = .ok (.ldc2_w 27, 3) := by decide +kernel
theorem dc_M_write_338 : decode bc_M_write 338 = .ok (.goto 4, 3) := by decide +kernel
theorem dc_M_write_341 : decode bc_M_write 341 = .ok (.lconst 0, 1) := by decide +kernel
theorem dc_M_write_342 : decode bc_M_write 342 = .ok (.lload_n 2, 1) := by decide +kernel
theorem dc_M_write_343 : decode bc_M_write 343 = .ok (.invokevirtual 74, 3) := by decide +kernel
theorem dc_M_write_346 : decode bc_M_write 346 = .ok (.goto 13, 3) := by decide +kernel
theorem dc_M_write_349 : decode bc_M_write 349 = .ok (.goto 10, 3) := by decide +kernel
theorem dc_M_write_352 : decode bc_M_write 352 = .ok (.aload_n 0, 1) := by decide +kernel
theorem dc_M_write_353 : decode bc_M_write 353 = .ok (.getfield 13, 3) := by decide +kernel
theorem dc_M_write_356 : decode bc_M_write 356 = .ok (.iload_n 1, 1) := by decide +kernel
theorem dc_M_write_357 : decode bc_M_write 357 = .ok (.lload_n 2, 1) := by decide +kernel
theorem dc_M_write_358 : decode bc_M_write 358 = .ok (.lastore, 1) := by decide +kernel
theorem dc_M_write_359 : decode bc_M_write 359 = .ok (.return_, 1) := by decide +kernel
theorem dc_M_isIllegal_0 : decode bc_M_isIllegal 0 = .ok (.iload_n 1, 1) := by decide +kernel
theorem dc_M_isIllegal_1 : decode bc_M_isIllegal 1 = .ok (.invokestatic 67, 3) := by decide +kernel
theorem dc_M_isIllegal_4 : decode bc_M_isIllegal 4 = .ok (.ifCond .eq 30, 3) := by decide +kernel
theorem dc_M_isIllegal_7 : decode bc_M_isIllegal 7 = .ok (.iload_n 1, 1) := by decide +kernel
theorem dc_M_isIllegal_8 : decode bc_M_isIllegal 8 = .ok (.bipush 8, 2) := by decide +kernel
theorem dc_M_isIllegal_10 : decode bc_M_isIllegal 10 = .ok (.ishr, 1) := by decide +kernel
theorem dc_M_isIllegal_11 : decode bc_M_isIllegal 11 = .ok (.iconst 3, 1) := by decide +kernel
theorem dc_M_isIllegal_12 : decode bc_M_isIllegal 12 = .ok (.iand, 1) := by decide +kernel
theorem dc_M_isIllegal_13 : decode bc_M_isIllegal 13 = .ok (.aload_n 0, 1) := by decide +kernel
theorem dc_M_isIllegal_14 : decode bc_M_isIllegal 14 = .ok (.getfield 7, 3) := by decide +kernel
theorem dc_M_isIllegal_17 : decode bc_M_isIllegal 17 = .ok (.if_icmp .gt 17, 3) := by decide +kernel
theorem dc_M_isIllegal_20 : decode bc_M_isIllegal 20 = .ok (.iload_n 2, 1) := by decide +kernel
theorem dc_M_isIllegal_21 : decode bc_M_isIllegal 21 = .ok (.ifCond .eq 17, 3) := by decide +kernel
theorem dc_M_isIllegal_24 : decode bc_M_isIllegal 24 = .ok (.iload_n 1, 1) := by decide +kernel
theorem dc_M_isIllegal_25 : decode bc_M_isIllegal 25 = .ok (.bipush 10, 2) := by decide +kernel
theorem dc_M_isIllegal_27 : decode bc_M_isIllegal 27 = .ok (.ishr, 1) := by decide +kernel
theorem dc_M_isIllegal_28 : decode bc_M_isIllegal 28 = .ok (.iconst 3, 1) := by decide +kernel
theorem dc_M_isIllegal_29 : decode bc_M_isIllegal 29 = .ok (.iand, 1) := by decide +kernel
theorem dc_M_isIllegal_30 : decode bc_M_isIllegal 30 = .ok (.iconst 3, 1) := by decide +kernel
theorem dc_M_isIllegal_31 : decode bc_M_isIllegal 31 = .ok (.if_icmp .ne 7, 3) := by decide +kernel
theorem dc_M_isIllegal_34 : decode bc_M_isIllegal 34 = .ok (.iconst 1, 1) := by decide +kernel
theorem dc_M_isIllegal_35 : decode bc_M_isIllegal 35 = .ok (.goto 4, 3) := by decide +kernel
theorem dc_M_isIllegal_38 : decode bc_M_isIllegal 38 = .ok (.iconst 0, 1) := by decide +kernel
theorem dc_M_isIllegal_39 : decode bc_M_isIllegal 39 = .ok (.istore_n 3, 1) := by decide +kernel
theorem dc_M_isIllegal_40 : decode bc_M_isIllegal 40 = .ok (.iload_n 1, 1) := by decide +kernel
theorem dc_M_isIllegal_41 : decode bc_M_isIllegal 41 = .ok (.sipush 384, 3) := by decide +kernel
theorem dc_M_isIllegal_44 : decode bc_M_isIllegal 44 = .ok (.if_icmp .ne 21, 3) := by decide +kernel
theorem dc_M_isIllegal_47 : decode bc_M_isIllegal 47 = .ok (.aload_n 0, 1) := by decide +kernel
theorem dc_M_isIllegal_48 : decode bc_M_isIllegal 48 = .ok (.getfield 7, 3) := by decide +kernel
theorem dc_M_isIllegal_51 : decode bc_M_isIllegal 51 = .ok (.iconst 1, 1) := by decide +kernel
theorem dc_M_isIllegal_52 : decode bc_M_isIllegal 52 = .ok (.if_icmp .ne 13, 3) := by decide +kernel
theorem dc_M_isIllegal_55 : decode bc_M_isIllegal 55 = .ok (.aload_n 0, 1) := by decide +kernel
theorem dc_M_isIllegal_56 : decode bc_M_isIllegal 56 = .ok (.bipush 20, 2) := by decide +kernel
theorem dc_M_isIllegal_58 : decode bc_M_isIllegal 58 = .ok (.invokevirtual 29, 3) := by decide +kernel
theorem dc_M_isIllegal_61 : decode bc_M_isIllegal 61 = .ok (.iconst 1, 1) := by decide +kernel
theorem dc_M_isIllegal_62 : decode bc_M_isIllegal 62 = .ok (.if_icmp .eq 19, 3) := by decide +kernel
theorem dc_M_isIllegal_65 : decode bc_M_isIllegal 65 = .ok (.iload_n 1, 1) := by decide +kernel
theorem dc_M_isIllegal_66 : decode bc_M_isIllegal 66 = .ok (.ifCond .le 19, 3) := by decide +kernel
theorem dc_M_isIllegal_69 : decode bc_M_isIllegal 69 = .ok (.iload_n 1, 1) := by decide +kernel
theorem dc_M_isIllegal_70 : decode bc_M_isIllegal 70 = .ok (.iconst 4, 1) := by decide +kernel
theorem dc_M_isIllegal_71 : decode bc_M_isIllegal 71 = .ok (.if_icmp .ge 14, 3) := by decide +kernel
theorem dc_M_isIllegal_74 : decode bc_M_isIllegal 74 = .ok (.aload_n 0, 1) := by decide +kernel
theorem dc_M_isIllegal_75 : decode bc_M_isIllegal 75 = .ok (.invokevirtual 44, 3) := by decide +kernel
theorem dc_M_isIllegal_78 : decode bc_M_isIllegal 78 = .ok (.ifCond .ne 7, 3) := by decide +kernel
theorem dc_M_isIllegal_81 : decode bc_M_isIllegal 81 = .ok (.iconst 1, 1) := by decide +kernel
theorem dc_M_isIllegal_82 : decode bc_M_isIllegal 82 = .ok (.goto 4, 3) := by decide +kernel
theorem dc_M_isIllegal_85 : decode bc_M_isIllegal 85 = .ok (.iconst 0, 1) := by decide +kernel
theorem dc_M_isIllegal_86 : decode bc_M_isIllegal 86 = .ok (.istore 4, 2) := by decide +kernel
theorem dc_M_isIllegal_88 : decode bc_M_isIllegal 88 = .ok (.iload_n 1, 1) := by decide +kernel
theorem dc_M_isIllegal_89 : decode bc_M_isIllegal 89 = .ok (.invokestatic 37, 3) := by decide +kernel
theorem dc_M_isIllegal_92 : decode bc_M_isIllegal 92 = .ok (.ifCond .eq 71, 3) := by decide +kernel
theorem dc_M_isIllegal_95 : decode bc_M_isIllegal 95 = .ok (.lconst 1, 1) := by decide +kernel
theorem dc_M_isIllegal_96 : decode bc_M_isIllegal 96 = .ok (.iload_n 1, 1) := by decide +kernel
theorem dc_M_isIllegal_97 : decode bc_M_isIllegal 97 = .ok (.sipush 3072, 3) := by decide +kernel
theorem dc_M_isIllegal_100 : decode bc_M_isIllegal 100 = .ok (.isub, 1) := by decide +kernel
theorem dc_M_isIllegal_101 : decode bc_M_isIllegal 101 = .ok (.lshl, 1) := by decide +kernel
theorem dc_M_isIllegal_102 : decode bc_M_isIllegal 102 = .ok (.lstore 5, 2) := by decide +kernel
theorem dc_M_isIllegal_104 : decode bc_M_isIllegal 104 = .ok (.iload 4, 2) := by decide +kernel
theorem dc_M_isIllegal_106 : decode bc_M_isIllegal 106 = .ok (.ifCond .ne 50, 3) := by decide +kernel
theorem dc_M_isIllegal_109 : decode bc_M_isIllegal 109 = .ok (.aload_n 0, 1) := by decide +kernel
theorem dc_M_isIllegal_110 : decode bc_M_isIllegal 110 = .ok (.getfield 7, 3) := by decide +kernel
theorem dc_M_isIllegal_113 : decode bc_M_isIllegal 113 = .ok (.iconst 3, 1) := by decide +kernel
theorem dc_M_isIllegal_114 : decode bc_M_isIllegal 114 = .ok (.if_icmp .ge 19, 3) := by decide +kernel
theorem dc_M_isIllegal_117 : decode bc_M_isIllegal 117 = .ok (.aload_n 0, 1) := by decide +kernel
theorem dc_M_isIllegal_118 : decode bc_M_isIllegal 118 = .ok (.getfield 13, 3) := by decide +kernel
theorem dc_M_isIllegal_121 : decode bc_M_isIllegal 121 = .ok (.sipush 774, 3) := by decide +kernel
theorem dc_M_isIllegal_124 : decode bc_M_isIllegal 124 = .ok (.laload, 1) := by decide +kernel
theorem dc_M_isIllegal_125 : decode bc_M_isIllegal 125 = .ok (.lload 5, 2) := by decide +kernel
theorem dc_M_isIllegal_127 : decode bc_M_isIllegal 127 = .ok (.land, 1) := by decide +kernel
theorem dc_M_isIllegal_128 : decode bc_M_isIllegal 128 = .ok (.lconst 0, 1) := by decide +kernel
theorem dc_M_isIllegal_129 : decode bc_M_isIllegal 129 = .ok (.lcmp, 1) := by decide +kernel
theorem dc_M_isIllegal_130 : decode bc_M_isIllegal 130 = .ok (.ifCond .eq 26, 3) := by decide +kernel
theorem dc_M_isIllegal_133 : decode bc_M_isIllegal 133 = .ok (.aload_n 0, 1) := by decide +kernel
theorem dc_M_isIllegal_134 : decode bc_M_isIllegal 134 = .ok (.getfield 7, 3) := by decide +kernel
theorem dc_M_isIllegal_137 : decode bc_M_isIllegal 137 = .ok (.ifCond .ne 23, 3) := by decide +kernel
theorem dc_M_isIllegal_140 : decode bc_M_isIllegal 140 = .ok (.aload_n 0, 1) := by decide +kernel
theorem dc_M_isIllegal_141 : decode bc_M_isIllegal 141 = .ok (.getfield 13, 3) := by decide +kernel
theorem dc_M_isIllegal_144 : decode bc_M_isIllegal 144 = .ok (.sipush 262, 3) := by decide +kernel
theorem dc_M_isIllegal_147 : decode bc_M_isIllegal 147 = .ok (.laload, 1) := by decide +kernel
theorem dc_M_isIllegal_148 : decode bc_M_isIllegal 148 = .ok (.lload 5, 2) := by decide +kernel
theorem dc_M_isIllegal_150 : decode bc_M_isIllegal 150 = .ok (.land, 1) := by decide +kernel
theorem dc_M_isIllegal_151 : decode bc_M_isIllegal 151 = .ok (.lconst 0, 1) := by decide +kernel
theorem dc_M_isIllegal_152 : decode bc_M_isIllegal 152 = .ok (.lcmp, 1) := by decide +kernel
theorem dc_M_isIllegal_153 : decode bc_M_isIllegal 153 = .ok (.ifCond .ne 7, 3) := by decide +kernel
theorem dc_M_isIllegal_156 : decode bc_M_isIllegal 156 = .ok (.iconst 1, 1) := by decide +kernel
theorem dc_M_isIllegal_157 : decode bc_M_isIllegal 157 = .ok (.goto 4, 3) := by decide +kernel
theorem dc_M_isIllegal_160 : decode bc_M_isIllegal 160 = .ok (.iconst 0, 1) := by decide +kernel
theorem dc_M_isIllegal_161 : decode bc_M_isIllegal 161 = .ok (.istore 4, 2) := by decide +kernel
theorem dc_M_isIllegal_163 : decode bc_M_isIllegal 163 = .ok (.iload_n 3, 1) := by decide +kernel
theorem dc_M_isIllegal_164 : decode bc_M_isIllegal 164 = .ok (.ifCond .ne 8, 3) := by decide +kernel
theorem dc_M_isIllegal_167 : decode bc_M_isIllegal 167 = .ok (.iload 4, 2) := by decide +kernel
theorem dc_M_isIllegal_169 : decode bc_M_isIllegal 169 = .ok (.ifCond .eq 7, 3) := by decide +kernel
theorem dc_M_isIllegal_172 : decode bc_M_isIllegal 172 = .ok (.iconst 1, 1) := by decide +kernel
theorem dc_M_isIllegal_173 : decode bc_M_isIllegal 173 = .ok (.goto 4, 3) := by decide +kernel
theorem dc_M_isIllegal_176 : decode bc_M_isIllegal 176 = .ok (.iconst 0, 1) := by decide +kernel
theorem dc_M_isIllegal_177 : decode bc_M_isIllegal 177 = .ok (.ireturn, 1) := by decide +kernel
theorem dc_M_access_0 : decode bc_M_access 0 = .ok (.aload_n 0, 1) := by decide +kernel
theorem dc_M_access_1 : decode bc_M_access 1 = .ok (.iload_n 1, 1) := by decide +kernel
theorem dc_M_access_2 : decode bc_M_access 2 = .ok (.ifCond .lt 20, 3) := by decide +kernel
theorem dc_M_access_5 : decode bc_M_access 5 = .ok (.iload_n 1, 1) := by decide +kernel
theorem dc_M_access_6 : decode bc_M_access 6 = .ok (.sipush 4095, 3) := by decide +kernel
theorem dc_M_access_9 : decode bc_M_access 9 = .ok (.if_icmp .gt 13, 3) := by decide +kernel
theorem dc_M_access_12 : decode bc_M_access 12 = .ok (.iload_n 2, 1) := by decide +kernel
theorem dc_M_access_13 : decode bc_M_access 13 = .ok (.iconst 1, 1) := by decide +kernel
theorem dc_M_access_14 : decode bc_M_access 14 = .ok (.if_icmp .lt 8, 3) := by decide +kernel
theorem dc_M_access_17 : decode bc_M_access 17 = .ok (.iload_n 2, 1) := by decide +kernel
theorem dc_M_access_18 : decode bc_M_access 18 = .ok (.iconst 3, 1) := by decide +kernel
theorem dc_M_access_19 : decode bc_M_access 19 = .ok (.if_icmp .le 7, 3) := by decide +kernel
theorem dc_M_access_22 : decode bc_M_access 22 = .ok (.iconst 1, 1) := by decide +kernel
theorem dc_M_access_23 : decode bc_M_access 23 = .ok (.goto 4, 3) := by decide +kernel
theorem dc_M_access_26 : decode bc_M_access 26 = .ok (.iconst 0, 1) := by decide +kernel
theorem dc_M_access_27 : decode bc_M_access 27 = .ok (.putfield 24, 3) := by decide +kernel
theorem dc_M_access_30 : decode bc_M_access 30 = .ok (.aload_n 0, 1) := by decide +kernel
theorem dc_M_access_31 : decode bc_M_access 31 = .ok (.getfield 24, 3) := by decide +kernel
theorem dc_M_access_34 : decode bc_M_access 34 = .ok (.ifCond .le 5, 3) := by decide +kernel
theorem dc_M_access_37 : decode bc_M_access 37 = .ok (.iconst 0, 1) := by decide +kernel
theorem dc_M_access_38 : decode bc_M_access 38 = .ok (.ireturn, 1) := by decide +kernel
theorem dc_M_access_39 : decode bc_M_access 39 = .ok (.aload_n 0, 1) := by decide +kernel
theorem dc_M_access_40 : decode bc_M_access 40 = .ok (.iload_n 1, 1) := by decide +kernel
theorem dc_M_access_41 : decode bc_M_access 41 = .ok (.iload_n 3, 1) := by decide +kernel
theorem dc_M_access_42 : decode bc_M_access 42 = .ok (.invokevirtual 106, 3) := by decide +kernel
theorem dc_M_access_45 : decode bc_M_access 45 = .ok (.ifCond .eq 5, 3) := by decide +kernel
theorem dc_M_access_48 : decode bc_M_access 48 = .ok (.iconst 2, 1) := by decide +kernel
theorem dc_M_access_49 : decode bc_M_access 49 = .ok (.ireturn, 1) := by decide +kernel
theorem dc_M_access_50 : decode bc_M_access 50 = .ok (.iload_n 1, 1) := by decide +kernel
theorem dc_M_access_51 : decode bc_M_access 51 = .ok (.invokestatic 41, 3) := by decide +kernel
theorem dc_M_access_54 : decode bc_M_access 54 = .ok (.ifCond .eq 28, 3) := by decide +kernel
theorem dc_M_access_57 : decode bc_M_access 57 = .ok (.iload_n 3, 1) := by decide +kernel
theorem dc_M_access_58 : decode bc_M_access 58 = .ok (.ifCond .eq 22, 3) := by decide +kernel
theorem dc_M_access_61 : decode bc_M_access 61 = .ok (.iload_n 1, 1) := by decide +kernel
theorem dc_M_access_62 : decode bc_M_access 62 = .ok (.iconst 4, 1) := by decide +kernel
theorem dc_M_access_63 : decode bc_M_access 63 = .ok (.if_icmp .ge 17, 3) := by decide +kernel
theorem dc_M_access_66 : decode bc_M_access 66 = .ok (.aload_n 0, 1) := by decide +kernel
theorem dc_M_access_67 : decode bc_M_access 67 = .ok (.bipush 13, 2) := by decide +kernel
theorem dc_M_access_69 : decode bc_M_access 69 = .ok (.iconst 1, 1) := by decide +kernel
theorem dc_M_access_70 : decode bc_M_access 70 = .ok (.invokevirtual 78, 3) := by decide +kernel
theorem dc_M_access_73 : decode bc_M_access 73 = .ok (.aload_n 0, 1) := by decide +kernel
theorem dc_M_access_74 : decode bc_M_access 74 = .ok (.bipush 14, 2) := by decide +kernel
theorem dc_M_access_76 : decode bc_M_access 76 = .ok (.iconst 1, 1) := by decide +kernel
theorem dc_M_access_77 : decode bc_M_access 77 = .ok (.invokevirtual 78, 3) := by decide +kernel
theorem dc_M_access_80 : decode bc_M_access 80 = .ok (.iconst 1, 1) := by decide +kernel
theorem dc_M_access_81 : decode bc_M_access 81 = .ok (.ireturn, 1) := by decide +kernel
theorem dc_M_access_82 : decode bc_M_access 82 = .ok (.aload_n 0, 1) := by decide +kernel
theorem dc_M_access_83 : decode bc_M_access 83 = .ok (.aload_n 0, 1) := by decide +kernel
theorem dc_M_access_84 : decode bc_M_access 84 = .ok (.iload_n 1, 1) := by decide +kernel
theorem dc_M_access_85 : decode bc_M_access 85 = .ok (.invokevirtual 70, 3) := by decide +kernel
theorem dc_M_access_88 : decode bc_M_access 88 = .ok (.putfield 110, 3) := by decide +kernel
theorem dc_M_access_91 : decode bc_M_access 91 = .ok (.iload_n 1, 1) := by decide +kernel
theorem dc_M_access_92 : decode bc_M_access 92 = .ok (.sipush 836, 3) := by decide +kernel
theorem dc_M_access_95 : decode bc_M_access 95 = .ok (.if_icmp .ne 23, 3) := by decide +kernel
theorem dc_M_access_98 : decode bc_M_access 98 = .ok (.aload_n 0, 1) := by decide +kernel
theorem dc_M_access_99 : decode bc_M_access 99 = .ok (.getfield 13, 3) := by decide +kernel
theorem dc_M_access_102 : decode bc_M_access 102 = .ok (.sipush 836, 3) := by decide +kernel
theorem dc_M_access_105 : decode bc_M_access 105 = .ok (.laload, 1) := by decide +kernel
theorem dc_M_access_106 : decode bc_M_access 106 = .ok (.aload_n 0, 1) := by decide +kernel
theorem dc_M_access_107 : decode bc_M_access 107 = .ok (.invokevirtual 59, 3) := by decide +kernel
theorem dc_M_access_110 : decode bc_M_access 110 = .ok (.ldc2_w 113, 3) := by decide +kernel
theorem dc_M_access_113 : decode bc_M_access 113 = .ok (.land, 1) := by decide +kernel
theorem dc_M_access_114 : decode bc_M_access 114 = .ok (.lor, 1) := by decide +kernel
theorem dc_M_access_115 : decode bc_M_access 115 = .ok (.goto 7, 3) := by decide +kernel
theorem dc_M_access_118 : decode bc_M_access 118 = .ok (.aload_n 0, 1) := by decide +kernel
theorem dc_M_access_119 : decode bc_M_access 119 = .ok (.getfield 110, 3) := by decide +kernel
theorem dc_M_access_122 : decode bc_M_access 122 = .ok (.lstore 6, 2) := by decide +kernel
theorem dc_M_access_124 : decode bc_M_access 124 = .ok (.iload_n 3, 1) := by decide +kernel
theorem dc_M_access_125 : decode bc_M_access 125 = .ok (.ifCond .eq 40, 3) := by decide +kernel
theorem dc_M_access_128 : decode bc_M_access 128 = .ok (.aload_n 0, 1) := by decide +kernel
theorem dc_M_access_129 : decode bc_M_access 129 = .ok (.iload_n 1, 1) := by decide +kernel
theorem dc_M_access_130 : decode bc_M_access 130 = .ok (.iload_n 2, 1) := by decide +kernel
theorem dc_M_access_131 : decode bc_M_access 131 = .ok (.iconst 1, 1) := by decide +kernel
theorem dc_M_access_132 : decode bc_M_access 132 = .ok (.if_icmp .ne 8, 3) := by decide +kernel
theorem dc_M_access_135 : decode bc_M_access 135 = .ok (.lload 4, 2) := by decide +kernel
theorem dc_M_access_137 : decode bc_M_access 137 = .ok (.goto 25, 3) := by decide +kernel
theorem dc_M_access_140 : decode bc_M_access 140 = .ok (.iload_n 2, 1) := by decide +kernel
theorem dc_M_access_141 : decode bc_M_access 141 = .ok (.iconst 2, 1) := by decide +kernel
theorem dc_M_access_142 : decode bc_M_access 142 = .ok (.if_icmp .ne 11, 3) := by decide +kernel
theorem dc_M_access_145 : decode bc_M_access 145 = .ok (.lload 6, 2) := by decide +kernel
theorem dc_M_access_147 : decode bc_M_access 147 = .ok (.lload 4, 2) := by decide +kernel
theorem dc_M_access_149 : decode bc_M_access 149 = .ok (.lor, 1) := by decide +kernel
theorem dc_M_access_150 : decode bc_M_access 150 = .ok (.goto 12, 3) := by decide +kernel
theorem dc_M_access_153 : decode bc_M_access 153 = .ok (.lload 6, 2) := by decide +kernel
theorem dc_M_access_155 : decode bc_M_access 155 = .ok (.lload 4, 2) := by decide +kernel
theorem dc_M_access_157 : decode bc_M_access 157 = .ok (.ldc2_w 27, 3) := by decide +kernel
theorem dc_M_access_160 : decode bc_M_access 160 = .ok (.lxor, 1) := by decide +kernel
theorem dc_M_access_161 : decode bc_M_access 161 = .ok (.land, 1) := by decide +kernel
theorem dc_M_access_162 : decode bc_M_access 162 = .ok (.invokevirtual 115, 3) := by decide +kernel
theorem dc_M_access_165 : decode bc_M_access 165 = .ok (.iconst 0, 1) := by decide +kernel
theorem dc_M_access_166 : decode bc_M_access 166 = .ok (.ireturn, 1) := by decide +kernel
theorem dc_M_had_0 : decode bc_M_had 0 = .ok (.aload_n 0, 1) := by decide +kernel
theorem dc_M_had_1 : decode bc_M_had 1 = .ok (.iconst 0, 1) := by decide +kernel
theorem dc_M_had_2 : decode bc_M_had 2 = .ok (.putfield 24, 3) := by decide +kernel
theorem dc_M_had_5 : decode bc_M_had 5 = .ok (.aload_n 0, 1) := by decide +kernel
theorem dc_M_had_6 : decode bc_M_had 6 = .ok (.getfield 110, 3) := by decide +kernel
theorem dc_M_had_9 : decode bc_M_had 9 = .ok (.lreturn, 1) := by decide +kernel
theorem dc_M_beginning_0 : decode bc_M_beginning 0 = .ok (.lload_n 0, 1) := by decide +kernel
theorem dc_M_beginning_1 : decode bc_M_beginning 1 = .ok (.ldc2_w 119, 3) := by decide +kernel
theorem dc_M_beginning_4 : decode bc_M_beginning 4 = .ok (.land, 1) := by decide +kernel
theorem dc_M_beginning_5 : decode bc_M_beginning 5 = .ok (.lstore 4, 2) := by decide +kernel
theorem dc_M_beginning_7 : decode bc_M_beginning 7 = .ok (.iload_n 2, 1) := by decide +kernel
theorem dc_M_beginning_8 : decode bc_M_beginning 8 = .ok (.ifCond .eq 23, 3) := by decide +kernel
theorem dc_M_beginning_11 : decode bc_M_beginning 11 = .ok (.lload_n 0, 1) := by decide +kernel
theorem dc_M_beginning_12 : decode bc_M_beginning 12 = .ok (.lconst 1, 1) := by decide +kernel
theorem dc_M_beginning_13 : decode bc_M_beginning 13 = .ok (.land, 1) := by decide +kernel
theorem dc_M_beginning_14 : decode bc_M_beginning 14 = .ok (.lconst 1, 1) := by decide +kernel
theorem dc_M_beginning_15 : decode bc_M_beginning 15 = .ok (.lcmp, 1) := by decide +kernel
theorem dc_M_beginning_16 : decode bc_M_beginning 16 = .ok (.ifCond .ne 15, 3) := by decide +kernel
theorem dc_M_beginning_19 : decode bc_M_beginning 19 = .ok (.lload 4, 2) := by decide +kernel
theorem dc_M_beginning_21 : decode bc_M_beginning 21 = .ok (.ldc2_w 121, 3) := by decide +kernel
theorem dc_M_beginning_24 : decode bc_M_beginning 24 = .ok (.iload_n 3, 1) := by decide +kernel
theorem dc_M_beginning_25 : decode bc_M_beginning 25 = .ok (.i2l, 1) := by decide +kernel
theorem dc_M_beginning_26 : decode bc_M_beginning 26 = .ok (.lmul, 1) := by decide +kernel
theorem dc_M_beginning_27 : decode bc_M_beginning 27 = .ok (.ladd, 1) := by decide +kernel
theorem dc_M_beginning_28 : decode bc_M_beginning 28 = .ok (.goto 5, 3) := by decide +kernel
theorem dc_M_beginning_31 : decode bc_M_beginning 31 = .ok (.lload 4, 2) := by decide +kernel
theorem dc_M_beginning_33 : decode bc_M_beginning 33 = .ok (.lreturn, 1) := by decide +kernel
theorem dc_M_trap_0 : decode bc_M_trap 0 = .ok (.aload_n 0, 1) := by decide +kernel
theorem dc_M_trap_1 : decode bc_M_trap 1 = .ok (.iload_n 2, 1) := by decide +kernel
theorem dc_M_trap_2 : decode bc_M_trap 2 = .ok (.ifCond .lt 9, 3) := by decide +kernel
theorem dc_M_trap_5 : decode bc_M_trap 5 = .ok (.iload_n 2, 1) := by decide +kernel
theorem dc_M_trap_6 : decode bc_M_trap 6 = .ok (.bipush 63, 2) := by decide +kernel
theorem dc_M_trap_8 : decode bc_M_trap 8 = .ok (.if_icmp .le 7, 3) := by decide +kernel
theorem dc_M_trap_11 : decode bc_M_trap 11 = .ok (.iconst 1, 1) := by decide +kernel
theorem dc_M_trap_12 : decode bc_M_trap 12 = .ok (.goto 4, 3) := by decide +kernel
theorem dc_M_trap_15 : decode bc_M_trap 15 = .ok (.iconst 0, 1) := by decide +kernel
theorem dc_M_trap_16 : decode bc_M_trap 16 = .ok (.putfield 24, 3) := by decide +kernel
theorem dc_M_trap_19 : decode bc_M_trap 19 = .ok (.aload_n 0, 1) := by decide +kernel
theorem dc_M_trap_20 : decode bc_M_trap 20 = .ok (.getfield 24, 3) := by decide +kernel
theorem dc_M_trap_23 : decode bc_M_trap 23 = .ok (.ifCond .le 5, 3) := by decide +kernel
theorem dc_M_trap_26 : decode bc_M_trap 26 = .ok (.lconst 0, 1) := by decide +kernel
theorem dc_M_trap_27 : decode bc_M_trap 27 = .ok (.lreturn, 1) := by decide +kernel
theorem dc_M_trap_28 : decode bc_M_trap 28 = .ok (.iload_n 1, 1) := by decide +kernel
theorem dc_M_trap_29 : decode bc_M_trap 29 = .ok (.ifCond .eq 12, 3) := by decide +kernel
theorem dc_M_trap_32 : decode bc_M_trap 32 = .ok (.iload_n 2, 1) := by decide +kernel
theorem dc_M_trap_33 : decode bc_M_trap 33 = .ok (.i2l, 1) := by decide +kernel
theorem dc_M_trap_34 : decode bc_M_trap 34 = .ok (.ldc2_w 47, 3) := by decide +kernel
theorem dc_M_trap_37 : decode bc_M_trap 37 = .ok (.lor, 1) := by decide +kernel
theorem dc_M_trap_38 : decode bc_M_trap 38 = .ok (.goto 5, 3) := by decide +kernel
theorem dc_M_trap_41 : decode bc_M_trap 41 = .ok (.iload_n 2, 1) := by decide +kernel
theorem dc_M_trap_42 : decode bc_M_trap 42 = .ok (.i2l, 1) := by decide +kernel
theorem dc_M_trap_43 : decode bc_M_trap 43 = .ok (.lstore 7, 2) := by decide +kernel
theorem dc_M_trap_45 : decode bc_M_trap 45 = .ok (.aload_n 0, 1) := by decide +kernel
theorem dc_M_trap_46 : decode bc_M_trap 46 = .ok (.getfield 7, 3) := by decide +kernel
theorem dc_M_trap_49 : decode bc_M_trap 49 = .ok (.iconst 3, 1) := by decide +kernel
theorem dc_M_trap_50 : decode bc_M_trap 50 = .ok (.if_icmp .ge 34, 3) := by decide +kernel
theorem dc_M_trap_53 : decode bc_M_trap 53 = .ok (.aload_n 0, 1) := by decide +kernel
theorem dc_M_trap_54 : decode bc_M_trap 54 = .ok (.getfield 13, 3) := by decide +kernel
theorem dc_M_trap_57 : decode bc_M_trap 57 = .ok (.iload_n 1, 1) := by decide +kernel
theorem dc_M_trap_58 : decode bc_M_trap 58 = .ok (.ifCond .eq 9, 3) := by decide +kernel
theorem dc_M_trap_61 : decode bc_M_trap 61 = .ok (.sipush 771, 3) := by decide +kernel
theorem dc_M_trap_64 : decode bc_M_trap 64 = .ok (.goto 6, 3) := by decide +kernel
theorem dc_M_trap_67 : decode bc_M_trap 67 = .ok (.sipush 770, 3) := by decide +kernel
theorem dc_M_trap_70 : decode bc_M_trap 70 = .ok (.laload, 1) := by decide +kernel
theorem dc_M_trap_71 : decode bc_M_trap 71 = .ok (.iload_n 2, 1) := by decide +kernel
theorem dc_M_trap_72 : decode bc_M_trap 72 = .ok (.lshr, 1) := by decide +kernel
theorem dc_M_trap_73 : decode bc_M_trap 73 = .ok (.lconst 1, 1) := by decide +kernel
theorem dc_M_trap_74 : decode bc_M_trap 74 = .ok (.land, 1) := by decide +kernel
theorem dc_M_trap_75 : decode bc_M_trap 75 = .ok (.lconst 1, 1) := by decide +kernel
theorem dc_M_trap_76 : decode bc_M_trap 76 = .ok (.lcmp, 1) := by decide +kernel
theorem dc_M_trap_77 : decode bc_M_trap 77 = .ok (.ifCond .ne 7, 3) := by decide +kernel
theorem dc_M_trap_80 : decode bc_M_trap 80 = .ok (.iconst 1, 1) := by decide +kernel
theorem dc_M_trap_81 : decode bc_M_trap 81 = .ok (.goto 4, 3) := by decide +kernel
theorem dc_M_trap_84 : decode bc_M_trap 84 = .ok (.iconst 0, 1) := by decide +kernel
theorem dc_M_trap_85 : decode bc_M_trap 85 = .ok (.istore 9, 2) := by decide +kernel
theorem dc_M_trap_87 : decode bc_M_trap 87 = .ok (.iload 9, 2) := by decide +kernel
theorem dc_M_trap_89 : decode bc_M_trap 89 = .ok (.ifCond .eq 9, 3) := by decide +kernel
theorem dc_M_trap_92 : decode bc_M_trap 92 = .ok (.sipush 320, 3) := by decide +kernel
theorem dc_M_trap_95 : decode bc_M_trap 95 = .ok (.goto 6, 3) := by decide +kernel
theorem dc_M_trap_98 : decode bc_M_trap 98 = .ok (.sipush 832, 3) := by decide +kernel
theorem dc_M_trap_101 : decode bc_M_trap 101 = .ok (.istore 10, 2) := by decide +kernel
theorem dc_M_trap_103 : decode bc_M_trap 103 = .ok (.aload_n 0, 1) := by decide +kernel
theorem dc_M_trap_104 : decode bc_M_trap 104 = .ok (.getfield 13, 3) := by decide +kernel
theorem dc_M_trap_107 : decode bc_M_trap 107 = .ok (.iload 10, 2) := by decide +kernel
theorem dc_M_trap_109 : decode bc_M_trap 109 = .ok (.iconst 1, 1) := by decide +kernel
theorem dc_M_trap_110 : decode bc_M_trap 110 = .ok (.iadd, 1) := by decide +kernel
theorem dc_M_trap_111 : decode bc_M_trap 111 = .ok (.lload 5, 2) := by decide +kernel
theorem dc_M_trap_113 : decode bc_M_trap 113 = .ok (.ldc2_w 96, 3) := by decide +kernel
theorem dc_M_trap_116 : decode bc_M_trap 116 = .ok (.land, 1) := by decide +kernel
theorem dc_M_trap_117 : decode bc_M_trap 117 = .ok (.lastore, 1) := by decide +kernel
theorem dc_M_trap_118 : decode bc_M_trap 118 = .ok (.aload_n 0, 1) := by decide +kernel
theorem dc_M_trap_119 : decode bc_M_trap 119 = .ok (.getfield 13, 3) := by decide +kernel
theorem dc_M_trap_122 : decode bc_M_trap 122 = .ok (.iload 10, 2) := by decide +kernel
theorem dc_M_trap_124 : decode bc_M_trap 124 = .ok (.iconst 2, 1) := by decide +kernel
theorem dc_M_trap_125 : decode bc_M_trap 125 = .ok (.iadd, 1) := by decide +kernel
theorem dc_M_trap_126 : decode bc_M_trap 126 = .ok (.lload 7, 2) := by decide +kernel
theorem dc_M_trap_128 : decode bc_M_trap 128 = .ok (.lastore, 1) := by decide +kernel
theorem dc_M_trap_129 : decode bc_M_trap 129 = .ok (.aload_n 0, 1) := by decide +kernel
theorem dc_M_trap_130 : decode bc_M_trap 130 = .ok (.getfield 13, 3) := by decide +kernel
theorem dc_M_trap_133 : decode bc_M_trap 133 = .ok (.iload 10, 2) := by decide +kernel
theorem dc_M_trap_135 : decode bc_M_trap 135 = .ok (.iconst 3, 1) := by decide +kernel
theorem dc_M_trap_136 : decode bc_M_trap 136 = .ok (.iadd, 1) := by decide +kernel
theorem dc_M_trap_137 : decode bc_M_trap 137 = .ok (.lload_n 3, 1) := by decide +kernel
theorem dc_M_trap_138 : decode bc_M_trap 138 = .ok (.lastore, 1) := by decide +kernel
theorem dc_M_trap_139 : decode bc_M_trap 139 = .ok (.iload 9, 2) := by decide +kernel
theorem dc_M_trap_141 : decode bc_M_trap 141 = .ok (.ifCond .eq 37, 3) := by decide +kernel
theorem dc_M_trap_144 : decode bc_M_trap 144 = .ok (.aload_n 0, 1) := by decide +kernel
theorem dc_M_trap_145 : decode bc_M_trap 145 = .ok (.bipush 8, 2) := by decide +kernel
theorem dc_M_trap_147 : decode bc_M_trap 147 = .ok (.aload_n 0, 1) := by decide +kernel
theorem dc_M_trap_148 : decode bc_M_trap 148 = .ok (.getfield 7, 3) := by decide +kernel
theorem dc_M_trap_151 : decode bc_M_trap 151 = .ok (.invokevirtual 78, 3) := by decide +kernel
theorem dc_M_trap_154 : decode bc_M_trap 154 = .ok (.aload_n 0, 1) := by decide +kernel
theorem dc_M_trap_155 : decode bc_M_trap 155 = .ok (.iconst 5, 1) := by decide +kernel
theorem dc_M_trap_156 : decode bc_M_trap 156 = .ok (.aload_n 0, 1) := by decide +kernel
theorem dc_M_trap_157 : decode bc_M_trap 157 = .ok (.iconst 1, 1) := by decide +kernel
theorem dc_M_trap_158 : decode bc_M_trap 158 = .ok (.invokevirtual 29, 3) := by decide +kernel
theorem dc_M_trap_161 : decode bc_M_trap 161 = .ok (.invokevirtual 78, 3) := by decide +kernel
theorem dc_M_trap_164 : decode bc_M_trap 164 = .ok (.aload_n 0, 1) := by decide +kernel
theorem dc_M_trap_165 : decode bc_M_trap 165 = .ok (.iconst 1, 1) := by decide +kernel
theorem dc_M_trap_166 : decode bc_M_trap 166 = .ok (.iconst 0, 1) := by decide +kernel
theorem dc_M_trap_167 : decode bc_M_trap 167 = .ok (.invokevirtual 78, 3) := by decide +kernel
theorem dc_M_trap_170 : decode bc_M_trap 170 = .ok (.aload_n 0, 1) := by decide +kernel
theorem dc_M_trap_171 : decode bc_M_trap 171 = .ok (.iconst 1, 1) := by decide +kernel
theorem dc_M_trap_172 : decode bc_M_trap 172 = .ok (.putfield 7, 3) := by decide +kernel
theorem dc_M_trap_175 : decode bc_M_trap 175 = .ok (.goto 49, 3) := by decide +kernel
theorem dc_M_trap_178 : decode bc_M_trap 178 = .ok (.aload_n 0, 1) := by decide +kernel
theorem dc_M_trap_179 : decode bc_M_trap 179 = .ok (.bipush 11, 2) := by decide +kernel
theorem dc_M_trap_181 : decode bc_M_trap 181 = .ok (.aload_n 0, 1) := by decide +kernel
theorem dc_M_trap_182 : decode bc_M_trap 182 = .ok (.getfield 7, 3) := by decide +kernel
theorem dc_M_trap_185 : decode bc_M_trap 185 = .ok (.iconst 2, 1) := by decide +kernel
theorem dc_M_trap_186 : decode bc_M_trap 186 = .ok (.irem, 1) := by decide +kernel
theorem dc_M_trap_187 : decode bc_M_trap 187 = .ok (.invokevirtual 78, 3) := by decide +kernel
theorem dc_M_trap_190 : decode bc_M_trap 190 = .ok (.aload_n 0, 1) := by decide +kernel
theorem dc_M_trap_191 : decode bc_M_trap 191 = .ok (.bipush 12, 2) := by decide +kernel
theorem dc_M_trap_193 : decode bc_M_trap 193 = .ok (.aload_n 0, 1) := by decide +kernel
theorem dc_M_trap_194 : decode bc_M_trap 194 = .ok (.getfield 7, 3) := by decide +kernel
theorem dc_M_trap_197 : decode bc_M_trap 197 = .ok (.iconst 2, 1) := by decide +kernel
theorem dc_M_trap_198 : decode bc_M_trap 198 = .ok (.idiv, 1) := by decide +kernel
theorem dc_M_trap_199 : decode bc_M_trap 199 = .ok (.invokevirtual 78, 3) := by decide +kernel
theorem dc_M_trap_202 : decode bc_M_trap 202 = .ok (.aload_n 0, 1) := by decide +kernel
theorem dc_M_trap_203 : decode bc_M_trap 203 = .ok (.bipush 7, 2) := by decide +kernel
theorem dc_M_trap_205 : decode bc_M_trap 205 = .ok (.aload_n 0, 1) := by decide +kernel
theorem dc_M_trap_206 : decode bc_M_trap 206 = .ok (.iconst 3, 1) := by decide +kernel
theorem dc_M_trap_207 : decode bc_M_trap 207 = .ok (.invokevirtual 29, 3) := by decide +kernel
theorem dc_M_trap_210 : decode bc_M_trap 210 = .ok (.invokevirtual 78, 3) := by decide +kernel
theorem dc_M_trap_213 : decode bc_M_trap 213 = .ok (.aload_n 0, 1) := by decide +kernel
theorem dc_M_trap_214 : decode bc_M_trap 214 = .ok (.iconst 3, 1) := by decide +kernel
theorem dc_M_trap_215 : decode bc_M_trap 215 = .ok (.iconst 0, 1) := by decide +kernel
theorem dc_M_trap_216 : decode bc_M_trap 216 = .ok (.invokevirtual 78, 3) := by decide +kernel
theorem dc_M_trap_219 : decode bc_M_trap 219 = .ok (.aload_n 0, 1) := by decide +kernel
theorem dc_M_trap_220 : decode bc_M_trap 220 = .ok (.iconst 3, 1) := by decide +kernel
theorem dc_M_trap_221 : decode bc_M_trap 221 = .ok (.putfield 7, 3) := by decide +kernel
theorem dc_M_trap_224 : decode bc_M_trap 224 = .ok (.aload_n 0, 1) := by decide +kernel
theorem dc_M_trap_225 : decode bc_M_trap 225 = .ok (.aload_n 0, 1) := by decide +kernel
theorem dc_M_trap_226 : decode bc_M_trap 226 = .ok (.getfield 13, 3) := by decide +kernel
theorem dc_M_trap_229 : decode bc_M_trap 229 = .ok (.iload 9, 2) := by decide +kernel
theorem dc_M_trap_231 : decode bc_M_trap 231 = .ok (.ifCond .eq 9, 3) := by decide +kernel
theorem dc_M_trap_234 : decode bc_M_trap 234 = .ok (.sipush 261, 3) := by decide +kernel
theorem dc_M_trap_237 : decode bc_M_trap 237 = .ok (.goto 6, 3) := by decide +kernel
theorem dc_M_trap_240 : decode bc_M_trap 240 = .ok (.sipush 773, 3) := by decide +kernel
theorem dc_M_trap_243 : decode bc_M_trap 243 = .ok (.laload, 1) := by decide +kernel
theorem dc_M_trap_244 : decode bc_M_trap 244 = .ok (.iload_n 1, 1) := by decide +kernel
theorem dc_M_trap_245 : decode bc_M_trap 245 = .ok (.iload_n 2, 1) := by decide +kernel
theorem dc_M_trap_246 : decode bc_M_trap 246 = .ok (.invokestatic 123, 3) := by decide +kernel
theorem dc_M_trap_249 : decode bc_M_trap 249 = .ok (.putfield 127, 3) := by decide +kernel
theorem dc_M_trap_252 : decode bc_M_trap 252 = .ok (.aload_n 0, 1) := by decide +kernel
theorem dc_M_trap_253 : decode bc_M_trap 253 = .ok (.getfield 127, 3) := by decide +kernel
theorem dc_M_trap_256 : decode bc_M_trap 256 = .ok (.lreturn, 1) := by decide +kernel
theorem dc_M_back_0 : decode bc_M_back 0 = .ok (.aload_n 0, 1) := by decide +kernel
theorem dc_M_back_1 : decode bc_M_back 1 = .ok (.iconst 0, 1) := by decide +kernel
theorem dc_M_back_2 : decode bc_M_back 2 = .ok (.putfield 24, 3) := by decide +kernel
theorem dc_M_back_5 : decode bc_M_back 5 = .ok (.aload_n 0, 1) := by decide +kernel
theorem dc_M_back_6 : decode bc_M_back 6 = .ok (.getfield 7, 3) := by decide +kernel
theorem dc_M_back_9 : decode bc_M_back 9 = .ok (.iconst 3, 1) := by decide +kernel
theorem dc_M_back_10 : decode bc_M_back 10 = .ok (.if_icmp .eq 24, 3) := by decide +kernel
theorem dc_M_back_13 : decode bc_M_back 13 = .ok (.iload_n 1, 1) := by decide +kernel
theorem dc_M_back_14 : decode bc_M_back 14 = .ok (.ifCond .ne 24, 3) := by decide +kernel
theorem dc_M_back_17 : decode bc_M_back 17 = .ok (.aload_n 0, 1) := by decide +kernel
theorem dc_M_back_18 : decode bc_M_back 18 = .ok (.getfield 7, 3) := by decide +kernel
theorem dc_M_back_21 : decode bc_M_back 21 = .ok (.iconst 1, 1) := by decide +kernel
theorem dc_M_back_22 : decode bc_M_back 22 = .ok (.if_icmp .ne 16, 3) := by decide +kernel
theorem dc_M_back_25 : decode bc_M_back 25 = .ok (.aload_n 0, 1) := by decide +kernel
theorem dc_M_back_26 : decode bc_M_back 26 = .ok (.bipush 22, 2) := by decide +kernel
theorem dc_M_back_28 : decode bc_M_back 28 = .ok (.invokevirtual 29, 3) := by decide +kernel
theorem dc_M_back_31 : decode bc_M_back 31 = .ok (.ifCond .ne 7, 3) := by decide +kernel
theorem dc_M_back_34 : decode bc_M_back 34 = .ok (.iconst 1, 1) := by decide +kernel
theorem dc_M_back_35 : decode bc_M_back 35 = .ok (.goto 4, 3) := by decide +kernel
theorem dc_M_back_38 : decode bc_M_back 38 = .ok (.iconst 0, 1) := by decide +kernel
theorem dc_M_back_39 : decode bc_M_back 39 = .ok (.istore_n 2, 1) := by decide +kernel
theorem dc_M_back_40 : decode bc_M_back 40 = .ok (.iload_n 2, 1) := by decide +kernel
theorem dc_M_back_41 : decode bc_M_back 41 = .ok (.ifCond .ne 5, 3) := by decide +kernel
theorem dc_M_back_44 : decode bc_M_back 44 = .ok (.iconst 0, 1) := by decide +kernel
theorem dc_M_back_45 : decode bc_M_back 45 = .ok (.ireturn, 1) := by decide +kernel
theorem dc_M_back_46 : decode bc_M_back 46 = .ok (.iload_n 1, 1) := by decide +kernel
theorem dc_M_back_47 : decode bc_M_back 47 = .ok (.ifCond .eq 7, 3) := by decide +kernel
theorem dc_M_back_50 : decode bc_M_back 50 = .ok (.iconst 3, 1) := by decide +kernel
theorem dc_M_back_51 : decode bc_M_back 51 = .ok (.goto 4, 3) := by decide +kernel
theorem dc_M_back_54 : decode bc_M_back 54 = .ok (.iconst 1, 1) := by decide +kernel
theorem dc_M_back_55 : decode bc_M_back 55 = .ok (.istore_n 3, 1) := by decide +kernel
theorem dc_M_back_56 : decode bc_M_back 56 = .ok (.aload_n 0, 1) := by decide +kernel
theorem dc_M_back_57 : decode bc_M_back 57 = .ok (.iload_n 3, 1) := by decide +kernel
theorem dc_M_back_58 : decode bc_M_back 58 = .ok (.aload_n 0, 1) := by decide +kernel
theorem dc_M_back_59 : decode bc_M_back 59 = .ok (.iload_n 3, 1) := by decide +kernel
theorem dc_M_back_60 : decode bc_M_back 60 = .ok (.iconst 4, 1) := by decide +kernel
theorem dc_M_back_61 : decode bc_M_back 61 = .ok (.iadd, 1) := by decide +kernel
theorem dc_M_back_62 : decode bc_M_back 62 = .ok (.invokevirtual 29, 3) := by decide +kernel
theorem dc_M_back_65 : decode bc_M_back 65 = .ok (.invokevirtual 78, 3) := by decide +kernel
theorem dc_M_back_68 : decode bc_M_back 68 = .ok (.aload_n 0, 1) := by decide +kernel
theorem dc_M_back_69 : decode bc_M_back 69 = .ok (.iload_n 3, 1) := by decide +kernel
theorem dc_M_back_70 : decode bc_M_back 70 = .ok (.iconst 4, 1) := by decide +kernel
theorem dc_M_back_71 : decode bc_M_back 71 = .ok (.iadd, 1) := by decide +kernel
theorem dc_M_back_72 : decode bc_M_back 72 = .ok (.iconst 1, 1) := by decide +kernel
theorem dc_M_back_73 : decode bc_M_back 73 = .ok (.invokevirtual 78, 3) := by decide +kernel
theorem dc_M_back_76 : decode bc_M_back 76 = .ok (.aload_n 0, 1) := by decide +kernel
theorem dc_M_back_77 : decode bc_M_back 77 = .ok (.iload_n 1, 1) := by decide +kernel
theorem dc_M_back_78 : decode bc_M_back 78 = .ok (.ifCond .eq 10, 3) := by decide +kernel
theorem dc_M_back_81 : decode bc_M_back 81 = .ok (.aload_n 0, 1) := by decide +kernel
theorem dc_M_back_82 : decode bc_M_back 82 = .ok (.invokevirtual 33, 3) := by decide +kernel
theorem dc_M_back_85 : decode bc_M_back 85 = .ok (.goto 9, 3) := by decide +kernel
theorem dc_M_back_88 : decode bc_M_back 88 = .ok (.aload_n 0, 1) := by decide +kernel
theorem dc_M_back_89 : decode bc_M_back 89 = .ok (.bipush 8, 2) := by decide +kernel
theorem dc_M_back_91 : decode bc_M_back 91 = .ok (.invokevirtual 29, 3) := by decide +kernel
theorem dc_M_back_94 : decode bc_M_back 94 = .ok (.putfield 7, 3) := by decide +kernel
theorem dc_M_back_97 : decode bc_M_back 97 = .ok (.iload_n 1, 1) := by decide +kernel
theorem dc_M_back_98 : decode bc_M_back 98 = .ok (.ifCond .eq 20, 3) := by decide +kernel
theorem dc_M_back_101 : decode bc_M_back 101 = .ok (.aload_n 0, 1) := by decide +kernel
theorem dc_M_back_102 : decode bc_M_back 102 = .ok (.bipush 11, 2) := by decide +kernel
theorem dc_M_back_104 : decode bc_M_back 104 = .ok (.iconst 0, 1) := by decide +kernel
theorem dc_M_back_105 : decode bc_M_back 105 = .ok (.invokevirtual 78, 3) := by decide +kernel
theorem dc_M_back_108 : decode bc_M_back 108 = .ok (.aload_n 0, 1) := by decide +kernel
theorem dc_M_back_109 : decode bc_M_back 109 = .ok (.bipush 12, 2) := by decide +kernel
theorem dc_M_back_111 : decode bc_M_back 111 = .ok (.iconst 0, 1) := by decide +kernel
theorem dc_M_back_112 : decode bc_M_back 112 = .ok (.invokevirtual 78, 3) := by decide +kernel
theorem dc_M_back_115 : decode bc_M_back 115 = .ok (.goto 10, 3) := by decide +kernel
theorem dc_M_back_118 : decode bc_M_back 118 = .ok (.aload_n 0, 1) := by decide +kernel
theorem dc_M_back_119 : decode bc_M_back 119 = .ok (.bipush 8, 2) := by decide +kernel
theorem dc_M_back_121 : decode bc_M_back 121 = .ok (.iconst 0, 1) := by decide +kernel
theorem dc_M_back_122 : decode bc_M_back 122 = .ok (.invokevirtual 78, 3) := by decide +kernel
theorem dc_M_back_125 : decode bc_M_back 125 = .ok (.aload_n 0, 1) := by decide +kernel
theorem dc_M_back_126 : decode bc_M_back 126 = .ok (.getfield 7, 3) := by decide +kernel
theorem dc_M_back_129 : decode bc_M_back 129 = .ok (.iconst 3, 1) := by decide +kernel
theorem dc_M_back_130 : decode bc_M_back 130 = .ok (.if_icmp .ge 10, 3) := by decide +kernel
theorem dc_M_back_133 : decode bc_M_back 133 = .ok (.aload_n 0, 1) := by decide +kernel
theorem dc_M_back_134 : decode bc_M_back 134 = .ok (.bipush 17, 2) := by decide +kernel
theorem dc_M_back_136 : decode bc_M_back 136 = .ok (.iconst 0, 1) := by decide +kernel
theorem dc_M_back_137 : decode bc_M_back 137 = .ok (.invokevirtual 78, 3) := by decide +kernel
theorem dc_M_back_140 : decode bc_M_back 140 = .ok (.aload_n 0, 1) := by decide +kernel
theorem dc_M_back_141 : decode bc_M_back 141 = .ok (.aload_n 0, 1) := by decide +kernel
theorem dc_M_back_142 : decode bc_M_back 142 = .ok (.getfield 13, 3) := by decide +kernel
theorem dc_M_back_145 : decode bc_M_back 145 = .ok (.iload_n 1, 1) := by decide +kernel
theorem dc_M_back_146 : decode bc_M_back 146 = .ok (.ifCond .eq 9, 3) := by decide +kernel
theorem dc_M_back_149 : decode bc_M_back 149 = .ok (.sipush 833, 3) := by decide +kernel
theorem dc_M_back_152 : decode bc_M_back 152 = .ok (.goto 6, 3) := by decide +kernel
theorem dc_M_back_155 : decode bc_M_back 155 = .ok (.sipush 321, 3) := by decide +kernel
theorem dc_M_back_158 : decode bc_M_back 158 = .ok (.laload, 1) := by decide +kernel
theorem dc_M_back_159 : decode bc_M_back 159 = .ok (.putfield 127, 3) := by decide +kernel
theorem dc_M_back_162 : decode bc_M_back 162 = .ok (.iconst 1, 1) := by decide +kernel
theorem dc_M_back_163 : decode bc_M_back 163 = .ok (.ireturn, 1) := by decide +kernel
theorem dc_M_place_0 : decode bc_M_place 0 = .ok (.aload_n 0, 1) := by decide +kernel
theorem dc_M_place_1 : decode bc_M_place 1 = .ok (.iconst 0, 1) := by decide +kernel
theorem dc_M_place_2 : decode bc_M_place 2 = .ok (.putfield 24, 3) := by decide +kernel
theorem dc_M_place_5 : decode bc_M_place 5 = .ok (.aload_n 0, 1) := by decide +kernel
theorem dc_M_place_6 : decode bc_M_place 6 = .ok (.getfield 127, 3) := by decide +kernel
theorem dc_M_place_9 : decode bc_M_place 9 = .ok (.lreturn, 1) := by decide +kernel
theorem dc_M_isPending_0 : decode bc_M_isPending 0 = .ok (.aload_n 0, 1) := by decide +kernel
theorem dc_M_isPending_1 : decode bc_M_isPending 1 = .ok (.sipush 836, 3) := by decide +kernel
theorem dc_M_isPending_4 : decode bc_M_isPending 4 = .ok (.invokevirtual 70, 3) := by decide +kernel
theorem dc_M_isPending_7 : decode bc_M_isPending 7 = .ok (.aload_n 0, 1) := by decide +kernel
theorem dc_M_isPending_8 : decode bc_M_isPending 8 = .ok (.getfield 13, 3) := by decide +kernel
theorem dc_M_isPending_11 : decode bc_M_isPending 11 = .ok (.sipush 772, 3) := by decide +kernel
theorem dc_M_isPending_14 : decode bc_M_isPending 14 = .ok (.laload, 1) := by decide +kernel
theorem dc_M_isPending_15 : decode bc_M_isPending 15 = .ok (.land, 1) := by decide +kernel
theorem dc_M_isPending_16 : decode bc_M_isPending 16 = .ok (.lconst 1, 1) := by decide +kernel
theorem dc_M_isPending_17 : decode bc_M_isPending 17 = .ok (.iload_n 1, 1) := by decide +kernel
theorem dc_M_isPending_18 : decode bc_M_isPending 18 = .ok (.lshl, 1) := by decide +kernel
theorem dc_M_isPending_19 : decode bc_M_isPending 19 = .ok (.land, 1) := by decide +kernel
theorem dc_M_isPending_20 : decode bc_M_isPending 20 = .ok (.lconst 0, 1) := by decide +kernel
theorem dc_M_isPending_21 : decode bc_M_isPending 21 = .ok (.lcmp, 1) := by decide +kernel
theorem dc_M_isPending_22 : decode bc_M_isPending 22 = .ok (.ifCond .eq 7, 3) := by decide +kernel
theorem dc_M_isPending_25 : decode bc_M_isPending 25 = .ok (.iconst 1, 1) := by decide +kernel
theorem dc_M_isPending_26 : decode bc_M_isPending 26 = .ok (.goto 4, 3) := by decide +kernel
theorem dc_M_isPending_29 : decode bc_M_isPending 29 = .ok (.iconst 0, 1) := by decide +kernel
theorem dc_M_isPending_30 : decode bc_M_isPending 30 = .ok (.ireturn, 1) := by decide +kernel
theorem dc_M_mayBe_0 : decode bc_M_mayBe 0 = .ok (.aload_n 0, 1) := by decide +kernel
theorem dc_M_mayBe_1 : decode bc_M_mayBe 1 = .ok (.getfield 13, 3) := by decide +kernel
theorem dc_M_mayBe_4 : decode bc_M_mayBe 4 = .ok (.sipush 771, 3) := by decide +kernel
theorem dc_M_mayBe_7 : decode bc_M_mayBe 7 = .ok (.laload, 1) := by decide +kernel
theorem dc_M_mayBe_8 : decode bc_M_mayBe 8 = .ok (.iload_n 1, 1) := by decide +kernel
theorem dc_M_mayBe_9 : decode bc_M_mayBe 9 = .ok (.lshr, 1) := by decide +kernel
theorem dc_M_mayBe_10 : decode bc_M_mayBe 10 = .ok (.lconst 1, 1) := by decide +kernel
theorem dc_M_mayBe_11 : decode bc_M_mayBe 11 = .ok (.land, 1) := by decide +kernel
theorem dc_M_mayBe_12 : decode bc_M_mayBe 12 = .ok (.lconst 1, 1) := by decide +kernel
theorem dc_M_mayBe_13 : decode bc_M_mayBe 13 = .ok (.lcmp, 1) := by decide +kernel
theorem dc_M_mayBe_14 : decode bc_M_mayBe 14 = .ok (.ifCond .ne 7, 3) := by decide +kernel
theorem dc_M_mayBe_17 : decode bc_M_mayBe 17 = .ok (.iconst 1, 1) := by decide +kernel
theorem dc_M_mayBe_18 : decode bc_M_mayBe 18 = .ok (.goto 4, 3) := by decide +kernel
theorem dc_M_mayBe_21 : decode bc_M_mayBe 21 = .ok (.iconst 0, 1) := by decide +kernel
theorem dc_M_mayBe_22 : decode bc_M_mayBe 22 = .ok (.istore_n 3, 1) := by decide +kernel
theorem dc_M_mayBe_23 : decode bc_M_mayBe 23 = .ok (.iload_n 2, 1) := by decide +kernel
theorem dc_M_mayBe_24 : decode bc_M_mayBe 24 = .ok (.ifCond .eq 35, 3) := by decide +kernel
theorem dc_M_mayBe_27 : decode bc_M_mayBe 27 = .ok (.aload_n 0, 1) := by decide +kernel
theorem dc_M_mayBe_28 : decode bc_M_mayBe 28 = .ok (.getfield 7, 3) := by decide +kernel
theorem dc_M_mayBe_31 : decode bc_M_mayBe 31 = .ok (.ifCond .eq 20, 3) := by decide +kernel
theorem dc_M_mayBe_34 : decode bc_M_mayBe 34 = .ok (.aload_n 0, 1) := by decide +kernel
theorem dc_M_mayBe_35 : decode bc_M_mayBe 35 = .ok (.getfield 7, 3) := by decide +kernel
theorem dc_M_mayBe_38 : decode bc_M_mayBe 38 = .ok (.iconst 1, 1) := by decide +kernel
theorem dc_M_mayBe_39 : decode bc_M_mayBe 39 = .ok (.if_icmp .ne 16, 3) := by decide +kernel
theorem dc_M_mayBe_42 : decode bc_M_mayBe 42 = .ok (.aload_n 0, 1) := by decide +kernel
theorem dc_M_mayBe_43 : decode bc_M_mayBe 43 = .ok (.iconst 1, 1) := by decide +kernel
theorem dc_M_mayBe_44 : decode bc_M_mayBe 44 = .ok (.invokevirtual 29, 3) := by decide +kernel
theorem dc_M_mayBe_47 : decode bc_M_mayBe 47 = .ok (.iconst 1, 1) := by decide +kernel
theorem dc_M_mayBe_48 : decode bc_M_mayBe 48 = .ok (.if_icmp .ne 7, 3) := by decide +kernel
theorem dc_M_mayBe_51 : decode bc_M_mayBe 51 = .ok (.iconst 1, 1) := by decide +kernel
theorem dc_M_mayBe_52 : decode bc_M_mayBe 52 = .ok (.goto 29, 3) := by decide +kernel
theorem dc_M_mayBe_55 : decode bc_M_mayBe 55 = .ok (.iconst 0, 1) := by decide +kernel
theorem dc_M_mayBe_56 : decode bc_M_mayBe 56 = .ok (.goto 25, 3) := by decide +kernel
theorem dc_M_mayBe_59 : decode bc_M_mayBe 59 = .ok (.aload_n 0, 1) := by decide +kernel
theorem dc_M_mayBe_60 : decode bc_M_mayBe 60 = .ok (.getfield 7, 3) := by decide +kernel
theorem dc_M_mayBe_63 : decode bc_M_mayBe 63 = .ok (.iconst 3, 1) := by decide +kernel
theorem dc_M_mayBe_64 : decode bc_M_mayBe 64 = .ok (.if_icmp .lt 12, 3) := by decide +kernel
theorem dc_M_mayBe_67 : decode bc_M_mayBe 67 = .ok (.aload_n 0, 1) := by decide +kernel
theorem dc_M_mayBe_68 : decode bc_M_mayBe 68 = .ok (.iconst 3, 1) := by decide +kernel
theorem dc_M_mayBe_69 : decode bc_M_mayBe 69 = .ok (.invokevirtual 29, 3) := by decide +kernel
theorem dc_M_mayBe_72 : decode bc_M_mayBe 72 = .ok (.iconst 1, 1) := by decide +kernel
theorem dc_M_mayBe_73 : decode bc_M_mayBe 73 = .ok (.if_icmp .ne 7, 3) := by decide +kernel
theorem dc_M_mayBe_76 : decode bc_M_mayBe 76 = .ok (.iconst 1, 1) := by decide +kernel
theorem dc_M_mayBe_77 : decode bc_M_mayBe 77 = .ok (.goto 4, 3) := by decide +kernel
theorem dc_M_mayBe_80 : decode bc_M_mayBe 80 = .ok (.iconst 0, 1) := by decide +kernel
theorem dc_M_mayBe_81 : decode bc_M_mayBe 81 = .ok (.istore 4, 2) := by decide +kernel
theorem dc_M_mayBe_83 : decode bc_M_mayBe 83 = .ok (.aload_n 0, 1) := by decide +kernel
theorem dc_M_mayBe_84 : decode bc_M_mayBe 84 = .ok (.iload_n 1, 1) := by decide +kernel
theorem dc_M_mayBe_85 : decode bc_M_mayBe 85 = .ok (.invokevirtual 130, 3) := by decide +kernel
theorem dc_M_mayBe_88 : decode bc_M_mayBe 88 = .ok (.ifCond .eq 17, 3) := by decide +kernel
theorem dc_M_mayBe_91 : decode bc_M_mayBe 91 = .ok (.iload_n 3, 1) := by decide +kernel
theorem dc_M_mayBe_92 : decode bc_M_mayBe 92 = .ok (.iload_n 2, 1) := by decide +kernel
theorem dc_M_mayBe_93 : decode bc_M_mayBe 93 = .ok (.if_icmp .ne 12, 3) := by decide +kernel
theorem dc_M_mayBe_96 : decode bc_M_mayBe 96 = .ok (.iload 4, 2) := by decide +kernel
theorem dc_M_mayBe_98 : decode bc_M_mayBe 98 = .ok (.ifCond .eq 7, 3) := by decide +kernel
theorem dc_M_mayBe_101 : decode bc_M_mayBe 101 = .ok (.iconst 1, 1) := by decide +kernel
theorem dc_M_mayBe_102 : decode bc_M_mayBe 102 = .ok (.goto 4, 3) := by decide +kernel
theorem dc_M_mayBe_105 : decode bc_M_mayBe 105 = .ok (.iconst 0, 1) := by decide +kernel
theorem dc_M_mayBe_106 : decode bc_M_mayBe 106 = .ok (.ireturn, 1) := by decide +kernel
theorem dc_M_first_0 : decode bc_M_first 0 = .ok (.iconst 0, 1) := by decide +kernel
theorem dc_M_first_1 : decode bc_M_first 1 = .ok (.istore_n 2, 1) := by decide +kernel
theorem dc_M_first_2 : decode bc_M_first 2 = .ok (.iload_n 2, 1) := by decide +kernel
theorem dc_M_first_3 : decode bc_M_first 3 = .ok (.bipush 6, 2) := by decide +kernel
theorem dc_M_first_5 : decode bc_M_first 5 = .ok (.if_icmp .ge 69, 3) := by decide +kernel
theorem dc_M_first_8 : decode bc_M_first 8 = .ok (.iload_n 2, 1) := by decide +kernel
theorem dc_M_first_9 : decode bc_M_first 9 = .ok (.ifCond .ne 8, 3) := by decide +kernel
theorem dc_M_first_12 : decode bc_M_first 12 = .ok (.bipush 11, 2) := by decide +kernel
theorem dc_M_first_14 : decode bc_M_first 14 = .ok (.goto 42, 3) := by decide +kernel
theorem dc_M_first_17 : decode bc_M_first 17 = .ok (.iload_n 2, 1) := by decide +kernel
theorem dc_M_first_18 : decode bc_M_first 18 = .ok (.iconst 1, 1) := by decide +kernel
theorem dc_M_first_19 : decode bc_M_first 19 = .ok (.if_icmp .ne 7, 3) := by decide +kernel
theorem dc_M_first_22 : decode bc_M_first 22 = .ok (.iconst 3, 1) := by decide +kernel
theorem dc_M_first_23 : decode bc_M_first 23 = .ok (.goto 33, 3) := by decide +kernel
theorem dc_M_first_26 : decode bc_M_first 26 = .ok (.iload_n 2, 1) := by decide +kernel
theorem dc_M_first_27 : decode bc_M_first 27 = .ok (.iconst 2, 1) := by decide +kernel
theorem dc_M_first_28 : decode bc_M_first 28 = .ok (.if_icmp .ne 8, 3) := by decide +kernel
theorem dc_M_first_31 : decode bc_M_first 31 = .ok (.bipush 7, 2) := by decide +kernel
theorem dc_M_first_33 : decode bc_M_first 33 = .ok (.goto 23, 3) := by decide +kernel
theorem dc_M_first_36 : decode bc_M_first 36 = .ok (.iload_n 2, 1) := by decide +kernel
theorem dc_M_first_37 : decode bc_M_first 37 = .ok (.iconst 3, 1) := by decide +kernel
theorem dc_M_first_38 : decode bc_M_first 38 = .ok (.if_icmp .ne 8, 3) := by decide +kernel
theorem dc_M_first_41 : decode bc_M_first 41 = .ok (.bipush 9, 2) := by decide +kernel
theorem dc_M_first_43 : decode bc_M_first 43 = .ok (.goto 13, 3) := by decide +kernel
theorem dc_M_first_46 : decode bc_M_first 46 = .ok (.iload_n 2, 1) := by decide +kernel
theorem dc_M_first_47 : decode bc_M_first 47 = .ok (.iconst 4, 1) := by decide +kernel
theorem dc_M_first_48 : decode bc_M_first 48 = .ok (.if_icmp .ne 7, 3) := by decide +kernel
theorem dc_M_first_51 : decode bc_M_first 51 = .ok (.iconst 1, 1) := by decide +kernel
theorem dc_M_first_52 : decode bc_M_first 52 = .ok (.goto 4, 3) := by decide +kernel
theorem dc_M_first_55 : decode bc_M_first 55 = .ok (.iconst 5, 1) := by decide +kernel
theorem dc_M_first_56 : decode bc_M_first 56 = .ok (.istore_n 3, 1) := by decide +kernel
theorem dc_M_first_57 : decode bc_M_first 57 = .ok (.aload_n 0, 1) := by decide +kernel
theorem dc_M_first_58 : decode bc_M_first 58 = .ok (.iload_n 3, 1) := by decide +kernel
theorem dc_M_first_59 : decode bc_M_first 59 = .ok (.iload_n 1, 1) := by decide +kernel
theorem dc_M_first_60 : decode bc_M_first 60 = .ok (.invokevirtual 133, 3) := by decide +kernel
theorem dc_M_first_63 : decode bc_M_first 63 = .ok (.ifCond .eq 5, 3) := by decide +kernel
theorem dc_M_first_66 : decode bc_M_first 66 = .ok (.iload_n 3, 1) := by decide +kernel
theorem dc_M_first_67 : decode bc_M_first 67 = .ok (.ireturn, 1) := by decide +kernel
theorem dc_M_first_68 : decode bc_M_first 68 = .ok (.iinc 2 1, 3) := by decide +kernel
theorem dc_M_first_71 : decode bc_M_first 71 = .ok (.goto (-69), 3) := by decide +kernel
theorem dc_M_first_74 : decode bc_M_first 74 = .ok (.iconst (-1), 1) := by decide +kernel
theorem dc_M_first_75 : decode bc_M_first 75 = .ok (.ireturn, 1) := by decide +kernel
theorem dc_M_taken_0 : decode bc_M_taken 0 = .ok (.aload_n 0, 1) := by decide +kernel
theorem dc_M_taken_1 : decode bc_M_taken 1 = .ok (.iconst 0, 1) := by decide +kernel
theorem dc_M_taken_2 : decode bc_M_taken 2 = .ok (.putfield 24, 3) := by decide +kernel
theorem dc_M_taken_5 : decode bc_M_taken 5 = .ok (.aload_n 0, 1) := by decide +kernel
theorem dc_M_taken_6 : decode bc_M_taken 6 = .ok (.iconst 0, 1) := by decide +kernel
theorem dc_M_taken_7 : decode bc_M_taken 7 = .ok (.invokevirtual 136, 3) := by decide +kernel
theorem dc_M_taken_10 : decode bc_M_taken 10 = .ok (.istore_n 1, 1) := by decide +kernel
theorem dc_M_taken_11 : decode bc_M_taken 11 = .ok (.iload_n 1, 1) := by decide +kernel
theorem dc_M_taken_12 : decode bc_M_taken 12 = .ok (.ifCond .lt 7, 3) := by decide +kernel
theorem dc_M_taken_15 : decode bc_M_taken 15 = .ok (.iload_n 1, 1) := by decide +kernel
theorem dc_M_taken_16 : decode bc_M_taken 16 = .ok (.goto 8, 3) := by decide +kernel
theorem dc_M_taken_19 : decode bc_M_taken 19 = .ok (.aload_n 0, 1) := by decide +kernel
theorem dc_M_taken_20 : decode bc_M_taken 20 = .ok (.iconst 1, 1) := by decide +kernel
theorem dc_M_taken_21 : decode bc_M_taken 21 = .ok (.invokevirtual 136, 3) := by decide +kernel
theorem dc_M_taken_24 : decode bc_M_taken 24 = .ok (.ireturn, 1) := by decide +kernel
theorem dc_M_wakes_0 : decode bc_M_wakes 0 = .ok (.aload_n 0, 1) := by decide +kernel
theorem dc_M_wakes_1 : decode bc_M_wakes 1 = .ok (.iconst 0, 1) := by decide +kernel
theorem dc_M_wakes_2 : decode bc_M_wakes 2 = .ok (.putfield 24, 3) := by decide +kernel
theorem dc_M_wakes_5 : decode bc_M_wakes 5 = .ok (.aload_n 0, 1) := by decide +kernel
theorem dc_M_wakes_6 : decode bc_M_wakes 6 = .ok (.sipush 836, 3) := by decide +kernel
theorem dc_M_wakes_9 : decode bc_M_wakes 9 = .ok (.invokevirtual 70, 3) := by decide +kernel
theorem dc_M_wakes_12 : decode bc_M_wakes 12 = .ok (.aload_n 0, 1) := by decide +kernel
theorem dc_M_wakes_13 : decode bc_M_wakes 13 = .ok (.getfield 13, 3) := by decide +kernel
theorem dc_M_wakes_16 : decode bc_M_wakes 16 = .ok (.sipush 772, 3) := by decide +kernel
theorem dc_M_wakes_19 : decode bc_M_wakes 19 = .ok (.laload, 1) := by decide +kernel
theorem dc_M_wakes_20 : decode bc_M_wakes 20 = .ok (.land, 1) := by decide +kernel
theorem dc_M_wakes_21 : decode bc_M_wakes 21 = .ok (.lconst 0, 1) := by decide +kernel
theorem dc_M_wakes_22 : decode bc_M_wakes 22 = .ok (.lcmp, 1) := by decide +kernel
theorem dc_M_wakes_23 : decode bc_M_wakes 23 = .ok (.ifCond .eq 7, 3) := by decide +kernel
theorem dc_M_wakes_26 : decode bc_M_wakes 26 = .ok (.iconst 1, 1) := by decide +kernel
theorem dc_M_wakes_27 : decode bc_M_wakes 27 = .ok (.goto 4, 3) := by decide +kernel
theorem dc_M_wakes_30 : decode bc_M_wakes 30 = .ok (.iconst 0, 1) := by decide +kernel
theorem dc_M_wakes_31 : decode bc_M_wakes 31 = .ok (.ireturn, 1) := by decide +kernel
theorem dc_M_line_0 : decode bc_M_line 0 = .ok (.aload_n 0, 1) := by decide +kernel
theorem dc_M_line_1 : decode bc_M_line 1 = .ok (.iload_n 1, 1) := by decide +kernel
theorem dc_M_line_2 : decode bc_M_line 2 = .ok (.iconst 3, 1) := by decide +kernel
theorem dc_M_line_3 : decode bc_M_line 3 = .ok (.if_icmp .eq 21, 3) := by decide +kernel
theorem dc_M_line_6 : decode bc_M_line 6 = .ok (.iload_n 1, 1) := by decide +kernel
theorem dc_M_line_7 : decode bc_M_line 7 = .ok (.bipush 7, 2) := by decide +kernel
theorem dc_M_line_9 : decode bc_M_line 9 = .ok (.if_icmp .eq 15, 3) := by decide +kernel
theorem dc_M_line_12 : decode bc_M_line 12 = .ok (.iload_n 1, 1) := by decide +kernel
theorem dc_M_line_13 : decode bc_M_line 13 = .ok (.bipush 9, 2) := by decide +kernel
theorem dc_M_line_15 : decode bc_M_line 15 = .ok (.if_icmp .eq 9, 3) := by decide +kernel
theorem dc_M_line_18 : decode bc_M_line 18 = .ok (.iload_n 1, 1) := by decide +kernel
theorem dc_M_line_19 : decode bc_M_line 19 = .ok (.bipush 11, 2) := by decide +kernel
theorem dc_M_line_21 : decode bc_M_line 21 = .ok (.if_icmp .ne 7, 3) := by decide +kernel
theorem dc_M_line_24 : decode bc_M_line 24 = .ok (.iconst 0, 1) := by decide +kernel
theorem dc_M_line_25 : decode bc_M_line 25 = .ok (.goto 4, 3) := by decide +kernel
theorem dc_M_line_28 : decode bc_M_line 28 = .ok (.iconst 1, 1) := by decide +kernel
theorem dc_M_line_29 : decode bc_M_line 29 = .ok (.putfield 24, 3) := by decide +kernel
theorem dc_M_line_32 : decode bc_M_line 32 = .ok (.aload_n 0, 1) := by decide +kernel
theorem dc_M_line_33 : decode bc_M_line 33 = .ok (.getfield 24, 3) := by decide +kernel
theorem dc_M_line_36 : decode bc_M_line 36 = .ok (.ifCond .ne 10, 3) := by decide +kernel
theorem dc_M_line_39 : decode bc_M_line 39 = .ok (.aload_n 0, 1) := by decide +kernel
theorem dc_M_line_40 : decode bc_M_line 40 = .ok (.getfield 17, 3) := by decide +kernel
theorem dc_M_line_43 : decode bc_M_line 43 = .ok (.iload_n 1, 1) := by decide +kernel
theorem dc_M_line_44 : decode bc_M_line 44 = .ok (.iload_n 2, 1) := by decide +kernel
theorem dc_M_line_45 : decode bc_M_line 45 = .ok (.bastore, 1) := by decide +kernel
theorem dc_M_line_46 : decode bc_M_line 46 = .ok (.return_, 1) := by decide +kernel
theorem dc_M_allowed_0 : decode bc_M_allowed 0 = .ok (.aload_n 0, 1) := by decide +kernel
theorem dc_M_allowed_1 : decode bc_M_allowed 1 = .ok (.iload_n 1, 1) := by decide +kernel
theorem dc_M_allowed_2 : decode bc_M_allowed 2 = .ok (.ifCond .eq 8, 3) := by decide +kernel
theorem dc_M_allowed_5 : decode bc_M_allowed 5 = .ok (.iload_n 1, 1) := by decide +kernel
theorem dc_M_allowed_6 : decode bc_M_allowed 6 = .ok (.iconst 1, 1) := by decide +kernel
theorem dc_M_allowed_7 : decode bc_M_allowed 7 = .ok (.if_icmp .ne 7, 3) := by decide +kernel
theorem dc_M_allowed_10 : decode bc_M_allowed 10 = .ok (.iconst 0, 1) := by decide +kernel
theorem dc_M_allowed_11 : decode bc_M_allowed 11 = .ok (.goto 4, 3) := by decide +kernel
theorem dc_M_allowed_14 : decode bc_M_allowed 14 = .ok (.iconst 1, 1) := by decide +kernel
theorem dc_M_allowed_15 : decode bc_M_allowed 15 = .ok (.putfield 24, 3) := by decide +kernel
theorem dc_M_allowed_18 : decode bc_M_allowed 18 = .ok (.aload_n 0, 1) := by decide +kernel
theorem dc_M_allowed_19 : decode bc_M_allowed 19 = .ok (.getfield 24, 3) := by decide +kernel
theorem dc_M_allowed_22 : decode bc_M_allowed 22 = .ok (.ifCond .ne 41, 3) := by decide +kernel
theorem dc_M_allowed_25 : decode bc_M_allowed 25 = .ok (.aload_n 0, 1) := by decide +kernel
theorem dc_M_allowed_26 : decode bc_M_allowed 26 = .ok (.getfield 7, 3) := by decide +kernel
theorem dc_M_allowed_29 : decode bc_M_allowed 29 = .ok (.iconst 3, 1) := by decide +kernel
theorem dc_M_allowed_30 : decode bc_M_allowed 30 = .ok (.if_icmp .eq 29, 3) := by decide +kernel
theorem dc_M_allowed_33 : decode bc_M_allowed 33 = .ok (.aload_n 0, 1) := by decide +kernel
theorem dc_M_allowed_34 : decode bc_M_allowed 34 = .ok (.getfield 7, 3) := by decide +kernel
theorem dc_M_allowed_37 : decode bc_M_allowed 37 = .ok (.iconst 1, 1) := by decide +kernel
theorem dc_M_allowed_38 : decode bc_M_allowed 38 = .ok (.if_icmp .ne 25, 3) := by decide +kernel
theorem dc_M_allowed_41 : decode bc_M_allowed 41 = .ok (.aload_n 0, 1) := by decide +kernel
theorem dc_M_allowed_42 : decode bc_M_allowed 42 = .ok (.iload_n 1, 1) := by decide +kernel
theorem dc_M_allowed_43 : decode bc_M_allowed 43 = .ok (.ifCond .ne 8, 3) := by decide +kernel
theorem dc_M_allowed_46 : decode bc_M_allowed 46 = .ok (.bipush 21, 2) := by decide +kernel
theorem dc_M_allowed_48 : decode bc_M_allowed 48 = .ok (.goto 5, 3) := by decide +kernel
theorem dc_M_allowed_51 : decode bc_M_allowed 51 = .ok (.bipush 20, 2) := by decide +kernel
theorem dc_M_allowed_53 : decode bc_M_allowed 53 = .ok (.invokevirtual 29, 3) := by decide +kernel
theorem dc_M_allowed_56 : decode bc_M_allowed 56 = .ok (.ifCond .ne 7, 3) := by decide +kernel
theorem dc_M_allowed_59 : decode bc_M_allowed 59 = .ok (.iconst 1, 1) := by decide +kernel
theorem dc_M_allowed_60 : decode bc_M_allowed 60 = .ok (.goto 4, 3) := by decide +kernel
theorem dc_M_allowed_63 : decode bc_M_allowed 63 = .ok (.iconst 0, 1) := by decide +kernel
theorem dc_M_allowed_64 : decode bc_M_allowed 64 = .ok (.ireturn, 1) := by decide +kernel
theorem dc_M_floats_0 : decode bc_M_floats 0 = .ok (.aload_n 0, 1) := by decide +kernel
theorem dc_M_floats_1 : decode bc_M_floats 1 = .ok (.iconst 0, 1) := by decide +kernel
theorem dc_M_floats_2 : decode bc_M_floats 2 = .ok (.putfield 24, 3) := by decide +kernel
theorem dc_M_floats_5 : decode bc_M_floats 5 = .ok (.aload_n 0, 1) := by decide +kernel
theorem dc_M_floats_6 : decode bc_M_floats 6 = .ok (.invokevirtual 44, 3) := by decide +kernel
theorem dc_M_floats_9 : decode bc_M_floats 9 = .ok (.ifCond .le 7, 3) := by decide +kernel
theorem dc_M_floats_12 : decode bc_M_floats 12 = .ok (.iconst 1, 1) := by decide +kernel
theorem dc_M_floats_13 : decode bc_M_floats 13 = .ok (.goto 4, 3) := by decide +kernel
theorem dc_M_floats_16 : decode bc_M_floats 16 = .ok (.iconst 0, 1) := by decide +kernel
theorem dc_M_floats_17 : decode bc_M_floats 17 = .ok (.ireturn, 1) := by decide +kernel
theorem dc_M_dirty_0 : decode bc_M_dirty 0 = .ok (.aload_n 0, 1) := by decide +kernel
theorem dc_M_dirty_1 : decode bc_M_dirty 1 = .ok (.iconst 0, 1) := by decide +kernel
theorem dc_M_dirty_2 : decode bc_M_dirty 2 = .ok (.putfield 24, 3) := by decide +kernel
theorem dc_M_dirty_5 : decode bc_M_dirty 5 = .ok (.aload_n 0, 1) := by decide +kernel
theorem dc_M_dirty_6 : decode bc_M_dirty 6 = .ok (.invokevirtual 44, 3) := by decide +kernel
theorem dc_M_dirty_9 : decode bc_M_dirty 9 = .ok (.ifCond .le 17, 3) := by decide +kernel
theorem dc_M_dirty_12 : decode bc_M_dirty 12 = .ok (.aload_n 0, 1) := by decide +kernel
theorem dc_M_dirty_13 : decode bc_M_dirty 13 = .ok (.bipush 13, 2) := by decide +kernel
theorem dc_M_dirty_15 : decode bc_M_dirty 15 = .ok (.iconst 1, 1) := by decide +kernel
theorem dc_M_dirty_16 : decode bc_M_dirty 16 = .ok (.invokevirtual 78, 3) := by decide +kernel
theorem dc_M_dirty_19 : decode bc_M_dirty 19 = .ok (.aload_n 0, 1) := by decide +kernel
theorem dc_M_dirty_20 : decode bc_M_dirty 20 = .ok (.bipush 14, 2) := by decide +kernel
theorem dc_M_dirty_22 : decode bc_M_dirty 22 = .ok (.iconst 1, 1) := by decide +kernel
theorem dc_M_dirty_23 : decode bc_M_dirty 23 = .ok (.invokevirtual 78, 3) := by decide +kernel
theorem dc_M_dirty_26 : decode bc_M_dirty 26 = .ok (.return_, 1) := by decide +kernel
theorem dc_M_count_0 : decode bc_M_count 0 = .ok (.aload_n 0, 1) := by decide +kernel
theorem dc_M_count_1 : decode bc_M_count 1 = .ok (.iconst 0, 1) := by decide +kernel
theorem dc_M_count_2 : decode bc_M_count 2 = .ok (.putfield 24, 3) := by decide +kernel
theorem dc_M_count_5 : decode bc_M_count 5 = .ok (.aload_n 0, 1) := by decide +kernel
theorem dc_M_count_6 : decode bc_M_count 6 = .ok (.getfield 13, 3) := by decide +kernel
theorem dc_M_count_9 : decode bc_M_count 9 = .ok (.sipush 2816, 3) := by decide +kernel
theorem dc_M_count_12 : decode bc_M_count 12 = .ok (.aload_n 0, 1) := by decide +kernel
theorem dc_M_count_13 : decode bc_M_count 13 = .ok (.getfield 13, 3) := by decide +kernel
theorem dc_M_count_16 : decode bc_M_count 16 = .ok (.sipush 2816, 3) := by decide +kernel
theorem dc_M_count_19 : decode bc_M_count 19 = .ok (.laload, 1) := by decide +kernel
theorem dc_M_count_20 : decode bc_M_count 20 = .ok (.lload_n 1, 1) := by decide +kernel
theorem dc_M_count_21 : decode bc_M_count 21 = .ok (.ladd, 1) := by decide +kernel
theorem dc_M_count_22 : decode bc_M_count 22 = .ok (.lastore, 1) := by decide +kernel
theorem dc_M_count_23 : decode bc_M_count 23 = .ok (.aload_n 0, 1) := by decide +kernel
theorem dc_M_count_24 : decode bc_M_count 24 = .ok (.getfield 13, 3) := by decide +kernel
theorem dc_M_count_27 : decode bc_M_count 27 = .ok (.sipush 2818, 3) := by decide +kernel
theorem dc_M_count_30 : decode bc_M_count 30 = .ok (.aload_n 0, 1) := by decide +kernel
theorem dc_M_count_31 : decode bc_M_count 31 = .ok (.getfield 13, 3) := by decide +kernel
theorem dc_M_count_34 : decode bc_M_count 34 = .ok (.sipush 2818, 3) := by decide +kernel
theorem dc_M_count_37 : decode bc_M_count 37 = .ok (.laload, 1) := by decide +kernel
theorem dc_M_count_38 : decode bc_M_count 38 = .ok (.lload_n 3, 1) := by decide +kernel
theorem dc_M_count_39 : decode bc_M_count 39 = .ok (.ladd, 1) := by decide +kernel
theorem dc_M_count_40 : decode bc_M_count 40 = .ok (.lastore, 1) := by decide +kernel
theorem dc_M_count_41 : decode bc_M_count 41 = .ok (.return_, 1) := by decide +kernel
theorem dc_M_time_0 : decode bc_M_time 0 = .ok (.aload_n 0, 1) := by decide +kernel
theorem dc_M_time_1 : decode bc_M_time 1 = .ok (.iconst 0, 1) := by decide +kernel
theorem dc_M_time_2 : decode bc_M_time 2 = .ok (.putfield 24, 3) := by decide +kernel
theorem dc_M_time_5 : decode bc_M_time 5 = .ok (.aload_n 0, 1) := by decide +kernel
theorem dc_M_time_6 : decode bc_M_time 6 = .ok (.lload_n 1, 1) := by decide +kernel
theorem dc_M_time_7 : decode bc_M_time 7 = .ok (.putfield 63, 3) := by decide +kernel
theorem dc_M_time_10 : decode bc_M_time 10 = .ok (.return_, 1) := by decide +kernel
end
section
theorem dc_L_cell_0 : decode bc_L_cell 0 = .ok (.iload_n 1, 1) := by decide +kernel
theorem dc_L_cell_1 : decode bc_L_cell 1 = .ok (.aload_n 0, 1) := by decide +kernel
theorem dc_L_cell_2 : decode bc_L_cell 2 = .ok (.arraylength, 1) := by decide +kernel
theorem dc_L_cell_3 : decode bc_L_cell 3 = .ok (.if_icmp .ge 9, 3) := by decide +kernel
theorem dc_L_cell_6 : decode bc_L_cell 6 = .ok (.aload_n 0, 1) := by decide +kernel
theorem dc_L_cell_7 : decode bc_L_cell 7 = .ok (.iload_n 1, 1) := by decide +kernel
theorem dc_L_cell_8 : decode bc_L_cell 8 = .ok (.iaload, 1) := by decide +kernel
theorem dc_L_cell_9 : decode bc_L_cell 9 = .ok (.goto 4, 3) := by decide +kernel
theorem dc_L_cell_12 : decode bc_L_cell 12 = .ok (.iconst 0, 1) := by decide +kernel
theorem dc_L_cell_13 : decode bc_L_cell 13 = .ok (.ireturn, 1) := by decide +kernel
theorem dc_L_access_0 : decode bc_L_access 0 = .ok (.aload 6, 2) := by decide +kernel
theorem dc_L_access_2 : decode bc_L_access 2 = .ok (.iconst 0, 1) := by decide +kernel
theorem dc_L_access_3 : decode bc_L_access 3 = .ok (.aload_n 0, 1) := by decide +kernel
theorem dc_L_access_4 : decode bc_L_access 4 = .ok (.iload_n 1, 1) := by decide +kernel
theorem dc_L_access_5 : decode bc_L_access 5 = .ok (.iload_n 2, 1) := by decide +kernel
theorem dc_L_access_6 : decode bc_L_access 6 = .ok (.iload_n 3, 1) := by decide +kernel
theorem dc_L_access_7 : decode bc_L_access 7 = .ok (.lload 4, 2) := by decide +kernel
theorem dc_L_access_9 : decode bc_L_access 9 = .ok (.invokevirtual 7, 3) := by decide +kernel
theorem dc_L_access_12 : decode bc_L_access 12 = .ok (.i2l, 1) := by decide +kernel
theorem dc_L_access_13 : decode bc_L_access 13 = .ok (.lastore, 1) := by decide +kernel
theorem dc_L_access_14 : decode bc_L_access 14 = .ok (.goto 7, 3) := by decide +kernel
theorem dc_L_access_17 : decode bc_L_access 17 = .ok (.astore 7, 2) := by decide +kernel
theorem dc_L_access_19 : decode bc_L_access 19 = .ok (.iconst 1, 1) := by decide +kernel
theorem dc_L_access_20 : decode bc_L_access 20 = .ok (.ireturn, 1) := by decide +kernel
theorem dc_L_access_21 : decode bc_L_access 21 = .ok (.iconst 0, 1) := by decide +kernel
theorem dc_L_access_22 : decode bc_L_access 22 = .ok (.ireturn, 1) := by decide +kernel
theorem dc_L_trap_0 : decode bc_L_trap 0 = .ok (.aload 7, 2) := by decide +kernel
theorem dc_L_trap_2 : decode bc_L_trap 2 = .ok (.iconst 0, 1) := by decide +kernel
theorem dc_L_trap_3 : decode bc_L_trap 3 = .ok (.aload_n 0, 1) := by decide +kernel
theorem dc_L_trap_4 : decode bc_L_trap 4 = .ok (.iload_n 1, 1) := by decide +kernel
theorem dc_L_trap_5 : decode bc_L_trap 5 = .ok (.iload_n 2, 1) := by decide +kernel
theorem dc_L_trap_6 : decode bc_L_trap 6 = .ok (.lload_n 3, 1) := by decide +kernel
theorem dc_L_trap_7 : decode bc_L_trap 7 = .ok (.lload 5, 2) := by decide +kernel
theorem dc_L_trap_9 : decode bc_L_trap 9 = .ok (.invokevirtual 15, 3) := by decide +kernel
theorem dc_L_trap_12 : decode bc_L_trap 12 = .ok (.lastore, 1) := by decide +kernel
theorem dc_L_trap_13 : decode bc_L_trap 13 = .ok (.goto 7, 3) := by decide +kernel
theorem dc_L_trap_16 : decode bc_L_trap 16 = .ok (.astore 8, 2) := by decide +kernel
theorem dc_L_trap_18 : decode bc_L_trap 18 = .ok (.iconst 1, 1) := by decide +kernel
theorem dc_L_trap_19 : decode bc_L_trap 19 = .ok (.ireturn, 1) := by decide +kernel
theorem dc_L_trap_20 : decode bc_L_trap 20 = .ok (.iconst 0, 1) := by decide +kernel
theorem dc_L_trap_21 : decode bc_L_trap 21 = .ok (.ireturn, 1) := by decide +kernel
theorem dc_L_line_0 : decode bc_L_line 0 = .ok (.aload_n 0, 1) := by decide +kernel
theorem dc_L_line_1 : decode bc_L_line 1 = .ok (.iload_n 1, 1) := by decide +kernel
theorem dc_L_line_2 : decode bc_L_line 2 = .ok (.iload_n 2, 1) := by decide +kernel
theorem dc_L_line_3 : decode bc_L_line 3 = .ok (.invokevirtual 19, 3) := by decide +kernel
theorem dc_L_line_6 : decode bc_L_line 6 = .ok (.goto 6, 3) := by decide +kernel
theorem dc_L_line_9 : decode bc_L_line 9 = .ok (.astore_n 3, 1) := by decide +kernel
theorem dc_L_line_10 : decode bc_L_line 10 = .ok (.iconst 1, 1) := by decide +kernel
theorem dc_L_line_11 : decode bc_L_line 11 = .ok (.ireturn, 1) := by decide +kernel
theorem dc_L_line_12 : decode bc_L_line 12 = .ok (.iconst 0, 1) := by decide +kernel
theorem dc_L_line_13 : decode bc_L_line 13 = .ok (.ireturn, 1) := by decide +kernel
theorem dc_L_allowed_0 : decode bc_L_allowed 0 = .ok (.aload_n 2, 1) := by decide +kernel
theorem dc_L_allowed_1 : decode bc_L_allowed 1 = .ok (.iconst 0, 1) := by decide +kernel
theorem dc_L_allowed_2 : decode bc_L_allowed 2 = .ok (.aload_n 0, 1) := by decide +kernel
theorem dc_L_allowed_3 : decode bc_L_allowed 3 = .ok (.iload_n 1, 1) := by decide +kernel
theorem dc_L_allowed_4 : decode bc_L_allowed 4 = .ok (.invokevirtual 23, 3) := by decide +kernel
theorem dc_L_allowed_7 : decode bc_L_allowed 7 = .ok (.ifCond .eq 7, 3) := by decide +kernel
theorem dc_L_allowed_10 : decode bc_L_allowed 10 = .ok (.lconst 1, 1) := by decide +kernel
theorem dc_L_allowed_11 : decode bc_L_allowed 11 = .ok (.goto 4, 3) := by decide +kernel
theorem dc_L_allowed_14 : decode bc_L_allowed 14 = .ok (.lconst 0, 1) := by decide +kernel
theorem dc_L_allowed_15 : decode bc_L_allowed 15 = .ok (.lastore, 1) := by decide +kernel
theorem dc_L_allowed_16 : decode bc_L_allowed 16 = .ok (.goto 6, 3) := by decide +kernel
theorem dc_L_allowed_19 : decode bc_L_allowed 19 = .ok (.astore_n 3, 1) := by decide +kernel
theorem dc_L_allowed_20 : decode bc_L_allowed 20 = .ok (.iconst 1, 1) := by decide +kernel
theorem dc_L_allowed_21 : decode bc_L_allowed 21 = .ok (.ireturn, 1) := by decide +kernel
theorem dc_L_allowed_22 : decode bc_L_allowed 22 = .ok (.iconst 0, 1) := by decide +kernel
theorem dc_L_allowed_23 : decode bc_L_allowed 23 = .ok (.ireturn, 1) := by decide +kernel
theorem dc_L_law_0 : decode code 0 = .ok (.new 8, 3) := by decide +kernel
theorem dc_L_law_3 : decode code 3 = .ok (.dup, 1) := by decide +kernel
theorem dc_L_law_4 : decode code 4 = .ok (.aload_n 0, 1) := by decide +kernel
theorem dc_L_law_5 : decode code 5 = .ok (.iconst 0, 1) := by decide +kernel
theorem dc_L_law_6 : decode code 6 = .ok (.invokestatic 27, 3) := by decide +kernel
theorem dc_L_law_9 : decode code 9 = .ok (.invokespecial 33, 3) := by decide +kernel
theorem dc_L_law_12 : decode code 12 = .ok (.astore_n 1, 1) := by decide +kernel
theorem dc_L_law_13 : decode code 13 = .ok (.new 36, 3) := by decide +kernel
theorem dc_L_law_16 : decode code 16 = .ok (.dup, 1) := by decide +kernel
theorem dc_L_law_17 : decode code 17 = .ok (.aload_n 0, 1) := by decide +kernel
theorem dc_L_law_18 : decode code 18 = .ok (.iconst 0, 1) := by decide +kernel
theorem dc_L_law_19 : decode code 19 = .ok (.invokestatic 27, 3) := by decide +kernel
theorem dc_L_law_22 : decode code 22 = .ok (.invokespecial 38, 3) := by decide +kernel
theorem dc_L_law_25 : decode code 25 = .ok (.astore_n 2, 1) := by decide +kernel
theorem dc_L_law_26 : decode code 26 = .ok (.iconst 1, 1) := by decide +kernel
theorem dc_L_law_27 : decode code 27 = .ok (.newarray .long, 2) := by decide +kernel
theorem dc_L_law_29 : decode code 29 = .ok (.astore_n 3, 1) := by decide +kernel
theorem dc_L_law_30 : decode code 30 = .ok (.iconst 1, 1) := by decide +kernel
theorem dc_L_law_31 : decode code 31 = .ok (.istore 4, 2) := by decide +kernel
theorem dc_L_law_33 : decode code 33 = .ok (.iload 4, 2) := by decide +kernel
theorem dc_L_law_35 : decode code 35 = .ok (.aload_n 0, 1) := by decide +kernel
theorem dc_L_law_36 : decode code 36 = .ok (.arraylength, 1) := by decide +kernel
theorem dc_L_law_37 : decode code 37 = .ok (.bipush 7, 2) := by decide +kernel
theorem dc_L_law_39 : decode code 39 = .ok (.isub, 1) := by decide +kernel
theorem dc_L_law_40 : decode code 40 = .ok (.if_icmp .gt 859, 3) := by decide +kernel
theorem dc_L_law_43 : decode code 43 = .ok (.aload_n 0, 1) := by decide +kernel
theorem dc_L_law_44 : decode code 44 = .ok (.iload 4, 2) := by decide +kernel
theorem dc_L_law_46 : decode code 46 = .ok (.iaload, 1) := by decide +kernel
theorem dc_L_law_47 : decode code 47 = .ok (.bipush 15, 2) := by decide +kernel
theorem dc_L_law_49 : decode code 49 = .ok (.iand, 1) := by decide +kernel
theorem dc_L_law_50 : decode code 50 = .ok (.tableswitch 843 0 15 #[78, 91, 104, 244, 258, 284, 457, 498, 512, 525, 538, 602, 665, 678, 689, 788], 78) := by decide +kernel
theorem dc_L_law_128 : decode code 128 = .ok (.aload_n 1, 1) := by decide +kernel
theorem dc_L_law_129 : decode code 129 = .ok (.invokevirtual 39, 3) := by decide +kernel
theorem dc_L_law_132 : decode code 132 = .ok (.aload_n 2, 1) := by decide +kernel
theorem dc_L_law_133 : decode code 133 = .ok (.invokevirtual 43, 3) := by decide +kernel
theorem dc_L_law_136 : decode code 136 = .ok (.if_icmp .eq 757, 3) := by decide +kernel
theorem dc_L_law_139 : decode code 139 = .ok (.iconst 0, 1) := by decide +kernel
theorem dc_L_law_140 : decode code 140 = .ok (.ireturn, 1) := by decide +kernel
theorem dc_L_law_141 : decode code 141 = .ok (.aload_n 1, 1) := by decide +kernel
theorem dc_L_law_142 : decode code 142 = .ok (.invokevirtual 44, 3) := by decide +kernel
theorem dc_L_law_145 : decode code 145 = .ok (.aload_n 2, 1) := by decide +kernel
theorem dc_L_law_146 : decode code 146 = .ok (.invokevirtual 47, 3) := by decide +kernel
theorem dc_L_law_149 : decode code 149 = .ok (.if_icmp .eq 744, 3) := by decide +kernel
theorem dc_L_law_152 : decode code 152 = .ok (.iconst 0, 1) := by decide +kernel
theorem dc_L_law_153 : decode code 153 = .ok (.ireturn, 1) := by decide +kernel
theorem dc_L_law_154 : decode code 154 = .ok (.aload_n 1, 1) := by decide +kernel
theorem dc_L_law_155 : decode code 155 = .ok (.aload_n 0, 1) := by decide +kernel
theorem dc_L_law_156 : decode code 156 = .ok (.iload 4, 2) := by decide +kernel
theorem dc_L_law_158 : decode code 158 = .ok (.iconst 1, 1) := by decide +kernel
theorem dc_L_law_159 : decode code 159 = .ok (.iadd, 1) := by decide +kernel
theorem dc_L_law_160 : decode code 160 = .ok (.iaload, 1) := by decide +kernel
theorem dc_L_law_161 : decode code 161 = .ok (.aload_n 0, 1) := by decide +kernel
theorem dc_L_law_162 : decode code 162 = .ok (.iload 4, 2) := by decide +kernel
theorem dc_L_law_164 : decode code 164 = .ok (.iconst 2, 1) := by decide +kernel
theorem dc_L_law_165 : decode code 165 = .ok (.iadd, 1) := by decide +kernel
theorem dc_L_law_166 : decode code 166 = .ok (.iaload, 1) := by decide +kernel
theorem dc_L_law_167 : decode code 167 = .ok (.aload_n 0, 1) := by decide +kernel
theorem dc_L_law_168 : decode code 168 = .ok (.iload 4, 2) := by decide +kernel
theorem dc_L_law_170 : decode code 170 = .ok (.iconst 3, 1) := by decide +kernel
theorem dc_L_law_171 : decode code 171 = .ok (.iadd, 1) := by decide +kernel
theorem dc_L_law_172 : decode code 172 = .ok (.iaload, 1) := by decide +kernel
theorem dc_L_law_173 : decode code 173 = .ok (.ifCond .eq 7, 3) := by decide +kernel
theorem dc_L_law_176 : decode code 176 = .ok (.iconst 1, 1) := by decide +kernel
theorem dc_L_law_177 : decode code 177 = .ok (.goto 4, 3) := by decide +kernel
theorem dc_L_law_180 : decode code 180 = .ok (.iconst 0, 1) := by decide +kernel
theorem dc_L_law_181 : decode code 181 = .ok (.aload_n 0, 1) := by decide +kernel
theorem dc_L_law_182 : decode code 182 = .ok (.iload 4, 2) := by decide +kernel
theorem dc_L_law_184 : decode code 184 = .ok (.iconst 4, 1) := by decide +kernel
theorem dc_L_law_185 : decode code 185 = .ok (.iadd, 1) := by decide +kernel
theorem dc_L_law_186 : decode code 186 = .ok (.iaload, 1) := by decide +kernel
theorem dc_L_law_187 : decode code 187 = .ok (.i2l, 1) := by decide +kernel
theorem dc_L_law_188 : decode code 188 = .ok (.bipush 32, 2) := by decide +kernel
theorem dc_L_law_190 : decode code 190 = .ok (.lshl, 1) := by decide +kernel
theorem dc_L_law_191 : decode code 191 = .ok (.aload_n 0, 1) := by decide +kernel
theorem dc_L_law_192 : decode code 192 = .ok (.iload 4, 2) := by decide +kernel
theorem dc_L_law_194 : decode code 194 = .ok (.iconst 5, 1) := by decide +kernel
theorem dc_L_law_195 : decode code 195 = .ok (.iadd, 1) := by decide +kernel
theorem dc_L_law_196 : decode code 196 = .ok (.iaload, 1) := by decide +kernel
theorem dc_L_law_197 : decode code 197 = .ok (.i2l, 1) := by decide +kernel
theorem dc_L_law_198 : decode code 198 = .ok (.ldc2_w 48, 3) := by decide +kernel
theorem dc_L_law_201 : decode code 201 = .ok (.land, 1) := by decide +kernel
theorem dc_L_law_202 : decode code 202 = .ok (.lor, 1) := by decide +kernel
theorem dc_L_law_203 : decode code 203 = .ok (.aload_n 3, 1) := by decide +kernel
theorem dc_L_law_204 : decode code 204 = .ok (.invokestatic 50, 3) := by decide +kernel
theorem dc_L_law_207 : decode code 207 = .ok (.istore 5, 2) := by decide +kernel
theorem dc_L_law_209 : decode code 209 = .ok (.aload_n 2, 1) := by decide +kernel
theorem dc_L_law_210 : decode code 210 = .ok (.aload_n 0, 1) := by decide +kernel
theorem dc_L_law_211 : decode code 211 = .ok (.iload 4, 2) := by decide +kernel
theorem dc_L_law_213 : decode code 213 = .ok (.iconst 1, 1) := by decide +kernel
theorem dc_L_law_214 : decode code 214 = .ok (.iadd, 1) := by decide +kernel
theorem dc_L_law_215 : decode code 215 = .ok (.iaload, 1) := by decide +kernel
theorem dc_L_law_216 : decode code 216 = .ok (.aload_n 0, 1) := by decide +kernel
theorem dc_L_law_217 : decode code 217 = .ok (.iload 4, 2) := by decide +kernel
theorem dc_L_law_219 : decode code 219 = .ok (.iconst 2, 1) := by decide +kernel
theorem dc_L_law_220 : decode code 220 = .ok (.iadd, 1) := by decide +kernel
theorem dc_L_law_221 : decode code 221 = .ok (.iaload, 1) := by decide +kernel
theorem dc_L_law_222 : decode code 222 = .ok (.aload_n 0, 1) := by decide +kernel
theorem dc_L_law_223 : decode code 223 = .ok (.iload 4, 2) := by decide +kernel
theorem dc_L_law_225 : decode code 225 = .ok (.iconst 3, 1) := by decide +kernel
theorem dc_L_law_226 : decode code 226 = .ok (.iadd, 1) := by decide +kernel
theorem dc_L_law_227 : decode code 227 = .ok (.iaload, 1) := by decide +kernel
theorem dc_L_law_228 : decode code 228 = .ok (.ifCond .eq 7, 3) := by decide +kernel
theorem dc_L_law_231 : decode code 231 = .ok (.iconst 1, 1) := by decide +kernel
theorem dc_L_law_232 : decode code 232 = .ok (.goto 4, 3) := by decide +kernel
theorem dc_L_law_235 : decode code 235 = .ok (.iconst 0, 1) := by decide +kernel
theorem dc_L_law_236 : decode code 236 = .ok (.aload_n 0, 1) := by decide +kernel
theorem dc_L_law_237 : decode code 237 = .ok (.iload 4, 2) := by decide +kernel
theorem dc_L_law_239 : decode code 239 = .ok (.iconst 4, 1) := by decide +kernel
theorem dc_L_law_240 : decode code 240 = .ok (.iadd, 1) := by decide +kernel
theorem dc_L_law_241 : decode code 241 = .ok (.iaload, 1) := by decide +kernel
theorem dc_L_law_242 : decode code 242 = .ok (.i2l, 1) := by decide +kernel
theorem dc_L_law_243 : decode code 243 = .ok (.bipush 32, 2) := by decide +kernel
theorem dc_L_law_245 : decode code 245 = .ok (.lshl, 1) := by decide +kernel
theorem dc_L_law_246 : decode code 246 = .ok (.aload_n 0, 1) := by decide +kernel
theorem dc_L_law_247 : decode code 247 = .ok (.iload 4, 2) := by decide +kernel
theorem dc_L_law_249 : decode code 249 = .ok (.iconst 5, 1) := by decide +kernel
theorem dc_L_law_250 : decode code 250 = .ok (.iadd, 1) := by decide +kernel
theorem dc_L_law_251 : decode code 251 = .ok (.iaload, 1) := by decide +kernel
theorem dc_L_law_252 : decode code 252 = .ok (.i2l, 1) := by decide +kernel
theorem dc_L_law_253 : decode code 253 = .ok (.ldc2_w 48, 3) := by decide +kernel
theorem dc_L_law_256 : decode code 256 = .ok (.land, 1) := by decide +kernel
theorem dc_L_law_257 : decode code 257 = .ok (.lor, 1) := by decide +kernel
theorem dc_L_law_258 : decode code 258 = .ok (.invokevirtual 53, 3) := by decide +kernel
theorem dc_L_law_261 : decode code 261 = .ok (.istore 6, 2) := by decide +kernel
theorem dc_L_law_263 : decode code 263 = .ok (.aload_n 2, 1) := by decide +kernel
theorem dc_L_law_264 : decode code 264 = .ok (.invokevirtual 54, 3) := by decide +kernel
theorem dc_L_law_267 : decode code 267 = .ok (.iload 5, 2) := by decide +kernel
theorem dc_L_law_269 : decode code 269 = .ok (.if_icmp .eq 5, 3) := by decide +kernel
theorem dc_L_law_272 : decode code 272 = .ok (.iconst 0, 1) := by decide +kernel
theorem dc_L_law_273 : decode code 273 = .ok (.ireturn, 1) := by decide +kernel
theorem dc_L_law_274 : decode code 274 = .ok (.iload 5, 2) := by decide +kernel
theorem dc_L_law_276 : decode code 276 = .ok (.ifCond .ne 15, 3) := by decide +kernel
theorem dc_L_law_279 : decode code 279 = .ok (.aload_n 3, 1) := by decide +kernel
theorem dc_L_law_280 : decode code 280 = .ok (.iconst 0, 1) := by decide +kernel
theorem dc_L_law_281 : decode code 281 = .ok (.laload, 1) := by decide +kernel
theorem dc_L_law_282 : decode code 282 = .ok (.iload 6, 2) := by decide +kernel
theorem dc_L_law_284 : decode code 284 = .ok (.i2l, 1) := by decide +kernel
theorem dc_L_law_285 : decode code 285 = .ok (.lcmp, 1) := by decide +kernel
theorem dc_L_law_286 : decode code 286 = .ok (.ifCond .eq 5, 3) := by decide +kernel
theorem dc_L_law_289 : decode code 289 = .ok (.iconst 0, 1) := by decide +kernel
theorem dc_L_law_290 : decode code 290 = .ok (.ireturn, 1) := by decide +kernel
theorem dc_L_law_291 : decode code 291 = .ok (.goto 602, 3) := by decide +kernel
theorem dc_L_law_294 : decode code 294 = .ok (.aload_n 1, 1) := by decide +kernel
theorem dc_L_law_295 : decode code 295 = .ok (.invokevirtual 57, 3) := by decide +kernel
theorem dc_L_law_298 : decode code 298 = .ok (.aload_n 2, 1) := by decide +kernel
theorem dc_L_law_299 : decode code 299 = .ok (.invokevirtual 61, 3) := by decide +kernel
theorem dc_L_law_302 : decode code 302 = .ok (.lcmp, 1) := by decide +kernel
theorem dc_L_law_303 : decode code 303 = .ok (.ifCond .eq 590, 3) := by decide +kernel
theorem dc_L_law_306 : decode code 306 = .ok (.iconst 0, 1) := by decide +kernel
theorem dc_L_law_307 : decode code 307 = .ok (.ireturn, 1) := by decide +kernel
theorem dc_L_law_308 : decode code 308 = .ok (.aload_n 1, 1) := by decide +kernel
theorem dc_L_law_309 : decode code 309 = .ok (.aload_n 0, 1) := by decide +kernel
theorem dc_L_law_310 : decode code 310 = .ok (.iload 4, 2) := by decide +kernel
theorem dc_L_law_312 : decode code 312 = .ok (.iconst 1, 1) := by decide +kernel
theorem dc_L_law_313 : decode code 313 = .ok (.iadd, 1) := by decide +kernel
theorem dc_L_law_314 : decode code 314 = .ok (.iaload, 1) := by decide +kernel
theorem dc_L_law_315 : decode code 315 = .ok (.invokevirtual 62, 3) := by decide +kernel
theorem dc_L_law_318 : decode code 318 = .ok (.aload_n 2, 1) := by decide +kernel
theorem dc_L_law_319 : decode code 319 = .ok (.aload_n 0, 1) := by decide +kernel
theorem dc_L_law_320 : decode code 320 = .ok (.iload 4, 2) := by decide +kernel
theorem dc_L_law_322 : decode code 322 = .ok (.iconst 1, 1) := by decide +kernel
theorem dc_L_law_323 : decode code 323 = .ok (.iadd, 1) := by decide +kernel
theorem dc_L_law_324 : decode code 324 = .ok (.iaload, 1) := by decide +kernel
theorem dc_L_law_325 : decode code 325 = .ok (.invokevirtual 66, 3) := by decide +kernel
theorem dc_L_law_328 : decode code 328 = .ok (.lcmp, 1) := by decide +kernel
theorem dc_L_law_329 : decode code 329 = .ok (.ifCond .eq 564, 3) := by decide +kernel
theorem dc_L_law_332 : decode code 332 = .ok (.iconst 0, 1) := by decide +kernel
theorem dc_L_law_333 : decode code 333 = .ok (.ireturn, 1) := by decide +kernel
theorem dc_L_law_334 : decode code 334 = .ok (.aload_n 1, 1) := by decide +kernel
theorem dc_L_law_335 : decode code 335 = .ok (.aload_n 0, 1) := by decide +kernel
theorem dc_L_law_336 : decode code 336 = .ok (.iload 4, 2) := by decide +kernel
theorem dc_L_law_338 : decode code 338 = .ok (.iconst 1, 1) := by decide +kernel
theorem dc_L_law_339 : decode code 339 = .ok (.iadd, 1) := by decide +kernel
theorem dc_L_law_340 : decode code 340 = .ok (.iaload, 1) := by decide +kernel
theorem dc_L_law_341 : decode code 341 = .ok (.ifCond .eq 7, 3) := by decide +kernel
theorem dc_L_law_344 : decode code 344 = .ok (.iconst 1, 1) := by decide +kernel
theorem dc_L_law_345 : decode code 345 = .ok (.goto 4, 3) := by decide +kernel
theorem dc_L_law_348 : decode code 348 = .ok (.iconst 0, 1) := by decide +kernel
theorem dc_L_law_349 : decode code 349 = .ok (.aload_n 0, 1) := by decide +kernel
theorem dc_L_law_350 : decode code 350 = .ok (.iload 4, 2) := by decide +kernel
theorem dc_L_law_352 : decode code 352 = .ok (.iconst 2, 1) := by decide +kernel
theorem dc_L_law_353 : decode code 353 = .ok (.iadd, 1) := by decide +kernel
theorem dc_L_law_354 : decode code 354 = .ok (.iaload, 1) := by decide +kernel
theorem dc_L_law_355 : decode code 355 = .ok (.aload_n 0, 1) := by decide +kernel
theorem dc_L_law_356 : decode code 356 = .ok (.iload 4, 2) := by decide +kernel
theorem dc_L_law_358 : decode code 358 = .ok (.iconst 3, 1) := by decide +kernel
theorem dc_L_law_359 : decode code 359 = .ok (.iadd, 1) := by decide +kernel
theorem dc_L_law_360 : decode code 360 = .ok (.iaload, 1) := by decide +kernel
theorem dc_L_law_361 : decode code 361 = .ok (.i2l, 1) := by decide +kernel
theorem dc_L_law_362 : decode code 362 = .ok (.bipush 32, 2) := by decide +kernel
theorem dc_L_law_364 : decode code 364 = .ok (.lshl, 1) := by decide +kernel
theorem dc_L_law_365 : decode code 365 = .ok (.aload_n 0, 1) := by decide +kernel
theorem dc_L_law_366 : decode code 366 = .ok (.iload 4, 2) := by decide +kernel
theorem dc_L_law_368 : decode code 368 = .ok (.iconst 4, 1) := by decide +kernel
theorem dc_L_law_369 : decode code 369 = .ok (.iadd, 1) := by decide +kernel
theorem dc_L_law_370 : decode code 370 = .ok (.iaload, 1) := by decide +kernel
theorem dc_L_law_371 : decode code 371 = .ok (.i2l, 1) := by decide +kernel
theorem dc_L_law_372 : decode code 372 = .ok (.ldc2_w 48, 3) := by decide +kernel
theorem dc_L_law_375 : decode code 375 = .ok (.land, 1) := by decide +kernel
theorem dc_L_law_376 : decode code 376 = .ok (.lor, 1) := by decide +kernel
theorem dc_L_law_377 : decode code 377 = .ok (.aload_n 0, 1) := by decide +kernel
theorem dc_L_law_378 : decode code 378 = .ok (.iload 4, 2) := by decide +kernel
theorem dc_L_law_380 : decode code 380 = .ok (.iconst 5, 1) := by decide +kernel
theorem dc_L_law_381 : decode code 381 = .ok (.iadd, 1) := by decide +kernel
theorem dc_L_law_382 : decode code 382 = .ok (.iaload, 1) := by decide +kernel
theorem dc_L_law_383 : decode code 383 = .ok (.i2l, 1) := by decide +kernel
theorem dc_L_law_384 : decode code 384 = .ok (.bipush 32, 2) := by decide +kernel
theorem dc_L_law_386 : decode code 386 = .ok (.lshl, 1) := by decide +kernel
theorem dc_L_law_387 : decode code 387 = .ok (.aload_n 0, 1) := by decide +kernel
theorem dc_L_law_388 : decode code 388 = .ok (.iload 4, 2) := by decide +kernel
theorem dc_L_law_390 : decode code 390 = .ok (.bipush 6, 2) := by decide +kernel
theorem dc_L_law_392 : decode code 392 = .ok (.iadd, 1) := by decide +kernel
theorem dc_L_law_393 : decode code 393 = .ok (.iaload, 1) := by decide +kernel
theorem dc_L_law_394 : decode code 394 = .ok (.i2l, 1) := by decide +kernel
theorem dc_L_law_395 : decode code 395 = .ok (.ldc2_w 48, 3) := by decide +kernel
theorem dc_L_law_398 : decode code 398 = .ok (.land, 1) := by decide +kernel
theorem dc_L_law_399 : decode code 399 = .ok (.lor, 1) := by decide +kernel
theorem dc_L_law_400 : decode code 400 = .ok (.aload_n 3, 1) := by decide +kernel
theorem dc_L_law_401 : decode code 401 = .ok (.invokestatic 67, 3) := by decide +kernel
theorem dc_L_law_404 : decode code 404 = .ok (.istore 5, 2) := by decide +kernel
theorem dc_L_law_406 : decode code 406 = .ok (.aload_n 2, 1) := by decide +kernel
theorem dc_L_law_407 : decode code 407 = .ok (.aload_n 0, 1) := by decide +kernel
theorem dc_L_law_408 : decode code 408 = .ok (.iload 4, 2) := by decide +kernel
theorem dc_L_law_410 : decode code 410 = .ok (.iconst 1, 1) := by decide +kernel
theorem dc_L_law_411 : decode code 411 = .ok (.iadd, 1) := by decide +kernel
theorem dc_L_law_412 : decode code 412 = .ok (.iaload, 1) := by decide +kernel
theorem dc_L_law_413 : decode code 413 = .ok (.ifCond .eq 7, 3) := by decide +kernel
theorem dc_L_law_416 : decode code 416 = .ok (.iconst 1, 1) := by decide +kernel
theorem dc_L_law_417 : decode code 417 = .ok (.goto 4, 3) := by decide +kernel
theorem dc_L_law_420 : decode code 420 = .ok (.iconst 0, 1) := by decide +kernel
theorem dc_L_law_421 : decode code 421 = .ok (.aload_n 0, 1) := by decide +kernel
theorem dc_L_law_422 : decode code 422 = .ok (.iload 4, 2) := by decide +kernel
theorem dc_L_law_424 : decode code 424 = .ok (.iconst 2, 1) := by decide +kernel
theorem dc_L_law_425 : decode code 425 = .ok (.iadd, 1) := by decide +kernel
theorem dc_L_law_426 : decode code 426 = .ok (.iaload, 1) := by decide +kernel
theorem dc_L_law_427 : decode code 427 = .ok (.aload_n 0, 1) := by decide +kernel
theorem dc_L_law_428 : decode code 428 = .ok (.iload 4, 2) := by decide +kernel
theorem dc_L_law_430 : decode code 430 = .ok (.iconst 3, 1) := by decide +kernel
theorem dc_L_law_431 : decode code 431 = .ok (.iadd, 1) := by decide +kernel
theorem dc_L_law_432 : decode code 432 = .ok (.iaload, 1) := by decide +kernel
theorem dc_L_law_433 : decode code 433 = .ok (.i2l, 1) := by decide +kernel
theorem dc_L_law_434 : decode code 434 = .ok (.bipush 32, 2) := by decide +kernel
theorem dc_L_law_436 : decode code 436 = .ok (.lshl, 1) := by decide +kernel
theorem dc_L_law_437 : decode code 437 = .ok (.aload_n 0, 1) := by decide +kernel
theorem dc_L_law_438 : decode code 438 = .ok (.iload 4, 2) := by decide +kernel
theorem dc_L_law_440 : decode code 440 = .ok (.iconst 4, 1) := by decide +kernel
theorem dc_L_law_441 : decode code 441 = .ok (.iadd, 1) := by decide +kernel
theorem dc_L_law_442 : decode code 442 = .ok (.iaload, 1) := by decide +kernel
theorem dc_L_law_443 : decode code 443 = .ok (.i2l, 1) := by decide +kernel
theorem dc_L_law_444 : decode code 444 = .ok (.ldc2_w 48, 3) := by decide +kernel
theorem dc_L_law_447 : decode code 447 = .ok (.land, 1) := by decide +kernel
theorem dc_L_law_448 : decode code 448 = .ok (.lor, 1) := by decide +kernel
theorem dc_L_law_449 : decode code 449 = .ok (.aload_n 0, 1) := by decide +kernel
theorem dc_L_law_450 : decode code 450 = .ok (.iload 4, 2) := by decide +kernel
theorem dc_L_law_452 : decode code 452 = .ok (.iconst 5, 1) := by decide +kernel
theorem dc_L_law_453 : decode code 453 = .ok (.iadd, 1) := by decide +kernel
theorem dc_L_law_454 : decode code 454 = .ok (.iaload, 1) := by decide +kernel
theorem dc_L_law_455 : decode code 455 = .ok (.i2l, 1) := by decide +kernel
theorem dc_L_law_456 : decode code 456 = .ok (.bipush 32, 2) := by decide +kernel
theorem dc_L_law_458 : decode code 458 = .ok (.lshl, 1) := by decide +kernel
theorem dc_L_law_459 : decode code 459 = .ok (.aload_n 0, 1) := by decide +kernel
theorem dc_L_law_460 : decode code 460 = .ok (.iload 4, 2) := by decide +kernel
theorem dc_L_law_462 : decode code 462 = .ok (.bipush 6, 2) := by decide +kernel
theorem dc_L_law_464 : decode code 464 = .ok (.iadd, 1) := by decide +kernel
theorem dc_L_law_465 : decode code 465 = .ok (.iaload, 1) := by decide +kernel
theorem dc_L_law_466 : decode code 466 = .ok (.i2l, 1) := by decide +kernel
theorem dc_L_law_467 : decode code 467 = .ok (.ldc2_w 48, 3) := by decide +kernel
theorem dc_L_law_470 : decode code 470 = .ok (.land, 1) := by decide +kernel
theorem dc_L_law_471 : decode code 471 = .ok (.lor, 1) := by decide +kernel
theorem dc_L_law_472 : decode code 472 = .ok (.invokevirtual 70, 3) := by decide +kernel
theorem dc_L_law_475 : decode code 475 = .ok (.lstore 6, 2) := by decide +kernel
theorem dc_L_law_477 : decode code 477 = .ok (.aload_n 2, 1) := by decide +kernel
theorem dc_L_law_478 : decode code 478 = .ok (.invokevirtual 54, 3) := by decide +kernel
theorem dc_L_law_481 : decode code 481 = .ok (.iload 5, 2) := by decide +kernel
theorem dc_L_law_483 : decode code 483 = .ok (.if_icmp .eq 5, 3) := by decide +kernel
theorem dc_L_law_486 : decode code 486 = .ok (.iconst 0, 1) := by decide +kernel
theorem dc_L_law_487 : decode code 487 = .ok (.ireturn, 1) := by decide +kernel
theorem dc_L_law_488 : decode code 488 = .ok (.iload 5, 2) := by decide +kernel
theorem dc_L_law_490 : decode code 490 = .ok (.ifCond .ne 14, 3) := by decide +kernel
theorem dc_L_law_493 : decode code 493 = .ok (.aload_n 3, 1) := by decide +kernel
theorem dc_L_law_494 : decode code 494 = .ok (.iconst 0, 1) := by decide +kernel
theorem dc_L_law_495 : decode code 495 = .ok (.laload, 1) := by decide +kernel
theorem dc_L_law_496 : decode code 496 = .ok (.lload 6, 2) := by decide +kernel
theorem dc_L_law_498 : decode code 498 = .ok (.lcmp, 1) := by decide +kernel
theorem dc_L_law_499 : decode code 499 = .ok (.ifCond .eq 5, 3) := by decide +kernel
theorem dc_L_law_502 : decode code 502 = .ok (.iconst 0, 1) := by decide +kernel
theorem dc_L_law_503 : decode code 503 = .ok (.ireturn, 1) := by decide +kernel
theorem dc_L_law_504 : decode code 504 = .ok (.goto 389, 3) := by decide +kernel
theorem dc_L_law_507 : decode code 507 = .ok (.aload_n 1, 1) := by decide +kernel
theorem dc_L_law_508 : decode code 508 = .ok (.aload_n 0, 1) := by decide +kernel
theorem dc_L_law_509 : decode code 509 = .ok (.iload 4, 2) := by decide +kernel
theorem dc_L_law_511 : decode code 511 = .ok (.iconst 1, 1) := by decide +kernel
theorem dc_L_law_512 : decode code 512 = .ok (.iadd, 1) := by decide +kernel
theorem dc_L_law_513 : decode code 513 = .ok (.iaload, 1) := by decide +kernel
theorem dc_L_law_514 : decode code 514 = .ok (.ifCond .eq 7, 3) := by decide +kernel
theorem dc_L_law_517 : decode code 517 = .ok (.iconst 1, 1) := by decide +kernel
theorem dc_L_law_518 : decode code 518 = .ok (.goto 4, 3) := by decide +kernel
theorem dc_L_law_521 : decode code 521 = .ok (.iconst 0, 1) := by decide +kernel
theorem dc_L_law_522 : decode code 522 = .ok (.invokevirtual 71, 3) := by decide +kernel
theorem dc_L_law_525 : decode code 525 = .ok (.aload_n 2, 1) := by decide +kernel
theorem dc_L_law_526 : decode code 526 = .ok (.aload_n 0, 1) := by decide +kernel
theorem dc_L_law_527 : decode code 527 = .ok (.iload 4, 2) := by decide +kernel
theorem dc_L_law_529 : decode code 529 = .ok (.iconst 1, 1) := by decide +kernel
theorem dc_L_law_530 : decode code 530 = .ok (.iadd, 1) := by decide +kernel
theorem dc_L_law_531 : decode code 531 = .ok (.iaload, 1) := by decide +kernel
theorem dc_L_law_532 : decode code 532 = .ok (.ifCond .eq 7, 3) := by decide +kernel
theorem dc_L_law_535 : decode code 535 = .ok (.iconst 1, 1) := by decide +kernel
theorem dc_L_law_536 : decode code 536 = .ok (.goto 4, 3) := by decide +kernel
theorem dc_L_law_539 : decode code 539 = .ok (.iconst 0, 1) := by decide +kernel
theorem dc_L_law_540 : decode code 540 = .ok (.invokevirtual 75, 3) := by decide +kernel
theorem dc_L_law_543 : decode code 543 = .ok (.if_icmp .eq 350, 3) := by decide +kernel
theorem dc_L_law_546 : decode code 546 = .ok (.iconst 0, 1) := by decide +kernel
theorem dc_L_law_547 : decode code 547 = .ok (.ireturn, 1) := by decide +kernel
theorem dc_L_law_548 : decode code 548 = .ok (.aload_n 1, 1) := by decide +kernel
theorem dc_L_law_549 : decode code 549 = .ok (.invokevirtual 76, 3) := by decide +kernel
theorem dc_L_law_552 : decode code 552 = .ok (.aload_n 2, 1) := by decide +kernel
theorem dc_L_law_553 : decode code 553 = .ok (.invokevirtual 79, 3) := by decide +kernel
theorem dc_L_law_556 : decode code 556 = .ok (.lcmp, 1) := by decide +kernel
theorem dc_L_law_557 : decode code 557 = .ok (.ifCond .eq 336, 3) := by decide +kernel
theorem dc_L_law_560 : decode code 560 = .ok (.iconst 0, 1) := by decide +kernel
theorem dc_L_law_561 : decode code 561 = .ok (.ireturn, 1) := by decide +kernel
theorem dc_L_law_562 : decode code 562 = .ok (.aload_n 1, 1) := by decide +kernel
theorem dc_L_law_563 : decode code 563 = .ok (.invokevirtual 80, 3) := by decide +kernel
theorem dc_L_law_566 : decode code 566 = .ok (.aload_n 2, 1) := by decide +kernel
theorem dc_L_law_567 : decode code 567 = .ok (.invokevirtual 83, 3) := by decide +kernel
theorem dc_L_law_570 : decode code 570 = .ok (.if_icmp .eq 323, 3) := by decide +kernel
theorem dc_L_law_573 : decode code 573 = .ok (.iconst 0, 1) := by decide +kernel
theorem dc_L_law_574 : decode code 574 = .ok (.ireturn, 1) := by decide +kernel
theorem dc_L_law_575 : decode code 575 = .ok (.aload_n 1, 1) := by decide +kernel
theorem dc_L_law_576 : decode code 576 = .ok (.invokevirtual 84, 3) := by decide +kernel
theorem dc_L_law_579 : decode code 579 = .ok (.aload_n 2, 1) := by decide +kernel
theorem dc_L_law_580 : decode code 580 = .ok (.invokevirtual 88, 3) := by decide +kernel
theorem dc_L_law_583 : decode code 583 = .ok (.if_icmp .eq 310, 3) := by decide +kernel
theorem dc_L_law_586 : decode code 586 = .ok (.iconst 0, 1) := by decide +kernel
theorem dc_L_law_587 : decode code 587 = .ok (.ireturn, 1) := by decide +kernel
theorem dc_L_law_588 : decode code 588 = .ok (.aload_n 1, 1) := by decide +kernel
theorem dc_L_law_589 : decode code 589 = .ok (.aload_n 0, 1) := by decide +kernel
theorem dc_L_law_590 : decode code 590 = .ok (.iload 4, 2) := by decide +kernel
theorem dc_L_law_592 : decode code 592 = .ok (.iconst 1, 1) := by decide +kernel
theorem dc_L_law_593 : decode code 593 = .ok (.iadd, 1) := by decide +kernel
theorem dc_L_law_594 : decode code 594 = .ok (.iaload, 1) := by decide +kernel
theorem dc_L_law_595 : decode code 595 = .ok (.aload_n 0, 1) := by decide +kernel
theorem dc_L_law_596 : decode code 596 = .ok (.iload 4, 2) := by decide +kernel
theorem dc_L_law_598 : decode code 598 = .ok (.iconst 2, 1) := by decide +kernel
theorem dc_L_law_599 : decode code 599 = .ok (.iadd, 1) := by decide +kernel
theorem dc_L_law_600 : decode code 600 = .ok (.iaload, 1) := by decide +kernel
theorem dc_L_law_601 : decode code 601 = .ok (.ifCond .eq 7, 3) := by decide +kernel
theorem dc_L_law_604 : decode code 604 = .ok (.iconst 1, 1) := by decide +kernel
theorem dc_L_law_605 : decode code 605 = .ok (.goto 4, 3) := by decide +kernel
theorem dc_L_law_608 : decode code 608 = .ok (.iconst 0, 1) := by decide +kernel
theorem dc_L_law_609 : decode code 609 = .ok (.invokestatic 89, 3) := by decide +kernel
theorem dc_L_law_612 : decode code 612 = .ok (.istore 5, 2) := by decide +kernel
theorem dc_L_law_614 : decode code 614 = .ok (.aload_n 2, 1) := by decide +kernel
theorem dc_L_law_615 : decode code 615 = .ok (.aload_n 0, 1) := by decide +kernel
theorem dc_L_law_616 : decode code 616 = .ok (.iload 4, 2) := by decide +kernel
theorem dc_L_law_618 : decode code 618 = .ok (.iconst 1, 1) := by decide +kernel
theorem dc_L_law_619 : decode code 619 = .ok (.iadd, 1) := by decide +kernel
theorem dc_L_law_620 : decode code 620 = .ok (.iaload, 1) := by decide +kernel
theorem dc_L_law_621 : decode code 621 = .ok (.aload_n 0, 1) := by decide +kernel
theorem dc_L_law_622 : decode code 622 = .ok (.iload 4, 2) := by decide +kernel
theorem dc_L_law_624 : decode code 624 = .ok (.iconst 2, 1) := by decide +kernel
theorem dc_L_law_625 : decode code 625 = .ok (.iadd, 1) := by decide +kernel
theorem dc_L_law_626 : decode code 626 = .ok (.iaload, 1) := by decide +kernel
theorem dc_L_law_627 : decode code 627 = .ok (.ifCond .eq 7, 3) := by decide +kernel
theorem dc_L_law_630 : decode code 630 = .ok (.iconst 1, 1) := by decide +kernel
theorem dc_L_law_631 : decode code 631 = .ok (.goto 4, 3) := by decide +kernel
theorem dc_L_law_634 : decode code 634 = .ok (.iconst 0, 1) := by decide +kernel
theorem dc_L_law_635 : decode code 635 = .ok (.invokevirtual 92, 3) := by decide +kernel
theorem dc_L_law_638 : decode code 638 = .ok (.aload_n 2, 1) := by decide +kernel
theorem dc_L_law_639 : decode code 639 = .ok (.invokevirtual 54, 3) := by decide +kernel
theorem dc_L_law_642 : decode code 642 = .ok (.iload 5, 2) := by decide +kernel
theorem dc_L_law_644 : decode code 644 = .ok (.if_icmp .eq 5, 3) := by decide +kernel
theorem dc_L_law_647 : decode code 647 = .ok (.iconst 0, 1) := by decide +kernel
theorem dc_L_law_648 : decode code 648 = .ok (.ireturn, 1) := by decide +kernel
theorem dc_L_law_649 : decode code 649 = .ok (.goto 244, 3) := by decide +kernel
theorem dc_L_law_652 : decode code 652 = .ok (.aload_n 1, 1) := by decide +kernel
theorem dc_L_law_653 : decode code 653 = .ok (.aload_n 0, 1) := by decide +kernel
theorem dc_L_law_654 : decode code 654 = .ok (.iload 4, 2) := by decide +kernel
theorem dc_L_law_656 : decode code 656 = .ok (.iconst 1, 1) := by decide +kernel
theorem dc_L_law_657 : decode code 657 = .ok (.iadd, 1) := by decide +kernel
theorem dc_L_law_658 : decode code 658 = .ok (.iaload, 1) := by decide +kernel
theorem dc_L_law_659 : decode code 659 = .ok (.aload_n 3, 1) := by decide +kernel
theorem dc_L_law_660 : decode code 660 = .ok (.invokestatic 93, 3) := by decide +kernel
theorem dc_L_law_663 : decode code 663 = .ok (.istore 5, 2) := by decide +kernel
theorem dc_L_law_665 : decode code 665 = .ok (.aload_n 2, 1) := by decide +kernel
theorem dc_L_law_666 : decode code 666 = .ok (.aload_n 0, 1) := by decide +kernel
theorem dc_L_law_667 : decode code 667 = .ok (.iload 4, 2) := by decide +kernel
theorem dc_L_law_669 : decode code 669 = .ok (.iconst 1, 1) := by decide +kernel
theorem dc_L_law_670 : decode code 670 = .ok (.iadd, 1) := by decide +kernel
theorem dc_L_law_671 : decode code 671 = .ok (.iaload, 1) := by decide +kernel
theorem dc_L_law_672 : decode code 672 = .ok (.invokevirtual 96, 3) := by decide +kernel
theorem dc_L_law_675 : decode code 675 = .ok (.istore 6, 2) := by decide +kernel
theorem dc_L_law_677 : decode code 677 = .ok (.aload_n 2, 1) := by decide +kernel
theorem dc_L_law_678 : decode code 678 = .ok (.invokevirtual 54, 3) := by decide +kernel
theorem dc_L_law_681 : decode code 681 = .ok (.iload 5, 2) := by decide +kernel
theorem dc_L_law_683 : decode code 683 = .ok (.if_icmp .eq 5, 3) := by decide +kernel
theorem dc_L_law_686 : decode code 686 = .ok (.iconst 0, 1) := by decide +kernel
theorem dc_L_law_687 : decode code 687 = .ok (.ireturn, 1) := by decide +kernel
theorem dc_L_law_688 : decode code 688 = .ok (.iload 5, 2) := by decide +kernel
theorem dc_L_law_690 : decode code 690 = .ok (.ifCond .ne 22, 3) := by decide +kernel
theorem dc_L_law_693 : decode code 693 = .ok (.aload_n 3, 1) := by decide +kernel
theorem dc_L_law_694 : decode code 694 = .ok (.iconst 0, 1) := by decide +kernel
theorem dc_L_law_695 : decode code 695 = .ok (.laload, 1) := by decide +kernel
theorem dc_L_law_696 : decode code 696 = .ok (.iload 6, 2) := by decide +kernel
theorem dc_L_law_698 : decode code 698 = .ok (.ifCond .eq 7, 3) := by decide +kernel
theorem dc_L_law_701 : decode code 701 = .ok (.lconst 1, 1) := by decide +kernel
theorem dc_L_law_702 : decode code 702 = .ok (.goto 4, 3) := by decide +kernel
theorem dc_L_law_705 : decode code 705 = .ok (.lconst 0, 1) := by decide +kernel
theorem dc_L_law_706 : decode code 706 = .ok (.lcmp, 1) := by decide +kernel
theorem dc_L_law_707 : decode code 707 = .ok (.ifCond .eq 5, 3) := by decide +kernel
theorem dc_L_law_710 : decode code 710 = .ok (.iconst 0, 1) := by decide +kernel
theorem dc_L_law_711 : decode code 711 = .ok (.ireturn, 1) := by decide +kernel
theorem dc_L_law_712 : decode code 712 = .ok (.goto 181, 3) := by decide +kernel
theorem dc_L_law_715 : decode code 715 = .ok (.aload_n 1, 1) := by decide +kernel
theorem dc_L_law_716 : decode code 716 = .ok (.invokevirtual 97, 3) := by decide +kernel
theorem dc_L_law_719 : decode code 719 = .ok (.aload_n 2, 1) := by decide +kernel
theorem dc_L_law_720 : decode code 720 = .ok (.invokevirtual 100, 3) := by decide +kernel
theorem dc_L_law_723 : decode code 723 = .ok (.if_icmp .eq 170, 3) := by decide +kernel
theorem dc_L_law_726 : decode code 726 = .ok (.iconst 0, 1) := by decide +kernel
theorem dc_L_law_727 : decode code 727 = .ok (.ireturn, 1) := by decide +kernel
theorem dc_L_law_728 : decode code 728 = .ok (.aload_n 1, 1) := by decide +kernel
theorem dc_L_law_729 : decode code 729 = .ok (.invokevirtual 101, 3) := by decide +kernel
theorem dc_L_law_732 : decode code 732 = .ok (.aload_n 2, 1) := by decide +kernel
theorem dc_L_law_733 : decode code 733 = .ok (.invokevirtual 104, 3) := by decide +kernel
theorem dc_L_law_736 : decode code 736 = .ok (.goto 157, 3) := by decide +kernel
theorem dc_L_law_739 : decode code 739 = .ok (.aload_n 1, 1) := by decide +kernel
theorem dc_L_law_740 : decode code 740 = .ok (.aload_n 0, 1) := by decide +kernel
theorem dc_L_law_741 : decode code 741 = .ok (.iload 4, 2) := by decide +kernel
theorem dc_L_law_743 : decode code 743 = .ok (.iconst 1, 1) := by decide +kernel
theorem dc_L_law_744 : decode code 744 = .ok (.iadd, 1) := by decide +kernel
theorem dc_L_law_745 : decode code 745 = .ok (.iaload, 1) := by decide +kernel
theorem dc_L_law_746 : decode code 746 = .ok (.i2l, 1) := by decide +kernel
theorem dc_L_law_747 : decode code 747 = .ok (.bipush 32, 2) := by decide +kernel
theorem dc_L_law_749 : decode code 749 = .ok (.lshl, 1) := by decide +kernel
theorem dc_L_law_750 : decode code 750 = .ok (.aload_n 0, 1) := by decide +kernel
theorem dc_L_law_751 : decode code 751 = .ok (.iload 4, 2) := by decide +kernel
theorem dc_L_law_753 : decode code 753 = .ok (.iconst 2, 1) := by decide +kernel
theorem dc_L_law_754 : decode code 754 = .ok (.iadd, 1) := by decide +kernel
theorem dc_L_law_755 : decode code 755 = .ok (.iaload, 1) := by decide +kernel
theorem dc_L_law_756 : decode code 756 = .ok (.i2l, 1) := by decide +kernel
theorem dc_L_law_757 : decode code 757 = .ok (.ldc2_w 48, 3) := by decide +kernel
theorem dc_L_law_760 : decode code 760 = .ok (.land, 1) := by decide +kernel
theorem dc_L_law_761 : decode code 761 = .ok (.lor, 1) := by decide +kernel
theorem dc_L_law_762 : decode code 762 = .ok (.aload_n 0, 1) := by decide +kernel
theorem dc_L_law_763 : decode code 763 = .ok (.iload 4, 2) := by decide +kernel
theorem dc_L_law_765 : decode code 765 = .ok (.iconst 3, 1) := by decide +kernel
theorem dc_L_law_766 : decode code 766 = .ok (.iadd, 1) := by decide +kernel
theorem dc_L_law_767 : decode code 767 = .ok (.iaload, 1) := by decide +kernel
theorem dc_L_law_768 : decode code 768 = .ok (.i2l, 1) := by decide +kernel
theorem dc_L_law_769 : decode code 769 = .ok (.bipush 32, 2) := by decide +kernel
theorem dc_L_law_771 : decode code 771 = .ok (.lshl, 1) := by decide +kernel
theorem dc_L_law_772 : decode code 772 = .ok (.aload_n 0, 1) := by decide +kernel
theorem dc_L_law_773 : decode code 773 = .ok (.iload 4, 2) := by decide +kernel
theorem dc_L_law_775 : decode code 775 = .ok (.iconst 4, 1) := by decide +kernel
theorem dc_L_law_776 : decode code 776 = .ok (.iadd, 1) := by decide +kernel
theorem dc_L_law_777 : decode code 777 = .ok (.iaload, 1) := by decide +kernel
theorem dc_L_law_778 : decode code 778 = .ok (.i2l, 1) := by decide +kernel
theorem dc_L_law_779 : decode code 779 = .ok (.ldc2_w 48, 3) := by decide +kernel
theorem dc_L_law_782 : decode code 782 = .ok (.land, 1) := by decide +kernel
theorem dc_L_law_783 : decode code 783 = .ok (.lor, 1) := by decide +kernel
theorem dc_L_law_784 : decode code 784 = .ok (.invokevirtual 105, 3) := by decide +kernel
theorem dc_L_law_787 : decode code 787 = .ok (.aload_n 2, 1) := by decide +kernel
theorem dc_L_law_788 : decode code 788 = .ok (.aload_n 0, 1) := by decide +kernel
theorem dc_L_law_789 : decode code 789 = .ok (.iload 4, 2) := by decide +kernel
theorem dc_L_law_791 : decode code 791 = .ok (.iconst 1, 1) := by decide +kernel
theorem dc_L_law_792 : decode code 792 = .ok (.iadd, 1) := by decide +kernel
theorem dc_L_law_793 : decode code 793 = .ok (.iaload, 1) := by decide +kernel
theorem dc_L_law_794 : decode code 794 = .ok (.i2l, 1) := by decide +kernel
theorem dc_L_law_795 : decode code 795 = .ok (.bipush 32, 2) := by decide +kernel
theorem dc_L_law_797 : decode code 797 = .ok (.lshl, 1) := by decide +kernel
theorem dc_L_law_798 : decode code 798 = .ok (.aload_n 0, 1) := by decide +kernel
theorem dc_L_law_799 : decode code 799 = .ok (.iload 4, 2) := by decide +kernel
theorem dc_L_law_801 : decode code 801 = .ok (.iconst 2, 1) := by decide +kernel
theorem dc_L_law_802 : decode code 802 = .ok (.iadd, 1) := by decide +kernel
theorem dc_L_law_803 : decode code 803 = .ok (.iaload, 1) := by decide +kernel
theorem dc_L_law_804 : decode code 804 = .ok (.i2l, 1) := by decide +kernel
theorem dc_L_law_805 : decode code 805 = .ok (.ldc2_w 48, 3) := by decide +kernel
theorem dc_L_law_808 : decode code 808 = .ok (.land, 1) := by decide +kernel
theorem dc_L_law_809 : decode code 809 = .ok (.lor, 1) := by decide +kernel
theorem dc_L_law_810 : decode code 810 = .ok (.aload_n 0, 1) := by decide +kernel
theorem dc_L_law_811 : decode code 811 = .ok (.iload 4, 2) := by decide +kernel
theorem dc_L_law_813 : decode code 813 = .ok (.iconst 3, 1) := by decide +kernel
theorem dc_L_law_814 : decode code 814 = .ok (.iadd, 1) := by decide +kernel
theorem dc_L_law_815 : decode code 815 = .ok (.iaload, 1) := by decide +kernel
theorem dc_L_law_816 : decode code 816 = .ok (.i2l, 1) := by decide +kernel
theorem dc_L_law_817 : decode code 817 = .ok (.bipush 32, 2) := by decide +kernel
theorem dc_L_law_819 : decode code 819 = .ok (.lshl, 1) := by decide +kernel
theorem dc_L_law_820 : decode code 820 = .ok (.aload_n 0, 1) := by decide +kernel
theorem dc_L_law_821 : decode code 821 = .ok (.iload 4, 2) := by decide +kernel
theorem dc_L_law_823 : decode code 823 = .ok (.iconst 4, 1) := by decide +kernel
theorem dc_L_law_824 : decode code 824 = .ok (.iadd, 1) := by decide +kernel
theorem dc_L_law_825 : decode code 825 = .ok (.iaload, 1) := by decide +kernel
theorem dc_L_law_826 : decode code 826 = .ok (.i2l, 1) := by decide +kernel
theorem dc_L_law_827 : decode code 827 = .ok (.ldc2_w 48, 3) := by decide +kernel
theorem dc_L_law_830 : decode code 830 = .ok (.land, 1) := by decide +kernel
theorem dc_L_law_831 : decode code 831 = .ok (.lor, 1) := by decide +kernel
theorem dc_L_law_832 : decode code 832 = .ok (.invokevirtual 109, 3) := by decide +kernel
theorem dc_L_law_835 : decode code 835 = .ok (.goto 58, 3) := by decide +kernel
theorem dc_L_law_838 : decode code 838 = .ok (.aload_n 1, 1) := by decide +kernel
theorem dc_L_law_839 : decode code 839 = .ok (.aload_n 0, 1) := by decide +kernel
theorem dc_L_law_840 : decode code 840 = .ok (.iload 4, 2) := by decide +kernel
theorem dc_L_law_842 : decode code 842 = .ok (.iconst 1, 1) := by decide +kernel
theorem dc_L_law_843 : decode code 843 = .ok (.iadd, 1) := by decide +kernel
theorem dc_L_law_844 : decode code 844 = .ok (.iaload, 1) := by decide +kernel
theorem dc_L_law_845 : decode code 845 = .ok (.i2l, 1) := by decide +kernel
theorem dc_L_law_846 : decode code 846 = .ok (.bipush 32, 2) := by decide +kernel
theorem dc_L_law_848 : decode code 848 = .ok (.lshl, 1) := by decide +kernel
theorem dc_L_law_849 : decode code 849 = .ok (.aload_n 0, 1) := by decide +kernel
theorem dc_L_law_850 : decode code 850 = .ok (.iload 4, 2) := by decide +kernel
theorem dc_L_law_852 : decode code 852 = .ok (.iconst 2, 1) := by decide +kernel
theorem dc_L_law_853 : decode code 853 = .ok (.iadd, 1) := by decide +kernel
theorem dc_L_law_854 : decode code 854 = .ok (.iaload, 1) := by decide +kernel
theorem dc_L_law_855 : decode code 855 = .ok (.i2l, 1) := by decide +kernel
theorem dc_L_law_856 : decode code 856 = .ok (.ldc2_w 48, 3) := by decide +kernel
theorem dc_L_law_859 : decode code 859 = .ok (.land, 1) := by decide +kernel
theorem dc_L_law_860 : decode code 860 = .ok (.lor, 1) := by decide +kernel
theorem dc_L_law_861 : decode code 861 = .ok (.invokevirtual 110, 3) := by decide +kernel
theorem dc_L_law_864 : decode code 864 = .ok (.aload_n 2, 1) := by decide +kernel
theorem dc_L_law_865 : decode code 865 = .ok (.aload_n 0, 1) := by decide +kernel
theorem dc_L_law_866 : decode code 866 = .ok (.iload 4, 2) := by decide +kernel
theorem dc_L_law_868 : decode code 868 = .ok (.iconst 1, 1) := by decide +kernel
theorem dc_L_law_869 : decode code 869 = .ok (.iadd, 1) := by decide +kernel
theorem dc_L_law_870 : decode code 870 = .ok (.iaload, 1) := by decide +kernel
theorem dc_L_law_871 : decode code 871 = .ok (.i2l, 1) := by decide +kernel
theorem dc_L_law_872 : decode code 872 = .ok (.bipush 32, 2) := by decide +kernel
theorem dc_L_law_874 : decode code 874 = .ok (.lshl, 1) := by decide +kernel
theorem dc_L_law_875 : decode code 875 = .ok (.aload_n 0, 1) := by decide +kernel
theorem dc_L_law_876 : decode code 876 = .ok (.iload 4, 2) := by decide +kernel
theorem dc_L_law_878 : decode code 878 = .ok (.iconst 2, 1) := by decide +kernel
theorem dc_L_law_879 : decode code 879 = .ok (.iadd, 1) := by decide +kernel
theorem dc_L_law_880 : decode code 880 = .ok (.iaload, 1) := by decide +kernel
theorem dc_L_law_881 : decode code 881 = .ok (.i2l, 1) := by decide +kernel
theorem dc_L_law_882 : decode code 882 = .ok (.ldc2_w 48, 3) := by decide +kernel
theorem dc_L_law_885 : decode code 885 = .ok (.land, 1) := by decide +kernel
theorem dc_L_law_886 : decode code 886 = .ok (.lor, 1) := by decide +kernel
theorem dc_L_law_887 : decode code 887 = .ok (.invokevirtual 114, 3) := by decide +kernel
theorem dc_L_law_890 : decode code 890 = .ok (.goto 3, 3) := by decide +kernel
theorem dc_L_law_893 : decode code 893 = .ok (.iinc 4 7, 3) := by decide +kernel
theorem dc_L_law_896 : decode code 896 = .ok (.goto (-863), 3) := by decide +kernel
theorem dc_L_law_899 : decode code 899 = .ok (.iconst 1, 1) := by decide +kernel
theorem dc_L_law_900 : decode code 900 = .ok (.ireturn, 1) := by decide +kernel
end
section
set_option maxRecDepth 20000 in
theorem mc_B_entry : Cond.code yn_B_entry bc_B_entry 6 (some .long) ∈ xw_T := xw_in (List.mem_of_getElem? (i := 422) rfl) rfl
set_option maxRecDepth 20000 in
theorem mc_B_keepResume : Cond.code yn_B_keepResume bc_B_keepResume 3 none ∈ xw_T := xw_in (List.mem_of_getElem? (i := 384) rfl) rfl
set_option maxRecDepth 20000 in
theorem mc_B_keepVectors : Cond.code yn_B_keepVectors bc_B_keepVectors 3 none ∈ xw_T := xw_in (List.mem_of_getElem? (i := 378) rfl) rfl
set_option maxRecDepth 20000 in
theorem mc_B_remember : Cond.code yn_B_remember bc_B_remember 7 none ∈ xw_T := xw_in (List.mem_of_getElem? (i := 416) rfl) rfl
set_option maxRecDepth 20000 in
theorem mc_M_beginning : Cond.code yn_M_beginning bc_M_beginning 6 (some .long) ∈ xw_T := xw_in (List.mem_of_getElem? (i := 573) rfl) rfl
set_option maxRecDepth 20000 in
theorem mc_M_below : Cond.code yn_M_below bc_M_below 1 (some .int) ∈ xw_T := xw_in (List.mem_of_getElem? (i := 494) rfl) rfl
set_option maxRecDepth 20000 in
theorem mc_M_first : Cond.code yn_M_first bc_M_first 4 (some .int) ∈ xw_T := xw_in (List.mem_of_getElem? (i := 591) rfl) rfl
set_option maxRecDepth 20000 in
theorem mc_M_floating : Cond.code yn_M_floating bc_M_floating 1 (some .int) ∈ xw_T := xw_in (List.mem_of_getElem? (i := 506) rfl) rfl
set_option maxRecDepth 20000 in
theorem mc_M_isCount : Cond.code yn_M_isCount bc_M_isCount 1 (some .boolean) ∈ xw_T := xw_in (List.mem_of_getElem? (i := 523) rfl) rfl
set_option maxRecDepth 20000 in
theorem mc_M_isElsewhere : Cond.code yn_M_isElsewhere bc_M_isElsewhere 1 (some .boolean) ∈ xw_T := xw_in (List.mem_of_getElem? (i := 526) rfl) rfl
set_option maxRecDepth 20000 in
theorem mc_M_isIllegal : Cond.code yn_M_isIllegal bc_M_isIllegal 7 (some .boolean) ∈ xw_T := xw_in (List.mem_of_getElem? (i := 534) rfl) rfl
set_option maxRecDepth 20000 in
theorem mc_M_isPending : Cond.code yn_M_isPending bc_M_isPending 2 (some .boolean) ∈ xw_T := xw_in (List.mem_of_getElem? (i := 599) rfl) rfl
set_option maxRecDepth 20000 in
theorem mc_M_isThere : Cond.code yn_M_isThere bc_M_isThere 3 (some .boolean) ∈ xw_T := xw_in (List.mem_of_getElem? (i := 520) rfl) rfl
set_option maxRecDepth 20000 in
theorem mc_M_lineBits : Cond.code yn_M_lineBits bc_M_lineBits 4 (some .long) ∈ xw_T := xw_in (List.mem_of_getElem? (i := 517) rfl) rfl
set_option maxRecDepth 20000 in
theorem mc_M_mayBe : Cond.code yn_M_mayBe bc_M_mayBe 5 (some .boolean) ∈ xw_T := xw_in (List.mem_of_getElem? (i := 595) rfl) rfl
set_option maxRecDepth 20000 in
theorem mc_M_put : Cond.code yn_M_put bc_M_put 3 none ∈ xw_T := xw_in (List.mem_of_getElem? (i := 538) rfl) rfl
set_option maxRecDepth 20000 in
theorem mc_M_shown : Cond.code yn_M_shown bc_M_shown 4 (some .long) ∈ xw_T := xw_in (List.mem_of_getElem? (i := 502) rfl) rfl
set_option maxRecDepth 20000 in
theorem mc_M_status : Cond.code yn_M_status bc_M_status 2 (some .int) ∈ xw_T := xw_in (List.mem_of_getElem? (i := 490) rfl) rfl
set_option maxRecDepth 20000 in
theorem mc_M_statusSeen : Cond.code yn_M_statusSeen bc_M_statusSeen 6 (some .long) ∈ xw_T := xw_in (List.mem_of_getElem? (i := 511) rfl) rfl
set_option maxRecDepth 20000 in
theorem mc_M_through : Cond.code yn_M_through bc_M_through 6 none ∈ xw_T := xw_in (List.mem_of_getElem? (i := 552) rfl) rfl
set_option maxRecDepth 20000 in
theorem mc_M_write : Cond.code yn_M_write bc_M_write 6 none ∈ xw_T := xw_in (List.mem_of_getElem? (i := 544) rfl) rfl
set_option maxRecDepth 20000 in
theorem mc_M_writeStatus : Cond.code yn_M_writeStatus bc_M_writeStatus 6 none ∈ xw_T := xw_in (List.mem_of_getElem? (i := 548) rfl) rfl
set_option maxRecDepth 20000 in
theorem mc_X_changeable : Cond.code yn_X_changeable bc_X_changeable 4 (some .long) ∈ xw_T := xw_in (List.mem_of_getElem? (i := 349) rfl) rfl
set_option maxRecDepth 20000 in
theorem mc_X_combined : Cond.code yn_X_combined bc_X_combined 5 (some .long) ∈ xw_T := xw_in (List.mem_of_getElem? (i := 356) rfl) rfl
set_option maxRecDepth 20000 in
theorem mc_X_enterMachine : Cond.code yn_X_enterMachine bc_X_enterMachine 7 none ∈ xw_T := xw_in (List.mem_of_getElem? (i := 411) rfl) rfl
set_option maxRecDepth 20000 in
theorem mc_X_enterSupervisor : Cond.code yn_X_enterSupervisor bc_X_enterSupervisor 7 none ∈ xw_T := xw_in (List.mem_of_getElem? (i := 406) rfl) rfl
set_option maxRecDepth 20000 in
theorem mc_X_firstInOrder : Cond.code yn_X_firstInOrder bc_X_firstInOrder 6 (some .int) ∈ xw_T := xw_in (List.mem_of_getElem? (i := 220) rfl) rfl
set_option maxRecDepth 20000 in
theorem mc_X_goesToSupervisor : Cond.code yn_X_goesToSupervisor bc_X_goesToSupervisor 5 (some .boolean) ∈ xw_T := xw_in (List.mem_of_getElem? (i := 402) rfl) rfl
set_option maxRecDepth 20000 in
theorem mc_X_has : Cond.code yn_X_has bc_X_has 3 (some .boolean) ∈ xw_T := xw_in (List.mem_of_getElem? (i := 145) rfl) rfl
set_option maxRecDepth 20000 in
theorem mc_X_isClosed : Cond.code yn_X_isClosed bc_X_isClosed 4 (some .boolean) ∈ xw_T := xw_in (List.mem_of_getElem? (i := 345) rfl) rfl
set_option maxRecDepth 20000 in
theorem mc_X_isElsewhere : Cond.code yn_X_isElsewhere bc_X_isElsewhere 1 (some .boolean) ∈ xw_T := xw_in (List.mem_of_getElem? (i := 334) rfl) rfl
set_option maxRecDepth 20000 in
theorem mc_X_isFloat : Cond.code yn_X_isFloat bc_X_isFloat 1 (some .boolean) ∈ xw_T := xw_in (List.mem_of_getElem? (i := 337) rfl) rfl
set_option maxRecDepth 20000 in
theorem mc_X_isHere : Cond.code yn_X_isHere bc_X_isHere 1 (some .boolean) ∈ xw_T := xw_in (List.mem_of_getElem? (i := 331) rfl) rfl
set_option maxRecDepth 20000 in
theorem mc_X_isIllegal : Cond.code yn_X_isIllegal bc_X_isIllegal 5 (some .boolean) ∈ xw_T := xw_in (List.mem_of_getElem? (i := 328) rfl) rfl
set_option maxRecDepth 20000 in
theorem mc_X_isOpenCount : Cond.code yn_X_isOpenCount bc_X_isOpenCount 1 (some .boolean) ∈ xw_T := xw_in (List.mem_of_getElem? (i := 341) rfl) rfl
set_option maxRecDepth 20000 in
theorem mc_X_leaveMachine : Cond.code yn_X_leaveMachine bc_X_leaveMachine 3 none ∈ xw_T := xw_in (List.mem_of_getElem? (i := 192) rfl) rfl
set_option maxRecDepth 20000 in
theorem mc_X_leaveSupervisor : Cond.code yn_X_leaveSupervisor bc_X_leaveSupervisor 3 none ∈ xw_T := xw_in (List.mem_of_getElem? (i := 199) rfl) rfl
set_option maxRecDepth 20000 in
theorem mc_X_machineOrSupervisorWithout : Cond.code yn_X_machineOrSupervisorWithout bc_X_machineOrSupervisorWithout 3 (some .boolean) ∈ xw_T := xw_in (List.mem_of_getElem? (i := 188) rfl) rfl
set_option maxRecDepth 20000 in
theorem mc_X_mayReturn : Cond.code yn_X_mayReturn bc_X_mayReturn 2 (some .boolean) ∈ xw_T := xw_in (List.mem_of_getElem? (i := 183) rfl) rfl
set_option maxRecDepth 20000 in
theorem mc_X_merged : Cond.code yn_X_merged bc_X_merged 6 (some .long) ∈ xw_T := xw_in (List.mem_of_getElem? (i := 353) rfl) rfl
set_option maxRecDepth 20000 in
theorem mc_X_pending : Cond.code yn_X_pending bc_X_pending 1 (some .long) ∈ xw_T := xw_in (List.mem_of_getElem? (i := 175) rfl) rfl
set_option maxRecDepth 20000 in
theorem mc_X_previousMachineMode : Cond.code yn_X_previousMachineMode bc_X_previousMachineMode 1 (some .int) ∈ xw_T := xw_in (List.mem_of_getElem? (i := 149) rfl) rfl
set_option maxRecDepth 20000 in
theorem mc_X_shown : Cond.code yn_X_shown bc_X_shown 2 (some .long) ∈ xw_T := xw_in (List.mem_of_getElem? (i := 162) rfl) rfl
set_option maxRecDepth 20000 in
theorem mc_X_shownStatus : Cond.code yn_X_shownStatus bc_X_shownStatus 3 (some .long) ∈ xw_T := xw_in (List.mem_of_getElem? (i := 166) rfl) rfl
set_option maxRecDepth 20000 in
theorem mc_X_store : Cond.code yn_X_store bc_X_store 4 none ∈ xw_T := xw_in (List.mem_of_getElem? (i := 360) rfl) rfl
set_option maxRecDepth 20000 in
theorem mc_X_storeStatus : Cond.code yn_X_storeStatus bc_X_storeStatus 8 none ∈ xw_T := xw_in (List.mem_of_getElem? (i := 365) rfl) rfl
set_option maxRecDepth 20000 in
theorem mc_X_storeSupervisorPending : Cond.code yn_X_storeSupervisorPending bc_X_storeSupervisorPending 3 none ∈ xw_T := xw_in (List.mem_of_getElem? (i := 374) rfl) rfl
set_option maxRecDepth 20000 in
theorem mc_X_storeTable : Cond.code yn_X_storeTable bc_X_storeTable 5 none ∈ xw_T := xw_in (List.mem_of_getElem? (i := 389) rfl) rfl
set_option maxRecDepth 20000 in
theorem mc_X_takesDelegated : Cond.code yn_X_takesDelegated bc_X_takesDelegated 1 (some .boolean) ∈ xw_T := xw_in (List.mem_of_getElem? (i := 226) rfl) rfl
set_option maxRecDepth 20000 in
theorem mc_X_takesUndelegated : Cond.code yn_X_takesUndelegated bc_X_takesUndelegated 1 (some .boolean) ∈ xw_T := xw_in (List.mem_of_getElem? (i := 216) rfl) rfl
set_option maxRecDepth 20000 in
theorem mw_0 : Cond.constantLong "ControlDesk" 162 (6144) ∈ xw_T := xw_in (List.mem_of_getElem? (i := 150) (by decide +kernel)) (by decide +kernel)
set_option maxRecDepth 20000 in
theorem mw_1 : Cond.constantLong "ControlDesk" 27 (131072) ∈ xw_T := xw_in (List.mem_of_getElem? (i := 141) (by decide +kernel)) (by decide +kernel)
set_option maxRecDepth 20000 in
theorem mw_10 : Cond.constantLong "ControlDesk" 246 (4096) ∈ xw_T := xw_in (List.mem_of_getElem? (i := 366) (by decide +kernel)) (by decide +kernel)
set_option maxRecDepth 20000 in
theorem mw_100 : Cond.instanceMethod ⟨"ControlDeskModel", "isPending", "(I)Z"⟩ ∈ xw_T := xw_in (List.mem_of_getElem? (i := 598) (by decide +kernel)) (by decide +kernel)
set_option maxRecDepth 20000 in
theorem mw_101 : Cond.selects "ControlDeskModel" ⟨"ControlDeskModel", "isPending", "(I)Z"⟩ ⟨"ControlDeskModel", "isPending", "(I)Z"⟩ ∈ xw_T := xw_in (List.mem_of_getElem? (i := 38) (by decide +kernel)) (by decide +kernel)
set_option maxRecDepth 20000 in
theorem mw_102 : Cond.methodLink "ControlDeskModel" 130 ⟨"ControlDeskModel", "isPending", "(I)Z"⟩ ∈ xw_T := xw_in (List.mem_of_getElem? (i := 596) (by decide +kernel)) (by decide +kernel)
set_option maxRecDepth 20000 in
theorem mw_104 : Cond.instanceMethod ⟨"ControlDeskModel", "mayBe", "(IZ)Z"⟩ ∈ xw_T := xw_in (List.mem_of_getElem? (i := 594) (by decide +kernel)) (by decide +kernel)
set_option maxRecDepth 20000 in
theorem mw_105 : Cond.selects "ControlDeskModel" ⟨"ControlDeskModel", "mayBe", "(IZ)Z"⟩ ⟨"ControlDeskModel", "mayBe", "(IZ)Z"⟩ ∈ xw_T := xw_in (List.mem_of_getElem? (i := 37) (by decide +kernel)) (by decide +kernel)
set_option maxRecDepth 20000 in
theorem mw_106 : Cond.methodLink "ControlDeskModel" 133 ⟨"ControlDeskModel", "mayBe", "(IZ)Z"⟩ ∈ xw_T := xw_in (List.mem_of_getElem? (i := 592) (by decide +kernel)) (by decide +kernel)
set_option maxRecDepth 20000 in
theorem mw_108 : Cond.instanceMethod ⟨"ControlDeskModel", "first", "(Z)I"⟩ ∈ xw_T := xw_in (List.mem_of_getElem? (i := 590) (by decide +kernel)) (by decide +kernel)
set_option maxRecDepth 20000 in
theorem mw_109 : Cond.selects "ControlDeskModel" ⟨"ControlDeskModel", "first", "(Z)I"⟩ ⟨"ControlDeskModel", "first", "(Z)I"⟩ ∈ xw_T := xw_in (List.mem_of_getElem? (i := 36) (by decide +kernel)) (by decide +kernel)
set_option maxRecDepth 20000 in
theorem mw_11 : Cond.constantLong "ControlDesk" 248 (2) ∈ xw_T := xw_in (List.mem_of_getElem? (i := 201) (by decide +kernel)) (by decide +kernel)
set_option maxRecDepth 20000 in
theorem mw_110 : Cond.methodLink "ControlDeskModel" 136 ⟨"ControlDeskModel", "first", "(Z)I"⟩ ∈ xw_T := xw_in (List.mem_of_getElem? (i := 588) (by decide +kernel)) (by decide +kernel)
set_option maxRecDepth 20000 in
theorem mw_112 : Cond.instanceMethod ⟨"ControlDeskModel", "status", "(I)I"⟩ ∈ xw_T := xw_in (List.mem_of_getElem? (i := 489) (by decide +kernel)) (by decide +kernel)
set_option maxRecDepth 20000 in
theorem mw_113 : Cond.selects "ControlDeskModel" ⟨"ControlDeskModel", "status", "(I)I"⟩ ⟨"ControlDeskModel", "status", "(I)I"⟩ ∈ xw_T := xw_in (List.mem_of_getElem? (i := 26) (by decide +kernel)) (by decide +kernel)
set_option maxRecDepth 20000 in
theorem mw_114 : Cond.methodLink "ControlDeskModel" 29 ⟨"ControlDeskModel", "status", "(I)I"⟩ ∈ xw_T := xw_in (List.mem_of_getElem? (i := 487) (by decide +kernel)) (by decide +kernel)
set_option maxRecDepth 20000 in
theorem mw_116 : Cond.instanceMethod ⟨"ControlDeskModel", "below", "()I"⟩ ∈ xw_T := xw_in (List.mem_of_getElem? (i := 493) (by decide +kernel)) (by decide +kernel)
set_option maxRecDepth 20000 in
theorem mw_117 : Cond.selects "ControlDeskModel" ⟨"ControlDeskModel", "below", "()I"⟩ ⟨"ControlDeskModel", "below", "()I"⟩ ∈ xw_T := xw_in (List.mem_of_getElem? (i := 27) (by decide +kernel)) (by decide +kernel)
set_option maxRecDepth 20000 in
theorem mw_118 : Cond.methodLink "ControlDeskModel" 33 ⟨"ControlDeskModel", "below", "()I"⟩ ∈ xw_T := xw_in (List.mem_of_getElem? (i := 491) (by decide +kernel)) (by decide +kernel)
set_option maxRecDepth 20000 in
theorem mw_12 : Cond.constantLong "ControlDesk$Bank" 9 (-3) ∈ xw_T := xw_in (List.mem_of_getElem? (i := 379) (by decide +kernel)) (by decide +kernel)
set_option maxRecDepth 20000 in
theorem mw_120 : Cond.methodLink "ControlDeskModel" 37 ⟨"ControlDeskModel", "isCount", "(I)Z"⟩ ∈ xw_T := xw_in (List.mem_of_getElem? (i := 521) (by decide +kernel)) (by decide +kernel)
set_option maxRecDepth 20000 in
theorem mw_121 : Cond.static ⟨"ControlDeskModel", "isCount", "(I)Z"⟩ ∈ xw_T := xw_in (List.mem_of_getElem? (i := 522) (by decide +kernel)) (by decide +kernel)
set_option maxRecDepth 20000 in
theorem mw_123 : Cond.methodLink "ControlDeskModel" 41 ⟨"ControlDeskModel", "isElsewhere", "(I)Z"⟩ ∈ xw_T := xw_in (List.mem_of_getElem? (i := 524) (by decide +kernel)) (by decide +kernel)
set_option maxRecDepth 20000 in
theorem mw_124 : Cond.static ⟨"ControlDeskModel", "isElsewhere", "(I)Z"⟩ ∈ xw_T := xw_in (List.mem_of_getElem? (i := 525) (by decide +kernel)) (by decide +kernel)
set_option maxRecDepth 20000 in
theorem mw_126 : Cond.instanceMethod ⟨"ControlDeskModel", "floating", "()I"⟩ ∈ xw_T := xw_in (List.mem_of_getElem? (i := 505) (by decide +kernel)) (by decide +kernel)
set_option maxRecDepth 20000 in
theorem mw_127 : Cond.selects "ControlDeskModel" ⟨"ControlDeskModel", "floating", "()I"⟩ ⟨"ControlDeskModel", "floating", "()I"⟩ ∈ xw_T := xw_in (List.mem_of_getElem? (i := 29) (by decide +kernel)) (by decide +kernel)
set_option maxRecDepth 20000 in
theorem mw_128 : Cond.methodLink "ControlDeskModel" 44 ⟨"ControlDeskModel", "floating", "()I"⟩ ∈ xw_T := xw_in (List.mem_of_getElem? (i := 503) (by decide +kernel)) (by decide +kernel)
set_option maxRecDepth 20000 in
theorem mw_13 : Cond.constantLong "ControlDesk$Bank" 17 (-2) ∈ xw_T := xw_in (List.mem_of_getElem? (i := 385) (by decide +kernel)) (by decide +kernel)
set_option maxRecDepth 20000 in
theorem mw_130 : Cond.methodLink "ControlDeskModel" 51 ⟨"ControlDeskModel", "statusSeen", "(Z)J"⟩ ∈ xw_T := xw_in (List.mem_of_getElem? (i := 509) (by decide +kernel)) (by decide +kernel)
set_option maxRecDepth 20000 in
theorem mw_131 : Cond.static ⟨"ControlDeskModel", "statusSeen", "(Z)J"⟩ ∈ xw_T := xw_in (List.mem_of_getElem? (i := 510) (by decide +kernel)) (by decide +kernel)
set_option maxRecDepth 20000 in
theorem mw_133 : Cond.instanceMethod ⟨"ControlDeskModel", "lineBits", "()J"⟩ ∈ xw_T := xw_in (List.mem_of_getElem? (i := 516) (by decide +kernel)) (by decide +kernel)
set_option maxRecDepth 20000 in
theorem mw_134 : Cond.selects "ControlDeskModel" ⟨"ControlDeskModel", "lineBits", "()J"⟩ ⟨"ControlDeskModel", "lineBits", "()J"⟩ ∈ xw_T := xw_in (List.mem_of_getElem? (i := 30) (by decide +kernel)) (by decide +kernel)
set_option maxRecDepth 20000 in
theorem mw_135 : Cond.methodLink "ControlDeskModel" 59 ⟨"ControlDeskModel", "lineBits", "()J"⟩ ∈ xw_T := xw_in (List.mem_of_getElem? (i := 514) (by decide +kernel)) (by decide +kernel)
set_option maxRecDepth 20000 in
theorem mw_137 : Cond.methodLink "ControlDeskModel" 67 ⟨"ControlDeskModel", "isThere", "(I)Z"⟩ ∈ xw_T := xw_in (List.mem_of_getElem? (i := 518) (by decide +kernel)) (by decide +kernel)
set_option maxRecDepth 20000 in
theorem mw_138 : Cond.static ⟨"ControlDeskModel", "isThere", "(I)Z"⟩ ∈ xw_T := xw_in (List.mem_of_getElem? (i := 519) (by decide +kernel)) (by decide +kernel)
set_option maxRecDepth 20000 in
theorem mw_14 : Cond.constantLong "ControlDesk" 250 (8) ∈ xw_T := xw_in (List.mem_of_getElem? (i := 194) (by decide +kernel)) (by decide +kernel)
set_option maxRecDepth 20000 in
theorem mw_140 : Cond.instanceMethod ⟨"ControlDeskModel", "shown", "(I)J"⟩ ∈ xw_T := xw_in (List.mem_of_getElem? (i := 501) (by decide +kernel)) (by decide +kernel)
set_option maxRecDepth 20000 in
theorem mw_141 : Cond.selects "ControlDeskModel" ⟨"ControlDeskModel", "shown", "(I)J"⟩ ⟨"ControlDeskModel", "shown", "(I)J"⟩ ∈ xw_T := xw_in (List.mem_of_getElem? (i := 28) (by decide +kernel)) (by decide +kernel)
set_option maxRecDepth 20000 in
theorem mw_142 : Cond.methodLink "ControlDeskModel" 70 ⟨"ControlDeskModel", "shown", "(I)J"⟩ ∈ xw_T := xw_in (List.mem_of_getElem? (i := 499) (by decide +kernel)) (by decide +kernel)
set_option maxRecDepth 20000 in
theorem mw_144 : Cond.instanceMethod ⟨"ControlDeskModel", "through", "(IJJ)V"⟩ ∈ xw_T := xw_in (List.mem_of_getElem? (i := 551) (by decide +kernel)) (by decide +kernel)
set_option maxRecDepth 20000 in
theorem mw_145 : Cond.selects "ControlDeskModel" ⟨"ControlDeskModel", "through", "(IJJ)V"⟩ ⟨"ControlDeskModel", "through", "(IJJ)V"⟩ ∈ xw_T := xw_in (List.mem_of_getElem? (i := 35) (by decide +kernel)) (by decide +kernel)
set_option maxRecDepth 20000 in
theorem mw_146 : Cond.methodLink "ControlDeskModel" 74 ⟨"ControlDeskModel", "through", "(IJJ)V"⟩ ∈ xw_T := xw_in (List.mem_of_getElem? (i := 549) (by decide +kernel)) (by decide +kernel)
set_option maxRecDepth 20000 in
theorem mw_148 : Cond.instanceMethod ⟨"ControlDeskModel", "put", "(II)V"⟩ ∈ xw_T := xw_in (List.mem_of_getElem? (i := 537) (by decide +kernel)) (by decide +kernel)
set_option maxRecDepth 20000 in
theorem mw_149 : Cond.selects "ControlDeskModel" ⟨"ControlDeskModel", "put", "(II)V"⟩ ⟨"ControlDeskModel", "put", "(II)V"⟩ ∈ xw_T := xw_in (List.mem_of_getElem? (i := 32) (by decide +kernel)) (by decide +kernel)
set_option maxRecDepth 20000 in
theorem mw_15 : Cond.constantLong "ControlDesk" 252 (9) ∈ xw_T := xw_in (List.mem_of_getElem? (i := 390) (by decide +kernel)) (by decide +kernel)
set_option maxRecDepth 20000 in
theorem mw_150 : Cond.methodLink "ControlDeskModel" 78 ⟨"ControlDeskModel", "put", "(II)V"⟩ ∈ xw_T := xw_in (List.mem_of_getElem? (i := 535) (by decide +kernel)) (by decide +kernel)
set_option maxRecDepth 20000 in
theorem mw_152 : Cond.instanceMethod ⟨"ControlDeskModel", "writeStatus", "(JJ)V"⟩ ∈ xw_T := xw_in (List.mem_of_getElem? (i := 547) (by decide +kernel)) (by decide +kernel)
set_option maxRecDepth 20000 in
theorem mw_153 : Cond.selects "ControlDeskModel" ⟨"ControlDeskModel", "writeStatus", "(JJ)V"⟩ ⟨"ControlDeskModel", "writeStatus", "(JJ)V"⟩ ∈ xw_T := xw_in (List.mem_of_getElem? (i := 34) (by decide +kernel)) (by decide +kernel)
set_option maxRecDepth 20000 in
theorem mw_154 : Cond.methodLink "ControlDeskModel" 82 ⟨"ControlDeskModel", "writeStatus", "(JJ)V"⟩ ∈ xw_T := xw_in (List.mem_of_getElem? (i := 545) (by decide +kernel)) (by decide +kernel)
set_option maxRecDepth 20000 in
theorem mw_156 : Cond.initialized "ControlDesk" ∈ xw_T := xw_in (List.mem_of_getElem? (i := 40) (by decide +kernel)) (by decide +kernel)
set_option maxRecDepth 20000 in
theorem mw_157 : Cond.instanceMethod ⟨"ControlDesk", "mayReturn", "(Z)Z"⟩ ∈ xw_T := xw_in (List.mem_of_getElem? (i := 182) (by decide +kernel)) (by decide +kernel)
set_option maxRecDepth 20000 in
theorem mw_158 : Cond.selects "ControlDesk" ⟨"ControlDesk", "mayReturn", "(Z)Z"⟩ ⟨"ControlDesk", "mayReturn", "(Z)Z"⟩ ∈ xw_T := xw_in (List.mem_of_getElem? (i := 5) (by decide +kernel)) (by decide +kernel)
set_option maxRecDepth 20000 in
theorem mw_159 : Cond.methodLink "ControlDesk" 104 ⟨"ControlDesk", "mayReturn", "(Z)Z"⟩ ∈ xw_T := xw_in (List.mem_of_getElem? (i := 180) (by decide +kernel)) (by decide +kernel)
set_option maxRecDepth 20000 in
theorem mw_16 : Cond.constantLong "ControlDesk" 223 (811298) ∈ xw_T := xw_in (List.mem_of_getElem? (i := 367) (by decide +kernel)) (by decide +kernel)
set_option maxRecDepth 20000 in
theorem mw_161 : Cond.instanceMethod ⟨"ControlDesk", "leaveMachine", "()V"⟩ ∈ xw_T := xw_in (List.mem_of_getElem? (i := 191) (by decide +kernel)) (by decide +kernel)
set_option maxRecDepth 20000 in
theorem mw_162 : Cond.selects "ControlDesk" ⟨"ControlDesk", "leaveMachine", "()V"⟩ ⟨"ControlDesk", "leaveMachine", "()V"⟩ ∈ xw_T := xw_in (List.mem_of_getElem? (i := 7) (by decide +kernel)) (by decide +kernel)
set_option maxRecDepth 20000 in
theorem mw_163 : Cond.methodLink "ControlDesk" 108 ⟨"ControlDesk", "leaveMachine", "()V"⟩ ∈ xw_T := xw_in (List.mem_of_getElem? (i := 189) (by decide +kernel)) (by decide +kernel)
set_option maxRecDepth 20000 in
theorem mw_165 : Cond.instanceMethod ⟨"ControlDesk", "leaveSupervisor", "()V"⟩ ∈ xw_T := xw_in (List.mem_of_getElem? (i := 198) (by decide +kernel)) (by decide +kernel)
set_option maxRecDepth 20000 in
theorem mw_166 : Cond.selects "ControlDesk" ⟨"ControlDesk", "leaveSupervisor", "()V"⟩ ⟨"ControlDesk", "leaveSupervisor", "()V"⟩ ∈ xw_T := xw_in (List.mem_of_getElem? (i := 8) (by decide +kernel)) (by decide +kernel)
set_option maxRecDepth 20000 in
theorem mw_167 : Cond.methodLink "ControlDesk" 111 ⟨"ControlDesk", "leaveSupervisor", "()V"⟩ ∈ xw_T := xw_in (List.mem_of_getElem? (i := 196) (by decide +kernel)) (by decide +kernel)
set_option maxRecDepth 20000 in
theorem mw_169 : Cond.instanceMethod ⟨"ControlDesk", "pending", "()J"⟩ ∈ xw_T := xw_in (List.mem_of_getElem? (i := 174) (by decide +kernel)) (by decide +kernel)
set_option maxRecDepth 20000 in
theorem mw_17 : Cond.constantLong "ControlDesk" 238 (7) ∈ xw_T := xw_in (List.mem_of_getElem? (i := 380) (by decide +kernel)) (by decide +kernel)
set_option maxRecDepth 20000 in
theorem mw_170 : Cond.selects "ControlDesk" ⟨"ControlDesk", "pending", "()J"⟩ ⟨"ControlDesk", "pending", "()J"⟩ ∈ xw_T := xw_in (List.mem_of_getElem? (i := 4) (by decide +kernel)) (by decide +kernel)
set_option maxRecDepth 20000 in
theorem mw_171 : Cond.methodLink "ControlDesk" 116 ⟨"ControlDesk", "pending", "()J"⟩ ∈ xw_T := xw_in (List.mem_of_getElem? (i := 172) (by decide +kernel)) (by decide +kernel)
set_option maxRecDepth 20000 in
theorem mw_173 : Cond.instanceMethod ⟨"ControlDesk", "takesUndelegated", "()Z"⟩ ∈ xw_T := xw_in (List.mem_of_getElem? (i := 215) (by decide +kernel)) (by decide +kernel)
set_option maxRecDepth 20000 in
theorem mw_174 : Cond.selects "ControlDesk" ⟨"ControlDesk", "takesUndelegated", "()Z"⟩ ⟨"ControlDesk", "takesUndelegated", "()Z"⟩ ∈ xw_T := xw_in (List.mem_of_getElem? (i := 9) (by decide +kernel)) (by decide +kernel)
set_option maxRecDepth 20000 in
theorem mw_175 : Cond.methodLink "ControlDesk" 123 ⟨"ControlDesk", "takesUndelegated", "()Z"⟩ ∈ xw_T := xw_in (List.mem_of_getElem? (i := 213) (by decide +kernel)) (by decide +kernel)
set_option maxRecDepth 20000 in
theorem mw_177 : Cond.methodLink "ControlDesk" 132 ⟨"ControlDesk", "firstInOrder", "(J)I"⟩ ∈ xw_T := xw_in (List.mem_of_getElem? (i := 218) (by decide +kernel)) (by decide +kernel)
set_option maxRecDepth 20000 in
theorem mw_178 : Cond.static ⟨"ControlDesk", "firstInOrder", "(J)I"⟩ ∈ xw_T := xw_in (List.mem_of_getElem? (i := 219) (by decide +kernel)) (by decide +kernel)
set_option maxRecDepth 20000 in
theorem mw_18 : Cond.constantLong "ControlDesk" 217 (8288682) ∈ xw_T := xw_in (List.mem_of_getElem? (i := 361) (by decide +kernel)) (by decide +kernel)
set_option maxRecDepth 20000 in
theorem mw_180 : Cond.instanceMethod ⟨"ControlDesk", "takesDelegated", "()Z"⟩ ∈ xw_T := xw_in (List.mem_of_getElem? (i := 225) (by decide +kernel)) (by decide +kernel)
set_option maxRecDepth 20000 in
theorem mw_181 : Cond.selects "ControlDesk" ⟨"ControlDesk", "takesDelegated", "()Z"⟩ ⟨"ControlDesk", "takesDelegated", "()Z"⟩ ∈ xw_T := xw_in (List.mem_of_getElem? (i := 10) (by decide +kernel)) (by decide +kernel)
set_option maxRecDepth 20000 in
theorem mw_182 : Cond.methodLink "ControlDesk" 136 ⟨"ControlDesk", "takesDelegated", "()Z"⟩ ∈ xw_T := xw_in (List.mem_of_getElem? (i := 223) (by decide +kernel)) (by decide +kernel)
set_option maxRecDepth 20000 in
theorem mw_184 : Cond.instanceMethod ⟨"ControlDesk", "machineOrSupervisorWithout", "(J)Z"⟩ ∈ xw_T := xw_in (List.mem_of_getElem? (i := 187) (by decide +kernel)) (by decide +kernel)
set_option maxRecDepth 20000 in
theorem mw_185 : Cond.selects "ControlDesk" ⟨"ControlDesk", "machineOrSupervisorWithout", "(J)Z"⟩ ⟨"ControlDesk", "machineOrSupervisorWithout", "(J)Z"⟩ ∈ xw_T := xw_in (List.mem_of_getElem? (i := 6) (by decide +kernel)) (by decide +kernel)
set_option maxRecDepth 20000 in
theorem mw_186 : Cond.methodLink "ControlDesk" 150 ⟨"ControlDesk", "machineOrSupervisorWithout", "(J)Z"⟩ ∈ xw_T := xw_in (List.mem_of_getElem? (i := 185) (by decide +kernel)) (by decide +kernel)
set_option maxRecDepth 20000 in
theorem mw_188 : Cond.methodLink "ControlDesk" 164 ⟨"ControlDesk", "isHere", "(I)Z"⟩ ∈ xw_T := xw_in (List.mem_of_getElem? (i := 329) (by decide +kernel)) (by decide +kernel)
set_option maxRecDepth 20000 in
theorem mw_189 : Cond.static ⟨"ControlDesk", "isHere", "(I)Z"⟩ ∈ xw_T := xw_in (List.mem_of_getElem? (i := 330) (by decide +kernel)) (by decide +kernel)
set_option maxRecDepth 20000 in
theorem mw_19 : Cond.constantLong "ControlDesk" 225 (46079) ∈ xw_T := xw_in (List.mem_of_getElem? (i := 368) (by decide +kernel)) (by decide +kernel)
set_option maxRecDepth 20000 in
theorem mw_191 : Cond.methodLink "ControlDesk" 167 ⟨"ControlDesk", "isOpenCount", "(I)Z"⟩ ∈ xw_T := xw_in (List.mem_of_getElem? (i := 339) (by decide +kernel)) (by decide +kernel)
set_option maxRecDepth 20000 in
theorem mw_192 : Cond.static ⟨"ControlDesk", "isOpenCount", "(I)Z"⟩ ∈ xw_T := xw_in (List.mem_of_getElem? (i := 340) (by decide +kernel)) (by decide +kernel)
set_option maxRecDepth 20000 in
theorem mw_194 : Cond.instanceMethod ⟨"ControlDesk", "isClosed", "(I)Z"⟩ ∈ xw_T := xw_in (List.mem_of_getElem? (i := 344) (by decide +kernel)) (by decide +kernel)
set_option maxRecDepth 20000 in
theorem mw_195 : Cond.selects "ControlDesk" ⟨"ControlDesk", "isClosed", "(I)Z"⟩ ⟨"ControlDesk", "isClosed", "(I)Z"⟩ ∈ xw_T := xw_in (List.mem_of_getElem? (i := 13) (by decide +kernel)) (by decide +kernel)
set_option maxRecDepth 20000 in
theorem mw_196 : Cond.methodLink "ControlDesk" 170 ⟨"ControlDesk", "isClosed", "(I)Z"⟩ ∈ xw_T := xw_in (List.mem_of_getElem? (i := 342) (by decide +kernel)) (by decide +kernel)
set_option maxRecDepth 20000 in
theorem mw_198 : Cond.instanceMethod ⟨"ControlDesk", "shownStatus", "()J"⟩ ∈ xw_T := xw_in (List.mem_of_getElem? (i := 165) (by decide +kernel)) (by decide +kernel)
set_option maxRecDepth 20000 in
theorem mw_199 : Cond.selects "ControlDesk" ⟨"ControlDesk", "shownStatus", "()J"⟩ ⟨"ControlDesk", "shownStatus", "()J"⟩ ∈ xw_T := xw_in (List.mem_of_getElem? (i := 3) (by decide +kernel)) (by decide +kernel)
set_option maxRecDepth 20000 in
theorem mw_2 : Cond.constantLong "ControlDesk" 60 (24576) ∈ xw_T := xw_in (List.mem_of_getElem? (i := 168) (by decide +kernel)) (by decide +kernel)
set_option maxRecDepth 20000 in
theorem mw_20 : Cond.constantLong "ControlDesk" 227 (546) ∈ xw_T := xw_in (List.mem_of_getElem? (i := 369) (by decide +kernel)) (by decide +kernel)
set_option maxRecDepth 20000 in
theorem mw_200 : Cond.methodLink "ControlDesk" 183 ⟨"ControlDesk", "shownStatus", "()J"⟩ ∈ xw_T := xw_in (List.mem_of_getElem? (i := 163) (by decide +kernel)) (by decide +kernel)
set_option maxRecDepth 20000 in
theorem mw_202 : Cond.methodLink "ControlDesk" 213 ⟨"ControlDesk", "merged", "(JJJ)J"⟩ ∈ xw_T := xw_in (List.mem_of_getElem? (i := 351) (by decide +kernel)) (by decide +kernel)
set_option maxRecDepth 20000 in
theorem mw_203 : Cond.static ⟨"ControlDesk", "merged", "(JJJ)J"⟩ ∈ xw_T := xw_in (List.mem_of_getElem? (i := 352) (by decide +kernel)) (by decide +kernel)
set_option maxRecDepth 20000 in
theorem mw_205 : Cond.instanceMethod ⟨"ControlDesk", "storeStatus", "(JJ)V"⟩ ∈ xw_T := xw_in (List.mem_of_getElem? (i := 364) (by decide +kernel)) (by decide +kernel)
set_option maxRecDepth 20000 in
theorem mw_206 : Cond.selects "ControlDesk" ⟨"ControlDesk", "storeStatus", "(JJ)V"⟩ ⟨"ControlDesk", "storeStatus", "(JJ)V"⟩ ∈ xw_T := xw_in (List.mem_of_getElem? (i := 16) (by decide +kernel)) (by decide +kernel)
set_option maxRecDepth 20000 in
theorem mw_207 : Cond.methodLink "ControlDesk" 219 ⟨"ControlDesk", "storeStatus", "(JJ)V"⟩ ∈ xw_T := xw_in (List.mem_of_getElem? (i := 362) (by decide +kernel)) (by decide +kernel)
set_option maxRecDepth 20000 in
theorem mw_209 : Cond.instanceMethod ⟨"ControlDesk", "storeSupervisorPending", "(J)V"⟩ ∈ xw_T := xw_in (List.mem_of_getElem? (i := 373) (by decide +kernel)) (by decide +kernel)
set_option maxRecDepth 20000 in
theorem mw_21 : Cond.constantLong "ControlDesk" 229 (2730) ∈ xw_T := xw_in (List.mem_of_getElem? (i := 370) (by decide +kernel)) (by decide +kernel)
set_option maxRecDepth 20000 in
theorem mw_210 : Cond.selects "ControlDesk" ⟨"ControlDesk", "storeSupervisorPending", "(J)V"⟩ ⟨"ControlDesk", "storeSupervisorPending", "(J)V"⟩ ∈ xw_T := xw_in (List.mem_of_getElem? (i := 17) (by decide +kernel)) (by decide +kernel)
set_option maxRecDepth 20000 in
theorem mw_211 : Cond.methodLink "ControlDesk" 231 ⟨"ControlDesk", "storeSupervisorPending", "(J)V"⟩ ∈ xw_T := xw_in (List.mem_of_getElem? (i := 371) (by decide +kernel)) (by decide +kernel)
set_option maxRecDepth 20000 in
theorem mw_213 : Cond.instanceMethod ⟨"ControlDesk$Bank", "keepVectors", "(J)V"⟩ ∈ xw_T := xw_in (List.mem_of_getElem? (i := 377) (by decide +kernel)) (by decide +kernel)
set_option maxRecDepth 20000 in
theorem mw_214 : Cond.selects "ControlDesk$Bank" ⟨"ControlDesk$Bank", "keepVectors", "(J)V"⟩ ⟨"ControlDesk$Bank", "keepVectors", "(J)V"⟩ ∈ xw_T := xw_in (List.mem_of_getElem? (i := 18) (by decide +kernel)) (by decide +kernel)
set_option maxRecDepth 20000 in
theorem mw_216 : Cond.instanceMethod ⟨"ControlDesk", "storeTable", "(J)V"⟩ ∈ xw_T := xw_in (List.mem_of_getElem? (i := 388) (by decide +kernel)) (by decide +kernel)
set_option maxRecDepth 20000 in
theorem mw_217 : Cond.selects "ControlDesk" ⟨"ControlDesk", "storeTable", "(J)V"⟩ ⟨"ControlDesk", "storeTable", "(J)V"⟩ ∈ xw_T := xw_in (List.mem_of_getElem? (i := 20) (by decide +kernel)) (by decide +kernel)
set_option maxRecDepth 20000 in
theorem mw_218 : Cond.methodLink "ControlDesk" 243 ⟨"ControlDesk", "storeTable", "(J)V"⟩ ∈ xw_T := xw_in (List.mem_of_getElem? (i := 386) (by decide +kernel)) (by decide +kernel)
set_option maxRecDepth 20000 in
theorem mw_22 : Cond.constantLong "ControlDesk" 258 (32) ∈ xw_T := xw_in (List.mem_of_getElem? (i := 200) (by decide +kernel)) (by decide +kernel)
set_option maxRecDepth 20000 in
theorem mw_220 : Cond.instanceMethod ⟨"ControlDesk", "has", "(J)Z"⟩ ∈ xw_T := xw_in (List.mem_of_getElem? (i := 144) (by decide +kernel)) (by decide +kernel)
set_option maxRecDepth 20000 in
theorem mw_221 : Cond.selects "ControlDesk" ⟨"ControlDesk", "has", "(J)Z"⟩ ⟨"ControlDesk", "has", "(J)Z"⟩ ∈ xw_T := xw_in (List.mem_of_getElem? (i := 0) (by decide +kernel)) (by decide +kernel)
set_option maxRecDepth 20000 in
theorem mw_222 : Cond.methodLink "ControlDesk" 29 ⟨"ControlDesk", "has", "(J)Z"⟩ ∈ xw_T := xw_in (List.mem_of_getElem? (i := 142) (by decide +kernel)) (by decide +kernel)
set_option maxRecDepth 20000 in
theorem mw_224 : Cond.instanceMethod ⟨"ControlDesk", "previousMachineMode", "()I"⟩ ∈ xw_T := xw_in (List.mem_of_getElem? (i := 148) (by decide +kernel)) (by decide +kernel)
set_option maxRecDepth 20000 in
theorem mw_225 : Cond.selects "ControlDesk" ⟨"ControlDesk", "previousMachineMode", "()I"⟩ ⟨"ControlDesk", "previousMachineMode", "()I"⟩ ∈ xw_T := xw_in (List.mem_of_getElem? (i := 1) (by decide +kernel)) (by decide +kernel)
set_option maxRecDepth 20000 in
theorem mw_226 : Cond.methodLink "ControlDesk" 33 ⟨"ControlDesk", "previousMachineMode", "()I"⟩ ∈ xw_T := xw_in (List.mem_of_getElem? (i := 146) (by decide +kernel)) (by decide +kernel)
set_option maxRecDepth 20000 in
theorem mw_228 : Cond.instanceMethod ⟨"ControlDesk", "isIllegal", "(IZ)Z"⟩ ∈ xw_T := xw_in (List.mem_of_getElem? (i := 327) (by decide +kernel)) (by decide +kernel)
set_option maxRecDepth 20000 in
theorem mw_229 : Cond.selects "ControlDesk" ⟨"ControlDesk", "isIllegal", "(IZ)Z"⟩ ⟨"ControlDesk", "isIllegal", "(IZ)Z"⟩ ∈ xw_T := xw_in (List.mem_of_getElem? (i := 12) (by decide +kernel)) (by decide +kernel)
set_option maxRecDepth 20000 in
theorem mw_23 : Cond.constantLong "ControlDesk" 254 (-291) ∈ xw_T := xw_in (List.mem_of_getElem? (i := 407) (by decide +kernel)) (by decide +kernel)
set_option maxRecDepth 20000 in
theorem mw_230 : Cond.methodLink "ControlDesk" 46 ⟨"ControlDesk", "isIllegal", "(IZ)Z"⟩ ∈ xw_T := xw_in (List.mem_of_getElem? (i := 325) (by decide +kernel)) (by decide +kernel)
set_option maxRecDepth 20000 in
theorem mw_232 : Cond.methodLink "ControlDesk" 50 ⟨"ControlDesk", "isElsewhere", "(I)Z"⟩ ∈ xw_T := xw_in (List.mem_of_getElem? (i := 332) (by decide +kernel)) (by decide +kernel)
set_option maxRecDepth 20000 in
theorem mw_233 : Cond.static ⟨"ControlDesk", "isElsewhere", "(I)Z"⟩ ∈ xw_T := xw_in (List.mem_of_getElem? (i := 333) (by decide +kernel)) (by decide +kernel)
set_option maxRecDepth 20000 in
theorem mw_235 : Cond.methodLink "ControlDesk" 54 ⟨"ControlDesk", "isFloat", "(I)Z"⟩ ∈ xw_T := xw_in (List.mem_of_getElem? (i := 335) (by decide +kernel)) (by decide +kernel)
set_option maxRecDepth 20000 in
theorem mw_236 : Cond.static ⟨"ControlDesk", "isFloat", "(I)Z"⟩ ∈ xw_T := xw_in (List.mem_of_getElem? (i := 336) (by decide +kernel)) (by decide +kernel)
set_option maxRecDepth 20000 in
theorem mw_238 : Cond.instanceMethod ⟨"ControlDesk", "shown", "(I)J"⟩ ∈ xw_T := xw_in (List.mem_of_getElem? (i := 161) (by decide +kernel)) (by decide +kernel)
set_option maxRecDepth 20000 in
theorem mw_239 : Cond.selects "ControlDesk" ⟨"ControlDesk", "shown", "(I)J"⟩ ⟨"ControlDesk", "shown", "(I)J"⟩ ∈ xw_T := xw_in (List.mem_of_getElem? (i := 2) (by decide +kernel)) (by decide +kernel)
set_option maxRecDepth 20000 in
theorem mw_24 : Cond.constantLong "ControlDesk" 256 (256) ∈ xw_T := xw_in (List.mem_of_getElem? (i := 202) (by decide +kernel)) (by decide +kernel)
set_option maxRecDepth 20000 in
theorem mw_240 : Cond.methodLink "ControlDesk" 62 ⟨"ControlDesk", "shown", "(I)J"⟩ ∈ xw_T := xw_in (List.mem_of_getElem? (i := 159) (by decide +kernel)) (by decide +kernel)
set_option maxRecDepth 20000 in
theorem mw_242 : Cond.instanceMethod ⟨"ControlDesk", "changeable", "(IJ)J"⟩ ∈ xw_T := xw_in (List.mem_of_getElem? (i := 348) (by decide +kernel)) (by decide +kernel)
set_option maxRecDepth 20000 in
theorem mw_243 : Cond.selects "ControlDesk" ⟨"ControlDesk", "changeable", "(IJ)J"⟩ ⟨"ControlDesk", "changeable", "(IJ)J"⟩ ∈ xw_T := xw_in (List.mem_of_getElem? (i := 14) (by decide +kernel)) (by decide +kernel)
set_option maxRecDepth 20000 in
theorem mw_244 : Cond.methodLink "ControlDesk" 66 ⟨"ControlDesk", "changeable", "(IJ)J"⟩ ∈ xw_T := xw_in (List.mem_of_getElem? (i := 346) (by decide +kernel)) (by decide +kernel)
set_option maxRecDepth 20000 in
theorem mw_246 : Cond.methodLink "ControlDesk" 70 ⟨"ControlDesk", "combined", "(IJJ)J"⟩ ∈ xw_T := xw_in (List.mem_of_getElem? (i := 354) (by decide +kernel)) (by decide +kernel)
set_option maxRecDepth 20000 in
theorem mw_247 : Cond.static ⟨"ControlDesk", "combined", "(IJJ)J"⟩ ∈ xw_T := xw_in (List.mem_of_getElem? (i := 355) (by decide +kernel)) (by decide +kernel)
set_option maxRecDepth 20000 in
theorem mw_249 : Cond.instanceMethod ⟨"ControlDesk", "store", "(IJ)V"⟩ ∈ xw_T := xw_in (List.mem_of_getElem? (i := 359) (by decide +kernel)) (by decide +kernel)
set_option maxRecDepth 20000 in
theorem mw_25 : Cond.constantLong "ControlDesk" 260 (-6281) ∈ xw_T := xw_in (List.mem_of_getElem? (i := 412) (by decide +kernel)) (by decide +kernel)
set_option maxRecDepth 20000 in
theorem mw_250 : Cond.selects "ControlDesk" ⟨"ControlDesk", "store", "(IJ)V"⟩ ⟨"ControlDesk", "store", "(IJ)V"⟩ ∈ xw_T := xw_in (List.mem_of_getElem? (i := 15) (by decide +kernel)) (by decide +kernel)
set_option maxRecDepth 20000 in
theorem mw_251 : Cond.methodLink "ControlDesk" 74 ⟨"ControlDesk", "store", "(IJ)V"⟩ ∈ xw_T := xw_in (List.mem_of_getElem? (i := 357) (by decide +kernel)) (by decide +kernel)
set_option maxRecDepth 20000 in
theorem mw_253 : Cond.instanceMethod ⟨"ControlDesk", "goesToSupervisor", "(ZI)Z"⟩ ∈ xw_T := xw_in (List.mem_of_getElem? (i := 401) (by decide +kernel)) (by decide +kernel)
set_option maxRecDepth 20000 in
theorem mw_254 : Cond.selects "ControlDesk" ⟨"ControlDesk", "goesToSupervisor", "(ZI)Z"⟩ ⟨"ControlDesk", "goesToSupervisor", "(ZI)Z"⟩ ∈ xw_T := xw_in (List.mem_of_getElem? (i := 21) (by decide +kernel)) (by decide +kernel)
set_option maxRecDepth 20000 in
theorem mw_255 : Cond.methodLink "ControlDesk" 83 ⟨"ControlDesk", "goesToSupervisor", "(ZI)Z"⟩ ∈ xw_T := xw_in (List.mem_of_getElem? (i := 399) (by decide +kernel)) (by decide +kernel)
set_option maxRecDepth 20000 in
theorem mw_257 : Cond.instanceMethod ⟨"ControlDesk", "enterSupervisor", "()V"⟩ ∈ xw_T := xw_in (List.mem_of_getElem? (i := 405) (by decide +kernel)) (by decide +kernel)
set_option maxRecDepth 20000 in
theorem mw_258 : Cond.selects "ControlDesk" ⟨"ControlDesk", "enterSupervisor", "()V"⟩ ⟨"ControlDesk", "enterSupervisor", "()V"⟩ ∈ xw_T := xw_in (List.mem_of_getElem? (i := 22) (by decide +kernel)) (by decide +kernel)
set_option maxRecDepth 20000 in
theorem mw_259 : Cond.methodLink "ControlDesk" 87 ⟨"ControlDesk", "enterSupervisor", "()V"⟩ ∈ xw_T := xw_in (List.mem_of_getElem? (i := 403) (by decide +kernel)) (by decide +kernel)
set_option maxRecDepth 20000 in
theorem mw_26 : Cond.constantLong "ControlDesk" 262 (128) ∈ xw_T := xw_in (List.mem_of_getElem? (i := 193) (by decide +kernel)) (by decide +kernel)
set_option maxRecDepth 20000 in
theorem mw_261 : Cond.instanceMethod ⟨"ControlDesk", "enterMachine", "()V"⟩ ∈ xw_T := xw_in (List.mem_of_getElem? (i := 410) (by decide +kernel)) (by decide +kernel)
set_option maxRecDepth 20000 in
theorem mw_262 : Cond.selects "ControlDesk" ⟨"ControlDesk", "enterMachine", "()V"⟩ ⟨"ControlDesk", "enterMachine", "()V"⟩ ∈ xw_T := xw_in (List.mem_of_getElem? (i := 23) (by decide +kernel)) (by decide +kernel)
set_option maxRecDepth 20000 in
theorem mw_263 : Cond.methodLink "ControlDesk" 90 ⟨"ControlDesk", "enterMachine", "()V"⟩ ∈ xw_T := xw_in (List.mem_of_getElem? (i := 408) (by decide +kernel)) (by decide +kernel)
set_option maxRecDepth 20000 in
theorem mw_265 : Cond.instanceMethod ⟨"ControlDesk$Bank", "remember", "(ZIJJ)V"⟩ ∈ xw_T := xw_in (List.mem_of_getElem? (i := 415) (by decide +kernel)) (by decide +kernel)
set_option maxRecDepth 20000 in
theorem mw_266 : Cond.selects "ControlDesk$Bank" ⟨"ControlDesk$Bank", "remember", "(ZIJJ)V"⟩ ⟨"ControlDesk$Bank", "remember", "(ZIJJ)V"⟩ ∈ xw_T := xw_in (List.mem_of_getElem? (i := 24) (by decide +kernel)) (by decide +kernel)
set_option maxRecDepth 20000 in
theorem mw_268 : Cond.instanceMethod ⟨"ControlDesk$Bank", "entry", "(ZI)J"⟩ ∈ xw_T := xw_in (List.mem_of_getElem? (i := 421) (by decide +kernel)) (by decide +kernel)
set_option maxRecDepth 20000 in
theorem mw_269 : Cond.selects "ControlDesk$Bank" ⟨"ControlDesk$Bank", "entry", "(ZI)J"⟩ ⟨"ControlDesk$Bank", "entry", "(ZI)J"⟩ ∈ xw_T := xw_in (List.mem_of_getElem? (i := 25) (by decide +kernel)) (by decide +kernel)
set_option maxRecDepth 20000 in
theorem mw_27 : Cond.constantLong "ControlDesk$Bank" 26 (-9223372036854775808) ∈ xw_T := xw_in (List.mem_of_getElem? (i := 418) (by decide +kernel)) (by decide +kernel)
set_option maxRecDepth 20000 in
theorem mw_28 : Cond.constantLong "ControlDesk$Bank" 36 (4) ∈ xw_T := xw_in (List.mem_of_getElem? (i := 424) (by decide +kernel)) (by decide +kernel)
set_option maxRecDepth 20000 in
theorem mw_29 : Cond.constantLong "ControlDesk$Bank" 34 (-4) ∈ xw_T := xw_in (List.mem_of_getElem? (i := 423) (by decide +kernel)) (by decide +kernel)
set_option maxRecDepth 20000 in
theorem mw_3 : Cond.constantLong "ControlDesk" 148 (1048576) ∈ xw_T := xw_in (List.mem_of_getElem? (i := 338) (by decide +kernel)) (by decide +kernel)
set_option maxRecDepth 20000 in
theorem mw_30 : Cond.constantLong "ControlDesk" 264 (4194304) ∈ xw_T := xw_in (List.mem_of_getElem? (i := 184) (by decide +kernel)) (by decide +kernel)
set_option maxRecDepth 20000 in
theorem mw_31 : Cond.constantLong "ControlDesk" 266 (-6153) ∈ xw_T := xw_in (List.mem_of_getElem? (i := 195) (by decide +kernel)) (by decide +kernel)
set_option maxRecDepth 20000 in
theorem mw_32 : Cond.constantLong "ControlDesk" 268 (-259) ∈ xw_T := xw_in (List.mem_of_getElem? (i := 203) (by decide +kernel)) (by decide +kernel)
set_option maxRecDepth 20000 in
theorem mw_33 : Cond.constantLong "ControlDesk" 114 (-131073) ∈ xw_T := xw_in (List.mem_of_getElem? (i := 204) (by decide +kernel)) (by decide +kernel)
set_option maxRecDepth 20000 in
theorem mw_34 : Cond.fieldLink "ControlDesk" 270 "ControlDesk" "INTERRUPT_ORDER" "[I" ∈ xw_T := xw_in (List.mem_of_getElem? (i := 221) (by decide +kernel)) (by decide +kernel)
set_option maxRecDepth 20000 in
theorem mw_35 : Cond.constantLong "ControlDesk" 146 (2097152) ∈ xw_T := xw_in (List.mem_of_getElem? (i := 441) (by decide +kernel)) (by decide +kernel)
set_option maxRecDepth 20000 in
theorem mw_36 : Cond.constantLong "ControlDeskModel" 27 (-1) ∈ xw_T := xw_in (List.mem_of_getElem? (i := 539) (by decide +kernel)) (by decide +kernel)
set_option maxRecDepth 20000 in
theorem mw_37 : Cond.constantLong "ControlDeskModel" 55 (8589934592) ∈ xw_T := xw_in (List.mem_of_getElem? (i := 512) (by decide +kernel)) (by decide +kernel)
set_option maxRecDepth 20000 in
theorem mw_38 : Cond.constantLong "ControlDeskModel" 49 (42949672960) ∈ xw_T := xw_in (List.mem_of_getElem? (i := 508) (by decide +kernel)) (by decide +kernel)
set_option maxRecDepth 20000 in
theorem mw_39 : Cond.constantLong "ControlDeskModel" 57 (-9223372036853460691) ∈ xw_T := xw_in (List.mem_of_getElem? (i := 513) (by decide +kernel)) (by decide +kernel)
set_option maxRecDepth 20000 in
theorem mw_4 : Cond.constantLong "ControlDesk" 176 (42949672960) ∈ xw_T := xw_in (List.mem_of_getElem? (i := 167) (by decide +kernel)) (by decide +kernel)
set_option maxRecDepth 20000 in
theorem mw_40 : Cond.constantLong "ControlDeskModel" 47 (-9223372036854775808) ∈ xw_T := xw_in (List.mem_of_getElem? (i := 507) (by decide +kernel)) (by decide +kernel)
set_option maxRecDepth 20000 in
theorem mw_41 : Cond.constantLong "ControlDeskModel" 94 (-3) ∈ xw_T := xw_in (List.mem_of_getElem? (i := 557) (by decide +kernel)) (by decide +kernel)
set_option maxRecDepth 20000 in
theorem mw_42 : Cond.constantLong "ControlDeskModel" 98 (7) ∈ xw_T := xw_in (List.mem_of_getElem? (i := 559) (by decide +kernel)) (by decide +kernel)
set_option maxRecDepth 20000 in
theorem mw_43 : Cond.constantLong "ControlDeskModel" 96 (-2) ∈ xw_T := xw_in (List.mem_of_getElem? (i := 558) (by decide +kernel)) (by decide +kernel)
set_option maxRecDepth 20000 in
theorem mw_44 : Cond.constantLong "ControlDeskModel" 92 (2) ∈ xw_T := xw_in (List.mem_of_getElem? (i := 556) (by decide +kernel)) (by decide +kernel)
set_option maxRecDepth 20000 in
theorem mw_45 : Cond.constantLong "ControlDeskModel" 100 (15) ∈ xw_T := xw_in (List.mem_of_getElem? (i := 560) (by decide +kernel)) (by decide +kernel)
set_option maxRecDepth 20000 in
theorem mw_46 : Cond.constantLong "ControlDeskModel" 102 (8) ∈ xw_T := xw_in (List.mem_of_getElem? (i := 561) (by decide +kernel)) (by decide +kernel)
set_option maxRecDepth 20000 in
theorem mw_47 : Cond.constantLong "ControlDeskModel" 104 (9) ∈ xw_T := xw_in (List.mem_of_getElem? (i := 562) (by decide +kernel)) (by decide +kernel)
set_option maxRecDepth 20000 in
theorem mw_48 : Cond.constantLong "ControlDeskModel" 86 (46079) ∈ xw_T := xw_in (List.mem_of_getElem? (i := 553) (by decide +kernel)) (by decide +kernel)
set_option maxRecDepth 20000 in
theorem mw_49 : Cond.constantLong "ControlDeskModel" 88 (546) ∈ xw_T := xw_in (List.mem_of_getElem? (i := 554) (by decide +kernel)) (by decide +kernel)
set_option maxRecDepth 20000 in
theorem mw_5 : Cond.constantLong "ControlDesk" 178 (-9223372036854775808) ∈ xw_T := xw_in (List.mem_of_getElem? (i := 169) (by decide +kernel)) (by decide +kernel)
set_option maxRecDepth 20000 in
theorem mw_50 : Cond.constantLong "ControlDeskModel" 90 (2730) ∈ xw_T := xw_in (List.mem_of_getElem? (i := 555) (by decide +kernel)) (by decide +kernel)
set_option maxRecDepth 20000 in
theorem mw_51 : Cond.constantLong "ControlDeskModel" 113 (-513) ∈ xw_T := xw_in (List.mem_of_getElem? (i := 540) (by decide +kernel)) (by decide +kernel)
set_option maxRecDepth 20000 in
theorem mw_52 : Cond.constantLong "ControlDeskModel" 119 (-4) ∈ xw_T := xw_in (List.mem_of_getElem? (i := 574) (by decide +kernel)) (by decide +kernel)
set_option maxRecDepth 20000 in
theorem mw_53 : Cond.constantLong "ControlDeskModel" 121 (4) ∈ xw_T := xw_in (List.mem_of_getElem? (i := 575) (by decide +kernel)) (by decide +kernel)
set_option maxRecDepth 20000 in
theorem mw_54 : Cond.fieldLink "ControlDesk$Bank" 11 "ControlDesk$Bank" "vectors" "J" ∈ xw_T := xw_in (List.mem_of_getElem? (i := 61) (by decide +kernel)) (by decide +kernel)
set_option maxRecDepth 20000 in
theorem mw_55 : Cond.fieldLink "ControlDeskModel" 110 "ControlDeskModel" "had" "J" ∈ xw_T := xw_in (List.mem_of_getElem? (i := 454) (by decide +kernel)) (by decide +kernel)
set_option maxRecDepth 20000 in
theorem mw_56 : Cond.fieldLink "ControlDeskModel" 13 "ControlDeskModel" "held" "[J" ∈ xw_T := xw_in (List.mem_of_getElem? (i := 451) (by decide +kernel)) (by decide +kernel)
set_option maxRecDepth 20000 in
theorem mw_57 : Cond.fieldLink "ControlDeskModel" 17 "ControlDeskModel" "lines" "[Z" ∈ xw_T := xw_in (List.mem_of_getElem? (i := 452) (by decide +kernel)) (by decide +kernel)
set_option maxRecDepth 20000 in
theorem mw_58 : Cond.fieldLink "ControlDeskModel" 7 "ControlDeskModel" "mode" "I" ∈ xw_T := xw_in (List.mem_of_getElem? (i := 450) (by decide +kernel)) (by decide +kernel)
set_option maxRecDepth 20000 in
theorem mw_59 : Cond.fieldLink "ControlDeskModel" 127 "ControlDeskModel" "place" "J" ∈ xw_T := xw_in (List.mem_of_getElem? (i := 455) (by decide +kernel)) (by decide +kernel)
set_option maxRecDepth 20000 in
theorem mw_6 : Cond.constantLong "ControlDesk" 186 (-9223372028264029918) ∈ xw_T := xw_in (List.mem_of_getElem? (i := 170) (by decide +kernel)) (by decide +kernel)
set_option maxRecDepth 20000 in
theorem mw_60 : Cond.fieldLink "ControlDeskModel" 21 "ControlDeskModel" "processor" "I" ∈ xw_T := xw_in (List.mem_of_getElem? (i := 449) (by decide +kernel)) (by decide +kernel)
set_option maxRecDepth 20000 in
theorem mw_61 : Cond.fieldLink "ControlDeskModel" 24 "ControlDeskModel" "thrown" "I" ∈ xw_T := xw_in (List.mem_of_getElem? (i := 448) (by decide +kernel)) (by decide +kernel)
set_option maxRecDepth 20000 in
theorem mw_62 : Cond.fieldLink "ControlDeskModel" 63 "ControlDeskModel" "time" "J" ∈ xw_T := xw_in (List.mem_of_getElem? (i := 453) (by decide +kernel)) (by decide +kernel)
set_option maxRecDepth 20000 in
theorem mw_63 : Cond.fieldLink "ControlDesk" 159 "ControlDesk" "clock" "J" ∈ xw_T := xw_in (List.mem_of_getElem? (i := 97) (by decide +kernel)) (by decide +kernel)
set_option maxRecDepth 20000 in
theorem mw_64 : Cond.fieldLink "ControlDesk" 19 "ControlDesk" "currentMode" "I" ∈ xw_T := xw_in (List.mem_of_getElem? (i := 87) (by decide +kernel)) (by decide +kernel)
set_option maxRecDepth 20000 in
theorem mw_65 : Cond.fieldLink "ControlDesk" 153 "ControlDesk" "cycleCount" "J" ∈ xw_T := xw_in (List.mem_of_getElem? (i := 95) (by decide +kernel)) (by decide +kernel)
set_option maxRecDepth 20000 in
theorem mw_66 : Cond.fieldLink "ControlDesk" 190 "ControlDesk" "delegatedExceptions" "J" ∈ xw_T := xw_in (List.mem_of_getElem? (i := 89) (by decide +kernel)) (by decide +kernel)
set_option maxRecDepth 20000 in
theorem mw_67 : Cond.fieldLink "ControlDesk" 127 "ControlDesk" "delegatedInterrupts" "J" ∈ xw_T := xw_in (List.mem_of_getElem? (i := 90) (by decide +kernel)) (by decide +kernel)
set_option maxRecDepth 20000 in
theorem mw_68 : Cond.fieldLink "ControlDesk" 120 "ControlDesk" "enabled" "J" ∈ xw_T := xw_in (List.mem_of_getElem? (i := 91) (by decide +kernel)) (by decide +kernel)
set_option maxRecDepth 20000 in
theorem mw_69 : Cond.fieldLink "ControlDesk" 156 "ControlDesk" "instructionCount" "J" ∈ xw_T := xw_in (List.mem_of_getElem? (i := 96) (by decide +kernel)) (by decide +kernel)
set_option maxRecDepth 20000 in
theorem mw_7 : Cond.constantLong "ControlDesk" 188 (-9223372036853460691) ∈ xw_T := xw_in (List.mem_of_getElem? (i := 171) (by decide +kernel)) (by decide +kernel)
set_option maxRecDepth 20000 in
theorem mw_70 : Cond.fieldLink "ControlDesk" 78 "ControlDesk" "lastHad" "J" ∈ xw_T := xw_in (List.mem_of_getElem? (i := 98) (by decide +kernel)) (by decide +kernel)
set_option maxRecDepth 20000 in
theorem mw_71 : Cond.fieldLink "ControlDesk" 101 "ControlDesk" "lastPlace" "J" ∈ xw_T := xw_in (List.mem_of_getElem? (i := 99) (by decide +kernel)) (by decide +kernel)
set_option maxRecDepth 20000 in
theorem mw_72 : Cond.fieldLink "ControlDesk" 141 "ControlDesk" "lines" "J" ∈ xw_T := xw_in (List.mem_of_getElem? (i := 93) (by decide +kernel)) (by decide +kernel)
set_option maxRecDepth 20000 in
theorem mw_73 : Cond.fieldLink "ControlDesk" 12 "ControlDesk" "machineBank" "LControlDesk$Bank;" ∈ xw_T := xw_in (List.mem_of_getElem? (i := 84) (by decide +kernel)) (by decide +kernel)
set_option maxRecDepth 20000 in
theorem mw_74 : Cond.fieldLink "ControlDesk" 180 "ControlDesk" "pendingWritten" "J" ∈ xw_T := xw_in (List.mem_of_getElem? (i := 92) (by decide +kernel)) (by decide +kernel)
set_option maxRecDepth 20000 in
theorem mw_75 : Cond.fieldLink "ControlDesk" 23 "ControlDesk" "processor" "J" ∈ xw_T := xw_in (List.mem_of_getElem? (i := 86) (by decide +kernel)) (by decide +kernel)
set_option maxRecDepth 20000 in
theorem mw_76 : Cond.fieldLink "ControlDesk" 57 "ControlDesk" "status" "J" ∈ xw_T := xw_in (List.mem_of_getElem? (i := 88) (by decide +kernel)) (by decide +kernel)
set_option maxRecDepth 20000 in
theorem mw_77 : Cond.fieldLink "ControlDesk" 16 "ControlDesk" "supervisorBank" "LControlDesk$Bank;" ∈ xw_T := xw_in (List.mem_of_getElem? (i := 85) (by decide +kernel)) (by decide +kernel)
set_option maxRecDepth 20000 in
theorem mw_78 : Cond.fieldLink "ControlDesk" 208 "ControlDesk" "table" "J" ∈ xw_T := xw_in (List.mem_of_getElem? (i := 94) (by decide +kernel)) (by decide +kernel)
set_option maxRecDepth 20000 in
theorem mw_79 : Cond.fieldLink "ControlDesk$Bank" 28 "ControlDesk$Bank" "cause" "J" ∈ xw_T := xw_in (List.mem_of_getElem? (i := 67) (by decide +kernel)) (by decide +kernel)
set_option maxRecDepth 20000 in
theorem mw_8 : Cond.constantLong "ControlDesk" 130 (-1) ∈ xw_T := xw_in (List.mem_of_getElem? (i := 217) (by decide +kernel)) (by decide +kernel)
set_option maxRecDepth 20000 in
theorem mw_80 : Cond.fieldLink "ControlDesk$Bank" 19 "ControlDesk$Bank" "resume" "J" ∈ xw_T := xw_in (List.mem_of_getElem? (i := 65) (by decide +kernel)) (by decide +kernel)
set_option maxRecDepth 20000 in
theorem mw_81 : Cond.fieldLink "ControlDesk$Bank" 31 "ControlDesk$Bank" "value" "J" ∈ xw_T := xw_in (List.mem_of_getElem? (i := 69) (by decide +kernel)) (by decide +kernel)
set_option maxRecDepth 20000 in
theorem mw_83 : Cond.initialized "ControlDesk$Bank" ∈ xw_T := xw_in (List.mem_of_getElem? (i := 41) (by decide +kernel)) (by decide +kernel)
set_option maxRecDepth 20000 in
theorem mw_84 : Cond.instanceMethod ⟨"ControlDesk$Bank", "keepResume", "(J)V"⟩ ∈ xw_T := xw_in (List.mem_of_getElem? (i := 383) (by decide +kernel)) (by decide +kernel)
set_option maxRecDepth 20000 in
theorem mw_85 : Cond.selects "ControlDesk$Bank" ⟨"ControlDesk$Bank", "keepResume", "(J)V"⟩ ⟨"ControlDesk$Bank", "keepResume", "(J)V"⟩ ∈ xw_T := xw_in (List.mem_of_getElem? (i := 19) (by decide +kernel)) (by decide +kernel)
set_option maxRecDepth 20000 in
theorem mw_86 : Cond.methodLink "ControlDesk$Bank" 22 ⟨"ControlDesk$Bank", "keepResume", "(J)V"⟩ ∈ xw_T := xw_in (List.mem_of_getElem? (i := 417) (by decide +kernel)) (by decide +kernel)
set_option maxRecDepth 20000 in
theorem mw_88 : Cond.initialized "ControlDeskModel" ∈ xw_T := xw_in (List.mem_of_getElem? (i := 42) (by decide +kernel)) (by decide +kernel)
set_option maxRecDepth 20000 in
theorem mw_89 : Cond.instanceMethod ⟨"ControlDeskModel", "isIllegal", "(IZ)Z"⟩ ∈ xw_T := xw_in (List.mem_of_getElem? (i := 533) (by decide +kernel)) (by decide +kernel)
set_option maxRecDepth 20000 in
theorem mw_9 : Cond.constantLong "ControlDesk" 211 (512) ∈ xw_T := xw_in (List.mem_of_getElem? (i := 350) (by decide +kernel)) (by decide +kernel)
set_option maxRecDepth 20000 in
theorem mw_90 : Cond.selects "ControlDeskModel" ⟨"ControlDeskModel", "isIllegal", "(IZ)Z"⟩ ⟨"ControlDeskModel", "isIllegal", "(IZ)Z"⟩ ∈ xw_T := xw_in (List.mem_of_getElem? (i := 31) (by decide +kernel)) (by decide +kernel)
set_option maxRecDepth 20000 in
theorem mw_91 : Cond.methodLink "ControlDeskModel" 106 ⟨"ControlDeskModel", "isIllegal", "(IZ)Z"⟩ ∈ xw_T := xw_in (List.mem_of_getElem? (i := 531) (by decide +kernel)) (by decide +kernel)
set_option maxRecDepth 20000 in
theorem mw_93 : Cond.instanceMethod ⟨"ControlDeskModel", "write", "(IJ)V"⟩ ∈ xw_T := xw_in (List.mem_of_getElem? (i := 543) (by decide +kernel)) (by decide +kernel)
set_option maxRecDepth 20000 in
theorem mw_94 : Cond.selects "ControlDeskModel" ⟨"ControlDeskModel", "write", "(IJ)V"⟩ ⟨"ControlDeskModel", "write", "(IJ)V"⟩ ∈ xw_T := xw_in (List.mem_of_getElem? (i := 33) (by decide +kernel)) (by decide +kernel)
set_option maxRecDepth 20000 in
theorem mw_95 : Cond.methodLink "ControlDeskModel" 115 ⟨"ControlDeskModel", "write", "(IJ)V"⟩ ∈ xw_T := xw_in (List.mem_of_getElem? (i := 541) (by decide +kernel)) (by decide +kernel)
set_option maxRecDepth 20000 in
theorem mw_97 : Cond.methodLink "ControlDeskModel" 123 ⟨"ControlDeskModel", "beginning", "(JZI)J"⟩ ∈ xw_T := xw_in (List.mem_of_getElem? (i := 571) (by decide +kernel)) (by decide +kernel)
set_option maxRecDepth 20000 in
theorem mw_98 : Cond.static ⟨"ControlDeskModel", "beginning", "(JZI)J"⟩ ∈ xw_T := xw_in (List.mem_of_getElem? (i := 572) (by decide +kernel)) (by decide +kernel)
end
section
def xe_N : List Cond := [Cond.methodLinkNest "ControlDesk" 11 ⟨"ControlDesk$Bank", "<init>", "()V"⟩ "ControlDesk", Cond.fieldLinkNest "ControlDesk" 193 "ControlDesk$Bank" "vectors" "J" "ControlDesk", Cond.fieldLinkNest "ControlDesk" 173 "ControlDesk$Bank" "openCounts" "J" "ControlDesk", Cond.fieldLinkNest "ControlDesk" 196 "ControlDesk$Bank" "scratch" "J" "ControlDesk", Cond.fieldLinkNest "ControlDesk" 199 "ControlDesk$Bank" "resume" "J" "ControlDesk", Cond.fieldLinkNest "ControlDesk" 202 "ControlDesk$Bank" "cause" "J" "ControlDesk", Cond.fieldLinkNest "ControlDesk" 205 "ControlDesk$Bank" "value" "J" "ControlDesk", Cond.castable "java/lang/IllegalArgumentException" "java/lang/IllegalArgumentException", Cond.declares ⟨"java/lang/RuntimeException", "<init>", "()V"⟩, Cond.declares ⟨"java/lang/RuntimeException", "<init>", "(Ljava/lang/String;)V"⟩, Cond.declares ⟨"java/lang/Exception", "<init>", "()V"⟩, Cond.declares ⟨"java/lang/Exception", "<init>", "(Ljava/lang/String;)V"⟩, Cond.declares ⟨"java/lang/Throwable", "<init>", "()V"⟩, Cond.declares ⟨"java/lang/Throwable", "<init>", "(Ljava/lang/String;)V"⟩, Cond.methodLinkNest "ControlDesk" 235 ⟨"ControlDesk$Bank", "keepVectors", "(J)V"⟩ "ControlDesk", Cond.methodLinkNest "ControlDesk" 240 ⟨"ControlDesk$Bank", "keepResume", "(J)V"⟩ "ControlDesk", Cond.methodLinkNest "ControlDesk" 93 ⟨"ControlDesk$Bank", "remember", "(ZIJJ)V"⟩ "ControlDesk", Cond.methodLinkNest "ControlDesk" 97 ⟨"ControlDesk$Bank", "entry", "(ZI)J"⟩ "ControlDesk"]
theorem xe_N_ot : ∀ w ∈ xe_N, w.onTables = true := by decide +kernel
theorem xe_N_in : ∀ w ∈ xe_N, w ∈ lw_tbl := by decide +kernel
theorem xe_N_warm {u U : State} (hv : u.WarmedH U.vm) (h : ∀ w ∈ xe_N, va_Nw w u) : ∀ w ∈ xe_N, va_Nw w U :=
  List.forall_mem_cons.mpr ⟨va_Nw.warmM hv (h _ (List.mem_of_getElem? (i := 0) rfl)), List.forall_mem_cons.mpr ⟨va_Nw.warmF hv (h _ (List.mem_of_getElem? (i := 1) rfl)), List.forall_mem_cons.mpr ⟨va_Nw.warmF hv (h _ (List.mem_of_getElem? (i := 2) rfl)), List.forall_mem_cons.mpr ⟨va_Nw.warmF hv (h _ (List.mem_of_getElem? (i := 3) rfl)), List.forall_mem_cons.mpr ⟨va_Nw.warmF hv (h _ (List.mem_of_getElem? (i := 4) rfl)), List.forall_mem_cons.mpr ⟨va_Nw.warmF hv (h _ (List.mem_of_getElem? (i := 5) rfl)), List.forall_mem_cons.mpr ⟨va_Nw.warmF hv (h _ (List.mem_of_getElem? (i := 6) rfl)), List.forall_mem_cons.mpr ⟨va_Nw.warmC hv (h _ (List.mem_of_getElem? (i := 7) rfl)), List.forall_mem_cons.mpr ⟨va_Nw.warmD hv (h _ (List.mem_of_getElem? (i := 8) rfl)), List.forall_mem_cons.mpr ⟨va_Nw.warmD hv (h _ (List.mem_of_getElem? (i := 9) rfl)), List.forall_mem_cons.mpr ⟨va_Nw.warmD hv (h _ (List.mem_of_getElem? (i := 10) rfl)), List.forall_mem_cons.mpr ⟨va_Nw.warmD hv (h _ (List.mem_of_getElem? (i := 11) rfl)), List.forall_mem_cons.mpr ⟨va_Nw.warmD hv (h _ (List.mem_of_getElem? (i := 12) rfl)), List.forall_mem_cons.mpr ⟨va_Nw.warmD hv (h _ (List.mem_of_getElem? (i := 13) rfl)), List.forall_mem_cons.mpr ⟨va_Nw.warmM hv (h _ (List.mem_of_getElem? (i := 14) rfl)), List.forall_mem_cons.mpr ⟨va_Nw.warmM hv (h _ (List.mem_of_getElem? (i := 15) rfl)), List.forall_mem_cons.mpr ⟨va_Nw.warmM hv (h _ (List.mem_of_getElem? (i := 16) rfl)), List.forall_mem_cons.mpr ⟨va_Nw.warmM hv (h _ (List.mem_of_getElem? (i := 17) rfl)), fun _ h => absurd h List.not_mem_nil⟩⟩⟩⟩⟩⟩⟩⟩⟩⟩⟩⟩⟩⟩⟩⟩⟩⟩
-- PART: OWN ROWS. One context, one world function a system, contracts that name the answer and the state left.
section XA
variable {p : Program} {l : Launch} {e : Env} {R : Room} {s : State} {m : MethodId} {args : Array Value} {below : List Frame} {meth : Method} {c : Code} {H : Heap} {locs : List Loc} {cells slots : Nat} {Q : State → Prop} {cc : ByteArray} {pc : Nat} {ls : Array Slot} {rest : List Value}
theorem xr_iadd (hx : p.tables.exec = Jvm.exec) (hb : c.code = cc) {x y : Int32} (hd : decode cc pc = .ok (.iadd, 1)) (k : ∀ v : Int32, v = x + y → W p l e R s m args below meth c H locs cells slots Q (F0 m (pc + 1) ls (.int v :: rest))) : W p l e R s m args below meth c H locs cells slots Q (F0 m pc ls (.int y :: .int x :: rest)) := lv_iadd hx hb hd (k _ rfl)
theorem xr_isub (hx : p.tables.exec = Jvm.exec) (hb : c.code = cc) {x y : Int32} (hd : decode cc pc = .ok (.isub, 1)) (k : ∀ v : Int32, v = x - y → W p l e R s m args below meth c H locs cells slots Q (F0 m (pc + 1) ls (.int v :: rest))) : W p l e R s m args below meth c H locs cells slots Q (F0 m pc ls (.int y :: .int x :: rest)) := lv_isub hx hb hd (k _ rfl)
theorem xr_imul (hx : p.tables.exec = Jvm.exec) (hb : c.code = cc) {x y : Int32} (hd : decode cc pc = .ok (.imul, 1)) (k : ∀ v : Int32, v = x * y → W p l e R s m args below meth c H locs cells slots Q (F0 m (pc + 1) ls (.int v :: rest))) : W p l e R s m args below meth c H locs cells slots Q (F0 m pc ls (.int y :: .int x :: rest)) := lv_imul hx hb hd (k _ rfl)
theorem xr_iand (hx : p.tables.exec = Jvm.exec) (hb : c.code = cc) {x y : Int32} (hd : decode cc pc = .ok (.iand, 1)) (k : ∀ v : Int32, v = x &&& y → W p l e R s m args below meth c H locs cells slots Q (F0 m (pc + 1) ls (.int v :: rest))) : W p l e R s m args below meth c H locs cells slots Q (F0 m pc ls (.int y :: .int x :: rest)) := lv_iand hx hb hd (k _ rfl)
theorem xr_ishr (hx : p.tables.exec = Jvm.exec) (hb : c.code = cc) {x y : Int32} (hd : decode cc pc = .ok (.ishr, 1)) (k : ∀ v : Int32, v = x >>> (y &&& 31) → W p l e R s m args below meth c H locs cells slots Q (F0 m (pc + 1) ls (.int v :: rest))) : W p l e R s m args below meth c H locs cells slots Q (F0 m pc ls (.int y :: .int x :: rest)) := lv_ishr hx hb hd (k _ rfl)
theorem xr_irem (hx : p.tables.exec = Jvm.exec) (hb : c.code = cc) {x y : Int32} (hd : decode cc pc = .ok (.irem, 1)) (hne : ¬ y = 0) (k : ∀ v : Int32, v = x - x / y * y → W p l e R s m args below meth c H locs cells slots Q (F0 m (pc + 1) ls (.int v :: rest))) : W p l e R s m args below meth c H locs cells slots Q (F0 m pc ls (.int y :: .int x :: rest)) := lv_irem hx hb hd hne (k _ rfl)
theorem xr_idiv (hx : p.tables.exec = Jvm.exec) (hb : c.code = cc) {x y : Int32} (hd : decode cc pc = .ok (.idiv, 1)) (hne : ¬ y = 0) (k : ∀ v : Int32, v = x / y → W p l e R s m args below meth c H locs cells slots Q (F0 m (pc + 1) ls (.int v :: rest))) : W p l e R s m args below meth c H locs cells slots Q (F0 m pc ls (.int y :: .int x :: rest)) := lv_idiv hx hb hd hne (k _ rfl)
theorem xr_ladd (hx : p.tables.exec = Jvm.exec) (hb : c.code = cc) {x y : Int64} (hd : decode cc pc = .ok (.ladd, 1)) (k : ∀ v : Int64, v = x + y → W p l e R s m args below meth c H locs cells slots Q (F0 m (pc + 1) ls (.long v :: rest))) : W p l e R s m args below meth c H locs cells slots Q (F0 m pc ls (.long y :: .long x :: rest)) := lv_ladd hx hb hd (k _ rfl)
theorem xr_lmul (hx : p.tables.exec = Jvm.exec) (hb : c.code = cc) {x y : Int64} (hd : decode cc pc = .ok (.lmul, 1)) (k : ∀ v : Int64, v = x * y → W p l e R s m args below meth c H locs cells slots Q (F0 m (pc + 1) ls (.long v :: rest))) : W p l e R s m args below meth c H locs cells slots Q (F0 m pc ls (.long y :: .long x :: rest)) := lv_lmul hx hb hd (k _ rfl)
theorem xr_land (hx : p.tables.exec = Jvm.exec) (hb : c.code = cc) {x y : Int64} (hd : decode cc pc = .ok (.land, 1)) (k : ∀ v : Int64, v = x &&& y → W p l e R s m args below meth c H locs cells slots Q (F0 m (pc + 1) ls (.long v :: rest))) : W p l e R s m args below meth c H locs cells slots Q (F0 m pc ls (.long y :: .long x :: rest)) := lv_land hx hb hd (k _ rfl)
theorem xr_lor (hx : p.tables.exec = Jvm.exec) (hb : c.code = cc) {x y : Int64} (hd : decode cc pc = .ok (.lor, 1)) (k : ∀ v : Int64, v = x ||| y → W p l e R s m args below meth c H locs cells slots Q (F0 m (pc + 1) ls (.long v :: rest))) : W p l e R s m args below meth c H locs cells slots Q (F0 m pc ls (.long y :: .long x :: rest)) := lv_lor hx hb hd (k _ rfl)
theorem xr_lxor (hx : p.tables.exec = Jvm.exec) (hb : c.code = cc) {x y : Int64} (hd : decode cc pc = .ok (.lxor, 1)) (k : ∀ v : Int64, v = x ^^^ y → W p l e R s m args below meth c H locs cells slots Q (F0 m (pc + 1) ls (.long v :: rest))) : W p l e R s m args below meth c H locs cells slots Q (F0 m pc ls (.long y :: .long x :: rest)) := lv_lxor hx hb hd (k _ rfl)
theorem xr_i2l (hx : p.tables.exec = Jvm.exec) (hb : c.code = cc) {x : Int32} (hd : decode cc pc = .ok (.i2l, 1)) (k : ∀ v : Int64, v = x.toInt64 → W p l e R s m args below meth c H locs cells slots Q (F0 m (pc + 1) ls (.long v :: rest))) : W p l e R s m args below meth c H locs cells slots Q (F0 m pc ls (.int x :: rest)) := lv_i2l hx hb hd rfl (k _ rfl)
theorem xr_l2i (hx : p.tables.exec = Jvm.exec) (hb : c.code = cc) {x : Int64} (hd : decode cc pc = .ok (.l2i, 1)) (k : ∀ v : Int32, v = x.toInt32 → W p l e R s m args below meth c H locs cells slots Q (F0 m (pc + 1) ls (.int v :: rest))) : W p l e R s m args below meth c H locs cells slots Q (F0 m pc ls (.long x :: rest)) := lv_l2i hx hb hd rfl (k _ rfl)
theorem xr_lushr (hx : p.tables.exec = Jvm.exec) (hb : c.code = cc) {x : Int64} {y : Int32} (hd : decode cc pc = .ok (.lushr, 1)) (k : ∀ v : Int64, v = (x.toUInt64 >>> (y.toInt64.toUInt64 &&& Int64.toUInt64 63)).toInt64 → W p l e R s m args below meth c H locs cells slots Q (F0 m (pc + 1) ls (.long v :: rest))) : W p l e R s m args below meth c H locs cells slots Q (F0 m pc ls (.int y :: .long x :: rest)) := lv_lushr hx hb hd rfl (k _ rfl)
theorem xr_lshl (hx : p.tables.exec = Jvm.exec) (hb : c.code = cc) {x : Int64} {y : Int32} (hd : decode cc pc = .ok (.lshl, 1)) (k : ∀ v : Int64, v = x <<< (y.toInt64 &&& 63) → W p l e R s m args below meth c H locs cells slots Q (F0 m (pc + 1) ls (.long v :: rest))) : W p l e R s m args below meth c H locs cells slots Q (F0 m pc ls (.int y :: .long x :: rest)) := lv_lshl hx hb hd rfl (k _ rfl)
theorem xr_lshr (hx : p.tables.exec = Jvm.exec) (hb : c.code = cc) {x : Int64} {y : Int32} (hd : decode cc pc = .ok (.lshr, 1)) (k : ∀ v : Int64, v = x >>> (y.toInt64 &&& 63) → W p l e R s m args below meth c H locs cells slots Q (F0 m (pc + 1) ls (.long v :: rest))) : W p l e R s m args below meth c H locs cells slots Q (F0 m pc ls (.int y :: .long x :: rest)) := lv_lshr hx hb hd rfl (k _ rfl)
theorem xr_lcmp (hx : p.tables.exec = Jvm.exec) (hb : c.code = cc) {x y : Int64} (hd : decode cc pc = .ok (.lcmp, 1)) (k : ∀ v : Int32, v = lg_cmp x y → W p l e R s m args below meth c H locs cells slots Q (F0 m (pc + 1) ls (.int v :: rest))) : W p l e R s m args below meth c H locs cells slots Q (F0 m pc ls (.long y :: .long x :: rest)) := W.lcmp hx hb hd (k _ rfl)
end XA
/-- what the law's start says of statics and String constants that the class reads: they lie outside of what is written -/
def xe_ord (j : Nat) : Int32 := match j with | 0 => 11 | 1 => 3 | 2 => 7 | 3 => 9 | 4 => 1 | _ => 5
def xe_S (U : State) : Prop := (∀ w ∈ xe_N, va_Nw w U) ∧ (∃ q : Nat, vk_R "ControlDesk" 39 "no register has this number" q U) ∧ (∃ q : Nat, vk_R "ControlDesk" 44 "no such operation" q U) ∧ (∃ q : Nat, vk_R "ControlDesk" 81 "a cause is 0 to 63" q U) ∧ (∃ q : Nat, vk_R "ControlDesk" 139 "this interrupt has no line" q U) ∧ ∃ q : Nat, vk_R "ControlDesk" 144 "neither WAIT nor FENCE" q U
def xe_E (A : Nat → Prop) (U : State) (H : Heap) : Prop := (∃ t : Nat, va_Z "ControlDesk" "INTERRUPT_ORDER" "[I" (.ref t) A U H ∧ va_T .int t 6 (fun j => .int (xe_ord j)) A U H) ∧ (vx_Zq Bundle.tN "UNASSIGNED_STACK" Bundle.steD A U H ∧ vx_Zq Bundle.tN "SUPPRESSED_SENTINEL" Bundle.listD A U H) ∧ xe_S U
theorem xe_S_same {u U : State} (hv : U.vm = u.vm) (h : xe_S u) : xe_S U := by
  obtain ⟨hn, ⟨q1, h1⟩, ⟨q2, h2⟩, ⟨q3, h3⟩, ⟨q4, h4⟩, q5, h5⟩ := h
  exact ⟨fun w hw => va_Nw.same (xe_N_ot w hw) hv.symm (hn w hw), ⟨q1, h1.same hv⟩, ⟨q2, h2.same hv⟩, ⟨q3, h3.same hv⟩, ⟨q4, h4.same hv⟩, q5, h5.same hv⟩
theorem xe_S_warm {u U : State} (hv : u.WarmedH U.vm) (h : xe_S u) : xe_S U := by
  obtain ⟨hn, ⟨q1, h1⟩, ⟨q2, h2⟩, ⟨q3, h3⟩, ⟨q4, h4⟩, q5, h5⟩ := h
  exact ⟨xe_N_warm hv hn, ⟨q1, h1.warm hv⟩, ⟨q2, h2.warm hv⟩, ⟨q3, h3.warm hv⟩, ⟨q4, h4.warm hv⟩, q5, h5.warm hv⟩
theorem xe_same {A : Nat → Prop} {u U : State} {H : Heap} (hv : U.vm = u.vm) (hvm : u.vm.Alike U.vm) (h : xe_E A u H) : xe_E A U H := by
  obtain ⟨⟨t, z, q⟩, ⟨h1, h2⟩, h3⟩ := h
  exact ⟨⟨t, z.moved hvm, q.moved hvm⟩, ⟨h1.moved hvm, h2.moved hvm⟩, xe_S_same hv h3⟩
theorem xe_go {A B : Nat → Prop} {u U : State} {H H1 : Heap} (hv : u.WarmedH U.vm) (hq : ∀ a : Nat, a < H.size → ¬ A a → H1[a]? = H[a]?) (hAB : ∀ q, B q → A q) (h : xe_E A u H) : xe_E B U H1 := by
  obtain ⟨⟨t, z, q⟩, ⟨h1, h2⟩, h3⟩ := h
  exact ⟨⟨t, ((z.kept hq).moved hv.alike).narrow hAB, ((q.kept hq).moved hv.alike).narrow hAB⟩, ⟨((h1.kept hq).moved hv.alike).narrow hAB, ((h2.kept hq).moved hv.alike).narrow hAB⟩, xe_S_warm hv h3⟩
def ck_P {σ : Type} (D : va_G) (tys : List (ClassId × FieldType)) (wf : σ → va_W) (u : σ) (sz : Nat) : State → Prop := fun U => U.heap.size = sz ∧ va_P D xw_Cl (wf u) U.heap ∧ va_K D xw_Cl tys U ∧ va_D (fun _ => True) (wf u) ∧ xe_E (va_A (wf u) sz) U U.heap
def ck_B {σ : Type} (D : va_G) (wf : σ → va_W) (A : Nat → Prop) : σ → State → Prop := fun u t => va_P D xw_Cl (wf u) t.heap ∧ va_D A (wf u)
/-- the method answers the int r and leaves the state u' -/
def ck_Mi {σ : Type} (l : Launch) (D : va_G) (tys : List (ClassId × FieldType)) (wf : σ → va_W) (y : MethodName) (ws : List Cond) (rm : Room) (mc ms : Nat) (av : List Value) (u : σ) (r : Int32) (u' : σ) : Prop := ∀ sz : Nat, Met l y ws rm (va_Pc av (ck_P D tys wf u sz)) (va_Qi (fun r2 u2 => r2 = r ∧ u2 = u') (ck_B D wf (va_A (wf u) sz)) (va_A (wf u) sz)) mc ms (va_A (wf u) sz)
def ck_Ml {σ : Type} (l : Launch) (D : va_G) (tys : List (ClassId × FieldType)) (wf : σ → va_W) (y : MethodName) (ws : List Cond) (rm : Room) (mc ms : Nat) (av : List Value) (u : σ) (r : Int64) (u' : σ) : Prop := ∀ sz : Nat, Met l y ws rm (va_Pc av (ck_P D tys wf u sz)) (va_Ql (fun r2 u2 => r2 = r ∧ u2 = u') (ck_B D wf (va_A (wf u) sz)) (va_A (wf u) sz)) mc ms (va_A (wf u) sz)
def ck_Mv {σ : Type} (l : Launch) (D : va_G) (tys : List (ClassId × FieldType)) (wf : σ → va_W) (y : MethodName) (ws : List Cond) (rm : Room) (mc ms : Nat) (av : List Value) (u : σ) (u' : σ) : Prop := ∀ sz : Nat, Met l y ws rm (va_Pc av (ck_P D tys wf u sz)) (va_Qv (fun u2 => u2 = u') (ck_B D wf (va_A (wf u) sz)) (va_A (wf u) sz)) mc ms (va_A (wf u) sz)
/-- the context of a walk -/
def ck_C (p : Program) (s : State) (m : MethodId) (meth : Method) (c : Code) (cc : ByteArray) (ret : Option FieldType) (nL : Nat) (args : Array Value) (own : String) (A : Nat → Prop) (D : va_G) (tys : List (ClassId × FieldType)) : Prop :=
  p.tables.exec = Jvm.exec ∧ c.code = cc ∧ meth.sig.returnType = ret ∧ c.maxLocals = nL ∧ s.vm.findClass own = some m.cls ∧ (∀ w ∈ xw_T, w.before args s = true) ∧ meth.locks = false ∧ va_K D xw_Cl tys s ∧ (∀ q : Nat, s.heap.size ≤ q → A q) ∧ xe_E A s s.heap
theorem ck_fm {α β : Type} {f : α → Option β} : ∀ (is : List α) (ws : List β), is.map f = ws.map some → is.filterMap f = ws
  | [], [], _ => rfl
  | [], _ :: _, h => by simp at h
  | _ :: _, [], h => by simp at h
  | i :: is, w :: ws, h => by
    simp only [List.map_cons, List.cons.injEq] at h
    rw [List.filterMap_cons_some h.1, ck_fm is ws h.2]
theorem ck_blind {σ : Type} {D : va_G} {tys : List (ClassId × FieldType)} {wf : σ → va_W} {u : σ} {sz : Nat} {av : List Value} : FrameBlind (va_Pc av (ck_P D tys wf u sz)) := by
  intro a U g mk q
  obtain ⟨q0, q1, qP, qK, qD, qE⟩ := q
  exact ⟨q0, q1, qP, va_K.moved (u := U) (U := U.calling g mk a) (Vm.Alike.refl U.vm) qK, qD, xe_same (u := U) (U := U.calling g mk a) rfl (Vm.Alike.refl U.vm) qE⟩
theorem ck_pre {σ : Type} {D : va_G} {tys : List (ClassId × FieldType)} {wf : σ → va_W} {u : σ} {A : Nat → Prop} {s : State} {H : Heap} {locs : List Loc} {av : List Value} (hP : va_P D xw_Cl (wf u) H) (hK : va_K D xw_Cl tys s) (hD : va_D A (wf u)) (hS : va_S A s.heap H locs) (hE : xe_E A s s.heap) (hF : ∀ q, va_A (wf u) H.size q → A q) :
    ∀ U : State, U.heap = H → s.WarmedH U.vm → va_Pc av (ck_P D tys wf u H.size) av.toArray U := by
  intro U hU hW
  refine ⟨rfl, by rw [hU], by rw [hU]; exact hP, va_K.moved hW.alike hK, hD.weaken (fun _ _ _ _ => trivial), ?_⟩
  rw [hU]
  exact xe_go hW hS.2.1 hF hE
theorem ck_ent {σ : Type} {l : Launch} {D : va_G} {tys : List (ClassId × FieldType)} {wf : σ → va_W} {u : σ} {QA : (Nat → Prop) → Array Value → State → Outcome → State → Prop} {av : List Value} {y : MethodName} {ws : List Cond} {rm : Room} {mc ms : Nat} {cc : ByteArray} {maxL : Nat} {ret : Option FieldType}
    (hy : plainName y.cls = true) (hw : ws = Cond.code y cc maxL ret :: xw_T) (hle : (lg_sl av).length ≤ maxL)
    (body : ∀ (p : Program) (e : Env) (s : State) (m : MethodId) (below : List Frame) (meth : Method) (c : Code) (A : Nat → Prop) (ls : Array Slot), ck_C p s m meth c cc ret maxL av.toArray y.cls A D tys → meth.name = y.name → va_P D xw_Cl (wf u) s.heap → va_D A (wf u) → va_S A s.heap s.heap [] → lv_has ls maxL (lv_args 0 av) →
      W p l e rm s m av.toArray below meth c s.heap [] 0 0 (MQ below (QA A) av.toArray s mc ms A) (F0 m 0 ls [])) :
    ∀ sz : Nat, Met l y ws rm (va_Pc av (ck_P D tys wf u sz)) (QA (va_A (wf u) sz)) mc ms (va_A (wf u) sz) := by
  intro sz
  refine Met.ofW (cc := cc) (maxL := maxL) (ret := ret) hy hw ?_
  intro p e s m args below meth c s₁ B hml hv
  obtain ⟨rfl, hsz, hP, hK, hD0, hE⟩ := hv
  have hts := atoms_spec (ws := ws) B.pre
  subst hsz
  rw [lg_entry_eq]
  exact body p e s m below meth c (va_A (wf u) s.heap.size) _ ⟨B.exec, B.bytes, B.returns, hml, findClass_of_methodNamed B.named, fun w h => hts w (by rw [hw]; exact List.mem_cons_of_mem _ h), B.notSynchronized, hK, fun q h => Or.inr h, hE⟩ (name_of_methodNamed B.named B.method).1 hP hD0.self va_S.rf (lv_entry av hle)
section XB
variable {p : Program} {l : Launch} {e : Env} {R : Room} {s : State} {m : MethodId} {args : Array Value} {below : List Frame} {meth : Method} {c : Code} {H : Heap} {locs : List Loc} {cells slots : Nat} {Q : State → Prop} {cc : ByteArray} {pc : Nat} {ls : Array Slot} {rest st0 : List Value}
variable {σ : Type} {D : va_G} {tys tyc : List (ClassId × FieldType)} {wf wc ww : σ → va_W} {wr : va_W} {u u' : σ} {A : Nat → Prop} {ret : Option FieldType} {nL : Nat} {own : String}
theorem ck_iret {v : Int32} {post : Int32 → σ → Prop} (C : ck_C p s m meth c cc (some .int) nL args own A D tys) (hP : va_P D xw_Cl (wf u) H) (hD : va_D A (wf u)) (hS : va_S A s.heap H locs) (hq : post v u) (hdg : decode cc pc = .ok (.ireturn, 1)) :
    W p l e R s m args below meth c H locs cells slots (MQ below (va_Qi post (ck_B D wf A) A) args s cells slots A) (F0 m pc ls [.int v]) :=
  W.iret C.1 C.2.1 C.2.2.1 (fun t ht hW => ⟨⟨v, u, rfl, hq, by rw [ht]; exact hP, hD⟩, hS.F ht⟩) hS.2.2 hdg C.2.2.2.2.2.2.1
theorem ck_zret {v : Int32} {post : Int32 → σ → Prop} (C : ck_C p s m meth c cc (some .boolean) nL args own A D tys) (hP : va_P D xw_Cl (wf u) H) (hD : va_D A (wf u)) (hS : va_S A s.heap H locs) (hn : narrow .boolean (.int v) = .int v) (hq : post v u) (hdg : decode cc pc = .ok (.ireturn, 1)) :
    W p l e R s m args below meth c H locs cells slots (MQ below (va_Qi post (ck_B D wf A) A) args s cells slots A) (F0 m pc ls [.int v]) :=
  W.zret C.1 C.2.1 C.2.2.1 hn (fun t ht hW => ⟨⟨v, u, rfl, hq, by rw [ht]; exact hP, hD⟩, hS.F ht⟩) hS.2.2 hdg C.2.2.2.2.2.2.1
theorem ck_lret {v : Int64} {post : Int64 → σ → Prop} (C : ck_C p s m meth c cc (some .long) nL args own A D tys) (hP : va_P D xw_Cl (wf u) H) (hD : va_D A (wf u)) (hS : va_S A s.heap H locs) (hq : post v u) (hdg : decode cc pc = .ok (.lreturn, 1)) :
    W p l e R s m args below meth c H locs cells slots (MQ below (va_Ql post (ck_B D wf A) A) args s cells slots A) (F0 m pc ls [.long v]) :=
  W.lret C.1 C.2.1 C.2.2.1 (fun t ht hW => ⟨⟨v, u, rfl, hq, by rw [ht]; exact hP, hD⟩, hS.F ht⟩) hS.2.2 hdg C.2.2.2.2.2.2.1
theorem ck_vret {post : σ → Prop} (C : ck_C p s m meth c cc none nL args own A D tys) (hP : va_P D xw_Cl (wf u) H) (hD : va_D A (wf u)) (hS : va_S A s.heap H locs) (hq : post u) (hdg : decode cc pc = .ok (.return_, 1)) :
    W p l e R s m args below meth c H locs cells slots (MQ below (va_Qv post (ck_B D wf A) A) args s cells slots A) (F0 m pc ls []) :=
  W.vret C.1 C.2.1 C.2.2.1 (fun t ht hW => ⟨⟨u, rfl, hq, by rw [ht]; exact hP, hD⟩, hS.F ht⟩) hS.2.2 hdg C.2.2.2.2.2.2.1
/-- behind a call: the callee's cells beside the rest, in the old order -/
theorem ck_join {isC isR isP : List Nat} {H1 : Heap} (hP : va_P D xw_Cl (ww u) H) (hD : va_D A (ww u)) (hC : isC.map (fun i => (ww u)[i]?) = (wc u).map some) (hR : isR.map (fun i => (ww u)[i]?) = wr.map some) (hn : va_nd isR = true) (hdis : ∀ i ∈ isR, i ∉ isC) (hq : ∀ u2 : σ, isP.map (fun i => (wr ++ wc u2)[i]?) = (ww u2).map some) (hqn : va_nd isP = true)
    (hk : ∀ q : Nat, q < H.size → ¬ va_A (wc u) H.size q → H1[q]? = H[q]?) (hF : ∀ q, va_A (wc u) H.size q → A q) (hP1 : va_P D xw_Cl (wc u') H1) (hD1 : va_D (va_A (wc u) H.size) (wc u')) : va_P D xw_Cl (ww u') H1 ∧ va_D A (ww u') := by
  obtain ⟨h1, h2⟩ := va_join hP hD isC isR hC hR hn hdis hk hF hP1 hD1
  exact ⟨h1.sub isP (ck_fm isP _ (hq u')), h2.sub isP hqn (hq u')⟩
variable {y : MethodName} {bytes : ByteArray} {maxL mc ms n index : Nat} {rt : Option FieldType} {ws : List Cond} {rm : Room} {Cn : String} {b : Addr} {As : List Value}
/-- the parts of the caller's world that the callee takes, that it leaves, and the order in which they lie again -/
def ck_cut (wc ww : σ → va_W) (wr : va_W) (u : σ) (isC isR isP : List Nat) : Prop := isC.map (fun i => (ww u)[i]?) = (wc u).map some ∧ va_nd isC = true ∧ isR.map (fun i => (ww u)[i]?) = wr.map some ∧ va_nd isR = true ∧ (∀ i ∈ isR, i ∉ isC) ∧ (∀ u2 : σ, isP.map (fun i => (wr ++ wc u2)[i]?) = (ww u2).map some) ∧ va_nd isP = true
theorem ck_runV {Qc : Array Value → State → Outcome → State → Prop} {isC isR isP : List Nat} {ci q0 N : Nat} {T : u_T} {fs : List Value} (C : ck_C p s m meth c cc ret nL args own A D tys) (hcut : ck_cut wc ww wr u isC isR isP) (hKc : va_K D xw_Cl tyc s) (hM : Met l y ws rm (va_Pc (.ref b :: As) (ck_P D tyc wc u H.size)) Qc mc ms (va_A (wc u) H.size)) (cw : CallW R s args own Cn index y bytes maxL rt ws rm mc ms n) (hc : xw_Cl[ci]? = some (Cn, T, N)) (he : (wc u)[q0]? = some (b, .inr (ci, fs)))
    (hP : va_P D xw_Cl (ww u) H) (hD : va_D A (ww u)) (hS : va_S A s.heap H locs) (hn : As.length = n) (hsz : ls.size = nL) (hst : st0 = As.reverse ++ .ref b :: rest) (hW : (rest.map fun v => v.category).sum ≤ 8) (hdg : decode cc pc = .ok (.invokevirtual index, 3)) (hf : cells + mc ≤ R.cells ∧ slots + ms ≤ R.slots) :
    va_Run p l e R s m args below meth c H locs cells slots mc ms (F0 m pc ls st0) rest (Qc (Value.ref b :: As).toArray) (va_A (wc u) H.size) := by
  obtain ⟨hC, hCn, -⟩ := hcut
  have hPc : va_P D xw_Cl (wc u) H := hP.sub isC (ck_fm isC _ hC)
  have hDc : va_D A (wc u) := hD.sub isC hCn hC
  have hF := va_free (wc := wc u) hD hS C.2.2.2.2.2.2.2.2.1 isC hC
  exact va_runV (As := As) (rest := rest) ⟨C.1, C.2.1, C.2.2.2.1, C.2.2.2.2.1, C.2.2.2.2.2.1⟩ hM cw ⟨ck_blind, va_recv hKc hPc hc he, ck_pre hPc hKc hDc hS C.2.2.2.2.2.2.2.2.2 hF⟩ rfl hn hsz hst (lv_room hW) hdg hf
theorem ck_runVN {Qc : Array Value → State → Outcome → State → Prop} {isC isR isP : List Nat} {ci q0 N : Nat} {T : u_T} {fs : List Value} {host : String} (C : ck_C p s m meth c cc ret nL args own A D tys) (hcut : ck_cut wc ww wr u isC isR isP) (hKc : va_K D xw_Cl tyc s) (hM : Met l y ws rm (va_Pc (.ref b :: As) (ck_P D tyc wc u H.size)) Qc mc ms (va_A (wc u) H.size)) (cw : va_CN R s args own index y host bytes maxL rt ws rm mc ms n ∧ (Cond.instanceMethod y).before args s = true ∧ (Cond.selects Cn y y).before args s = true) (hc : xw_Cl[ci]? = some (Cn, T, N)) (he : (wc u)[q0]? = some (b, .inr (ci, fs)))
    (hP : va_P D xw_Cl (ww u) H) (hD : va_D A (ww u)) (hS : va_S A s.heap H locs) (hn : As.length = n) (hsz : ls.size = nL) (hst : st0 = As.reverse ++ .ref b :: rest) (hW : (rest.map fun v => v.category).sum ≤ 8) (hdg : decode cc pc = .ok (.invokevirtual index, 3)) (hf : cells + mc ≤ R.cells ∧ slots + ms ≤ R.slots) :
    va_Run p l e R s m args below meth c H locs cells slots mc ms (F0 m pc ls st0) rest (Qc (Value.ref b :: As).toArray) (va_A (wc u) H.size) := by
  obtain ⟨hC, hCn, -⟩ := hcut
  have hPc : va_P D xw_Cl (wc u) H := hP.sub isC (ck_fm isC _ hC)
  have hDc : va_D A (wc u) := hD.sub isC hCn hC
  have hF := va_free (wc := wc u) hD hS C.2.2.2.2.2.2.2.2.1 isC hC
  exact va_runVN (As := As) (rest := rest) ⟨C.1, C.2.1, C.2.2.2.1, C.2.2.2.2.1, C.2.2.2.2.2.1⟩ hM cw ⟨ck_blind, va_recv hKc hPc hc he, ck_pre hPc hKc hDc hS C.2.2.2.2.2.2.2.2.2 hF⟩ rfl hn hsz hst (lv_room hW) hdg hf
theorem ck_runS {Qc : Array Value → State → Outcome → State → Prop} {isC isR isP : List Nat} (C : ck_C p s m meth c cc ret nL args own A D tys) (hcut : ck_cut wc ww wr u isC isR isP) (hKc : va_K D xw_Cl tyc s) (hM : Met l y ws rm (va_Pc As (ck_P D tyc wc u H.size)) Qc mc ms (va_A (wc u) H.size)) (cw : CallB R s args own index y bytes maxL rt ws rm mc ms n ∧ (Cond.static y).before args s = true)
    (hP : va_P D xw_Cl (ww u) H) (hD : va_D A (ww u)) (hS : va_S A s.heap H locs) (hn : As.length = n) (hsz : ls.size = nL) (hst : st0 = As.reverse ++ rest) (hW : (rest.map fun v => v.category).sum ≤ 8) (hdg : decode cc pc = .ok (.invokestatic index, 3)) (hf : cells + mc ≤ R.cells ∧ slots + ms ≤ R.slots) :
    va_Run p l e R s m args below meth c H locs cells slots mc ms (F0 m pc ls st0) rest (Qc As.toArray) (va_A (wc u) H.size) := by
  obtain ⟨hC, hCn, -⟩ := hcut
  have hPc : va_P D xw_Cl (wc u) H := hP.sub isC (ck_fm isC _ hC)
  have hDc : va_D A (wc u) := hD.sub isC hCn hC
  have hF := va_free (wc := wc u) hD hS C.2.2.2.2.2.2.2.2.1 isC hC
  exact va_runS (As := As) (rest := rest) ⟨C.1, C.2.1, C.2.2.2.1, C.2.2.2.2.1, C.2.2.2.2.2.1⟩ hM cw ⟨ck_blind, ck_pre hPc hKc hDc hS C.2.2.2.2.2.2.2.2.2 hF⟩ rfl hn hsz hst (lv_room hW) hdg hf
theorem ck_goi {r : Int32} {isC isR isP : List Nat} {a : Array Value} (C : ck_C p s m meth c cc ret nL args own A D tys) (hcut : ck_cut wc ww wr u isC isR isP) (hP : va_P D xw_Cl (ww u) H) (hD : va_D A (ww u)) (hS : va_S A s.heap H locs)
    (hr : va_Run p l e R s m args below meth c H locs cells slots mc ms (F0 m pc ls st0) rest (va_Qi (fun r2 u2 => r2 = r ∧ u2 = u') (ck_B D wc (va_A (wc u) H.size)) (va_A (wc u) H.size) a) (va_A (wc u) H.size))
    (kk : ∀ (r2 : Int32) (u2 : σ) (H1 : Heap) (locs1 : List Loc), r2 = r → u2 = u' → va_P D xw_Cl (ww u2) H1 → va_D A (ww u2) → va_S A s.heap H1 locs1 → W p l e R s m args below meth c H1 locs1 (cells + mc) (slots + ms) Q (F0 m (pc + 3) ls (.int r2 :: rest))) : W p l e R s m args below meth c H locs cells slots Q (F0 m pc ls st0) := by
  obtain ⟨hC, hCn, hR, hn, hdis, hq, hqn⟩ := hcut
  have hF := va_free (wc := wc u) hD hS C.2.2.2.2.2.2.2.2.1 isC hC
  refine va_calli hr hS (fun q _ h => hF q h) hF (fun r2 u2 t H1 locs1 ht hvm hw hB hz hk hS1 => ?_)
  obtain ⟨hP1, hD1⟩ := hB
  rw [ht] at hP1
  obtain ⟨j1, j2⟩ := ck_join hP hD hC hR hn hdis hq hqn hk hF hP1 hD1
  exact kk r2 u2 H1 locs1 hw.1 hw.2 j1 j2 hS1
theorem ck_gol {r : Int64} {isC isR isP : List Nat} {a : Array Value} (C : ck_C p s m meth c cc ret nL args own A D tys) (hcut : ck_cut wc ww wr u isC isR isP) (hP : va_P D xw_Cl (ww u) H) (hD : va_D A (ww u)) (hS : va_S A s.heap H locs)
    (hr : va_Run p l e R s m args below meth c H locs cells slots mc ms (F0 m pc ls st0) rest (va_Ql (fun r2 u2 => r2 = r ∧ u2 = u') (ck_B D wc (va_A (wc u) H.size)) (va_A (wc u) H.size) a) (va_A (wc u) H.size))
    (kk : ∀ (r2 : Int64) (u2 : σ) (H1 : Heap) (locs1 : List Loc), r2 = r → u2 = u' → va_P D xw_Cl (ww u2) H1 → va_D A (ww u2) → va_S A s.heap H1 locs1 → W p l e R s m args below meth c H1 locs1 (cells + mc) (slots + ms) Q (F0 m (pc + 3) ls (.long r2 :: rest))) : W p l e R s m args below meth c H locs cells slots Q (F0 m pc ls st0) := by
  obtain ⟨hC, hCn, hR, hn, hdis, hq, hqn⟩ := hcut
  have hF := va_free (wc := wc u) hD hS C.2.2.2.2.2.2.2.2.1 isC hC
  refine va_calll hr hS (fun q _ h => hF q h) hF (fun r2 u2 t H1 locs1 ht hvm hw hB hz hk hS1 => ?_)
  obtain ⟨hP1, hD1⟩ := hB
  rw [ht] at hP1
  obtain ⟨j1, j2⟩ := ck_join hP hD hC hR hn hdis hq hqn hk hF hP1 hD1
  exact kk r2 u2 H1 locs1 hw.1 hw.2 j1 j2 hS1
theorem ck_gov {isC isR isP : List Nat} {a : Array Value} (C : ck_C p s m meth c cc ret nL args own A D tys) (hcut : ck_cut wc ww wr u isC isR isP) (hP : va_P D xw_Cl (ww u) H) (hD : va_D A (ww u)) (hS : va_S A s.heap H locs)
    (hr : va_Run p l e R s m args below meth c H locs cells slots mc ms (F0 m pc ls st0) rest (va_Qv (fun u2 => u2 = u') (ck_B D wc (va_A (wc u) H.size)) (va_A (wc u) H.size) a) (va_A (wc u) H.size))
    (kk : ∀ (u2 : σ) (H1 : Heap) (locs1 : List Loc), u2 = u' → va_P D xw_Cl (ww u2) H1 → va_D A (ww u2) → va_S A s.heap H1 locs1 → W p l e R s m args below meth c H1 locs1 (cells + mc) (slots + ms) Q (F0 m (pc + 3) ls rest)) : W p l e R s m args below meth c H locs cells slots Q (F0 m pc ls st0) := by
  obtain ⟨hC, hCn, hR, hn, hdis, hq, hqn⟩ := hcut
  have hF := va_free (wc := wc u) hD hS C.2.2.2.2.2.2.2.2.1 isC hC
  refine va_callv hr hS (fun q _ h => hF q h) hF (fun u2 t H1 locs1 ht hvm hw hB hz hk hS1 => ?_)
  obtain ⟨hP1, hD1⟩ := hB
  rw [ht] at hP1
  obtain ⟨j1, j2⟩ := ck_join hP hD hC hR hn hdis hq hqn hk hF hP1 hD1
  exact kk u2 H1 locs1 hw j1 j2 hS1
theorem ck_gpi {r : Int32} {isC isR isP : List Nat} {a : Array Value} (C : ck_C p s m meth c cc ret nL args own A D tys) (hcut : ck_cut wc ww wr u isC isR isP) (hP : va_P D xw_Cl (ww u) H) (hD : va_D A (ww u)) (hS : va_S A s.heap H locs)
    (hr : va_Run p l e R s m args below meth c H locs cells slots mc ms (F0 m pc ls st0) rest (va_Qi (fun r2 u2 => r2 = r ∧ u2 = u') (ck_B D wc (va_A (wc u) H.size)) (va_A (wc u) H.size) a) (va_A (wc u) H.size))
    (kk : ∀ (r2 : Int32) (H1 : Heap) (locs1 : List Loc), r2 = r → va_P D xw_Cl (ww u') H1 → va_D A (ww u') → va_S A s.heap H1 locs1 → W p l e R s m args below meth c H1 locs1 (cells + mc) (slots + ms) Q (F0 m (pc + 3) ls (.int r2 :: rest))) : W p l e R s m args below meth c H locs cells slots Q (F0 m pc ls st0) :=
  ck_goi C hcut hP hD hS hr (fun r2 u2 H1 locs1 e1 e2 h1 h2 h3 => by subst e2; exact kk r2 H1 locs1 e1 h1 h2 h3)
theorem ck_gpl {r : Int64} {isC isR isP : List Nat} {a : Array Value} (C : ck_C p s m meth c cc ret nL args own A D tys) (hcut : ck_cut wc ww wr u isC isR isP) (hP : va_P D xw_Cl (ww u) H) (hD : va_D A (ww u)) (hS : va_S A s.heap H locs)
    (hr : va_Run p l e R s m args below meth c H locs cells slots mc ms (F0 m pc ls st0) rest (va_Ql (fun r2 u2 => r2 = r ∧ u2 = u') (ck_B D wc (va_A (wc u) H.size)) (va_A (wc u) H.size) a) (va_A (wc u) H.size))
    (kk : ∀ (r2 : Int64) (H1 : Heap) (locs1 : List Loc), r2 = r → va_P D xw_Cl (ww u') H1 → va_D A (ww u') → va_S A s.heap H1 locs1 → W p l e R s m args below meth c H1 locs1 (cells + mc) (slots + ms) Q (F0 m (pc + 3) ls (.long r2 :: rest))) : W p l e R s m args below meth c H locs cells slots Q (F0 m pc ls st0) :=
  ck_gol C hcut hP hD hS hr (fun r2 u2 H1 locs1 e1 e2 h1 h2 h3 => by subst e2; exact kk r2 H1 locs1 e1 h1 h2 h3)
end XB
theorem ck_pair {α β : Type} {X : α × β} {a : α} {b : β} (h : X = (a, b)) : a = X.1 ∧ b = X.2 := by rw [h]; exact ⟨rfl, rfl⟩
theorem ck_enti {σ : Type} {l : Launch} {D : va_G} {tys : List (ClassId × FieldType)} {wf : σ → va_W} {u u' : σ} {r : Int32} {av : List Value} {y : MethodName} {ws : List Cond} {rm : Room} {mc ms : Nat} {cc : ByteArray} {maxL : Nat} {ret : Option FieldType}
    (hy : plainName y.cls = true) (hw : ws = Cond.code y cc maxL ret :: xw_T) (hle : (lg_sl av).length ≤ maxL)
    (body : ∀ (p : Program) (e : Env) (s : State) (m : MethodId) (below : List Frame) (meth : Method) (c : Code) (A : Nat → Prop) (ls : Array Slot), ck_C p s m meth c cc ret maxL av.toArray y.cls A D tys → meth.name = y.name → va_P D xw_Cl (wf u) s.heap → va_D A (wf u) → va_S A s.heap s.heap [] → lv_has ls maxL (lv_args 0 av) →
      W p l e rm s m av.toArray below meth c s.heap [] 0 0 (MQ below (va_Qi (fun r2 u2 => r2 = r ∧ u2 = u') (ck_B D wf A) A) av.toArray s mc ms A) (F0 m 0 ls [])) : ck_Mi l D tys wf y ws rm mc ms av u r u' :=
  ck_ent (QA := fun A => va_Qi (fun r2 u2 => r2 = r ∧ u2 = u') (ck_B D wf A) A) hy hw hle body
theorem ck_entl {σ : Type} {l : Launch} {D : va_G} {tys : List (ClassId × FieldType)} {wf : σ → va_W} {u u' : σ} {r : Int64} {av : List Value} {y : MethodName} {ws : List Cond} {rm : Room} {mc ms : Nat} {cc : ByteArray} {maxL : Nat} {ret : Option FieldType}
    (hy : plainName y.cls = true) (hw : ws = Cond.code y cc maxL ret :: xw_T) (hle : (lg_sl av).length ≤ maxL)
    (body : ∀ (p : Program) (e : Env) (s : State) (m : MethodId) (below : List Frame) (meth : Method) (c : Code) (A : Nat → Prop) (ls : Array Slot), ck_C p s m meth c cc ret maxL av.toArray y.cls A D tys → meth.name = y.name → va_P D xw_Cl (wf u) s.heap → va_D A (wf u) → va_S A s.heap s.heap [] → lv_has ls maxL (lv_args 0 av) →
      W p l e rm s m av.toArray below meth c s.heap [] 0 0 (MQ below (va_Ql (fun r2 u2 => r2 = r ∧ u2 = u') (ck_B D wf A) A) av.toArray s mc ms A) (F0 m 0 ls [])) : ck_Ml l D tys wf y ws rm mc ms av u r u' :=
  ck_ent (QA := fun A => va_Ql (fun r2 u2 => r2 = r ∧ u2 = u') (ck_B D wf A) A) hy hw hle body
theorem ck_entv {σ : Type} {l : Launch} {D : va_G} {tys : List (ClassId × FieldType)} {wf : σ → va_W} {u u' : σ} {av : List Value} {y : MethodName} {ws : List Cond} {rm : Room} {mc ms : Nat} {cc : ByteArray} {maxL : Nat} {ret : Option FieldType}
    (hy : plainName y.cls = true) (hw : ws = Cond.code y cc maxL ret :: xw_T) (hle : (lg_sl av).length ≤ maxL)
    (body : ∀ (p : Program) (e : Env) (s : State) (m : MethodId) (below : List Frame) (meth : Method) (c : Code) (A : Nat → Prop) (ls : Array Slot), ck_C p s m meth c cc ret maxL av.toArray y.cls A D tys → meth.name = y.name → va_P D xw_Cl (wf u) s.heap → va_D A (wf u) → va_S A s.heap s.heap [] → lv_has ls maxL (lv_args 0 av) →
      W p l e rm s m av.toArray below meth c s.heap [] 0 0 (MQ below (va_Qv (fun u2 => u2 = u') (ck_B D wf A) A) av.toArray s mc ms A) (F0 m 0 ls [])) : ck_Mv l D tys wf y ws rm mc ms av u u' :=
  ck_ent (QA := fun A => va_Qv (fun u2 => u2 = u') (ck_B D wf A) A) hy hw hle body
end
section
-- rows on loops and ranges
theorem lp_rng {x : Int32} (h1 : ¬ x < 0) (h2 : x ≤ 4095) : vp_in x 4096 := by
  rw [vp_in_iff]
  have h3 : ¬ x.toInt < (0 : Int32).toInt := fun h => h1 (Int32.lt_iff_toInt_lt.mpr h)
  have h4 : x.toInt ≤ (4095 : Int32).toInt := Int32.le_iff_toInt_le.mp h2
  have e0 : (0 : Int32).toInt = 0 := rfl
  have e1 : (4095 : Int32).toInt = 4095 := rfl
  rw [e0] at h3
  rw [e1] at h4
  omega
theorem lp_rn2 {x : Int32} (h1 : ¬ x < 0) (h2 : ¬ 4095 < x) : vp_in x 4096 := lp_rng h1 (Int32.not_lt.mp h2)
theorem lp_mid {n E B : Nat} {x E' : Int32} (hE : E' = nI E) (hs : E < 2 ^ 30) (hB : B ≤ E + 1) (g : 1 ≤ n + 1 ∧ n + 1 ≤ B ∧ x = nI (E + 1 - (n + 1))) (hc : ¬ E' ≤ x) : 1 ≤ n ∧ n + 1 ≤ B ∧ x = nI (E - n) := by
  obtain ⟨g1, g2, g3⟩ := g
  have e : E + 1 - (n + 1) = E - n := by omega
  rw [e] at g3
  refine ⟨?_, g2, g3⟩
  rcases Nat.eq_zero_or_pos n with h | h
  · subst h
    exact absurd (by rw [hE, g3]; exact nI_le (Nat.le_refl E) (by omega)) hc
  · exact h
theorem lp_back {n E B : Nat} {x v : Int32} (hB : B ≤ E + 1) (g : 1 ≤ n ∧ n + 1 ≤ B ∧ x = nI (E - n)) (e : v = x + 1) : 1 ≤ n ∧ n ≤ B ∧ v = nI (E + 1 - n) := by
  obtain ⟨g1, g2, g3⟩ := g
  refine ⟨g1, by omega, ?_⟩
  have e2 : E + 1 - n = E - n + 1 := by omega
  rw [e, g3, nI_1, e2]
theorem lp_in {n E B : Nat} {x : Int32} (hs : E < 2 ^ 30) (hB : B ≤ E + 1) (g : 1 ≤ n ∧ n + 1 ≤ B ∧ x = nI (E - n)) : vp_in x E := by
  obtain ⟨g1, g2, g3⟩ := g
  rw [g3]
  exact vp_in_nI (by omega) (by omega)
-- the states, the worlds
abbrev cs_St : Type := Int32 × (Nat → Int64)
abbrev ms_St : Type := (Nat → Int32) × (Nat → Int64) × (Nat → Int32) × (Nat → Int64)
def wx (h0 b1 b2 : Nat) (u : cs_St) : va_W := [(h0, .inr (1, [.ref b1, .ref b2, .long (u.2 0), .int u.1, .long (u.2 1), .long (u.2 2), .long (u.2 3), .long (u.2 4), .long (u.2 5), .long (u.2 6), .long (u.2 7), .long (u.2 8), .long (u.2 9), .long (u.2 10), .long (u.2 11), .long (u.2 12)])), (b1, .inr (0, [.long (u.2 13), .long (u.2 14), .long (u.2 15), .long (u.2 16), .long (u.2 17), .long (u.2 18)])), (b2, .inr (0, [.long (u.2 19), .long (u.2 20), .long (u.2 21), .long (u.2 22), .long (u.2 23), .long (u.2 24)]))]
def wm (m0 hd ln : Nat) (cH cZ : ClassId) (u : ms_St) : va_W := [(m0, .inr (2, [.int (u.1 0), .int (u.1 1), .int (u.1 2), .ref hd, .ref ln, .long (u.2.2.2 0), .long (u.2.2.2 1), .long (u.2.2.2 2)])), (hd, .inl (cH, 4096, .inr (.inl u.2.1))), (ln, .inl (cZ, 12, .inl u.2.2.1))]
theorem kt_X {h0 b1 b2 : Nat} {u : cs_St} : ck_cut (wx h0 b1 b2) (wx h0 b1 b2) [] u [0, 1, 2] [] [0, 1, 2] := ⟨rfl, rfl, rfl, rfl, (fun _ h => absurd h List.not_mem_nil), (fun _ => rfl), rfl⟩
theorem kt_M {m0 hd ln : Nat} {cH cZ : ClassId} {u : ms_St} : ck_cut (wm m0 hd ln cH cZ) (wm m0 hd ln cH cZ) [] u [0, 1, 2] [] [0, 1, 2] := ⟨rfl, rfl, rfl, rfl, (fun _ h => absurd h List.not_mem_nil), (fun _ => rfl), rfl⟩
section XM
variable {p : Program} {l : Launch} {e : Env} {R : Room} {s : State} {m : MethodId} {args : Array Value} {below : List Frame} {meth : Method} {c : Code} {H : Heap} {locs : List Loc} {cells slots : Nat} {Q : State → Prop} {cc : ByteArray} {pc : Nat} {ls : Array Slot} {rest : List Value} {D : va_G} {A : Nat → Prop} {ret : Option FieldType} {nL : Nat} {own : String}
theorem rm_lald {m0 hd ln : Nat} {cH cZ : ClassId} {u : ms_St} {i : Int32} (C : ck_C p s m meth c cc ret nL args own A D [(cH, .long), (cZ, .boolean)]) (hP : va_P D xw_Cl (wm m0 hd ln cH cZ u) H) (hin : vp_in i 4096) (hdg : decode cc pc = .ok (.laload, 1)) (kk : ∀ v : Int64, v = u.2.1 i.toNatClampNeg → W p l e R s m args below meth c H locs cells slots Q (F0 m (pc + 1) ls (.long v :: rest))) : W p l e R s m args below meth c H locs cells slots Q (F0 m pc ls (.int i :: .ref hd :: rest)) :=
  va_lald C.1 C.2.1 C.2.2.2.2.2.2.2.1 hP 1 0 rfl rfl hin hdg (kk _ rfl)
theorem rm_zald {m0 hd ln : Nat} {cH cZ : ClassId} {u : ms_St} {i : Int32} (C : ck_C p s m meth c cc ret nL args own A D [(cH, .long), (cZ, .boolean)]) (hP : va_P D xw_Cl (wm m0 hd ln cH cZ u) H) (hin : vp_in i 12) (hdg : decode cc pc = .ok (.baload, 1)) (kk : ∀ v : Int32, v = u.2.2.1 i.toNatClampNeg → W p l e R s m args below meth c H locs cells slots Q (F0 m (pc + 1) ls (.int v :: rest))) : W p l e R s m args below meth c H locs cells slots Q (F0 m pc ls (.int i :: .ref ln :: rest)) :=
  va_zald C.1 C.2.1 C.2.2.2.2.2.2.2.1 hP 2 1 rfl rfl hin hdg (kk _ rfl)
theorem rm_last {m0 hd ln : Nat} {cH cZ : ClassId} {u : ms_St} {i : Int32} {x : Int64} (C : ck_C p s m meth c cc ret nL args own A D [(cH, .long), (cZ, .boolean)]) (hP : va_P D xw_Cl (wm m0 hd ln cH cZ u) H) (hD : va_D A (wm m0 hd ln cH cZ u)) (hS : va_S A s.heap H locs) (hin : vp_in i 4096) (hdg : decode cc pc = .ok (.lastore, 1)) (kk : ∀ (u2 : ms_St) (H1 : Heap) (locs1 : List Loc), u2 = (u.1, vp_updL u.2.1 i.toNatClampNeg x, u.2.2) → va_P D xw_Cl (wm m0 hd ln cH cZ u2) H1 → va_D A (wm m0 hd ln cH cZ u2) → va_S A s.heap H1 locs1 → W p l e R s m args below meth c H1 locs1 cells slots Q (F0 m (pc + 1) ls rest)) : W p l e R s m args below meth c H locs cells slots Q (F0 m pc ls (.long x :: .int i :: .ref hd :: rest)) :=
  va_last C.1 C.2.1 C.2.2.2.2.2.2.2.1 hP hD hS 1 0 rfl rfl hin hdg (fun H1 locs1 h1 h2 h3 => kk _ H1 locs1 rfl h1 h2 h3)
theorem rm_zast {m0 hd ln : Nat} {cH cZ : ClassId} {u : ms_St} {i x : Int32} (C : ck_C p s m meth c cc ret nL args own A D [(cH, .long), (cZ, .boolean)]) (hP : va_P D xw_Cl (wm m0 hd ln cH cZ u) H) (hD : va_D A (wm m0 hd ln cH cZ u)) (hS : va_S A s.heap H locs) (hin : vp_in i 12) (hdg : decode cc pc = .ok (.bastore, 1)) (kk : ∀ (u2 : ms_St) (H1 : Heap) (locs1 : List Loc), u2 = (u.1, u.2.1, upd u.2.2.1 i.toNatClampNeg (vp_nar .boolean x), u.2.2.2) → va_P D xw_Cl (wm m0 hd ln cH cZ u2) H1 → va_D A (wm m0 hd ln cH cZ u2) → va_S A s.heap H1 locs1 → W p l e R s m args below meth c H1 locs1 cells slots Q (F0 m (pc + 1) ls rest)) : W p l e R s m args below meth c H locs cells slots Q (F0 m pc ls (.int x :: .int i :: .ref ln :: rest)) :=
  va_zast C.1 C.2.1 C.2.2.2.2.2.2.2.1 hP hD hS 2 1 rfl rfl hin hdg (fun H1 locs1 h1 h2 h3 => kk _ H1 locs1 rfl h1 h2 h3)
end XM

abbrev rm_X_mode : Room := { frames := 0, cells := 0, slots := 0, locals := 0 }
abbrev w_X_mode : List Cond := .code yn_X_mode bc_X_mode 1 (some .int) :: xw_T
abbrev rm_X_has : Room := { frames := 0, cells := 0, slots := 0, locals := 0 }
abbrev w_X_has : List Cond := .code yn_X_has bc_X_has 3 (some .boolean) :: xw_T
abbrev rm_X_previousMachineMode : Room := { frames := 0, cells := 0, slots := 0, locals := 0 }
abbrev w_X_previousMachineMode : List Cond := .code yn_X_previousMachineMode bc_X_previousMachineMode 1 (some .int) :: xw_T
abbrev rm_X_dataMode : Room := { frames := 1, cells := 0, slots := 0, locals := 22 }
abbrev w_X_dataMode : List Cond := .code yn_X_dataMode bc_X_dataMode 1 (some .int) :: xw_T
abbrev rm_X_isHere : Room := { frames := 0, cells := 0, slots := 0, locals := 0 }
abbrev w_X_isHere : List Cond := .code yn_X_isHere bc_X_isHere 1 (some .boolean) :: xw_T
abbrev rm_X_isFloat : Room := { frames := 0, cells := 0, slots := 0, locals := 0 }
abbrev w_X_isFloat : List Cond := .code yn_X_isFloat bc_X_isFloat 1 (some .boolean) :: xw_T
abbrev rm_X_isElsewhere : Room := { frames := 1, cells := 0, slots := 0, locals := 20 }
abbrev w_X_isElsewhere : List Cond := .code yn_X_isElsewhere bc_X_isElsewhere 1 (some .boolean) :: xw_T
abbrev rm_X_isOpenCount : Room := { frames := 0, cells := 0, slots := 0, locals := 0 }
abbrev w_X_isOpenCount : List Cond := .code yn_X_isOpenCount bc_X_isOpenCount 1 (some .boolean) :: xw_T
abbrev rm_X_isClosed : Room := { frames := 0, cells := 0, slots := 0, locals := 0 }
abbrev w_X_isClosed : List Cond := .code yn_X_isClosed bc_X_isClosed 4 (some .boolean) :: xw_T
abbrev rm_X_isIllegal : Room := { frames := 2, cells := 0, slots := 0, locals := 40 }
abbrev w_X_isIllegal : List Cond := .code yn_X_isIllegal bc_X_isIllegal 5 (some .boolean) :: xw_T
abbrev rm_X_shownStatus : Room := { frames := 0, cells := 0, slots := 0, locals := 0 }
abbrev w_X_shownStatus : List Cond := .code yn_X_shownStatus bc_X_shownStatus 3 (some .long) :: xw_T
abbrev rm_X_pending : Room := { frames := 0, cells := 0, slots := 0, locals := 0 }
abbrev w_X_pending : List Cond := .code yn_X_pending bc_X_pending 1 (some .long) :: xw_T
abbrev rm_X_shown : Room := { frames := 1, cells := 0, slots := 0, locals := 22 }
abbrev w_X_shown : List Cond := .code yn_X_shown bc_X_shown 2 (some .long) :: xw_T
abbrev rm_X_merged : Room := { frames := 0, cells := 0, slots := 0, locals := 0 }
abbrev w_X_merged : List Cond := .code yn_X_merged bc_X_merged 6 (some .long) :: xw_T
abbrev rm_X_changeable : Room := { frames := 1, cells := 0, slots := 0, locals := 25 }
abbrev w_X_changeable : List Cond := .code yn_X_changeable bc_X_changeable 4 (some .long) :: xw_T
abbrev rm_X_combined : Room := { frames := 0, cells := 0, slots := 0, locals := 0 }
abbrev w_X_combined : List Cond := .code yn_X_combined bc_X_combined 5 (some .long) :: xw_T
abbrev rm_X_storeStatus : Room := { frames := 1, cells := 0, slots := 0, locals := 25 }
abbrev w_X_storeStatus : List Cond := .code yn_X_storeStatus bc_X_storeStatus 8 none :: xw_T
abbrev rm_X_storeSupervisorPending : Room := { frames := 1, cells := 0, slots := 0, locals := 25 }
abbrev w_X_storeSupervisorPending : List Cond := .code yn_X_storeSupervisorPending bc_X_storeSupervisorPending 3 none :: xw_T
abbrev rm_B1_keepVectors : Room := { frames := 0, cells := 0, slots := 0, locals := 0 }
abbrev w_B1_keepVectors : List Cond := .code yn_B_keepVectors bc_B_keepVectors 3 none :: xw_T
abbrev rm_B2_keepVectors : Room := { frames := 0, cells := 0, slots := 0, locals := 0 }
abbrev w_B2_keepVectors : List Cond := .code yn_B_keepVectors bc_B_keepVectors 3 none :: xw_T
abbrev rm_B1_keepResume : Room := { frames := 0, cells := 0, slots := 0, locals := 0 }
abbrev w_B1_keepResume : List Cond := .code yn_B_keepResume bc_B_keepResume 3 none :: xw_T
abbrev rm_B2_keepResume : Room := { frames := 0, cells := 0, slots := 0, locals := 0 }
abbrev w_B2_keepResume : List Cond := .code yn_B_keepResume bc_B_keepResume 3 none :: xw_T
abbrev rm_X_storeTable : Room := { frames := 0, cells := 0, slots := 0, locals := 0 }
abbrev w_X_storeTable : List Cond := .code yn_X_storeTable bc_X_storeTable 5 none :: xw_T
abbrev rm_X_store : Room := { frames := 2, cells := 0, slots := 0, locals := 52 }
abbrev w_X_store : List Cond := .code yn_X_store bc_X_store 4 none :: xw_T
abbrev rm_X_access : Room := { frames := 3, cells := 0, slots := 0, locals := 75 }
abbrev w_X_access : List Cond := .code yn_X_access bc_X_access 8 (some .int) :: xw_T
abbrev rm_X_had : Room := { frames := 0, cells := 0, slots := 0, locals := 0 }
abbrev w_X_had : List Cond := .code yn_X_had bc_X_had 1 (some .long) :: xw_T
abbrev rm_X_peek : Room := { frames := 2, cells := 0, slots := 0, locals := 43 }
abbrev w_X_peek : List Cond := .code yn_X_peek bc_X_peek 2 (some .long) :: xw_T
abbrev rm_X_goesToSupervisor : Room := { frames := 0, cells := 0, slots := 0, locals := 0 }
abbrev w_X_goesToSupervisor : List Cond := .code yn_X_goesToSupervisor bc_X_goesToSupervisor 5 (some .boolean) :: xw_T
abbrev rm_X_enterSupervisor : Room := { frames := 1, cells := 0, slots := 0, locals := 22 }
abbrev w_X_enterSupervisor : List Cond := .code yn_X_enterSupervisor bc_X_enterSupervisor 7 none :: xw_T
abbrev rm_X_enterMachine : Room := { frames := 1, cells := 0, slots := 0, locals := 22 }
abbrev w_X_enterMachine : List Cond := .code yn_X_enterMachine bc_X_enterMachine 7 none :: xw_T
abbrev rm_B1_remember : Room := { frames := 1, cells := 0, slots := 0, locals := 22 }
abbrev w_B1_remember : List Cond := .code yn_B_remember bc_B_remember 7 none :: xw_T
abbrev rm_B2_remember : Room := { frames := 1, cells := 0, slots := 0, locals := 22 }
abbrev w_B2_remember : List Cond := .code yn_B_remember bc_B_remember 7 none :: xw_T
abbrev rm_B1_entry : Room := { frames := 0, cells := 0, slots := 0, locals := 0 }
abbrev w_B1_entry : List Cond := .code yn_B_entry bc_B_entry 6 (some .long) :: xw_T
abbrev rm_B2_entry : Room := { frames := 0, cells := 0, slots := 0, locals := 0 }
abbrev w_B2_entry : List Cond := .code yn_B_entry bc_B_entry 6 (some .long) :: xw_T
abbrev rm_X_trap : Room := { frames := 2, cells := 0, slots := 0, locals := 48 }
abbrev w_X_trap : List Cond := .code yn_X_trap bc_X_trap 8 (some .long) :: xw_T
abbrev rm_X_machineOrSupervisorWithout : Room := { frames := 1, cells := 0, slots := 0, locals := 22 }
abbrev w_X_machineOrSupervisorWithout : List Cond := .code yn_X_machineOrSupervisorWithout bc_X_machineOrSupervisorWithout 3 (some .boolean) :: xw_T
abbrev rm_X_mayReturn : Room := { frames := 2, cells := 0, slots := 0, locals := 44 }
abbrev w_X_mayReturn : List Cond := .code yn_X_mayReturn bc_X_mayReturn 2 (some .boolean) :: xw_T
abbrev rm_X_leaveMachine : Room := { frames := 1, cells := 0, slots := 0, locals := 22 }
abbrev w_X_leaveMachine : List Cond := .code yn_X_leaveMachine bc_X_leaveMachine 3 none :: xw_T
abbrev rm_X_leaveSupervisor : Room := { frames := 1, cells := 0, slots := 0, locals := 22 }
abbrev w_X_leaveSupervisor : List Cond := .code yn_X_leaveSupervisor bc_X_leaveSupervisor 3 none :: xw_T
abbrev rm_X_back : Room := { frames := 3, cells := 0, slots := 0, locals := 65 }
abbrev w_X_back : List Cond := .code yn_X_back bc_X_back 2 (some .boolean) :: xw_T
abbrev rm_X_place : Room := { frames := 0, cells := 0, slots := 0, locals := 0 }
abbrev w_X_place : List Cond := .code yn_X_place bc_X_place 1 (some .long) :: xw_T
abbrev rm_X_takesUndelegated : Room := { frames := 1, cells := 0, slots := 0, locals := 22 }
abbrev w_X_takesUndelegated : List Cond := .code yn_X_takesUndelegated bc_X_takesUndelegated 1 (some .boolean) :: xw_T
abbrev rm_X_firstInOrder : Room := { frames := 0, cells := 0, slots := 0, locals := 0 }
abbrev w_X_firstInOrder : List Cond := .code yn_X_firstInOrder bc_X_firstInOrder 6 (some .int) :: xw_T
abbrev rm_X_takesDelegated : Room := { frames := 1, cells := 0, slots := 0, locals := 22 }
abbrev w_X_takesDelegated : List Cond := .code yn_X_takesDelegated bc_X_takesDelegated 1 (some .boolean) :: xw_T
abbrev rm_X_taken : Room := { frames := 2, cells := 0, slots := 0, locals := 42 }
abbrev w_X_taken : List Cond := .code yn_X_taken bc_X_taken 4 (some .int) :: xw_T
abbrev rm_X_wakes : Room := { frames := 1, cells := 0, slots := 0, locals := 20 }
abbrev w_X_wakes : List Cond := .code yn_X_wakes bc_X_wakes 1 (some .boolean) :: xw_T
abbrev rm_X_line : Room := { frames := 0, cells := 0, slots := 0, locals := 0 }
abbrev w_X_line : List Cond := .code yn_X_line bc_X_line 5 none :: xw_T
abbrev rm_X_allowed : Room := { frames := 2, cells := 0, slots := 0, locals := 44 }
abbrev w_X_allowed : List Cond := .code yn_X_allowed bc_X_allowed 2 (some .boolean) :: xw_T
abbrev rm_X_floats : Room := { frames := 1, cells := 0, slots := 0, locals := 22 }
abbrev w_X_floats : List Cond := .code yn_X_floats bc_X_floats 1 (some .boolean) :: xw_T
abbrev rm_X_dirty : Room := { frames := 1, cells := 0, slots := 0, locals := 22 }
abbrev w_X_dirty : List Cond := .code yn_X_dirty bc_X_dirty 1 none :: xw_T
abbrev rm_X_count : Room := { frames := 0, cells := 0, slots := 0, locals := 0 }
abbrev w_X_count : List Cond := .code yn_X_count bc_X_count 5 none :: xw_T
abbrev rm_X_time : Room := { frames := 0, cells := 0, slots := 0, locals := 0 }
abbrev w_X_time : List Cond := .code yn_X_time bc_X_time 3 none :: xw_T
abbrev rm_M_thrown : Room := { frames := 0, cells := 0, slots := 0, locals := 0 }
abbrev w_M_thrown : List Cond := .code yn_M_thrown bc_M_thrown 1 (some .int) :: xw_T
abbrev rm_M_status : Room := { frames := 0, cells := 0, slots := 0, locals := 0 }
abbrev w_M_status : List Cond := .code yn_M_status bc_M_status 2 (some .int) :: xw_T
abbrev rm_M_put : Room := { frames := 0, cells := 0, slots := 0, locals := 0 }
abbrev w_M_put : List Cond := .code yn_M_put bc_M_put 3 none :: xw_T
abbrev rm_M_below : Room := { frames := 1, cells := 0, slots := 0, locals := 21 }
abbrev w_M_below : List Cond := .code yn_M_below bc_M_below 1 (some .int) :: xw_T
abbrev rm_M_floating : Room := { frames := 1, cells := 0, slots := 0, locals := 21 }
abbrev w_M_floating : List Cond := .code yn_M_floating bc_M_floating 1 (some .int) :: xw_T
abbrev rm_M_mode : Room := { frames := 0, cells := 0, slots := 0, locals := 0 }
abbrev w_M_mode : List Cond := .code yn_M_mode bc_M_mode 1 (some .int) :: xw_T
abbrev rm_M_dataMode : Room := { frames := 2, cells := 0, slots := 0, locals := 41 }
abbrev w_M_dataMode : List Cond := .code yn_M_dataMode bc_M_dataMode 1 (some .int) :: xw_T
abbrev rm_M_isElsewhere : Room := { frames := 0, cells := 0, slots := 0, locals := 0 }
abbrev w_M_isElsewhere : List Cond := .code yn_M_isElsewhere bc_M_isElsewhere 1 (some .boolean) :: xw_T
abbrev rm_M_isCount : Room := { frames := 0, cells := 0, slots := 0, locals := 0 }
abbrev w_M_isCount : List Cond := .code yn_M_isCount bc_M_isCount 1 (some .boolean) :: xw_T
abbrev rm_M_isThere : Room := { frames := 1, cells := 0, slots := 0, locals := 20 }
abbrev w_M_isThere : List Cond := .code yn_M_isThere bc_M_isThere 3 (some .boolean) :: xw_T
abbrev rm_M_lineBits : Room := { frames := 0, cells := 0, slots := 0, locals := 0 }
abbrev w_M_lineBits : List Cond := .code yn_M_lineBits bc_M_lineBits 4 (some .long) :: xw_T
abbrev rm_M_statusSeen : Room := { frames := 0, cells := 0, slots := 0, locals := 0 }
abbrev w_M_statusSeen : List Cond := .code yn_M_statusSeen bc_M_statusSeen 6 (some .long) :: xw_T
abbrev rm_M_shown : Room := { frames := 2, cells := 0, slots := 0, locals := 42 }
abbrev w_M_shown : List Cond := .code yn_M_shown bc_M_shown 4 (some .long) :: xw_T
abbrev rm_M_peek : Room := { frames := 3, cells := 0, slots := 0, locals := 65 }
abbrev w_M_peek : List Cond := .code yn_M_peek bc_M_peek 2 (some .long) :: xw_T
abbrev rm_M_through : Room := { frames := 0, cells := 0, slots := 0, locals := 0 }
abbrev w_M_through : List Cond := .code yn_M_through bc_M_through 6 none :: xw_T
abbrev rm_M_writeStatus : Room := { frames := 2, cells := 0, slots := 0, locals := 41 }
abbrev w_M_writeStatus : List Cond := .code yn_M_writeStatus bc_M_writeStatus 6 none :: xw_T
abbrev rm_M_write : Room := { frames := 3, cells := 0, slots := 0, locals := 66 }
abbrev w_M_write : List Cond := .code yn_M_write bc_M_write 6 none :: xw_T
abbrev rm_M_isIllegal : Room := { frames := 2, cells := 0, slots := 0, locals := 42 }
abbrev w_M_isIllegal : List Cond := .code yn_M_isIllegal bc_M_isIllegal 7 (some .boolean) :: xw_T
abbrev rm_M_access : Room := { frames := 4, cells := 0, slots := 0, locals := 91 }
abbrev w_M_access : List Cond := .code yn_M_access bc_M_access 8 (some .int) :: xw_T
abbrev rm_M_had : Room := { frames := 0, cells := 0, slots := 0, locals := 0 }
abbrev w_M_had : List Cond := .code yn_M_had bc_M_had 1 (some .long) :: xw_T
abbrev rm_M_beginning : Room := { frames := 0, cells := 0, slots := 0, locals := 0 }
abbrev w_M_beginning : List Cond := .code yn_M_beginning bc_M_beginning 6 (some .long) :: xw_T
abbrev rm_M_trap : Room := { frames := 1, cells := 0, slots := 0, locals := 25 }
abbrev w_M_trap : List Cond := .code yn_M_trap bc_M_trap 11 (some .long) :: xw_T
abbrev rm_M_back : Room := { frames := 2, cells := 0, slots := 0, locals := 41 }
abbrev w_M_back : List Cond := .code yn_M_back bc_M_back 4 (some .boolean) :: xw_T
abbrev rm_M_place : Room := { frames := 0, cells := 0, slots := 0, locals := 0 }
abbrev w_M_place : List Cond := .code yn_M_place bc_M_place 1 (some .long) :: xw_T
abbrev rm_M_isPending : Room := { frames := 3, cells := 0, slots := 0, locals := 65 }
abbrev w_M_isPending : List Cond := .code yn_M_isPending bc_M_isPending 2 (some .boolean) :: xw_T
abbrev rm_M_mayBe : Room := { frames := 4, cells := 0, slots := 0, locals := 86 }
abbrev w_M_mayBe : List Cond := .code yn_M_mayBe bc_M_mayBe 5 (some .boolean) :: xw_T
abbrev rm_M_first : Room := { frames := 5, cells := 0, slots := 0, locals := 110 }
abbrev w_M_first : List Cond := .code yn_M_first bc_M_first 4 (some .int) :: xw_T
abbrev rm_M_taken : Room := { frames := 6, cells := 0, slots := 0, locals := 133 }
abbrev w_M_taken : List Cond := .code yn_M_taken bc_M_taken 2 (some .int) :: xw_T
abbrev rm_M_wakes : Room := { frames := 3, cells := 0, slots := 0, locals := 65 }
abbrev w_M_wakes : List Cond := .code yn_M_wakes bc_M_wakes 1 (some .boolean) :: xw_T
abbrev rm_M_line : Room := { frames := 0, cells := 0, slots := 0, locals := 0 }
abbrev w_M_line : List Cond := .code yn_M_line bc_M_line 3 none :: xw_T
abbrev rm_M_allowed : Room := { frames := 1, cells := 0, slots := 0, locals := 21 }
abbrev w_M_allowed : List Cond := .code yn_M_allowed bc_M_allowed 2 (some .boolean) :: xw_T
abbrev rm_M_floats : Room := { frames := 2, cells := 0, slots := 0, locals := 41 }
abbrev w_M_floats : List Cond := .code yn_M_floats bc_M_floats 1 (some .boolean) :: xw_T
abbrev rm_M_dirty : Room := { frames := 2, cells := 0, slots := 0, locals := 41 }
abbrev w_M_dirty : List Cond := .code yn_M_dirty bc_M_dirty 1 none :: xw_T
abbrev rm_M_count : Room := { frames := 0, cells := 0, slots := 0, locals := 0 }
abbrev w_M_count : List Cond := .code yn_M_count bc_M_count 5 none :: xw_T
abbrev rm_M_time : Room := { frames := 0, cells := 0, slots := 0, locals := 0 }
abbrev w_M_time : List Cond := .code yn_M_time bc_M_time 3 none :: xw_T
section XF
variable {p : Program} {l : Launch} {e : Env} {R : Room} {s : State} {m : MethodId} {args : Array Value} {below : List Frame} {meth : Method} {c : Code} {H : Heap} {locs : List Loc} {cells slots : Nat} {Q : State → Prop} {cc : ByteArray} {pc : Nat} {ls : Array Slot} {rest : List Value} {D : va_G} {tys : List (ClassId × FieldType)} {A : Nat → Prop} {ret : Option FieldType} {nL : Nat}
theorem gb1_vectors {h0 b1 b2 : Nat} {u : cs_St} (C : ck_C p s m meth c cc ret nL args "ControlDesk$Bank" A D tys) (hP : va_P D xw_Cl (wx h0 b1 b2 u) H) (hdg : decode cc pc = .ok (.getfield 11, 3)) (kk : ∀ v : Int64, v = u.2 13 → W p l e R s m args below meth c H locs cells slots Q (F0 m (pc + 3) ls (.long v :: rest))) : W p l e R s m args below meth c H locs cells slots Q (F0 m pc ls (.ref b1 :: rest)) :=
  va_get (D := D) (ci := 0) (v := .long (u.2 13)) (C := cn_B) (T := ft_B) (N := 6) C.1 C.2.1 C.2.2.2.2.2.1 in_B C.2.2.2.2.1 C.2.2.2.2.2.2.2.1 hP 1 rfl rfl 0 (by decide) (C.2.2.2.2.2.1 _ mw_54) (fun _ h9 => h9) rfl hdg (kk _ rfl)
theorem gb2_vectors {h0 b1 b2 : Nat} {u : cs_St} (C : ck_C p s m meth c cc ret nL args "ControlDesk$Bank" A D tys) (hP : va_P D xw_Cl (wx h0 b1 b2 u) H) (hdg : decode cc pc = .ok (.getfield 11, 3)) (kk : ∀ v : Int64, v = u.2 19 → W p l e R s m args below meth c H locs cells slots Q (F0 m (pc + 3) ls (.long v :: rest))) : W p l e R s m args below meth c H locs cells slots Q (F0 m pc ls (.ref b2 :: rest)) :=
  va_get (D := D) (ci := 0) (v := .long (u.2 19)) (C := cn_B) (T := ft_B) (N := 6) C.1 C.2.1 C.2.2.2.2.2.1 in_B C.2.2.2.2.1 C.2.2.2.2.2.2.2.1 hP 2 rfl rfl 0 (by decide) (C.2.2.2.2.2.1 _ mw_54) (fun _ h9 => h9) rfl hdg (kk _ rfl)
theorem gm_had {m0 hd ln : Nat} {cH cZ : ClassId} {u : ms_St} (C : ck_C p s m meth c cc ret nL args "ControlDeskModel" A D tys) (hP : va_P D xw_Cl (wm m0 hd ln cH cZ u) H) (hdg : decode cc pc = .ok (.getfield 110, 3)) (kk : ∀ v : Int64, v = u.2.2.2 1 → W p l e R s m args below meth c H locs cells slots Q (F0 m (pc + 3) ls (.long v :: rest))) : W p l e R s m args below meth c H locs cells slots Q (F0 m pc ls (.ref m0 :: rest)) :=
  va_get (D := D) (ci := 2) (v := .long (u.2.2.2 1)) (C := cn_M) (T := ft_M) (N := 8) C.1 C.2.1 C.2.2.2.2.2.1 in_M C.2.2.2.2.1 C.2.2.2.2.2.2.2.1 hP 0 rfl rfl 6 (by decide) (C.2.2.2.2.2.1 _ mw_55) (fun _ h9 => h9) rfl hdg (kk _ rfl)
theorem gm_held {m0 hd ln : Nat} {cH cZ : ClassId} {u : ms_St} (C : ck_C p s m meth c cc ret nL args "ControlDeskModel" A D tys) (hP : va_P D xw_Cl (wm m0 hd ln cH cZ u) H) (hdg : decode cc pc = .ok (.getfield 13, 3)) (kk : W p l e R s m args below meth c H locs cells slots Q (F0 m (pc + 3) ls (.ref hd :: rest))) : W p l e R s m args below meth c H locs cells slots Q (F0 m pc ls (.ref m0 :: rest)) :=
  va_get (D := D) (ci := 2) (v := .ref hd) (C := cn_M) (T := ft_M) (N := 8) C.1 C.2.1 C.2.2.2.2.2.1 in_M C.2.2.2.2.1 C.2.2.2.2.2.2.2.1 hP 0 rfl rfl 3 (by decide) (C.2.2.2.2.2.1 _ mw_56) (fun _ h9 => h9) rfl hdg kk
theorem gm_lines {m0 hd ln : Nat} {cH cZ : ClassId} {u : ms_St} (C : ck_C p s m meth c cc ret nL args "ControlDeskModel" A D tys) (hP : va_P D xw_Cl (wm m0 hd ln cH cZ u) H) (hdg : decode cc pc = .ok (.getfield 17, 3)) (kk : W p l e R s m args below meth c H locs cells slots Q (F0 m (pc + 3) ls (.ref ln :: rest))) : W p l e R s m args below meth c H locs cells slots Q (F0 m pc ls (.ref m0 :: rest)) :=
  va_get (D := D) (ci := 2) (v := .ref ln) (C := cn_M) (T := ft_M) (N := 8) C.1 C.2.1 C.2.2.2.2.2.1 in_M C.2.2.2.2.1 C.2.2.2.2.2.2.2.1 hP 0 rfl rfl 4 (by decide) (C.2.2.2.2.2.1 _ mw_57) (fun _ h9 => h9) rfl hdg kk
theorem gm_mode {m0 hd ln : Nat} {cH cZ : ClassId} {u : ms_St} (C : ck_C p s m meth c cc ret nL args "ControlDeskModel" A D tys) (hP : va_P D xw_Cl (wm m0 hd ln cH cZ u) H) (hdg : decode cc pc = .ok (.getfield 7, 3)) (kk : ∀ v : Int32, v = u.1 2 → W p l e R s m args below meth c H locs cells slots Q (F0 m (pc + 3) ls (.int v :: rest))) : W p l e R s m args below meth c H locs cells slots Q (F0 m pc ls (.ref m0 :: rest)) :=
  va_get (D := D) (ci := 2) (v := .int (u.1 2)) (C := cn_M) (T := ft_M) (N := 8) C.1 C.2.1 C.2.2.2.2.2.1 in_M C.2.2.2.2.1 C.2.2.2.2.2.2.2.1 hP 0 rfl rfl 2 (by decide) (C.2.2.2.2.2.1 _ mw_58) (fun _ h9 => h9) rfl hdg (kk _ rfl)
theorem gm_place {m0 hd ln : Nat} {cH cZ : ClassId} {u : ms_St} (C : ck_C p s m meth c cc ret nL args "ControlDeskModel" A D tys) (hP : va_P D xw_Cl (wm m0 hd ln cH cZ u) H) (hdg : decode cc pc = .ok (.getfield 127, 3)) (kk : ∀ v : Int64, v = u.2.2.2 2 → W p l e R s m args below meth c H locs cells slots Q (F0 m (pc + 3) ls (.long v :: rest))) : W p l e R s m args below meth c H locs cells slots Q (F0 m pc ls (.ref m0 :: rest)) :=
  va_get (D := D) (ci := 2) (v := .long (u.2.2.2 2)) (C := cn_M) (T := ft_M) (N := 8) C.1 C.2.1 C.2.2.2.2.2.1 in_M C.2.2.2.2.1 C.2.2.2.2.2.2.2.1 hP 0 rfl rfl 7 (by decide) (C.2.2.2.2.2.1 _ mw_59) (fun _ h9 => h9) rfl hdg (kk _ rfl)
theorem gm_processor {m0 hd ln : Nat} {cH cZ : ClassId} {u : ms_St} (C : ck_C p s m meth c cc ret nL args "ControlDeskModel" A D tys) (hP : va_P D xw_Cl (wm m0 hd ln cH cZ u) H) (hdg : decode cc pc = .ok (.getfield 21, 3)) (kk : ∀ v : Int32, v = u.1 1 → W p l e R s m args below meth c H locs cells slots Q (F0 m (pc + 3) ls (.int v :: rest))) : W p l e R s m args below meth c H locs cells slots Q (F0 m pc ls (.ref m0 :: rest)) :=
  va_get (D := D) (ci := 2) (v := .int (u.1 1)) (C := cn_M) (T := ft_M) (N := 8) C.1 C.2.1 C.2.2.2.2.2.1 in_M C.2.2.2.2.1 C.2.2.2.2.2.2.2.1 hP 0 rfl rfl 1 (by decide) (C.2.2.2.2.2.1 _ mw_60) (fun _ h9 => h9) rfl hdg (kk _ rfl)
theorem gm_thrown {m0 hd ln : Nat} {cH cZ : ClassId} {u : ms_St} (C : ck_C p s m meth c cc ret nL args "ControlDeskModel" A D tys) (hP : va_P D xw_Cl (wm m0 hd ln cH cZ u) H) (hdg : decode cc pc = .ok (.getfield 24, 3)) (kk : ∀ v : Int32, v = u.1 0 → W p l e R s m args below meth c H locs cells slots Q (F0 m (pc + 3) ls (.int v :: rest))) : W p l e R s m args below meth c H locs cells slots Q (F0 m pc ls (.ref m0 :: rest)) :=
  va_get (D := D) (ci := 2) (v := .int (u.1 0)) (C := cn_M) (T := ft_M) (N := 8) C.1 C.2.1 C.2.2.2.2.2.1 in_M C.2.2.2.2.1 C.2.2.2.2.2.2.2.1 hP 0 rfl rfl 0 (by decide) (C.2.2.2.2.2.1 _ mw_61) (fun _ h9 => h9) rfl hdg (kk _ rfl)
theorem gm_time {m0 hd ln : Nat} {cH cZ : ClassId} {u : ms_St} (C : ck_C p s m meth c cc ret nL args "ControlDeskModel" A D tys) (hP : va_P D xw_Cl (wm m0 hd ln cH cZ u) H) (hdg : decode cc pc = .ok (.getfield 63, 3)) (kk : ∀ v : Int64, v = u.2.2.2 0 → W p l e R s m args below meth c H locs cells slots Q (F0 m (pc + 3) ls (.long v :: rest))) : W p l e R s m args below meth c H locs cells slots Q (F0 m pc ls (.ref m0 :: rest)) :=
  va_get (D := D) (ci := 2) (v := .long (u.2.2.2 0)) (C := cn_M) (T := ft_M) (N := 8) C.1 C.2.1 C.2.2.2.2.2.1 in_M C.2.2.2.2.1 C.2.2.2.2.2.2.2.1 hP 0 rfl rfl 5 (by decide) (C.2.2.2.2.2.1 _ mw_62) (fun _ h9 => h9) rfl hdg (kk _ rfl)
theorem gn1_cause {h0 b1 b2 : Nat} {u : cs_St} (C : ck_C p s m meth c cc ret nL args "ControlDesk" A D tys) (hP : va_P D xw_Cl (wx h0 b1 b2 u) H) (hdg : decode cc pc = .ok (.getfield 202, 3)) (kk : ∀ v : Int64, v = u.2 17 → W p l e R s m args below meth c H locs cells slots Q (F0 m (pc + 3) ls (.long v :: rest))) : W p l e R s m args below meth c H locs cells slots Q (F0 m pc ls (.ref b1 :: rest)) :=
  va_getN (D := D) (ci := 0) (v := .long (u.2 17)) (C := cn_B) (T := ft_B) (N := 6) C.1 C.2.1 C.2.2.2.2.2.1 in_B C.2.2.2.2.1 C.2.2.2.2.2.2.2.1 hP 1 rfl rfl 4 (by decide) (va_Nw.use rfl (C.2.2.2.2.2.2.2.2.2.2.2.1 _ (List.mem_of_getElem? (i := 5) rfl))) (fun _ h9 => h9) rfl hdg (kk _ rfl)
theorem gn1_openCounts {h0 b1 b2 : Nat} {u : cs_St} (C : ck_C p s m meth c cc ret nL args "ControlDesk" A D tys) (hP : va_P D xw_Cl (wx h0 b1 b2 u) H) (hdg : decode cc pc = .ok (.getfield 173, 3)) (kk : ∀ v : Int64, v = u.2 14 → W p l e R s m args below meth c H locs cells slots Q (F0 m (pc + 3) ls (.long v :: rest))) : W p l e R s m args below meth c H locs cells slots Q (F0 m pc ls (.ref b1 :: rest)) :=
  va_getN (D := D) (ci := 0) (v := .long (u.2 14)) (C := cn_B) (T := ft_B) (N := 6) C.1 C.2.1 C.2.2.2.2.2.1 in_B C.2.2.2.2.1 C.2.2.2.2.2.2.2.1 hP 1 rfl rfl 1 (by decide) (va_Nw.use rfl (C.2.2.2.2.2.2.2.2.2.2.2.1 _ (List.mem_of_getElem? (i := 2) rfl))) (fun _ h9 => h9) rfl hdg (kk _ rfl)
theorem gn1_resume {h0 b1 b2 : Nat} {u : cs_St} (C : ck_C p s m meth c cc ret nL args "ControlDesk" A D tys) (hP : va_P D xw_Cl (wx h0 b1 b2 u) H) (hdg : decode cc pc = .ok (.getfield 199, 3)) (kk : ∀ v : Int64, v = u.2 16 → W p l e R s m args below meth c H locs cells slots Q (F0 m (pc + 3) ls (.long v :: rest))) : W p l e R s m args below meth c H locs cells slots Q (F0 m pc ls (.ref b1 :: rest)) :=
  va_getN (D := D) (ci := 0) (v := .long (u.2 16)) (C := cn_B) (T := ft_B) (N := 6) C.1 C.2.1 C.2.2.2.2.2.1 in_B C.2.2.2.2.1 C.2.2.2.2.2.2.2.1 hP 1 rfl rfl 3 (by decide) (va_Nw.use rfl (C.2.2.2.2.2.2.2.2.2.2.2.1 _ (List.mem_of_getElem? (i := 4) rfl))) (fun _ h9 => h9) rfl hdg (kk _ rfl)
theorem gn1_scratch {h0 b1 b2 : Nat} {u : cs_St} (C : ck_C p s m meth c cc ret nL args "ControlDesk" A D tys) (hP : va_P D xw_Cl (wx h0 b1 b2 u) H) (hdg : decode cc pc = .ok (.getfield 196, 3)) (kk : ∀ v : Int64, v = u.2 15 → W p l e R s m args below meth c H locs cells slots Q (F0 m (pc + 3) ls (.long v :: rest))) : W p l e R s m args below meth c H locs cells slots Q (F0 m pc ls (.ref b1 :: rest)) :=
  va_getN (D := D) (ci := 0) (v := .long (u.2 15)) (C := cn_B) (T := ft_B) (N := 6) C.1 C.2.1 C.2.2.2.2.2.1 in_B C.2.2.2.2.1 C.2.2.2.2.2.2.2.1 hP 1 rfl rfl 2 (by decide) (va_Nw.use rfl (C.2.2.2.2.2.2.2.2.2.2.2.1 _ (List.mem_of_getElem? (i := 3) rfl))) (fun _ h9 => h9) rfl hdg (kk _ rfl)
theorem gn1_value {h0 b1 b2 : Nat} {u : cs_St} (C : ck_C p s m meth c cc ret nL args "ControlDesk" A D tys) (hP : va_P D xw_Cl (wx h0 b1 b2 u) H) (hdg : decode cc pc = .ok (.getfield 205, 3)) (kk : ∀ v : Int64, v = u.2 18 → W p l e R s m args below meth c H locs cells slots Q (F0 m (pc + 3) ls (.long v :: rest))) : W p l e R s m args below meth c H locs cells slots Q (F0 m pc ls (.ref b1 :: rest)) :=
  va_getN (D := D) (ci := 0) (v := .long (u.2 18)) (C := cn_B) (T := ft_B) (N := 6) C.1 C.2.1 C.2.2.2.2.2.1 in_B C.2.2.2.2.1 C.2.2.2.2.2.2.2.1 hP 1 rfl rfl 5 (by decide) (va_Nw.use rfl (C.2.2.2.2.2.2.2.2.2.2.2.1 _ (List.mem_of_getElem? (i := 6) rfl))) (fun _ h9 => h9) rfl hdg (kk _ rfl)
theorem gn1_vectors {h0 b1 b2 : Nat} {u : cs_St} (C : ck_C p s m meth c cc ret nL args "ControlDesk" A D tys) (hP : va_P D xw_Cl (wx h0 b1 b2 u) H) (hdg : decode cc pc = .ok (.getfield 193, 3)) (kk : ∀ v : Int64, v = u.2 13 → W p l e R s m args below meth c H locs cells slots Q (F0 m (pc + 3) ls (.long v :: rest))) : W p l e R s m args below meth c H locs cells slots Q (F0 m pc ls (.ref b1 :: rest)) :=
  va_getN (D := D) (ci := 0) (v := .long (u.2 13)) (C := cn_B) (T := ft_B) (N := 6) C.1 C.2.1 C.2.2.2.2.2.1 in_B C.2.2.2.2.1 C.2.2.2.2.2.2.2.1 hP 1 rfl rfl 0 (by decide) (va_Nw.use rfl (C.2.2.2.2.2.2.2.2.2.2.2.1 _ (List.mem_of_getElem? (i := 1) rfl))) (fun _ h9 => h9) rfl hdg (kk _ rfl)
theorem gn2_cause {h0 b1 b2 : Nat} {u : cs_St} (C : ck_C p s m meth c cc ret nL args "ControlDesk" A D tys) (hP : va_P D xw_Cl (wx h0 b1 b2 u) H) (hdg : decode cc pc = .ok (.getfield 202, 3)) (kk : ∀ v : Int64, v = u.2 23 → W p l e R s m args below meth c H locs cells slots Q (F0 m (pc + 3) ls (.long v :: rest))) : W p l e R s m args below meth c H locs cells slots Q (F0 m pc ls (.ref b2 :: rest)) :=
  va_getN (D := D) (ci := 0) (v := .long (u.2 23)) (C := cn_B) (T := ft_B) (N := 6) C.1 C.2.1 C.2.2.2.2.2.1 in_B C.2.2.2.2.1 C.2.2.2.2.2.2.2.1 hP 2 rfl rfl 4 (by decide) (va_Nw.use rfl (C.2.2.2.2.2.2.2.2.2.2.2.1 _ (List.mem_of_getElem? (i := 5) rfl))) (fun _ h9 => h9) rfl hdg (kk _ rfl)
theorem gn2_openCounts {h0 b1 b2 : Nat} {u : cs_St} (C : ck_C p s m meth c cc ret nL args "ControlDesk" A D tys) (hP : va_P D xw_Cl (wx h0 b1 b2 u) H) (hdg : decode cc pc = .ok (.getfield 173, 3)) (kk : ∀ v : Int64, v = u.2 20 → W p l e R s m args below meth c H locs cells slots Q (F0 m (pc + 3) ls (.long v :: rest))) : W p l e R s m args below meth c H locs cells slots Q (F0 m pc ls (.ref b2 :: rest)) :=
  va_getN (D := D) (ci := 0) (v := .long (u.2 20)) (C := cn_B) (T := ft_B) (N := 6) C.1 C.2.1 C.2.2.2.2.2.1 in_B C.2.2.2.2.1 C.2.2.2.2.2.2.2.1 hP 2 rfl rfl 1 (by decide) (va_Nw.use rfl (C.2.2.2.2.2.2.2.2.2.2.2.1 _ (List.mem_of_getElem? (i := 2) rfl))) (fun _ h9 => h9) rfl hdg (kk _ rfl)
theorem gn2_resume {h0 b1 b2 : Nat} {u : cs_St} (C : ck_C p s m meth c cc ret nL args "ControlDesk" A D tys) (hP : va_P D xw_Cl (wx h0 b1 b2 u) H) (hdg : decode cc pc = .ok (.getfield 199, 3)) (kk : ∀ v : Int64, v = u.2 22 → W p l e R s m args below meth c H locs cells slots Q (F0 m (pc + 3) ls (.long v :: rest))) : W p l e R s m args below meth c H locs cells slots Q (F0 m pc ls (.ref b2 :: rest)) :=
  va_getN (D := D) (ci := 0) (v := .long (u.2 22)) (C := cn_B) (T := ft_B) (N := 6) C.1 C.2.1 C.2.2.2.2.2.1 in_B C.2.2.2.2.1 C.2.2.2.2.2.2.2.1 hP 2 rfl rfl 3 (by decide) (va_Nw.use rfl (C.2.2.2.2.2.2.2.2.2.2.2.1 _ (List.mem_of_getElem? (i := 4) rfl))) (fun _ h9 => h9) rfl hdg (kk _ rfl)
theorem gn2_scratch {h0 b1 b2 : Nat} {u : cs_St} (C : ck_C p s m meth c cc ret nL args "ControlDesk" A D tys) (hP : va_P D xw_Cl (wx h0 b1 b2 u) H) (hdg : decode cc pc = .ok (.getfield 196, 3)) (kk : ∀ v : Int64, v = u.2 21 → W p l e R s m args below meth c H locs cells slots Q (F0 m (pc + 3) ls (.long v :: rest))) : W p l e R s m args below meth c H locs cells slots Q (F0 m pc ls (.ref b2 :: rest)) :=
  va_getN (D := D) (ci := 0) (v := .long (u.2 21)) (C := cn_B) (T := ft_B) (N := 6) C.1 C.2.1 C.2.2.2.2.2.1 in_B C.2.2.2.2.1 C.2.2.2.2.2.2.2.1 hP 2 rfl rfl 2 (by decide) (va_Nw.use rfl (C.2.2.2.2.2.2.2.2.2.2.2.1 _ (List.mem_of_getElem? (i := 3) rfl))) (fun _ h9 => h9) rfl hdg (kk _ rfl)
theorem gn2_value {h0 b1 b2 : Nat} {u : cs_St} (C : ck_C p s m meth c cc ret nL args "ControlDesk" A D tys) (hP : va_P D xw_Cl (wx h0 b1 b2 u) H) (hdg : decode cc pc = .ok (.getfield 205, 3)) (kk : ∀ v : Int64, v = u.2 24 → W p l e R s m args below meth c H locs cells slots Q (F0 m (pc + 3) ls (.long v :: rest))) : W p l e R s m args below meth c H locs cells slots Q (F0 m pc ls (.ref b2 :: rest)) :=
  va_getN (D := D) (ci := 0) (v := .long (u.2 24)) (C := cn_B) (T := ft_B) (N := 6) C.1 C.2.1 C.2.2.2.2.2.1 in_B C.2.2.2.2.1 C.2.2.2.2.2.2.2.1 hP 2 rfl rfl 5 (by decide) (va_Nw.use rfl (C.2.2.2.2.2.2.2.2.2.2.2.1 _ (List.mem_of_getElem? (i := 6) rfl))) (fun _ h9 => h9) rfl hdg (kk _ rfl)
theorem gn2_vectors {h0 b1 b2 : Nat} {u : cs_St} (C : ck_C p s m meth c cc ret nL args "ControlDesk" A D tys) (hP : va_P D xw_Cl (wx h0 b1 b2 u) H) (hdg : decode cc pc = .ok (.getfield 193, 3)) (kk : ∀ v : Int64, v = u.2 19 → W p l e R s m args below meth c H locs cells slots Q (F0 m (pc + 3) ls (.long v :: rest))) : W p l e R s m args below meth c H locs cells slots Q (F0 m pc ls (.ref b2 :: rest)) :=
  va_getN (D := D) (ci := 0) (v := .long (u.2 19)) (C := cn_B) (T := ft_B) (N := 6) C.1 C.2.1 C.2.2.2.2.2.1 in_B C.2.2.2.2.1 C.2.2.2.2.2.2.2.1 hP 2 rfl rfl 0 (by decide) (va_Nw.use rfl (C.2.2.2.2.2.2.2.2.2.2.2.1 _ (List.mem_of_getElem? (i := 1) rfl))) (fun _ h9 => h9) rfl hdg (kk _ rfl)
theorem gx_clock {h0 b1 b2 : Nat} {u : cs_St} (C : ck_C p s m meth c cc ret nL args "ControlDesk" A D tys) (hP : va_P D xw_Cl (wx h0 b1 b2 u) H) (hdg : decode cc pc = .ok (.getfield 159, 3)) (kk : ∀ v : Int64, v = u.2 10 → W p l e R s m args below meth c H locs cells slots Q (F0 m (pc + 3) ls (.long v :: rest))) : W p l e R s m args below meth c H locs cells slots Q (F0 m pc ls (.ref h0 :: rest)) :=
  va_get (D := D) (ci := 1) (v := .long (u.2 10)) (C := cn_X) (T := ft_X) (N := 16) C.1 C.2.1 C.2.2.2.2.2.1 in_X C.2.2.2.2.1 C.2.2.2.2.2.2.2.1 hP 0 rfl rfl 13 (by decide) (C.2.2.2.2.2.1 _ mw_63) (fun _ h9 => h9) rfl hdg (kk _ rfl)
theorem gx_currentMode {h0 b1 b2 : Nat} {u : cs_St} (C : ck_C p s m meth c cc ret nL args "ControlDesk" A D tys) (hP : va_P D xw_Cl (wx h0 b1 b2 u) H) (hdg : decode cc pc = .ok (.getfield 19, 3)) (kk : ∀ v : Int32, v = u.1 → W p l e R s m args below meth c H locs cells slots Q (F0 m (pc + 3) ls (.int v :: rest))) : W p l e R s m args below meth c H locs cells slots Q (F0 m pc ls (.ref h0 :: rest)) :=
  va_get (D := D) (ci := 1) (v := .int (u.1)) (C := cn_X) (T := ft_X) (N := 16) C.1 C.2.1 C.2.2.2.2.2.1 in_X C.2.2.2.2.1 C.2.2.2.2.2.2.2.1 hP 0 rfl rfl 3 (by decide) (C.2.2.2.2.2.1 _ mw_64) (fun _ h9 => h9) rfl hdg (kk _ rfl)
theorem gx_cycleCount {h0 b1 b2 : Nat} {u : cs_St} (C : ck_C p s m meth c cc ret nL args "ControlDesk" A D tys) (hP : va_P D xw_Cl (wx h0 b1 b2 u) H) (hdg : decode cc pc = .ok (.getfield 153, 3)) (kk : ∀ v : Int64, v = u.2 8 → W p l e R s m args below meth c H locs cells slots Q (F0 m (pc + 3) ls (.long v :: rest))) : W p l e R s m args below meth c H locs cells slots Q (F0 m pc ls (.ref h0 :: rest)) :=
  va_get (D := D) (ci := 1) (v := .long (u.2 8)) (C := cn_X) (T := ft_X) (N := 16) C.1 C.2.1 C.2.2.2.2.2.1 in_X C.2.2.2.2.1 C.2.2.2.2.2.2.2.1 hP 0 rfl rfl 11 (by decide) (C.2.2.2.2.2.1 _ mw_65) (fun _ h9 => h9) rfl hdg (kk _ rfl)
theorem gx_delegatedExceptions {h0 b1 b2 : Nat} {u : cs_St} (C : ck_C p s m meth c cc ret nL args "ControlDesk" A D tys) (hP : va_P D xw_Cl (wx h0 b1 b2 u) H) (hdg : decode cc pc = .ok (.getfield 190, 3)) (kk : ∀ v : Int64, v = u.2 2 → W p l e R s m args below meth c H locs cells slots Q (F0 m (pc + 3) ls (.long v :: rest))) : W p l e R s m args below meth c H locs cells slots Q (F0 m pc ls (.ref h0 :: rest)) :=
  va_get (D := D) (ci := 1) (v := .long (u.2 2)) (C := cn_X) (T := ft_X) (N := 16) C.1 C.2.1 C.2.2.2.2.2.1 in_X C.2.2.2.2.1 C.2.2.2.2.2.2.2.1 hP 0 rfl rfl 5 (by decide) (C.2.2.2.2.2.1 _ mw_66) (fun _ h9 => h9) rfl hdg (kk _ rfl)
theorem gx_delegatedInterrupts {h0 b1 b2 : Nat} {u : cs_St} (C : ck_C p s m meth c cc ret nL args "ControlDesk" A D tys) (hP : va_P D xw_Cl (wx h0 b1 b2 u) H) (hdg : decode cc pc = .ok (.getfield 127, 3)) (kk : ∀ v : Int64, v = u.2 3 → W p l e R s m args below meth c H locs cells slots Q (F0 m (pc + 3) ls (.long v :: rest))) : W p l e R s m args below meth c H locs cells slots Q (F0 m pc ls (.ref h0 :: rest)) :=
  va_get (D := D) (ci := 1) (v := .long (u.2 3)) (C := cn_X) (T := ft_X) (N := 16) C.1 C.2.1 C.2.2.2.2.2.1 in_X C.2.2.2.2.1 C.2.2.2.2.2.2.2.1 hP 0 rfl rfl 6 (by decide) (C.2.2.2.2.2.1 _ mw_67) (fun _ h9 => h9) rfl hdg (kk _ rfl)
theorem gx_enabled {h0 b1 b2 : Nat} {u : cs_St} (C : ck_C p s m meth c cc ret nL args "ControlDesk" A D tys) (hP : va_P D xw_Cl (wx h0 b1 b2 u) H) (hdg : decode cc pc = .ok (.getfield 120, 3)) (kk : ∀ v : Int64, v = u.2 4 → W p l e R s m args below meth c H locs cells slots Q (F0 m (pc + 3) ls (.long v :: rest))) : W p l e R s m args below meth c H locs cells slots Q (F0 m pc ls (.ref h0 :: rest)) :=
  va_get (D := D) (ci := 1) (v := .long (u.2 4)) (C := cn_X) (T := ft_X) (N := 16) C.1 C.2.1 C.2.2.2.2.2.1 in_X C.2.2.2.2.1 C.2.2.2.2.2.2.2.1 hP 0 rfl rfl 7 (by decide) (C.2.2.2.2.2.1 _ mw_68) (fun _ h9 => h9) rfl hdg (kk _ rfl)
theorem gx_instructionCount {h0 b1 b2 : Nat} {u : cs_St} (C : ck_C p s m meth c cc ret nL args "ControlDesk" A D tys) (hP : va_P D xw_Cl (wx h0 b1 b2 u) H) (hdg : decode cc pc = .ok (.getfield 156, 3)) (kk : ∀ v : Int64, v = u.2 9 → W p l e R s m args below meth c H locs cells slots Q (F0 m (pc + 3) ls (.long v :: rest))) : W p l e R s m args below meth c H locs cells slots Q (F0 m pc ls (.ref h0 :: rest)) :=
  va_get (D := D) (ci := 1) (v := .long (u.2 9)) (C := cn_X) (T := ft_X) (N := 16) C.1 C.2.1 C.2.2.2.2.2.1 in_X C.2.2.2.2.1 C.2.2.2.2.2.2.2.1 hP 0 rfl rfl 12 (by decide) (C.2.2.2.2.2.1 _ mw_69) (fun _ h9 => h9) rfl hdg (kk _ rfl)
theorem gx_lastHad {h0 b1 b2 : Nat} {u : cs_St} (C : ck_C p s m meth c cc ret nL args "ControlDesk" A D tys) (hP : va_P D xw_Cl (wx h0 b1 b2 u) H) (hdg : decode cc pc = .ok (.getfield 78, 3)) (kk : ∀ v : Int64, v = u.2 11 → W p l e R s m args below meth c H locs cells slots Q (F0 m (pc + 3) ls (.long v :: rest))) : W p l e R s m args below meth c H locs cells slots Q (F0 m pc ls (.ref h0 :: rest)) :=
  va_get (D := D) (ci := 1) (v := .long (u.2 11)) (C := cn_X) (T := ft_X) (N := 16) C.1 C.2.1 C.2.2.2.2.2.1 in_X C.2.2.2.2.1 C.2.2.2.2.2.2.2.1 hP 0 rfl rfl 14 (by decide) (C.2.2.2.2.2.1 _ mw_70) (fun _ h9 => h9) rfl hdg (kk _ rfl)
theorem gx_lastPlace {h0 b1 b2 : Nat} {u : cs_St} (C : ck_C p s m meth c cc ret nL args "ControlDesk" A D tys) (hP : va_P D xw_Cl (wx h0 b1 b2 u) H) (hdg : decode cc pc = .ok (.getfield 101, 3)) (kk : ∀ v : Int64, v = u.2 12 → W p l e R s m args below meth c H locs cells slots Q (F0 m (pc + 3) ls (.long v :: rest))) : W p l e R s m args below meth c H locs cells slots Q (F0 m pc ls (.ref h0 :: rest)) :=
  va_get (D := D) (ci := 1) (v := .long (u.2 12)) (C := cn_X) (T := ft_X) (N := 16) C.1 C.2.1 C.2.2.2.2.2.1 in_X C.2.2.2.2.1 C.2.2.2.2.2.2.2.1 hP 0 rfl rfl 15 (by decide) (C.2.2.2.2.2.1 _ mw_71) (fun _ h9 => h9) rfl hdg (kk _ rfl)
theorem gx_lines {h0 b1 b2 : Nat} {u : cs_St} (C : ck_C p s m meth c cc ret nL args "ControlDesk" A D tys) (hP : va_P D xw_Cl (wx h0 b1 b2 u) H) (hdg : decode cc pc = .ok (.getfield 141, 3)) (kk : ∀ v : Int64, v = u.2 6 → W p l e R s m args below meth c H locs cells slots Q (F0 m (pc + 3) ls (.long v :: rest))) : W p l e R s m args below meth c H locs cells slots Q (F0 m pc ls (.ref h0 :: rest)) :=
  va_get (D := D) (ci := 1) (v := .long (u.2 6)) (C := cn_X) (T := ft_X) (N := 16) C.1 C.2.1 C.2.2.2.2.2.1 in_X C.2.2.2.2.1 C.2.2.2.2.2.2.2.1 hP 0 rfl rfl 9 (by decide) (C.2.2.2.2.2.1 _ mw_72) (fun _ h9 => h9) rfl hdg (kk _ rfl)
theorem gx_machineBank {h0 b1 b2 : Nat} {u : cs_St} (C : ck_C p s m meth c cc ret nL args "ControlDesk" A D tys) (hP : va_P D xw_Cl (wx h0 b1 b2 u) H) (hdg : decode cc pc = .ok (.getfield 12, 3)) (kk : W p l e R s m args below meth c H locs cells slots Q (F0 m (pc + 3) ls (.ref b1 :: rest))) : W p l e R s m args below meth c H locs cells slots Q (F0 m pc ls (.ref h0 :: rest)) :=
  va_get (D := D) (ci := 1) (v := .ref b1) (C := cn_X) (T := ft_X) (N := 16) C.1 C.2.1 C.2.2.2.2.2.1 in_X C.2.2.2.2.1 C.2.2.2.2.2.2.2.1 hP 0 rfl rfl 0 (by decide) (C.2.2.2.2.2.1 _ mw_73) (fun _ h9 => h9) rfl hdg kk
theorem gx_pendingWritten {h0 b1 b2 : Nat} {u : cs_St} (C : ck_C p s m meth c cc ret nL args "ControlDesk" A D tys) (hP : va_P D xw_Cl (wx h0 b1 b2 u) H) (hdg : decode cc pc = .ok (.getfield 180, 3)) (kk : ∀ v : Int64, v = u.2 5 → W p l e R s m args below meth c H locs cells slots Q (F0 m (pc + 3) ls (.long v :: rest))) : W p l e R s m args below meth c H locs cells slots Q (F0 m pc ls (.ref h0 :: rest)) :=
  va_get (D := D) (ci := 1) (v := .long (u.2 5)) (C := cn_X) (T := ft_X) (N := 16) C.1 C.2.1 C.2.2.2.2.2.1 in_X C.2.2.2.2.1 C.2.2.2.2.2.2.2.1 hP 0 rfl rfl 8 (by decide) (C.2.2.2.2.2.1 _ mw_74) (fun _ h9 => h9) rfl hdg (kk _ rfl)
theorem gx_processor {h0 b1 b2 : Nat} {u : cs_St} (C : ck_C p s m meth c cc ret nL args "ControlDesk" A D tys) (hP : va_P D xw_Cl (wx h0 b1 b2 u) H) (hdg : decode cc pc = .ok (.getfield 23, 3)) (kk : ∀ v : Int64, v = u.2 0 → W p l e R s m args below meth c H locs cells slots Q (F0 m (pc + 3) ls (.long v :: rest))) : W p l e R s m args below meth c H locs cells slots Q (F0 m pc ls (.ref h0 :: rest)) :=
  va_get (D := D) (ci := 1) (v := .long (u.2 0)) (C := cn_X) (T := ft_X) (N := 16) C.1 C.2.1 C.2.2.2.2.2.1 in_X C.2.2.2.2.1 C.2.2.2.2.2.2.2.1 hP 0 rfl rfl 2 (by decide) (C.2.2.2.2.2.1 _ mw_75) (fun _ h9 => h9) rfl hdg (kk _ rfl)
theorem gx_status {h0 b1 b2 : Nat} {u : cs_St} (C : ck_C p s m meth c cc ret nL args "ControlDesk" A D tys) (hP : va_P D xw_Cl (wx h0 b1 b2 u) H) (hdg : decode cc pc = .ok (.getfield 57, 3)) (kk : ∀ v : Int64, v = u.2 1 → W p l e R s m args below meth c H locs cells slots Q (F0 m (pc + 3) ls (.long v :: rest))) : W p l e R s m args below meth c H locs cells slots Q (F0 m pc ls (.ref h0 :: rest)) :=
  va_get (D := D) (ci := 1) (v := .long (u.2 1)) (C := cn_X) (T := ft_X) (N := 16) C.1 C.2.1 C.2.2.2.2.2.1 in_X C.2.2.2.2.1 C.2.2.2.2.2.2.2.1 hP 0 rfl rfl 4 (by decide) (C.2.2.2.2.2.1 _ mw_76) (fun _ h9 => h9) rfl hdg (kk _ rfl)
theorem gx_supervisorBank {h0 b1 b2 : Nat} {u : cs_St} (C : ck_C p s m meth c cc ret nL args "ControlDesk" A D tys) (hP : va_P D xw_Cl (wx h0 b1 b2 u) H) (hdg : decode cc pc = .ok (.getfield 16, 3)) (kk : W p l e R s m args below meth c H locs cells slots Q (F0 m (pc + 3) ls (.ref b2 :: rest))) : W p l e R s m args below meth c H locs cells slots Q (F0 m pc ls (.ref h0 :: rest)) :=
  va_get (D := D) (ci := 1) (v := .ref b2) (C := cn_X) (T := ft_X) (N := 16) C.1 C.2.1 C.2.2.2.2.2.1 in_X C.2.2.2.2.1 C.2.2.2.2.2.2.2.1 hP 0 rfl rfl 1 (by decide) (C.2.2.2.2.2.1 _ mw_77) (fun _ h9 => h9) rfl hdg kk
theorem gx_table {h0 b1 b2 : Nat} {u : cs_St} (C : ck_C p s m meth c cc ret nL args "ControlDesk" A D tys) (hP : va_P D xw_Cl (wx h0 b1 b2 u) H) (hdg : decode cc pc = .ok (.getfield 208, 3)) (kk : ∀ v : Int64, v = u.2 7 → W p l e R s m args below meth c H locs cells slots Q (F0 m (pc + 3) ls (.long v :: rest))) : W p l e R s m args below meth c H locs cells slots Q (F0 m pc ls (.ref h0 :: rest)) :=
  va_get (D := D) (ci := 1) (v := .long (u.2 7)) (C := cn_X) (T := ft_X) (N := 16) C.1 C.2.1 C.2.2.2.2.2.1 in_X C.2.2.2.2.1 C.2.2.2.2.2.2.2.1 hP 0 rfl rfl 10 (by decide) (C.2.2.2.2.2.1 _ mw_78) (fun _ h9 => h9) rfl hdg (kk _ rfl)
theorem pb1_cause {h0 b1 b2 : Nat} {u : cs_St} {x : Int64} (C : ck_C p s m meth c cc ret nL args "ControlDesk$Bank" A D tys) (hP : va_P D xw_Cl (wx h0 b1 b2 u) H) (hD : va_D A (wx h0 b1 b2 u)) (hS : va_S A s.heap H locs) (hdg : decode cc pc = .ok (.putfield 28, 3)) (kk : ∀ (u2 : cs_St) (H1 : Heap) (locs1 : List Loc), u2 = (u.1, vp_updL u.2 17 x) → va_P D xw_Cl (wx h0 b1 b2 u2) H1 → va_D A (wx h0 b1 b2 u2) → va_S A s.heap H1 locs1 → W p l e R s m args below meth c H1 locs1 cells slots Q (F0 m (pc + 3) ls rest)) : W p l e R s m args below meth c H locs cells slots Q (F0 m pc ls (.long x :: .ref b1 :: rest)) :=
  va_put (D := D) (ci := 0) (v := .long x) (ty := .long) (C := cn_B) (T := ft_B) (N := 6) C.1 C.2.1 C.2.2.2.2.2.1 in_B ty_B tk_B nn_B C.2.2.2.2.1 C.2.2.2.2.2.2.2.1 hP hD hS 1 rfl rfl 4 (by decide) (C.2.2.2.2.2.1 _ mw_79) (fun _ h9 => h9) rfl (by decide +kernel) rfl rfl (Nat.le_of_ble_eq_true rfl) hdg (fun H1 locs1 h1 h2 h3 => kk _ H1 locs1 rfl h1 h2 h3)
theorem pb1_resume {h0 b1 b2 : Nat} {u : cs_St} {x : Int64} (C : ck_C p s m meth c cc ret nL args "ControlDesk$Bank" A D tys) (hP : va_P D xw_Cl (wx h0 b1 b2 u) H) (hD : va_D A (wx h0 b1 b2 u)) (hS : va_S A s.heap H locs) (hdg : decode cc pc = .ok (.putfield 19, 3)) (kk : ∀ (u2 : cs_St) (H1 : Heap) (locs1 : List Loc), u2 = (u.1, vp_updL u.2 16 x) → va_P D xw_Cl (wx h0 b1 b2 u2) H1 → va_D A (wx h0 b1 b2 u2) → va_S A s.heap H1 locs1 → W p l e R s m args below meth c H1 locs1 cells slots Q (F0 m (pc + 3) ls rest)) : W p l e R s m args below meth c H locs cells slots Q (F0 m pc ls (.long x :: .ref b1 :: rest)) :=
  va_put (D := D) (ci := 0) (v := .long x) (ty := .long) (C := cn_B) (T := ft_B) (N := 6) C.1 C.2.1 C.2.2.2.2.2.1 in_B ty_B tk_B nn_B C.2.2.2.2.1 C.2.2.2.2.2.2.2.1 hP hD hS 1 rfl rfl 3 (by decide) (C.2.2.2.2.2.1 _ mw_80) (fun _ h9 => h9) rfl (by decide +kernel) rfl rfl (Nat.le_of_ble_eq_true rfl) hdg (fun H1 locs1 h1 h2 h3 => kk _ H1 locs1 rfl h1 h2 h3)
theorem pb1_value {h0 b1 b2 : Nat} {u : cs_St} {x : Int64} (C : ck_C p s m meth c cc ret nL args "ControlDesk$Bank" A D tys) (hP : va_P D xw_Cl (wx h0 b1 b2 u) H) (hD : va_D A (wx h0 b1 b2 u)) (hS : va_S A s.heap H locs) (hdg : decode cc pc = .ok (.putfield 31, 3)) (kk : ∀ (u2 : cs_St) (H1 : Heap) (locs1 : List Loc), u2 = (u.1, vp_updL u.2 18 x) → va_P D xw_Cl (wx h0 b1 b2 u2) H1 → va_D A (wx h0 b1 b2 u2) → va_S A s.heap H1 locs1 → W p l e R s m args below meth c H1 locs1 cells slots Q (F0 m (pc + 3) ls rest)) : W p l e R s m args below meth c H locs cells slots Q (F0 m pc ls (.long x :: .ref b1 :: rest)) :=
  va_put (D := D) (ci := 0) (v := .long x) (ty := .long) (C := cn_B) (T := ft_B) (N := 6) C.1 C.2.1 C.2.2.2.2.2.1 in_B ty_B tk_B nn_B C.2.2.2.2.1 C.2.2.2.2.2.2.2.1 hP hD hS 1 rfl rfl 5 (by decide) (C.2.2.2.2.2.1 _ mw_81) (fun _ h9 => h9) rfl (by decide +kernel) rfl rfl (Nat.le_of_ble_eq_true rfl) hdg (fun H1 locs1 h1 h2 h3 => kk _ H1 locs1 rfl h1 h2 h3)
theorem pb1_vectors {h0 b1 b2 : Nat} {u : cs_St} {x : Int64} (C : ck_C p s m meth c cc ret nL args "ControlDesk$Bank" A D tys) (hP : va_P D xw_Cl (wx h0 b1 b2 u) H) (hD : va_D A (wx h0 b1 b2 u)) (hS : va_S A s.heap H locs) (hdg : decode cc pc = .ok (.putfield 11, 3)) (kk : ∀ (u2 : cs_St) (H1 : Heap) (locs1 : List Loc), u2 = (u.1, vp_updL u.2 13 x) → va_P D xw_Cl (wx h0 b1 b2 u2) H1 → va_D A (wx h0 b1 b2 u2) → va_S A s.heap H1 locs1 → W p l e R s m args below meth c H1 locs1 cells slots Q (F0 m (pc + 3) ls rest)) : W p l e R s m args below meth c H locs cells slots Q (F0 m pc ls (.long x :: .ref b1 :: rest)) :=
  va_put (D := D) (ci := 0) (v := .long x) (ty := .long) (C := cn_B) (T := ft_B) (N := 6) C.1 C.2.1 C.2.2.2.2.2.1 in_B ty_B tk_B nn_B C.2.2.2.2.1 C.2.2.2.2.2.2.2.1 hP hD hS 1 rfl rfl 0 (by decide) (C.2.2.2.2.2.1 _ mw_54) (fun _ h9 => h9) rfl (by decide +kernel) rfl rfl (Nat.le_of_ble_eq_true rfl) hdg (fun H1 locs1 h1 h2 h3 => kk _ H1 locs1 rfl h1 h2 h3)
theorem pb2_cause {h0 b1 b2 : Nat} {u : cs_St} {x : Int64} (C : ck_C p s m meth c cc ret nL args "ControlDesk$Bank" A D tys) (hP : va_P D xw_Cl (wx h0 b1 b2 u) H) (hD : va_D A (wx h0 b1 b2 u)) (hS : va_S A s.heap H locs) (hdg : decode cc pc = .ok (.putfield 28, 3)) (kk : ∀ (u2 : cs_St) (H1 : Heap) (locs1 : List Loc), u2 = (u.1, vp_updL u.2 23 x) → va_P D xw_Cl (wx h0 b1 b2 u2) H1 → va_D A (wx h0 b1 b2 u2) → va_S A s.heap H1 locs1 → W p l e R s m args below meth c H1 locs1 cells slots Q (F0 m (pc + 3) ls rest)) : W p l e R s m args below meth c H locs cells slots Q (F0 m pc ls (.long x :: .ref b2 :: rest)) :=
  va_put (D := D) (ci := 0) (v := .long x) (ty := .long) (C := cn_B) (T := ft_B) (N := 6) C.1 C.2.1 C.2.2.2.2.2.1 in_B ty_B tk_B nn_B C.2.2.2.2.1 C.2.2.2.2.2.2.2.1 hP hD hS 2 rfl rfl 4 (by decide) (C.2.2.2.2.2.1 _ mw_79) (fun _ h9 => h9) rfl (by decide +kernel) rfl rfl (Nat.le_of_ble_eq_true rfl) hdg (fun H1 locs1 h1 h2 h3 => kk _ H1 locs1 rfl h1 h2 h3)
theorem pb2_resume {h0 b1 b2 : Nat} {u : cs_St} {x : Int64} (C : ck_C p s m meth c cc ret nL args "ControlDesk$Bank" A D tys) (hP : va_P D xw_Cl (wx h0 b1 b2 u) H) (hD : va_D A (wx h0 b1 b2 u)) (hS : va_S A s.heap H locs) (hdg : decode cc pc = .ok (.putfield 19, 3)) (kk : ∀ (u2 : cs_St) (H1 : Heap) (locs1 : List Loc), u2 = (u.1, vp_updL u.2 22 x) → va_P D xw_Cl (wx h0 b1 b2 u2) H1 → va_D A (wx h0 b1 b2 u2) → va_S A s.heap H1 locs1 → W p l e R s m args below meth c H1 locs1 cells slots Q (F0 m (pc + 3) ls rest)) : W p l e R s m args below meth c H locs cells slots Q (F0 m pc ls (.long x :: .ref b2 :: rest)) :=
  va_put (D := D) (ci := 0) (v := .long x) (ty := .long) (C := cn_B) (T := ft_B) (N := 6) C.1 C.2.1 C.2.2.2.2.2.1 in_B ty_B tk_B nn_B C.2.2.2.2.1 C.2.2.2.2.2.2.2.1 hP hD hS 2 rfl rfl 3 (by decide) (C.2.2.2.2.2.1 _ mw_80) (fun _ h9 => h9) rfl (by decide +kernel) rfl rfl (Nat.le_of_ble_eq_true rfl) hdg (fun H1 locs1 h1 h2 h3 => kk _ H1 locs1 rfl h1 h2 h3)
theorem pb2_value {h0 b1 b2 : Nat} {u : cs_St} {x : Int64} (C : ck_C p s m meth c cc ret nL args "ControlDesk$Bank" A D tys) (hP : va_P D xw_Cl (wx h0 b1 b2 u) H) (hD : va_D A (wx h0 b1 b2 u)) (hS : va_S A s.heap H locs) (hdg : decode cc pc = .ok (.putfield 31, 3)) (kk : ∀ (u2 : cs_St) (H1 : Heap) (locs1 : List Loc), u2 = (u.1, vp_updL u.2 24 x) → va_P D xw_Cl (wx h0 b1 b2 u2) H1 → va_D A (wx h0 b1 b2 u2) → va_S A s.heap H1 locs1 → W p l e R s m args below meth c H1 locs1 cells slots Q (F0 m (pc + 3) ls rest)) : W p l e R s m args below meth c H locs cells slots Q (F0 m pc ls (.long x :: .ref b2 :: rest)) :=
  va_put (D := D) (ci := 0) (v := .long x) (ty := .long) (C := cn_B) (T := ft_B) (N := 6) C.1 C.2.1 C.2.2.2.2.2.1 in_B ty_B tk_B nn_B C.2.2.2.2.1 C.2.2.2.2.2.2.2.1 hP hD hS 2 rfl rfl 5 (by decide) (C.2.2.2.2.2.1 _ mw_81) (fun _ h9 => h9) rfl (by decide +kernel) rfl rfl (Nat.le_of_ble_eq_true rfl) hdg (fun H1 locs1 h1 h2 h3 => kk _ H1 locs1 rfl h1 h2 h3)
theorem pb2_vectors {h0 b1 b2 : Nat} {u : cs_St} {x : Int64} (C : ck_C p s m meth c cc ret nL args "ControlDesk$Bank" A D tys) (hP : va_P D xw_Cl (wx h0 b1 b2 u) H) (hD : va_D A (wx h0 b1 b2 u)) (hS : va_S A s.heap H locs) (hdg : decode cc pc = .ok (.putfield 11, 3)) (kk : ∀ (u2 : cs_St) (H1 : Heap) (locs1 : List Loc), u2 = (u.1, vp_updL u.2 19 x) → va_P D xw_Cl (wx h0 b1 b2 u2) H1 → va_D A (wx h0 b1 b2 u2) → va_S A s.heap H1 locs1 → W p l e R s m args below meth c H1 locs1 cells slots Q (F0 m (pc + 3) ls rest)) : W p l e R s m args below meth c H locs cells slots Q (F0 m pc ls (.long x :: .ref b2 :: rest)) :=
  va_put (D := D) (ci := 0) (v := .long x) (ty := .long) (C := cn_B) (T := ft_B) (N := 6) C.1 C.2.1 C.2.2.2.2.2.1 in_B ty_B tk_B nn_B C.2.2.2.2.1 C.2.2.2.2.2.2.2.1 hP hD hS 2 rfl rfl 0 (by decide) (C.2.2.2.2.2.1 _ mw_54) (fun _ h9 => h9) rfl (by decide +kernel) rfl rfl (Nat.le_of_ble_eq_true rfl) hdg (fun H1 locs1 h1 h2 h3 => kk _ H1 locs1 rfl h1 h2 h3)
theorem pm_had {m0 hd ln : Nat} {cH cZ : ClassId} {u : ms_St} {x : Int64} (C : ck_C p s m meth c cc ret nL args "ControlDeskModel" A D tys) (hP : va_P D xw_Cl (wm m0 hd ln cH cZ u) H) (hD : va_D A (wm m0 hd ln cH cZ u)) (hS : va_S A s.heap H locs) (hdg : decode cc pc = .ok (.putfield 110, 3)) (kk : ∀ (u2 : ms_St) (H1 : Heap) (locs1 : List Loc), u2 = (u.1, u.2.1, u.2.2.1, vp_updL u.2.2.2 1 x) → va_P D xw_Cl (wm m0 hd ln cH cZ u2) H1 → va_D A (wm m0 hd ln cH cZ u2) → va_S A s.heap H1 locs1 → W p l e R s m args below meth c H1 locs1 cells slots Q (F0 m (pc + 3) ls rest)) : W p l e R s m args below meth c H locs cells slots Q (F0 m pc ls (.long x :: .ref m0 :: rest)) :=
  va_put (D := D) (ci := 2) (v := .long x) (ty := .long) (C := cn_M) (T := ft_M) (N := 8) C.1 C.2.1 C.2.2.2.2.2.1 in_M ty_M tk_M nn_M C.2.2.2.2.1 C.2.2.2.2.2.2.2.1 hP hD hS 0 rfl rfl 6 (by decide) (C.2.2.2.2.2.1 _ mw_55) (fun _ h9 => h9) rfl (by decide +kernel) rfl rfl (Nat.le_of_ble_eq_true rfl) hdg (fun H1 locs1 h1 h2 h3 => kk _ H1 locs1 rfl h1 h2 h3)
theorem pm_mode {m0 hd ln : Nat} {cH cZ : ClassId} {u : ms_St} {x : Int32} (C : ck_C p s m meth c cc ret nL args "ControlDeskModel" A D tys) (hP : va_P D xw_Cl (wm m0 hd ln cH cZ u) H) (hD : va_D A (wm m0 hd ln cH cZ u)) (hS : va_S A s.heap H locs) (hdg : decode cc pc = .ok (.putfield 7, 3)) (kk : ∀ (u2 : ms_St) (H1 : Heap) (locs1 : List Loc), u2 = (upd u.1 2 x, u.2) → va_P D xw_Cl (wm m0 hd ln cH cZ u2) H1 → va_D A (wm m0 hd ln cH cZ u2) → va_S A s.heap H1 locs1 → W p l e R s m args below meth c H1 locs1 cells slots Q (F0 m (pc + 3) ls rest)) : W p l e R s m args below meth c H locs cells slots Q (F0 m pc ls (.int x :: .ref m0 :: rest)) :=
  va_put (D := D) (ci := 2) (v := .int x) (ty := .int) (C := cn_M) (T := ft_M) (N := 8) C.1 C.2.1 C.2.2.2.2.2.1 in_M ty_M tk_M nn_M C.2.2.2.2.1 C.2.2.2.2.2.2.2.1 hP hD hS 0 rfl rfl 2 (by decide) (C.2.2.2.2.2.1 _ mw_58) (fun _ h9 => h9) rfl (by decide +kernel) rfl rfl (Nat.le_of_ble_eq_true rfl) hdg (fun H1 locs1 h1 h2 h3 => kk _ H1 locs1 rfl h1 h2 h3)
theorem pm_place {m0 hd ln : Nat} {cH cZ : ClassId} {u : ms_St} {x : Int64} (C : ck_C p s m meth c cc ret nL args "ControlDeskModel" A D tys) (hP : va_P D xw_Cl (wm m0 hd ln cH cZ u) H) (hD : va_D A (wm m0 hd ln cH cZ u)) (hS : va_S A s.heap H locs) (hdg : decode cc pc = .ok (.putfield 127, 3)) (kk : ∀ (u2 : ms_St) (H1 : Heap) (locs1 : List Loc), u2 = (u.1, u.2.1, u.2.2.1, vp_updL u.2.2.2 2 x) → va_P D xw_Cl (wm m0 hd ln cH cZ u2) H1 → va_D A (wm m0 hd ln cH cZ u2) → va_S A s.heap H1 locs1 → W p l e R s m args below meth c H1 locs1 cells slots Q (F0 m (pc + 3) ls rest)) : W p l e R s m args below meth c H locs cells slots Q (F0 m pc ls (.long x :: .ref m0 :: rest)) :=
  va_put (D := D) (ci := 2) (v := .long x) (ty := .long) (C := cn_M) (T := ft_M) (N := 8) C.1 C.2.1 C.2.2.2.2.2.1 in_M ty_M tk_M nn_M C.2.2.2.2.1 C.2.2.2.2.2.2.2.1 hP hD hS 0 rfl rfl 7 (by decide) (C.2.2.2.2.2.1 _ mw_59) (fun _ h9 => h9) rfl (by decide +kernel) rfl rfl (Nat.le_of_ble_eq_true rfl) hdg (fun H1 locs1 h1 h2 h3 => kk _ H1 locs1 rfl h1 h2 h3)
theorem pm_thrown {m0 hd ln : Nat} {cH cZ : ClassId} {u : ms_St} {x : Int32} (C : ck_C p s m meth c cc ret nL args "ControlDeskModel" A D tys) (hP : va_P D xw_Cl (wm m0 hd ln cH cZ u) H) (hD : va_D A (wm m0 hd ln cH cZ u)) (hS : va_S A s.heap H locs) (hdg : decode cc pc = .ok (.putfield 24, 3)) (kk : ∀ (u2 : ms_St) (H1 : Heap) (locs1 : List Loc), u2 = (upd u.1 0 x, u.2) → va_P D xw_Cl (wm m0 hd ln cH cZ u2) H1 → va_D A (wm m0 hd ln cH cZ u2) → va_S A s.heap H1 locs1 → W p l e R s m args below meth c H1 locs1 cells slots Q (F0 m (pc + 3) ls rest)) : W p l e R s m args below meth c H locs cells slots Q (F0 m pc ls (.int x :: .ref m0 :: rest)) :=
  va_put (D := D) (ci := 2) (v := .int x) (ty := .int) (C := cn_M) (T := ft_M) (N := 8) C.1 C.2.1 C.2.2.2.2.2.1 in_M ty_M tk_M nn_M C.2.2.2.2.1 C.2.2.2.2.2.2.2.1 hP hD hS 0 rfl rfl 0 (by decide) (C.2.2.2.2.2.1 _ mw_61) (fun _ h9 => h9) rfl (by decide +kernel) rfl rfl (Nat.le_of_ble_eq_true rfl) hdg (fun H1 locs1 h1 h2 h3 => kk _ H1 locs1 rfl h1 h2 h3)
theorem pm_time {m0 hd ln : Nat} {cH cZ : ClassId} {u : ms_St} {x : Int64} (C : ck_C p s m meth c cc ret nL args "ControlDeskModel" A D tys) (hP : va_P D xw_Cl (wm m0 hd ln cH cZ u) H) (hD : va_D A (wm m0 hd ln cH cZ u)) (hS : va_S A s.heap H locs) (hdg : decode cc pc = .ok (.putfield 63, 3)) (kk : ∀ (u2 : ms_St) (H1 : Heap) (locs1 : List Loc), u2 = (u.1, u.2.1, u.2.2.1, vp_updL u.2.2.2 0 x) → va_P D xw_Cl (wm m0 hd ln cH cZ u2) H1 → va_D A (wm m0 hd ln cH cZ u2) → va_S A s.heap H1 locs1 → W p l e R s m args below meth c H1 locs1 cells slots Q (F0 m (pc + 3) ls rest)) : W p l e R s m args below meth c H locs cells slots Q (F0 m pc ls (.long x :: .ref m0 :: rest)) :=
  va_put (D := D) (ci := 2) (v := .long x) (ty := .long) (C := cn_M) (T := ft_M) (N := 8) C.1 C.2.1 C.2.2.2.2.2.1 in_M ty_M tk_M nn_M C.2.2.2.2.1 C.2.2.2.2.2.2.2.1 hP hD hS 0 rfl rfl 5 (by decide) (C.2.2.2.2.2.1 _ mw_62) (fun _ h9 => h9) rfl (by decide +kernel) rfl rfl (Nat.le_of_ble_eq_true rfl) hdg (fun H1 locs1 h1 h2 h3 => kk _ H1 locs1 rfl h1 h2 h3)
theorem pn1_cause {h0 b1 b2 : Nat} {u : cs_St} {x : Int64} (C : ck_C p s m meth c cc ret nL args "ControlDesk" A D tys) (hP : va_P D xw_Cl (wx h0 b1 b2 u) H) (hD : va_D A (wx h0 b1 b2 u)) (hS : va_S A s.heap H locs) (hdg : decode cc pc = .ok (.putfield 202, 3)) (kk : ∀ (u2 : cs_St) (H1 : Heap) (locs1 : List Loc), u2 = (u.1, vp_updL u.2 17 x) → va_P D xw_Cl (wx h0 b1 b2 u2) H1 → va_D A (wx h0 b1 b2 u2) → va_S A s.heap H1 locs1 → W p l e R s m args below meth c H1 locs1 cells slots Q (F0 m (pc + 3) ls rest)) : W p l e R s m args below meth c H locs cells slots Q (F0 m pc ls (.long x :: .ref b1 :: rest)) :=
  va_putN (D := D) (ci := 0) (v := .long x) (ty := .long) (C := cn_B) (T := ft_B) (N := 6) C.1 C.2.1 C.2.2.2.2.2.1 in_B ty_B tk_B nn_B C.2.2.2.2.1 C.2.2.2.2.2.2.2.1 hP hD hS 1 rfl rfl 4 (by decide) (va_Nw.use rfl (C.2.2.2.2.2.2.2.2.2.2.2.1 _ (List.mem_of_getElem? (i := 5) rfl))) (fun _ h9 => h9) rfl (by decide +kernel) rfl rfl (Nat.le_of_ble_eq_true rfl) hdg (fun H1 locs1 h1 h2 h3 => kk _ H1 locs1 rfl h1 h2 h3)
theorem pn1_openCounts {h0 b1 b2 : Nat} {u : cs_St} {x : Int64} (C : ck_C p s m meth c cc ret nL args "ControlDesk" A D tys) (hP : va_P D xw_Cl (wx h0 b1 b2 u) H) (hD : va_D A (wx h0 b1 b2 u)) (hS : va_S A s.heap H locs) (hdg : decode cc pc = .ok (.putfield 173, 3)) (kk : ∀ (u2 : cs_St) (H1 : Heap) (locs1 : List Loc), u2 = (u.1, vp_updL u.2 14 x) → va_P D xw_Cl (wx h0 b1 b2 u2) H1 → va_D A (wx h0 b1 b2 u2) → va_S A s.heap H1 locs1 → W p l e R s m args below meth c H1 locs1 cells slots Q (F0 m (pc + 3) ls rest)) : W p l e R s m args below meth c H locs cells slots Q (F0 m pc ls (.long x :: .ref b1 :: rest)) :=
  va_putN (D := D) (ci := 0) (v := .long x) (ty := .long) (C := cn_B) (T := ft_B) (N := 6) C.1 C.2.1 C.2.2.2.2.2.1 in_B ty_B tk_B nn_B C.2.2.2.2.1 C.2.2.2.2.2.2.2.1 hP hD hS 1 rfl rfl 1 (by decide) (va_Nw.use rfl (C.2.2.2.2.2.2.2.2.2.2.2.1 _ (List.mem_of_getElem? (i := 2) rfl))) (fun _ h9 => h9) rfl (by decide +kernel) rfl rfl (Nat.le_of_ble_eq_true rfl) hdg (fun H1 locs1 h1 h2 h3 => kk _ H1 locs1 rfl h1 h2 h3)
theorem pn1_scratch {h0 b1 b2 : Nat} {u : cs_St} {x : Int64} (C : ck_C p s m meth c cc ret nL args "ControlDesk" A D tys) (hP : va_P D xw_Cl (wx h0 b1 b2 u) H) (hD : va_D A (wx h0 b1 b2 u)) (hS : va_S A s.heap H locs) (hdg : decode cc pc = .ok (.putfield 196, 3)) (kk : ∀ (u2 : cs_St) (H1 : Heap) (locs1 : List Loc), u2 = (u.1, vp_updL u.2 15 x) → va_P D xw_Cl (wx h0 b1 b2 u2) H1 → va_D A (wx h0 b1 b2 u2) → va_S A s.heap H1 locs1 → W p l e R s m args below meth c H1 locs1 cells slots Q (F0 m (pc + 3) ls rest)) : W p l e R s m args below meth c H locs cells slots Q (F0 m pc ls (.long x :: .ref b1 :: rest)) :=
  va_putN (D := D) (ci := 0) (v := .long x) (ty := .long) (C := cn_B) (T := ft_B) (N := 6) C.1 C.2.1 C.2.2.2.2.2.1 in_B ty_B tk_B nn_B C.2.2.2.2.1 C.2.2.2.2.2.2.2.1 hP hD hS 1 rfl rfl 2 (by decide) (va_Nw.use rfl (C.2.2.2.2.2.2.2.2.2.2.2.1 _ (List.mem_of_getElem? (i := 3) rfl))) (fun _ h9 => h9) rfl (by decide +kernel) rfl rfl (Nat.le_of_ble_eq_true rfl) hdg (fun H1 locs1 h1 h2 h3 => kk _ H1 locs1 rfl h1 h2 h3)
theorem pn1_value {h0 b1 b2 : Nat} {u : cs_St} {x : Int64} (C : ck_C p s m meth c cc ret nL args "ControlDesk" A D tys) (hP : va_P D xw_Cl (wx h0 b1 b2 u) H) (hD : va_D A (wx h0 b1 b2 u)) (hS : va_S A s.heap H locs) (hdg : decode cc pc = .ok (.putfield 205, 3)) (kk : ∀ (u2 : cs_St) (H1 : Heap) (locs1 : List Loc), u2 = (u.1, vp_updL u.2 18 x) → va_P D xw_Cl (wx h0 b1 b2 u2) H1 → va_D A (wx h0 b1 b2 u2) → va_S A s.heap H1 locs1 → W p l e R s m args below meth c H1 locs1 cells slots Q (F0 m (pc + 3) ls rest)) : W p l e R s m args below meth c H locs cells slots Q (F0 m pc ls (.long x :: .ref b1 :: rest)) :=
  va_putN (D := D) (ci := 0) (v := .long x) (ty := .long) (C := cn_B) (T := ft_B) (N := 6) C.1 C.2.1 C.2.2.2.2.2.1 in_B ty_B tk_B nn_B C.2.2.2.2.1 C.2.2.2.2.2.2.2.1 hP hD hS 1 rfl rfl 5 (by decide) (va_Nw.use rfl (C.2.2.2.2.2.2.2.2.2.2.2.1 _ (List.mem_of_getElem? (i := 6) rfl))) (fun _ h9 => h9) rfl (by decide +kernel) rfl rfl (Nat.le_of_ble_eq_true rfl) hdg (fun H1 locs1 h1 h2 h3 => kk _ H1 locs1 rfl h1 h2 h3)
theorem pn2_cause {h0 b1 b2 : Nat} {u : cs_St} {x : Int64} (C : ck_C p s m meth c cc ret nL args "ControlDesk" A D tys) (hP : va_P D xw_Cl (wx h0 b1 b2 u) H) (hD : va_D A (wx h0 b1 b2 u)) (hS : va_S A s.heap H locs) (hdg : decode cc pc = .ok (.putfield 202, 3)) (kk : ∀ (u2 : cs_St) (H1 : Heap) (locs1 : List Loc), u2 = (u.1, vp_updL u.2 23 x) → va_P D xw_Cl (wx h0 b1 b2 u2) H1 → va_D A (wx h0 b1 b2 u2) → va_S A s.heap H1 locs1 → W p l e R s m args below meth c H1 locs1 cells slots Q (F0 m (pc + 3) ls rest)) : W p l e R s m args below meth c H locs cells slots Q (F0 m pc ls (.long x :: .ref b2 :: rest)) :=
  va_putN (D := D) (ci := 0) (v := .long x) (ty := .long) (C := cn_B) (T := ft_B) (N := 6) C.1 C.2.1 C.2.2.2.2.2.1 in_B ty_B tk_B nn_B C.2.2.2.2.1 C.2.2.2.2.2.2.2.1 hP hD hS 2 rfl rfl 4 (by decide) (va_Nw.use rfl (C.2.2.2.2.2.2.2.2.2.2.2.1 _ (List.mem_of_getElem? (i := 5) rfl))) (fun _ h9 => h9) rfl (by decide +kernel) rfl rfl (Nat.le_of_ble_eq_true rfl) hdg (fun H1 locs1 h1 h2 h3 => kk _ H1 locs1 rfl h1 h2 h3)
theorem pn2_openCounts {h0 b1 b2 : Nat} {u : cs_St} {x : Int64} (C : ck_C p s m meth c cc ret nL args "ControlDesk" A D tys) (hP : va_P D xw_Cl (wx h0 b1 b2 u) H) (hD : va_D A (wx h0 b1 b2 u)) (hS : va_S A s.heap H locs) (hdg : decode cc pc = .ok (.putfield 173, 3)) (kk : ∀ (u2 : cs_St) (H1 : Heap) (locs1 : List Loc), u2 = (u.1, vp_updL u.2 20 x) → va_P D xw_Cl (wx h0 b1 b2 u2) H1 → va_D A (wx h0 b1 b2 u2) → va_S A s.heap H1 locs1 → W p l e R s m args below meth c H1 locs1 cells slots Q (F0 m (pc + 3) ls rest)) : W p l e R s m args below meth c H locs cells slots Q (F0 m pc ls (.long x :: .ref b2 :: rest)) :=
  va_putN (D := D) (ci := 0) (v := .long x) (ty := .long) (C := cn_B) (T := ft_B) (N := 6) C.1 C.2.1 C.2.2.2.2.2.1 in_B ty_B tk_B nn_B C.2.2.2.2.1 C.2.2.2.2.2.2.2.1 hP hD hS 2 rfl rfl 1 (by decide) (va_Nw.use rfl (C.2.2.2.2.2.2.2.2.2.2.2.1 _ (List.mem_of_getElem? (i := 2) rfl))) (fun _ h9 => h9) rfl (by decide +kernel) rfl rfl (Nat.le_of_ble_eq_true rfl) hdg (fun H1 locs1 h1 h2 h3 => kk _ H1 locs1 rfl h1 h2 h3)
theorem pn2_scratch {h0 b1 b2 : Nat} {u : cs_St} {x : Int64} (C : ck_C p s m meth c cc ret nL args "ControlDesk" A D tys) (hP : va_P D xw_Cl (wx h0 b1 b2 u) H) (hD : va_D A (wx h0 b1 b2 u)) (hS : va_S A s.heap H locs) (hdg : decode cc pc = .ok (.putfield 196, 3)) (kk : ∀ (u2 : cs_St) (H1 : Heap) (locs1 : List Loc), u2 = (u.1, vp_updL u.2 21 x) → va_P D xw_Cl (wx h0 b1 b2 u2) H1 → va_D A (wx h0 b1 b2 u2) → va_S A s.heap H1 locs1 → W p l e R s m args below meth c H1 locs1 cells slots Q (F0 m (pc + 3) ls rest)) : W p l e R s m args below meth c H locs cells slots Q (F0 m pc ls (.long x :: .ref b2 :: rest)) :=
  va_putN (D := D) (ci := 0) (v := .long x) (ty := .long) (C := cn_B) (T := ft_B) (N := 6) C.1 C.2.1 C.2.2.2.2.2.1 in_B ty_B tk_B nn_B C.2.2.2.2.1 C.2.2.2.2.2.2.2.1 hP hD hS 2 rfl rfl 2 (by decide) (va_Nw.use rfl (C.2.2.2.2.2.2.2.2.2.2.2.1 _ (List.mem_of_getElem? (i := 3) rfl))) (fun _ h9 => h9) rfl (by decide +kernel) rfl rfl (Nat.le_of_ble_eq_true rfl) hdg (fun H1 locs1 h1 h2 h3 => kk _ H1 locs1 rfl h1 h2 h3)
theorem pn2_value {h0 b1 b2 : Nat} {u : cs_St} {x : Int64} (C : ck_C p s m meth c cc ret nL args "ControlDesk" A D tys) (hP : va_P D xw_Cl (wx h0 b1 b2 u) H) (hD : va_D A (wx h0 b1 b2 u)) (hS : va_S A s.heap H locs) (hdg : decode cc pc = .ok (.putfield 205, 3)) (kk : ∀ (u2 : cs_St) (H1 : Heap) (locs1 : List Loc), u2 = (u.1, vp_updL u.2 24 x) → va_P D xw_Cl (wx h0 b1 b2 u2) H1 → va_D A (wx h0 b1 b2 u2) → va_S A s.heap H1 locs1 → W p l e R s m args below meth c H1 locs1 cells slots Q (F0 m (pc + 3) ls rest)) : W p l e R s m args below meth c H locs cells slots Q (F0 m pc ls (.long x :: .ref b2 :: rest)) :=
  va_putN (D := D) (ci := 0) (v := .long x) (ty := .long) (C := cn_B) (T := ft_B) (N := 6) C.1 C.2.1 C.2.2.2.2.2.1 in_B ty_B tk_B nn_B C.2.2.2.2.1 C.2.2.2.2.2.2.2.1 hP hD hS 2 rfl rfl 5 (by decide) (va_Nw.use rfl (C.2.2.2.2.2.2.2.2.2.2.2.1 _ (List.mem_of_getElem? (i := 6) rfl))) (fun _ h9 => h9) rfl (by decide +kernel) rfl rfl (Nat.le_of_ble_eq_true rfl) hdg (fun H1 locs1 h1 h2 h3 => kk _ H1 locs1 rfl h1 h2 h3)
theorem px_clock {h0 b1 b2 : Nat} {u : cs_St} {x : Int64} (C : ck_C p s m meth c cc ret nL args "ControlDesk" A D tys) (hP : va_P D xw_Cl (wx h0 b1 b2 u) H) (hD : va_D A (wx h0 b1 b2 u)) (hS : va_S A s.heap H locs) (hdg : decode cc pc = .ok (.putfield 159, 3)) (kk : ∀ (u2 : cs_St) (H1 : Heap) (locs1 : List Loc), u2 = (u.1, vp_updL u.2 10 x) → va_P D xw_Cl (wx h0 b1 b2 u2) H1 → va_D A (wx h0 b1 b2 u2) → va_S A s.heap H1 locs1 → W p l e R s m args below meth c H1 locs1 cells slots Q (F0 m (pc + 3) ls rest)) : W p l e R s m args below meth c H locs cells slots Q (F0 m pc ls (.long x :: .ref h0 :: rest)) :=
  va_put (D := D) (ci := 1) (v := .long x) (ty := .long) (C := cn_X) (T := ft_X) (N := 16) C.1 C.2.1 C.2.2.2.2.2.1 in_X ty_X tk_X nn_X C.2.2.2.2.1 C.2.2.2.2.2.2.2.1 hP hD hS 0 rfl rfl 13 (by decide) (C.2.2.2.2.2.1 _ mw_63) (fun _ h9 => h9) rfl (by decide +kernel) rfl rfl (Nat.le_of_ble_eq_true rfl) hdg (fun H1 locs1 h1 h2 h3 => kk _ H1 locs1 rfl h1 h2 h3)
theorem px_currentMode {h0 b1 b2 : Nat} {u : cs_St} {x : Int32} (C : ck_C p s m meth c cc ret nL args "ControlDesk" A D tys) (hP : va_P D xw_Cl (wx h0 b1 b2 u) H) (hD : va_D A (wx h0 b1 b2 u)) (hS : va_S A s.heap H locs) (hdg : decode cc pc = .ok (.putfield 19, 3)) (kk : ∀ (u2 : cs_St) (H1 : Heap) (locs1 : List Loc), u2 = (x, u.2) → va_P D xw_Cl (wx h0 b1 b2 u2) H1 → va_D A (wx h0 b1 b2 u2) → va_S A s.heap H1 locs1 → W p l e R s m args below meth c H1 locs1 cells slots Q (F0 m (pc + 3) ls rest)) : W p l e R s m args below meth c H locs cells slots Q (F0 m pc ls (.int x :: .ref h0 :: rest)) :=
  va_put (D := D) (ci := 1) (v := .int x) (ty := .int) (C := cn_X) (T := ft_X) (N := 16) C.1 C.2.1 C.2.2.2.2.2.1 in_X ty_X tk_X nn_X C.2.2.2.2.1 C.2.2.2.2.2.2.2.1 hP hD hS 0 rfl rfl 3 (by decide) (C.2.2.2.2.2.1 _ mw_64) (fun _ h9 => h9) rfl (by decide +kernel) rfl rfl (Nat.le_of_ble_eq_true rfl) hdg (fun H1 locs1 h1 h2 h3 => kk _ H1 locs1 rfl h1 h2 h3)
theorem px_cycleCount {h0 b1 b2 : Nat} {u : cs_St} {x : Int64} (C : ck_C p s m meth c cc ret nL args "ControlDesk" A D tys) (hP : va_P D xw_Cl (wx h0 b1 b2 u) H) (hD : va_D A (wx h0 b1 b2 u)) (hS : va_S A s.heap H locs) (hdg : decode cc pc = .ok (.putfield 153, 3)) (kk : ∀ (u2 : cs_St) (H1 : Heap) (locs1 : List Loc), u2 = (u.1, vp_updL u.2 8 x) → va_P D xw_Cl (wx h0 b1 b2 u2) H1 → va_D A (wx h0 b1 b2 u2) → va_S A s.heap H1 locs1 → W p l e R s m args below meth c H1 locs1 cells slots Q (F0 m (pc + 3) ls rest)) : W p l e R s m args below meth c H locs cells slots Q (F0 m pc ls (.long x :: .ref h0 :: rest)) :=
  va_put (D := D) (ci := 1) (v := .long x) (ty := .long) (C := cn_X) (T := ft_X) (N := 16) C.1 C.2.1 C.2.2.2.2.2.1 in_X ty_X tk_X nn_X C.2.2.2.2.1 C.2.2.2.2.2.2.2.1 hP hD hS 0 rfl rfl 11 (by decide) (C.2.2.2.2.2.1 _ mw_65) (fun _ h9 => h9) rfl (by decide +kernel) rfl rfl (Nat.le_of_ble_eq_true rfl) hdg (fun H1 locs1 h1 h2 h3 => kk _ H1 locs1 rfl h1 h2 h3)
theorem px_delegatedExceptions {h0 b1 b2 : Nat} {u : cs_St} {x : Int64} (C : ck_C p s m meth c cc ret nL args "ControlDesk" A D tys) (hP : va_P D xw_Cl (wx h0 b1 b2 u) H) (hD : va_D A (wx h0 b1 b2 u)) (hS : va_S A s.heap H locs) (hdg : decode cc pc = .ok (.putfield 190, 3)) (kk : ∀ (u2 : cs_St) (H1 : Heap) (locs1 : List Loc), u2 = (u.1, vp_updL u.2 2 x) → va_P D xw_Cl (wx h0 b1 b2 u2) H1 → va_D A (wx h0 b1 b2 u2) → va_S A s.heap H1 locs1 → W p l e R s m args below meth c H1 locs1 cells slots Q (F0 m (pc + 3) ls rest)) : W p l e R s m args below meth c H locs cells slots Q (F0 m pc ls (.long x :: .ref h0 :: rest)) :=
  va_put (D := D) (ci := 1) (v := .long x) (ty := .long) (C := cn_X) (T := ft_X) (N := 16) C.1 C.2.1 C.2.2.2.2.2.1 in_X ty_X tk_X nn_X C.2.2.2.2.1 C.2.2.2.2.2.2.2.1 hP hD hS 0 rfl rfl 5 (by decide) (C.2.2.2.2.2.1 _ mw_66) (fun _ h9 => h9) rfl (by decide +kernel) rfl rfl (Nat.le_of_ble_eq_true rfl) hdg (fun H1 locs1 h1 h2 h3 => kk _ H1 locs1 rfl h1 h2 h3)
theorem px_delegatedInterrupts {h0 b1 b2 : Nat} {u : cs_St} {x : Int64} (C : ck_C p s m meth c cc ret nL args "ControlDesk" A D tys) (hP : va_P D xw_Cl (wx h0 b1 b2 u) H) (hD : va_D A (wx h0 b1 b2 u)) (hS : va_S A s.heap H locs) (hdg : decode cc pc = .ok (.putfield 127, 3)) (kk : ∀ (u2 : cs_St) (H1 : Heap) (locs1 : List Loc), u2 = (u.1, vp_updL u.2 3 x) → va_P D xw_Cl (wx h0 b1 b2 u2) H1 → va_D A (wx h0 b1 b2 u2) → va_S A s.heap H1 locs1 → W p l e R s m args below meth c H1 locs1 cells slots Q (F0 m (pc + 3) ls rest)) : W p l e R s m args below meth c H locs cells slots Q (F0 m pc ls (.long x :: .ref h0 :: rest)) :=
  va_put (D := D) (ci := 1) (v := .long x) (ty := .long) (C := cn_X) (T := ft_X) (N := 16) C.1 C.2.1 C.2.2.2.2.2.1 in_X ty_X tk_X nn_X C.2.2.2.2.1 C.2.2.2.2.2.2.2.1 hP hD hS 0 rfl rfl 6 (by decide) (C.2.2.2.2.2.1 _ mw_67) (fun _ h9 => h9) rfl (by decide +kernel) rfl rfl (Nat.le_of_ble_eq_true rfl) hdg (fun H1 locs1 h1 h2 h3 => kk _ H1 locs1 rfl h1 h2 h3)
theorem px_enabled {h0 b1 b2 : Nat} {u : cs_St} {x : Int64} (C : ck_C p s m meth c cc ret nL args "ControlDesk" A D tys) (hP : va_P D xw_Cl (wx h0 b1 b2 u) H) (hD : va_D A (wx h0 b1 b2 u)) (hS : va_S A s.heap H locs) (hdg : decode cc pc = .ok (.putfield 120, 3)) (kk : ∀ (u2 : cs_St) (H1 : Heap) (locs1 : List Loc), u2 = (u.1, vp_updL u.2 4 x) → va_P D xw_Cl (wx h0 b1 b2 u2) H1 → va_D A (wx h0 b1 b2 u2) → va_S A s.heap H1 locs1 → W p l e R s m args below meth c H1 locs1 cells slots Q (F0 m (pc + 3) ls rest)) : W p l e R s m args below meth c H locs cells slots Q (F0 m pc ls (.long x :: .ref h0 :: rest)) :=
  va_put (D := D) (ci := 1) (v := .long x) (ty := .long) (C := cn_X) (T := ft_X) (N := 16) C.1 C.2.1 C.2.2.2.2.2.1 in_X ty_X tk_X nn_X C.2.2.2.2.1 C.2.2.2.2.2.2.2.1 hP hD hS 0 rfl rfl 7 (by decide) (C.2.2.2.2.2.1 _ mw_68) (fun _ h9 => h9) rfl (by decide +kernel) rfl rfl (Nat.le_of_ble_eq_true rfl) hdg (fun H1 locs1 h1 h2 h3 => kk _ H1 locs1 rfl h1 h2 h3)
theorem px_instructionCount {h0 b1 b2 : Nat} {u : cs_St} {x : Int64} (C : ck_C p s m meth c cc ret nL args "ControlDesk" A D tys) (hP : va_P D xw_Cl (wx h0 b1 b2 u) H) (hD : va_D A (wx h0 b1 b2 u)) (hS : va_S A s.heap H locs) (hdg : decode cc pc = .ok (.putfield 156, 3)) (kk : ∀ (u2 : cs_St) (H1 : Heap) (locs1 : List Loc), u2 = (u.1, vp_updL u.2 9 x) → va_P D xw_Cl (wx h0 b1 b2 u2) H1 → va_D A (wx h0 b1 b2 u2) → va_S A s.heap H1 locs1 → W p l e R s m args below meth c H1 locs1 cells slots Q (F0 m (pc + 3) ls rest)) : W p l e R s m args below meth c H locs cells slots Q (F0 m pc ls (.long x :: .ref h0 :: rest)) :=
  va_put (D := D) (ci := 1) (v := .long x) (ty := .long) (C := cn_X) (T := ft_X) (N := 16) C.1 C.2.1 C.2.2.2.2.2.1 in_X ty_X tk_X nn_X C.2.2.2.2.1 C.2.2.2.2.2.2.2.1 hP hD hS 0 rfl rfl 12 (by decide) (C.2.2.2.2.2.1 _ mw_69) (fun _ h9 => h9) rfl (by decide +kernel) rfl rfl (Nat.le_of_ble_eq_true rfl) hdg (fun H1 locs1 h1 h2 h3 => kk _ H1 locs1 rfl h1 h2 h3)
theorem px_lastHad {h0 b1 b2 : Nat} {u : cs_St} {x : Int64} (C : ck_C p s m meth c cc ret nL args "ControlDesk" A D tys) (hP : va_P D xw_Cl (wx h0 b1 b2 u) H) (hD : va_D A (wx h0 b1 b2 u)) (hS : va_S A s.heap H locs) (hdg : decode cc pc = .ok (.putfield 78, 3)) (kk : ∀ (u2 : cs_St) (H1 : Heap) (locs1 : List Loc), u2 = (u.1, vp_updL u.2 11 x) → va_P D xw_Cl (wx h0 b1 b2 u2) H1 → va_D A (wx h0 b1 b2 u2) → va_S A s.heap H1 locs1 → W p l e R s m args below meth c H1 locs1 cells slots Q (F0 m (pc + 3) ls rest)) : W p l e R s m args below meth c H locs cells slots Q (F0 m pc ls (.long x :: .ref h0 :: rest)) :=
  va_put (D := D) (ci := 1) (v := .long x) (ty := .long) (C := cn_X) (T := ft_X) (N := 16) C.1 C.2.1 C.2.2.2.2.2.1 in_X ty_X tk_X nn_X C.2.2.2.2.1 C.2.2.2.2.2.2.2.1 hP hD hS 0 rfl rfl 14 (by decide) (C.2.2.2.2.2.1 _ mw_70) (fun _ h9 => h9) rfl (by decide +kernel) rfl rfl (Nat.le_of_ble_eq_true rfl) hdg (fun H1 locs1 h1 h2 h3 => kk _ H1 locs1 rfl h1 h2 h3)
theorem px_lastPlace {h0 b1 b2 : Nat} {u : cs_St} {x : Int64} (C : ck_C p s m meth c cc ret nL args "ControlDesk" A D tys) (hP : va_P D xw_Cl (wx h0 b1 b2 u) H) (hD : va_D A (wx h0 b1 b2 u)) (hS : va_S A s.heap H locs) (hdg : decode cc pc = .ok (.putfield 101, 3)) (kk : ∀ (u2 : cs_St) (H1 : Heap) (locs1 : List Loc), u2 = (u.1, vp_updL u.2 12 x) → va_P D xw_Cl (wx h0 b1 b2 u2) H1 → va_D A (wx h0 b1 b2 u2) → va_S A s.heap H1 locs1 → W p l e R s m args below meth c H1 locs1 cells slots Q (F0 m (pc + 3) ls rest)) : W p l e R s m args below meth c H locs cells slots Q (F0 m pc ls (.long x :: .ref h0 :: rest)) :=
  va_put (D := D) (ci := 1) (v := .long x) (ty := .long) (C := cn_X) (T := ft_X) (N := 16) C.1 C.2.1 C.2.2.2.2.2.1 in_X ty_X tk_X nn_X C.2.2.2.2.1 C.2.2.2.2.2.2.2.1 hP hD hS 0 rfl rfl 15 (by decide) (C.2.2.2.2.2.1 _ mw_71) (fun _ h9 => h9) rfl (by decide +kernel) rfl rfl (Nat.le_of_ble_eq_true rfl) hdg (fun H1 locs1 h1 h2 h3 => kk _ H1 locs1 rfl h1 h2 h3)
theorem px_lines {h0 b1 b2 : Nat} {u : cs_St} {x : Int64} (C : ck_C p s m meth c cc ret nL args "ControlDesk" A D tys) (hP : va_P D xw_Cl (wx h0 b1 b2 u) H) (hD : va_D A (wx h0 b1 b2 u)) (hS : va_S A s.heap H locs) (hdg : decode cc pc = .ok (.putfield 141, 3)) (kk : ∀ (u2 : cs_St) (H1 : Heap) (locs1 : List Loc), u2 = (u.1, vp_updL u.2 6 x) → va_P D xw_Cl (wx h0 b1 b2 u2) H1 → va_D A (wx h0 b1 b2 u2) → va_S A s.heap H1 locs1 → W p l e R s m args below meth c H1 locs1 cells slots Q (F0 m (pc + 3) ls rest)) : W p l e R s m args below meth c H locs cells slots Q (F0 m pc ls (.long x :: .ref h0 :: rest)) :=
  va_put (D := D) (ci := 1) (v := .long x) (ty := .long) (C := cn_X) (T := ft_X) (N := 16) C.1 C.2.1 C.2.2.2.2.2.1 in_X ty_X tk_X nn_X C.2.2.2.2.1 C.2.2.2.2.2.2.2.1 hP hD hS 0 rfl rfl 9 (by decide) (C.2.2.2.2.2.1 _ mw_72) (fun _ h9 => h9) rfl (by decide +kernel) rfl rfl (Nat.le_of_ble_eq_true rfl) hdg (fun H1 locs1 h1 h2 h3 => kk _ H1 locs1 rfl h1 h2 h3)
theorem px_pendingWritten {h0 b1 b2 : Nat} {u : cs_St} {x : Int64} (C : ck_C p s m meth c cc ret nL args "ControlDesk" A D tys) (hP : va_P D xw_Cl (wx h0 b1 b2 u) H) (hD : va_D A (wx h0 b1 b2 u)) (hS : va_S A s.heap H locs) (hdg : decode cc pc = .ok (.putfield 180, 3)) (kk : ∀ (u2 : cs_St) (H1 : Heap) (locs1 : List Loc), u2 = (u.1, vp_updL u.2 5 x) → va_P D xw_Cl (wx h0 b1 b2 u2) H1 → va_D A (wx h0 b1 b2 u2) → va_S A s.heap H1 locs1 → W p l e R s m args below meth c H1 locs1 cells slots Q (F0 m (pc + 3) ls rest)) : W p l e R s m args below meth c H locs cells slots Q (F0 m pc ls (.long x :: .ref h0 :: rest)) :=
  va_put (D := D) (ci := 1) (v := .long x) (ty := .long) (C := cn_X) (T := ft_X) (N := 16) C.1 C.2.1 C.2.2.2.2.2.1 in_X ty_X tk_X nn_X C.2.2.2.2.1 C.2.2.2.2.2.2.2.1 hP hD hS 0 rfl rfl 8 (by decide) (C.2.2.2.2.2.1 _ mw_74) (fun _ h9 => h9) rfl (by decide +kernel) rfl rfl (Nat.le_of_ble_eq_true rfl) hdg (fun H1 locs1 h1 h2 h3 => kk _ H1 locs1 rfl h1 h2 h3)
theorem px_status {h0 b1 b2 : Nat} {u : cs_St} {x : Int64} (C : ck_C p s m meth c cc ret nL args "ControlDesk" A D tys) (hP : va_P D xw_Cl (wx h0 b1 b2 u) H) (hD : va_D A (wx h0 b1 b2 u)) (hS : va_S A s.heap H locs) (hdg : decode cc pc = .ok (.putfield 57, 3)) (kk : ∀ (u2 : cs_St) (H1 : Heap) (locs1 : List Loc), u2 = (u.1, vp_updL u.2 1 x) → va_P D xw_Cl (wx h0 b1 b2 u2) H1 → va_D A (wx h0 b1 b2 u2) → va_S A s.heap H1 locs1 → W p l e R s m args below meth c H1 locs1 cells slots Q (F0 m (pc + 3) ls rest)) : W p l e R s m args below meth c H locs cells slots Q (F0 m pc ls (.long x :: .ref h0 :: rest)) :=
  va_put (D := D) (ci := 1) (v := .long x) (ty := .long) (C := cn_X) (T := ft_X) (N := 16) C.1 C.2.1 C.2.2.2.2.2.1 in_X ty_X tk_X nn_X C.2.2.2.2.1 C.2.2.2.2.2.2.2.1 hP hD hS 0 rfl rfl 4 (by decide) (C.2.2.2.2.2.1 _ mw_76) (fun _ h9 => h9) rfl (by decide +kernel) rfl rfl (Nat.le_of_ble_eq_true rfl) hdg (fun H1 locs1 h1 h2 h3 => kk _ H1 locs1 rfl h1 h2 h3)
theorem px_table {h0 b1 b2 : Nat} {u : cs_St} {x : Int64} (C : ck_C p s m meth c cc ret nL args "ControlDesk" A D tys) (hP : va_P D xw_Cl (wx h0 b1 b2 u) H) (hD : va_D A (wx h0 b1 b2 u)) (hS : va_S A s.heap H locs) (hdg : decode cc pc = .ok (.putfield 208, 3)) (kk : ∀ (u2 : cs_St) (H1 : Heap) (locs1 : List Loc), u2 = (u.1, vp_updL u.2 7 x) → va_P D xw_Cl (wx h0 b1 b2 u2) H1 → va_D A (wx h0 b1 b2 u2) → va_S A s.heap H1 locs1 → W p l e R s m args below meth c H1 locs1 cells slots Q (F0 m (pc + 3) ls rest)) : W p l e R s m args below meth c H locs cells slots Q (F0 m pc ls (.long x :: .ref h0 :: rest)) :=
  va_put (D := D) (ci := 1) (v := .long x) (ty := .long) (C := cn_X) (T := ft_X) (N := 16) C.1 C.2.1 C.2.2.2.2.2.1 in_X ty_X tk_X nn_X C.2.2.2.2.1 C.2.2.2.2.2.2.2.1 hP hD hS 0 rfl rfl 10 (by decide) (C.2.2.2.2.2.1 _ mw_78) (fun _ h9 => h9) rfl (by decide +kernel) rfl rfl (Nat.le_of_ble_eq_true rfl) hdg (fun H1 locs1 h1 h2 h3 => kk _ H1 locs1 rfl h1 h2 h3)
end XF
end
section
set_option maxRecDepth 20000 in
theorem cw_B_22 {R : Room} {s : State} {args : Array Value} (hT : ∀ w ∈ xw_T, w.before args s = true) (hR : rm_B1_keepResume.frames + 1 ≤ R.frames ∧ 8 + (3 + 11) + rm_B1_keepResume.locals ≤ R.locals) : CallW R s args "ControlDesk$Bank" "ControlDesk$Bank" 22 yn_B_keepResume bc_B_keepResume 3 none w_B1_keepResume rm_B1_keepResume 0 0 1 :=
  ⟨callB_of 1 hT (xw_good mc_B_keepResume) rfl rfl rfl (hT _ mw_83) (hT _ mw_86) (by decide +kernel) hR, hT _ mw_84, hT _ mw_85⟩
set_option maxRecDepth 20000 in
theorem cw_M_106 {R : Room} {s : State} {args : Array Value} (hT : ∀ w ∈ xw_T, w.before args s = true) (hR : rm_M_isIllegal.frames + 1 ≤ R.frames ∧ 8 + (7 + 11) + rm_M_isIllegal.locals ≤ R.locals) : CallW R s args "ControlDeskModel" "ControlDeskModel" 106 yn_M_isIllegal bc_M_isIllegal 7 (some .boolean) w_M_isIllegal rm_M_isIllegal 0 0 2 :=
  ⟨callB_of 2 hT (xw_good mc_M_isIllegal) rfl rfl rfl (hT _ mw_88) (hT _ mw_91) (by decide +kernel) hR, hT _ mw_89, hT _ mw_90⟩
set_option maxRecDepth 20000 in
theorem cw_M_115 {R : Room} {s : State} {args : Array Value} (hT : ∀ w ∈ xw_T, w.before args s = true) (hR : rm_M_write.frames + 1 ≤ R.frames ∧ 8 + (6 + 11) + rm_M_write.locals ≤ R.locals) : CallW R s args "ControlDeskModel" "ControlDeskModel" 115 yn_M_write bc_M_write 6 none w_M_write rm_M_write 0 0 2 :=
  ⟨callB_of 2 hT (xw_good mc_M_write) rfl rfl rfl (hT _ mw_88) (hT _ mw_95) (by decide +kernel) hR, hT _ mw_93, hT _ mw_94⟩
set_option maxRecDepth 20000 in
theorem cw_M_123 {R : Room} {s : State} {args : Array Value} (hT : ∀ w ∈ xw_T, w.before args s = true) (hR : rm_M_beginning.frames + 1 ≤ R.frames ∧ 8 + (6 + 11) + rm_M_beginning.locals ≤ R.locals) : CallB R s args "ControlDeskModel" 123 yn_M_beginning bc_M_beginning 6 (some .long) w_M_beginning rm_M_beginning 0 0 3 ∧ (Cond.static yn_M_beginning).before args s = true :=
  ⟨callB_of 3 hT (xw_good mc_M_beginning) rfl rfl rfl (hT _ mw_88) (hT _ mw_97) (by decide +kernel) hR, hT _ mw_98⟩
set_option maxRecDepth 20000 in
theorem cw_M_130 {R : Room} {s : State} {args : Array Value} (hT : ∀ w ∈ xw_T, w.before args s = true) (hR : rm_M_isPending.frames + 1 ≤ R.frames ∧ 8 + (2 + 11) + rm_M_isPending.locals ≤ R.locals) : CallW R s args "ControlDeskModel" "ControlDeskModel" 130 yn_M_isPending bc_M_isPending 2 (some .boolean) w_M_isPending rm_M_isPending 0 0 1 :=
  ⟨callB_of 1 hT (xw_good mc_M_isPending) rfl rfl rfl (hT _ mw_88) (hT _ mw_102) (by decide +kernel) hR, hT _ mw_100, hT _ mw_101⟩
set_option maxRecDepth 20000 in
theorem cw_M_133 {R : Room} {s : State} {args : Array Value} (hT : ∀ w ∈ xw_T, w.before args s = true) (hR : rm_M_mayBe.frames + 1 ≤ R.frames ∧ 8 + (5 + 11) + rm_M_mayBe.locals ≤ R.locals) : CallW R s args "ControlDeskModel" "ControlDeskModel" 133 yn_M_mayBe bc_M_mayBe 5 (some .boolean) w_M_mayBe rm_M_mayBe 0 0 2 :=
  ⟨callB_of 2 hT (xw_good mc_M_mayBe) rfl rfl rfl (hT _ mw_88) (hT _ mw_106) (by decide +kernel) hR, hT _ mw_104, hT _ mw_105⟩
set_option maxRecDepth 20000 in
theorem cw_M_136 {R : Room} {s : State} {args : Array Value} (hT : ∀ w ∈ xw_T, w.before args s = true) (hR : rm_M_first.frames + 1 ≤ R.frames ∧ 8 + (4 + 11) + rm_M_first.locals ≤ R.locals) : CallW R s args "ControlDeskModel" "ControlDeskModel" 136 yn_M_first bc_M_first 4 (some .int) w_M_first rm_M_first 0 0 1 :=
  ⟨callB_of 1 hT (xw_good mc_M_first) rfl rfl rfl (hT _ mw_88) (hT _ mw_110) (by decide +kernel) hR, hT _ mw_108, hT _ mw_109⟩
set_option maxRecDepth 20000 in
theorem cw_M_29 {R : Room} {s : State} {args : Array Value} (hT : ∀ w ∈ xw_T, w.before args s = true) (hR : rm_M_status.frames + 1 ≤ R.frames ∧ 8 + (2 + 11) + rm_M_status.locals ≤ R.locals) : CallW R s args "ControlDeskModel" "ControlDeskModel" 29 yn_M_status bc_M_status 2 (some .int) w_M_status rm_M_status 0 0 1 :=
  ⟨callB_of 1 hT (xw_good mc_M_status) rfl rfl rfl (hT _ mw_88) (hT _ mw_114) (by decide +kernel) hR, hT _ mw_112, hT _ mw_113⟩
set_option maxRecDepth 20000 in
theorem cw_M_33 {R : Room} {s : State} {args : Array Value} (hT : ∀ w ∈ xw_T, w.before args s = true) (hR : rm_M_below.frames + 1 ≤ R.frames ∧ 8 + (1 + 11) + rm_M_below.locals ≤ R.locals) : CallW R s args "ControlDeskModel" "ControlDeskModel" 33 yn_M_below bc_M_below 1 (some .int) w_M_below rm_M_below 0 0 0 :=
  ⟨callB_of 0 hT (xw_good mc_M_below) rfl rfl rfl (hT _ mw_88) (hT _ mw_118) (by decide +kernel) hR, hT _ mw_116, hT _ mw_117⟩
set_option maxRecDepth 20000 in
theorem cw_M_37 {R : Room} {s : State} {args : Array Value} (hT : ∀ w ∈ xw_T, w.before args s = true) (hR : rm_M_isCount.frames + 1 ≤ R.frames ∧ 8 + (1 + 11) + rm_M_isCount.locals ≤ R.locals) : CallB R s args "ControlDeskModel" 37 yn_M_isCount bc_M_isCount 1 (some .boolean) w_M_isCount rm_M_isCount 0 0 1 ∧ (Cond.static yn_M_isCount).before args s = true :=
  ⟨callB_of 1 hT (xw_good mc_M_isCount) rfl rfl rfl (hT _ mw_88) (hT _ mw_120) (by decide +kernel) hR, hT _ mw_121⟩
set_option maxRecDepth 20000 in
theorem cw_M_41 {R : Room} {s : State} {args : Array Value} (hT : ∀ w ∈ xw_T, w.before args s = true) (hR : rm_M_isElsewhere.frames + 1 ≤ R.frames ∧ 8 + (1 + 11) + rm_M_isElsewhere.locals ≤ R.locals) : CallB R s args "ControlDeskModel" 41 yn_M_isElsewhere bc_M_isElsewhere 1 (some .boolean) w_M_isElsewhere rm_M_isElsewhere 0 0 1 ∧ (Cond.static yn_M_isElsewhere).before args s = true :=
  ⟨callB_of 1 hT (xw_good mc_M_isElsewhere) rfl rfl rfl (hT _ mw_88) (hT _ mw_123) (by decide +kernel) hR, hT _ mw_124⟩
set_option maxRecDepth 20000 in
theorem cw_M_44 {R : Room} {s : State} {args : Array Value} (hT : ∀ w ∈ xw_T, w.before args s = true) (hR : rm_M_floating.frames + 1 ≤ R.frames ∧ 8 + (1 + 11) + rm_M_floating.locals ≤ R.locals) : CallW R s args "ControlDeskModel" "ControlDeskModel" 44 yn_M_floating bc_M_floating 1 (some .int) w_M_floating rm_M_floating 0 0 0 :=
  ⟨callB_of 0 hT (xw_good mc_M_floating) rfl rfl rfl (hT _ mw_88) (hT _ mw_128) (by decide +kernel) hR, hT _ mw_126, hT _ mw_127⟩
set_option maxRecDepth 20000 in
theorem cw_M_51 {R : Room} {s : State} {args : Array Value} (hT : ∀ w ∈ xw_T, w.before args s = true) (hR : rm_M_statusSeen.frames + 1 ≤ R.frames ∧ 8 + (6 + 11) + rm_M_statusSeen.locals ≤ R.locals) : CallB R s args "ControlDeskModel" 51 yn_M_statusSeen bc_M_statusSeen 6 (some .long) w_M_statusSeen rm_M_statusSeen 0 0 1 ∧ (Cond.static yn_M_statusSeen).before args s = true :=
  ⟨callB_of 1 hT (xw_good mc_M_statusSeen) rfl rfl rfl (hT _ mw_88) (hT _ mw_130) (by decide +kernel) hR, hT _ mw_131⟩
set_option maxRecDepth 20000 in
theorem cw_M_59 {R : Room} {s : State} {args : Array Value} (hT : ∀ w ∈ xw_T, w.before args s = true) (hR : rm_M_lineBits.frames + 1 ≤ R.frames ∧ 8 + (4 + 11) + rm_M_lineBits.locals ≤ R.locals) : CallW R s args "ControlDeskModel" "ControlDeskModel" 59 yn_M_lineBits bc_M_lineBits 4 (some .long) w_M_lineBits rm_M_lineBits 0 0 0 :=
  ⟨callB_of 0 hT (xw_good mc_M_lineBits) rfl rfl rfl (hT _ mw_88) (hT _ mw_135) (by decide +kernel) hR, hT _ mw_133, hT _ mw_134⟩
set_option maxRecDepth 20000 in
theorem cw_M_67 {R : Room} {s : State} {args : Array Value} (hT : ∀ w ∈ xw_T, w.before args s = true) (hR : rm_M_isThere.frames + 1 ≤ R.frames ∧ 8 + (3 + 11) + rm_M_isThere.locals ≤ R.locals) : CallB R s args "ControlDeskModel" 67 yn_M_isThere bc_M_isThere 3 (some .boolean) w_M_isThere rm_M_isThere 0 0 1 ∧ (Cond.static yn_M_isThere).before args s = true :=
  ⟨callB_of 1 hT (xw_good mc_M_isThere) rfl rfl rfl (hT _ mw_88) (hT _ mw_137) (by decide +kernel) hR, hT _ mw_138⟩
set_option maxRecDepth 20000 in
theorem cw_M_70 {R : Room} {s : State} {args : Array Value} (hT : ∀ w ∈ xw_T, w.before args s = true) (hR : rm_M_shown.frames + 1 ≤ R.frames ∧ 8 + (4 + 11) + rm_M_shown.locals ≤ R.locals) : CallW R s args "ControlDeskModel" "ControlDeskModel" 70 yn_M_shown bc_M_shown 4 (some .long) w_M_shown rm_M_shown 0 0 1 :=
  ⟨callB_of 1 hT (xw_good mc_M_shown) rfl rfl rfl (hT _ mw_88) (hT _ mw_142) (by decide +kernel) hR, hT _ mw_140, hT _ mw_141⟩
set_option maxRecDepth 20000 in
theorem cw_M_74 {R : Room} {s : State} {args : Array Value} (hT : ∀ w ∈ xw_T, w.before args s = true) (hR : rm_M_through.frames + 1 ≤ R.frames ∧ 8 + (6 + 11) + rm_M_through.locals ≤ R.locals) : CallW R s args "ControlDeskModel" "ControlDeskModel" 74 yn_M_through bc_M_through 6 none w_M_through rm_M_through 0 0 3 :=
  ⟨callB_of 3 hT (xw_good mc_M_through) rfl rfl rfl (hT _ mw_88) (hT _ mw_146) (by decide +kernel) hR, hT _ mw_144, hT _ mw_145⟩
set_option maxRecDepth 20000 in
theorem cw_M_78 {R : Room} {s : State} {args : Array Value} (hT : ∀ w ∈ xw_T, w.before args s = true) (hR : rm_M_put.frames + 1 ≤ R.frames ∧ 8 + (3 + 11) + rm_M_put.locals ≤ R.locals) : CallW R s args "ControlDeskModel" "ControlDeskModel" 78 yn_M_put bc_M_put 3 none w_M_put rm_M_put 0 0 2 :=
  ⟨callB_of 2 hT (xw_good mc_M_put) rfl rfl rfl (hT _ mw_88) (hT _ mw_150) (by decide +kernel) hR, hT _ mw_148, hT _ mw_149⟩
set_option maxRecDepth 20000 in
theorem cw_M_82 {R : Room} {s : State} {args : Array Value} (hT : ∀ w ∈ xw_T, w.before args s = true) (hR : rm_M_writeStatus.frames + 1 ≤ R.frames ∧ 8 + (6 + 11) + rm_M_writeStatus.locals ≤ R.locals) : CallW R s args "ControlDeskModel" "ControlDeskModel" 82 yn_M_writeStatus bc_M_writeStatus 6 none w_M_writeStatus rm_M_writeStatus 0 0 2 :=
  ⟨callB_of 2 hT (xw_good mc_M_writeStatus) rfl rfl rfl (hT _ mw_88) (hT _ mw_154) (by decide +kernel) hR, hT _ mw_152, hT _ mw_153⟩
set_option maxRecDepth 20000 in
theorem cw_X_104 {R : Room} {s : State} {args : Array Value} (hT : ∀ w ∈ xw_T, w.before args s = true) (hR : rm_X_mayReturn.frames + 1 ≤ R.frames ∧ 8 + (2 + 11) + rm_X_mayReturn.locals ≤ R.locals) : CallW R s args "ControlDesk" "ControlDesk" 104 yn_X_mayReturn bc_X_mayReturn 2 (some .boolean) w_X_mayReturn rm_X_mayReturn 0 0 1 :=
  ⟨callB_of 1 hT (xw_good mc_X_mayReturn) rfl rfl rfl (hT _ mw_156) (hT _ mw_159) (by decide +kernel) hR, hT _ mw_157, hT _ mw_158⟩
set_option maxRecDepth 20000 in
theorem cw_X_108 {R : Room} {s : State} {args : Array Value} (hT : ∀ w ∈ xw_T, w.before args s = true) (hR : rm_X_leaveMachine.frames + 1 ≤ R.frames ∧ 8 + (3 + 11) + rm_X_leaveMachine.locals ≤ R.locals) : CallW R s args "ControlDesk" "ControlDesk" 108 yn_X_leaveMachine bc_X_leaveMachine 3 none w_X_leaveMachine rm_X_leaveMachine 0 0 0 :=
  ⟨callB_of 0 hT (xw_good mc_X_leaveMachine) rfl rfl rfl (hT _ mw_156) (hT _ mw_163) (by decide +kernel) hR, hT _ mw_161, hT _ mw_162⟩
set_option maxRecDepth 20000 in
theorem cw_X_111 {R : Room} {s : State} {args : Array Value} (hT : ∀ w ∈ xw_T, w.before args s = true) (hR : rm_X_leaveSupervisor.frames + 1 ≤ R.frames ∧ 8 + (3 + 11) + rm_X_leaveSupervisor.locals ≤ R.locals) : CallW R s args "ControlDesk" "ControlDesk" 111 yn_X_leaveSupervisor bc_X_leaveSupervisor 3 none w_X_leaveSupervisor rm_X_leaveSupervisor 0 0 0 :=
  ⟨callB_of 0 hT (xw_good mc_X_leaveSupervisor) rfl rfl rfl (hT _ mw_156) (hT _ mw_167) (by decide +kernel) hR, hT _ mw_165, hT _ mw_166⟩
set_option maxRecDepth 20000 in
theorem cw_X_116 {R : Room} {s : State} {args : Array Value} (hT : ∀ w ∈ xw_T, w.before args s = true) (hR : rm_X_pending.frames + 1 ≤ R.frames ∧ 8 + (1 + 11) + rm_X_pending.locals ≤ R.locals) : CallW R s args "ControlDesk" "ControlDesk" 116 yn_X_pending bc_X_pending 1 (some .long) w_X_pending rm_X_pending 0 0 0 :=
  ⟨callB_of 0 hT (xw_good mc_X_pending) rfl rfl rfl (hT _ mw_156) (hT _ mw_171) (by decide +kernel) hR, hT _ mw_169, hT _ mw_170⟩
set_option maxRecDepth 20000 in
theorem cw_X_123 {R : Room} {s : State} {args : Array Value} (hT : ∀ w ∈ xw_T, w.before args s = true) (hR : rm_X_takesUndelegated.frames + 1 ≤ R.frames ∧ 8 + (1 + 11) + rm_X_takesUndelegated.locals ≤ R.locals) : CallW R s args "ControlDesk" "ControlDesk" 123 yn_X_takesUndelegated bc_X_takesUndelegated 1 (some .boolean) w_X_takesUndelegated rm_X_takesUndelegated 0 0 0 :=
  ⟨callB_of 0 hT (xw_good mc_X_takesUndelegated) rfl rfl rfl (hT _ mw_156) (hT _ mw_175) (by decide +kernel) hR, hT _ mw_173, hT _ mw_174⟩
set_option maxRecDepth 20000 in
theorem cw_X_132 {R : Room} {s : State} {args : Array Value} (hT : ∀ w ∈ xw_T, w.before args s = true) (hR : rm_X_firstInOrder.frames + 1 ≤ R.frames ∧ 8 + (6 + 11) + rm_X_firstInOrder.locals ≤ R.locals) : CallB R s args "ControlDesk" 132 yn_X_firstInOrder bc_X_firstInOrder 6 (some .int) w_X_firstInOrder rm_X_firstInOrder 0 0 1 ∧ (Cond.static yn_X_firstInOrder).before args s = true :=
  ⟨callB_of 1 hT (xw_good mc_X_firstInOrder) rfl rfl rfl (hT _ mw_156) (hT _ mw_177) (by decide +kernel) hR, hT _ mw_178⟩
set_option maxRecDepth 20000 in
theorem cw_X_136 {R : Room} {s : State} {args : Array Value} (hT : ∀ w ∈ xw_T, w.before args s = true) (hR : rm_X_takesDelegated.frames + 1 ≤ R.frames ∧ 8 + (1 + 11) + rm_X_takesDelegated.locals ≤ R.locals) : CallW R s args "ControlDesk" "ControlDesk" 136 yn_X_takesDelegated bc_X_takesDelegated 1 (some .boolean) w_X_takesDelegated rm_X_takesDelegated 0 0 0 :=
  ⟨callB_of 0 hT (xw_good mc_X_takesDelegated) rfl rfl rfl (hT _ mw_156) (hT _ mw_182) (by decide +kernel) hR, hT _ mw_180, hT _ mw_181⟩
set_option maxRecDepth 20000 in
theorem cw_X_150 {R : Room} {s : State} {args : Array Value} (hT : ∀ w ∈ xw_T, w.before args s = true) (hR : rm_X_machineOrSupervisorWithout.frames + 1 ≤ R.frames ∧ 8 + (3 + 11) + rm_X_machineOrSupervisorWithout.locals ≤ R.locals) : CallW R s args "ControlDesk" "ControlDesk" 150 yn_X_machineOrSupervisorWithout bc_X_machineOrSupervisorWithout 3 (some .boolean) w_X_machineOrSupervisorWithout rm_X_machineOrSupervisorWithout 0 0 1 :=
  ⟨callB_of 1 hT (xw_good mc_X_machineOrSupervisorWithout) rfl rfl rfl (hT _ mw_156) (hT _ mw_186) (by decide +kernel) hR, hT _ mw_184, hT _ mw_185⟩
set_option maxRecDepth 20000 in
theorem cw_X_164 {R : Room} {s : State} {args : Array Value} (hT : ∀ w ∈ xw_T, w.before args s = true) (hR : rm_X_isHere.frames + 1 ≤ R.frames ∧ 8 + (1 + 11) + rm_X_isHere.locals ≤ R.locals) : CallB R s args "ControlDesk" 164 yn_X_isHere bc_X_isHere 1 (some .boolean) w_X_isHere rm_X_isHere 0 0 1 ∧ (Cond.static yn_X_isHere).before args s = true :=
  ⟨callB_of 1 hT (xw_good mc_X_isHere) rfl rfl rfl (hT _ mw_156) (hT _ mw_188) (by decide +kernel) hR, hT _ mw_189⟩
set_option maxRecDepth 20000 in
theorem cw_X_167 {R : Room} {s : State} {args : Array Value} (hT : ∀ w ∈ xw_T, w.before args s = true) (hR : rm_X_isOpenCount.frames + 1 ≤ R.frames ∧ 8 + (1 + 11) + rm_X_isOpenCount.locals ≤ R.locals) : CallB R s args "ControlDesk" 167 yn_X_isOpenCount bc_X_isOpenCount 1 (some .boolean) w_X_isOpenCount rm_X_isOpenCount 0 0 1 ∧ (Cond.static yn_X_isOpenCount).before args s = true :=
  ⟨callB_of 1 hT (xw_good mc_X_isOpenCount) rfl rfl rfl (hT _ mw_156) (hT _ mw_191) (by decide +kernel) hR, hT _ mw_192⟩
set_option maxRecDepth 20000 in
theorem cw_X_170 {R : Room} {s : State} {args : Array Value} (hT : ∀ w ∈ xw_T, w.before args s = true) (hR : rm_X_isClosed.frames + 1 ≤ R.frames ∧ 8 + (4 + 11) + rm_X_isClosed.locals ≤ R.locals) : CallW R s args "ControlDesk" "ControlDesk" 170 yn_X_isClosed bc_X_isClosed 4 (some .boolean) w_X_isClosed rm_X_isClosed 0 0 1 :=
  ⟨callB_of 1 hT (xw_good mc_X_isClosed) rfl rfl rfl (hT _ mw_156) (hT _ mw_196) (by decide +kernel) hR, hT _ mw_194, hT _ mw_195⟩
set_option maxRecDepth 20000 in
theorem cw_X_183 {R : Room} {s : State} {args : Array Value} (hT : ∀ w ∈ xw_T, w.before args s = true) (hR : rm_X_shownStatus.frames + 1 ≤ R.frames ∧ 8 + (3 + 11) + rm_X_shownStatus.locals ≤ R.locals) : CallW R s args "ControlDesk" "ControlDesk" 183 yn_X_shownStatus bc_X_shownStatus 3 (some .long) w_X_shownStatus rm_X_shownStatus 0 0 0 :=
  ⟨callB_of 0 hT (xw_good mc_X_shownStatus) rfl rfl rfl (hT _ mw_156) (hT _ mw_200) (by decide +kernel) hR, hT _ mw_198, hT _ mw_199⟩
set_option maxRecDepth 20000 in
theorem cw_X_213 {R : Room} {s : State} {args : Array Value} (hT : ∀ w ∈ xw_T, w.before args s = true) (hR : rm_X_merged.frames + 1 ≤ R.frames ∧ 8 + (6 + 11) + rm_X_merged.locals ≤ R.locals) : CallB R s args "ControlDesk" 213 yn_X_merged bc_X_merged 6 (some .long) w_X_merged rm_X_merged 0 0 3 ∧ (Cond.static yn_X_merged).before args s = true :=
  ⟨callB_of 3 hT (xw_good mc_X_merged) rfl rfl rfl (hT _ mw_156) (hT _ mw_202) (by decide +kernel) hR, hT _ mw_203⟩
set_option maxRecDepth 20000 in
theorem cw_X_219 {R : Room} {s : State} {args : Array Value} (hT : ∀ w ∈ xw_T, w.before args s = true) (hR : rm_X_storeStatus.frames + 1 ≤ R.frames ∧ 8 + (8 + 11) + rm_X_storeStatus.locals ≤ R.locals) : CallW R s args "ControlDesk" "ControlDesk" 219 yn_X_storeStatus bc_X_storeStatus 8 none w_X_storeStatus rm_X_storeStatus 0 0 2 :=
  ⟨callB_of 2 hT (xw_good mc_X_storeStatus) rfl rfl rfl (hT _ mw_156) (hT _ mw_207) (by decide +kernel) hR, hT _ mw_205, hT _ mw_206⟩
set_option maxRecDepth 20000 in
theorem cw_X_231 {R : Room} {s : State} {args : Array Value} (hT : ∀ w ∈ xw_T, w.before args s = true) (hR : rm_X_storeSupervisorPending.frames + 1 ≤ R.frames ∧ 8 + (3 + 11) + rm_X_storeSupervisorPending.locals ≤ R.locals) : CallW R s args "ControlDesk" "ControlDesk" 231 yn_X_storeSupervisorPending bc_X_storeSupervisorPending 3 none w_X_storeSupervisorPending rm_X_storeSupervisorPending 0 0 1 :=
  ⟨callB_of 1 hT (xw_good mc_X_storeSupervisorPending) rfl rfl rfl (hT _ mw_156) (hT _ mw_211) (by decide +kernel) hR, hT _ mw_209, hT _ mw_210⟩
set_option maxRecDepth 20000 in
theorem cw_X_235 {R : Room} {s : State} {args : Array Value} (hT : ∀ w ∈ xw_T, w.before args s = true) (hN : ∀ w ∈ xe_N, va_Nw w s) (hR : rm_B1_keepVectors.frames + 1 ≤ R.frames ∧ 8 + (3 + 11) + rm_B1_keepVectors.locals ≤ R.locals) : va_CN R s args "ControlDesk" 235 yn_B_keepVectors "ControlDesk" bc_B_keepVectors 3 none w_B1_keepVectors rm_B1_keepVectors 0 0 1 ∧ (Cond.instanceMethod yn_B_keepVectors).before args s = true ∧ (Cond.selects "ControlDesk$Bank" yn_B_keepVectors yn_B_keepVectors).before args s = true :=
  ⟨va_cnB 1 hT (xw_good mc_B_keepVectors) rfl rfl rfl (hN _ (List.mem_of_getElem? (i := 14) rfl)) (hT _ mw_83) (by decide +kernel) hR, hT _ mw_213, hT _ mw_214⟩
set_option maxRecDepth 20000 in
theorem cw_X_240 {R : Room} {s : State} {args : Array Value} (hT : ∀ w ∈ xw_T, w.before args s = true) (hN : ∀ w ∈ xe_N, va_Nw w s) (hR : rm_B1_keepResume.frames + 1 ≤ R.frames ∧ 8 + (3 + 11) + rm_B1_keepResume.locals ≤ R.locals) : va_CN R s args "ControlDesk" 240 yn_B_keepResume "ControlDesk" bc_B_keepResume 3 none w_B1_keepResume rm_B1_keepResume 0 0 1 ∧ (Cond.instanceMethod yn_B_keepResume).before args s = true ∧ (Cond.selects "ControlDesk$Bank" yn_B_keepResume yn_B_keepResume).before args s = true :=
  ⟨va_cnB 1 hT (xw_good mc_B_keepResume) rfl rfl rfl (hN _ (List.mem_of_getElem? (i := 15) rfl)) (hT _ mw_83) (by decide +kernel) hR, hT _ mw_84, hT _ mw_85⟩
set_option maxRecDepth 20000 in
theorem cw_X_243 {R : Room} {s : State} {args : Array Value} (hT : ∀ w ∈ xw_T, w.before args s = true) (hR : rm_X_storeTable.frames + 1 ≤ R.frames ∧ 8 + (5 + 11) + rm_X_storeTable.locals ≤ R.locals) : CallW R s args "ControlDesk" "ControlDesk" 243 yn_X_storeTable bc_X_storeTable 5 none w_X_storeTable rm_X_storeTable 0 0 1 :=
  ⟨callB_of 1 hT (xw_good mc_X_storeTable) rfl rfl rfl (hT _ mw_156) (hT _ mw_218) (by decide +kernel) hR, hT _ mw_216, hT _ mw_217⟩
set_option maxRecDepth 20000 in
theorem cw_X_29 {R : Room} {s : State} {args : Array Value} (hT : ∀ w ∈ xw_T, w.before args s = true) (hR : rm_X_has.frames + 1 ≤ R.frames ∧ 8 + (3 + 11) + rm_X_has.locals ≤ R.locals) : CallW R s args "ControlDesk" "ControlDesk" 29 yn_X_has bc_X_has 3 (some .boolean) w_X_has rm_X_has 0 0 1 :=
  ⟨callB_of 1 hT (xw_good mc_X_has) rfl rfl rfl (hT _ mw_156) (hT _ mw_222) (by decide +kernel) hR, hT _ mw_220, hT _ mw_221⟩
set_option maxRecDepth 20000 in
theorem cw_X_33 {R : Room} {s : State} {args : Array Value} (hT : ∀ w ∈ xw_T, w.before args s = true) (hR : rm_X_previousMachineMode.frames + 1 ≤ R.frames ∧ 8 + (1 + 11) + rm_X_previousMachineMode.locals ≤ R.locals) : CallW R s args "ControlDesk" "ControlDesk" 33 yn_X_previousMachineMode bc_X_previousMachineMode 1 (some .int) w_X_previousMachineMode rm_X_previousMachineMode 0 0 0 :=
  ⟨callB_of 0 hT (xw_good mc_X_previousMachineMode) rfl rfl rfl (hT _ mw_156) (hT _ mw_226) (by decide +kernel) hR, hT _ mw_224, hT _ mw_225⟩
set_option maxRecDepth 20000 in
theorem cw_X_46 {R : Room} {s : State} {args : Array Value} (hT : ∀ w ∈ xw_T, w.before args s = true) (hR : rm_X_isIllegal.frames + 1 ≤ R.frames ∧ 8 + (5 + 11) + rm_X_isIllegal.locals ≤ R.locals) : CallW R s args "ControlDesk" "ControlDesk" 46 yn_X_isIllegal bc_X_isIllegal 5 (some .boolean) w_X_isIllegal rm_X_isIllegal 0 0 2 :=
  ⟨callB_of 2 hT (xw_good mc_X_isIllegal) rfl rfl rfl (hT _ mw_156) (hT _ mw_230) (by decide +kernel) hR, hT _ mw_228, hT _ mw_229⟩
set_option maxRecDepth 20000 in
theorem cw_X_50 {R : Room} {s : State} {args : Array Value} (hT : ∀ w ∈ xw_T, w.before args s = true) (hR : rm_X_isElsewhere.frames + 1 ≤ R.frames ∧ 8 + (1 + 11) + rm_X_isElsewhere.locals ≤ R.locals) : CallB R s args "ControlDesk" 50 yn_X_isElsewhere bc_X_isElsewhere 1 (some .boolean) w_X_isElsewhere rm_X_isElsewhere 0 0 1 ∧ (Cond.static yn_X_isElsewhere).before args s = true :=
  ⟨callB_of 1 hT (xw_good mc_X_isElsewhere) rfl rfl rfl (hT _ mw_156) (hT _ mw_232) (by decide +kernel) hR, hT _ mw_233⟩
set_option maxRecDepth 20000 in
theorem cw_X_54 {R : Room} {s : State} {args : Array Value} (hT : ∀ w ∈ xw_T, w.before args s = true) (hR : rm_X_isFloat.frames + 1 ≤ R.frames ∧ 8 + (1 + 11) + rm_X_isFloat.locals ≤ R.locals) : CallB R s args "ControlDesk" 54 yn_X_isFloat bc_X_isFloat 1 (some .boolean) w_X_isFloat rm_X_isFloat 0 0 1 ∧ (Cond.static yn_X_isFloat).before args s = true :=
  ⟨callB_of 1 hT (xw_good mc_X_isFloat) rfl rfl rfl (hT _ mw_156) (hT _ mw_235) (by decide +kernel) hR, hT _ mw_236⟩
set_option maxRecDepth 20000 in
theorem cw_X_62 {R : Room} {s : State} {args : Array Value} (hT : ∀ w ∈ xw_T, w.before args s = true) (hR : rm_X_shown.frames + 1 ≤ R.frames ∧ 8 + (2 + 11) + rm_X_shown.locals ≤ R.locals) : CallW R s args "ControlDesk" "ControlDesk" 62 yn_X_shown bc_X_shown 2 (some .long) w_X_shown rm_X_shown 0 0 1 :=
  ⟨callB_of 1 hT (xw_good mc_X_shown) rfl rfl rfl (hT _ mw_156) (hT _ mw_240) (by decide +kernel) hR, hT _ mw_238, hT _ mw_239⟩
set_option maxRecDepth 20000 in
theorem cw_X_66 {R : Room} {s : State} {args : Array Value} (hT : ∀ w ∈ xw_T, w.before args s = true) (hR : rm_X_changeable.frames + 1 ≤ R.frames ∧ 8 + (4 + 11) + rm_X_changeable.locals ≤ R.locals) : CallW R s args "ControlDesk" "ControlDesk" 66 yn_X_changeable bc_X_changeable 4 (some .long) w_X_changeable rm_X_changeable 0 0 2 :=
  ⟨callB_of 2 hT (xw_good mc_X_changeable) rfl rfl rfl (hT _ mw_156) (hT _ mw_244) (by decide +kernel) hR, hT _ mw_242, hT _ mw_243⟩
set_option maxRecDepth 20000 in
theorem cw_X_70 {R : Room} {s : State} {args : Array Value} (hT : ∀ w ∈ xw_T, w.before args s = true) (hR : rm_X_combined.frames + 1 ≤ R.frames ∧ 8 + (5 + 11) + rm_X_combined.locals ≤ R.locals) : CallB R s args "ControlDesk" 70 yn_X_combined bc_X_combined 5 (some .long) w_X_combined rm_X_combined 0 0 3 ∧ (Cond.static yn_X_combined).before args s = true :=
  ⟨callB_of 3 hT (xw_good mc_X_combined) rfl rfl rfl (hT _ mw_156) (hT _ mw_246) (by decide +kernel) hR, hT _ mw_247⟩
set_option maxRecDepth 20000 in
theorem cw_X_74 {R : Room} {s : State} {args : Array Value} (hT : ∀ w ∈ xw_T, w.before args s = true) (hR : rm_X_store.frames + 1 ≤ R.frames ∧ 8 + (4 + 11) + rm_X_store.locals ≤ R.locals) : CallW R s args "ControlDesk" "ControlDesk" 74 yn_X_store bc_X_store 4 none w_X_store rm_X_store 0 0 2 :=
  ⟨callB_of 2 hT (xw_good mc_X_store) rfl rfl rfl (hT _ mw_156) (hT _ mw_251) (by decide +kernel) hR, hT _ mw_249, hT _ mw_250⟩
set_option maxRecDepth 20000 in
theorem cw_X_83 {R : Room} {s : State} {args : Array Value} (hT : ∀ w ∈ xw_T, w.before args s = true) (hR : rm_X_goesToSupervisor.frames + 1 ≤ R.frames ∧ 8 + (5 + 11) + rm_X_goesToSupervisor.locals ≤ R.locals) : CallW R s args "ControlDesk" "ControlDesk" 83 yn_X_goesToSupervisor bc_X_goesToSupervisor 5 (some .boolean) w_X_goesToSupervisor rm_X_goesToSupervisor 0 0 2 :=
  ⟨callB_of 2 hT (xw_good mc_X_goesToSupervisor) rfl rfl rfl (hT _ mw_156) (hT _ mw_255) (by decide +kernel) hR, hT _ mw_253, hT _ mw_254⟩
set_option maxRecDepth 20000 in
theorem cw_X_87 {R : Room} {s : State} {args : Array Value} (hT : ∀ w ∈ xw_T, w.before args s = true) (hR : rm_X_enterSupervisor.frames + 1 ≤ R.frames ∧ 8 + (7 + 11) + rm_X_enterSupervisor.locals ≤ R.locals) : CallW R s args "ControlDesk" "ControlDesk" 87 yn_X_enterSupervisor bc_X_enterSupervisor 7 none w_X_enterSupervisor rm_X_enterSupervisor 0 0 0 :=
  ⟨callB_of 0 hT (xw_good mc_X_enterSupervisor) rfl rfl rfl (hT _ mw_156) (hT _ mw_259) (by decide +kernel) hR, hT _ mw_257, hT _ mw_258⟩
set_option maxRecDepth 20000 in
theorem cw_X_90 {R : Room} {s : State} {args : Array Value} (hT : ∀ w ∈ xw_T, w.before args s = true) (hR : rm_X_enterMachine.frames + 1 ≤ R.frames ∧ 8 + (7 + 11) + rm_X_enterMachine.locals ≤ R.locals) : CallW R s args "ControlDesk" "ControlDesk" 90 yn_X_enterMachine bc_X_enterMachine 7 none w_X_enterMachine rm_X_enterMachine 0 0 0 :=
  ⟨callB_of 0 hT (xw_good mc_X_enterMachine) rfl rfl rfl (hT _ mw_156) (hT _ mw_263) (by decide +kernel) hR, hT _ mw_261, hT _ mw_262⟩
set_option maxRecDepth 20000 in
theorem cw_X_93 {R : Room} {s : State} {args : Array Value} (hT : ∀ w ∈ xw_T, w.before args s = true) (hN : ∀ w ∈ xe_N, va_Nw w s) (hR : rm_B1_remember.frames + 1 ≤ R.frames ∧ 8 + (7 + 11) + rm_B1_remember.locals ≤ R.locals) : va_CN R s args "ControlDesk" 93 yn_B_remember "ControlDesk" bc_B_remember 7 none w_B1_remember rm_B1_remember 0 0 4 ∧ (Cond.instanceMethod yn_B_remember).before args s = true ∧ (Cond.selects "ControlDesk$Bank" yn_B_remember yn_B_remember).before args s = true :=
  ⟨va_cnB 4 hT (xw_good mc_B_remember) rfl rfl rfl (hN _ (List.mem_of_getElem? (i := 16) rfl)) (hT _ mw_83) (by decide +kernel) hR, hT _ mw_265, hT _ mw_266⟩
set_option maxRecDepth 20000 in
theorem cw_X_97 {R : Room} {s : State} {args : Array Value} (hT : ∀ w ∈ xw_T, w.before args s = true) (hN : ∀ w ∈ xe_N, va_Nw w s) (hR : rm_B1_entry.frames + 1 ≤ R.frames ∧ 8 + (6 + 11) + rm_B1_entry.locals ≤ R.locals) : va_CN R s args "ControlDesk" 97 yn_B_entry "ControlDesk" bc_B_entry 6 (some .long) w_B1_entry rm_B1_entry 0 0 2 ∧ (Cond.instanceMethod yn_B_entry).before args s = true ∧ (Cond.selects "ControlDesk$Bank" yn_B_entry yn_B_entry).before args s = true :=
  ⟨va_cnB 2 hT (xw_good mc_B_entry) rfl rfl rfl (hN _ (List.mem_of_getElem? (i := 17) rfl)) (hT _ mw_83) (by decide +kernel) hR, hT _ mw_268, hT _ mw_269⟩
end
section
def f_X_mode (u : cs_St)  : Int32 := (let v1 : Int32 := u.1; v1)
set_option maxHeartbeats 4000000 in
set_option maxRecDepth 100000 in
theorem c_X_mode (l : Launch) (D : va_G) (tys : List (ClassId × FieldType)) (h0 b1 b2 : Nat) (u : cs_St)   : ck_Mi l D tys (wx h0 b1 b2) yn_X_mode w_X_mode rm_X_mode 0 0 [.ref h0] u (f_X_mode u) u := by
  refine ck_enti (cc := bc_X_mode) (maxL := 1) (ret := (some .int)) (by decide) rfl (Nat.le_of_ble_eq_true rfl) ?_
  intro p e s m below meth c A ls C hnm hP hD hS hl
  have C : ck_C p s m meth c bc_X_mode (some .int) 1 #[.ref h0] "ControlDesk" A D tys := C
  have hl : lv_has ls 1 [(0, .ref h0)] := hl
  have hx := C.1
  have hb := C.2.1
  have hown := C.2.2.2.2.1
  have hT := C.2.2.2.2.2.1
  have hK := C.2.2.2.2.2.2.2.1
  have hN := C.2.2.2.2.2.2.2.2.2.2.2.1
  -- from the entry
  refine lv_aload_n hx hb dc_X_mode_0 rfl (lv_at hl 0 rfl) ?_
  refine gx_currentMode C hP dc_X_mode_1 (fun v1 e1 => ?_)
  exact ck_iret (v := v1) C hP hD hS ⟨by subst e1; exact (rfl).symm, rfl⟩ dc_X_mode_4
def f_X_has (u : cs_St) (p1 : Int64) : Int32 := (let v1 : Int64 := u.2 1; let v2 : Int64 := v1 &&& p1; let v3 : Int32 := lg_cmp v2 (0 : Int64); (if v3 = 0 then 0 else 1))
set_option maxHeartbeats 4000000 in
set_option maxRecDepth 100000 in
theorem c_X_has (l : Launch) (D : va_G) (tys : List (ClassId × FieldType)) (h0 b1 b2 : Nat) (u : cs_St) (p1 : Int64)  : ck_Mi l D tys (wx h0 b1 b2) yn_X_has w_X_has rm_X_has 0 0 [.ref h0, .long p1] u (f_X_has u p1) u := by
  refine ck_enti (cc := bc_X_has) (maxL := 3) (ret := (some .boolean)) (by decide) rfl (Nat.le_of_ble_eq_true rfl) ?_
  intro p e s m below meth c A ls C hnm hP hD hS hl
  have C : ck_C p s m meth c bc_X_has (some .boolean) 3 #[.ref h0, .long p1] "ControlDesk" A D tys := C
  have hl : lv_has ls 3 [(0, .ref h0), (1, .long p1)] := hl
  have hx := C.1
  have hb := C.2.1
  have hown := C.2.2.2.2.1
  have hT := C.2.2.2.2.2.1
  have hK := C.2.2.2.2.2.2.2.1
  have hN := C.2.2.2.2.2.2.2.2.2.2.2.1
  -- from the entry
  refine lv_aload_n hx hb dc_X_has_0 rfl (lv_at hl 0 rfl) ?_
  refine gx_status C hP dc_X_has_1 (fun v1 e1 => ?_)
  refine lv_lload_n hx hb dc_X_has_4 rfl (lv_at hl 1 rfl) ?_
  refine xr_land hx hb dc_X_has_5 (fun v2 e2 => ?_)
  refine lv_lconst (v := 0) hx hb dc_X_has_6 (by decide) ?_
  refine xr_lcmp hx hb dc_X_has_7 (fun v3 e3 => ?_)
  refine lv_if_eq (tgt := 15) hx hb dc_X_has_8 (by decide) (fun c4 => ?_) (fun c4 => ?_)
  · refine lv_iconst (v := 0) hx hb dc_X_has_15 (by decide) ?_
    exact ck_zret (v := 0) C hP hD hS rfl ⟨by subst e1 e2 e3; exact ((if_pos c4)).symm, rfl⟩ dc_X_has_16
  · refine lv_iconst (v := 1) hx hb dc_X_has_11 (by decide) ?_
    refine lv_goto (tgt := 16) hx hb dc_X_has_12 (by decide) ?_
    exact ck_zret (v := 1) C hP hD hS rfl ⟨by subst e1 e2 e3; exact ((if_neg c4)).symm, rfl⟩ dc_X_has_16
theorem nz_X_has (u : cs_St) (p1 : Int64) : narrow .boolean (.int (f_X_has u p1)) = .int (f_X_has u p1) := by
  unfold f_X_has; dsimp only; split <;> rfl
def f_X_previousMachineMode (u : cs_St)  : Int32 := (let v1 : Int64 := u.2 1; let v2 : Int64 := v1 &&& (6144 : Int64); let v3 : Int64 := (v2.toUInt64 >>> ((11 : Int32).toInt64.toUInt64 &&& Int64.toUInt64 63)).toInt64; let v4 : Int32 := v3.toInt32; v4)
set_option maxHeartbeats 4000000 in
set_option maxRecDepth 100000 in
theorem c_X_previousMachineMode (l : Launch) (D : va_G) (tys : List (ClassId × FieldType)) (h0 b1 b2 : Nat) (u : cs_St)   : ck_Mi l D tys (wx h0 b1 b2) yn_X_previousMachineMode w_X_previousMachineMode rm_X_previousMachineMode 0 0 [.ref h0] u (f_X_previousMachineMode u) u := by
  refine ck_enti (cc := bc_X_previousMachineMode) (maxL := 1) (ret := (some .int)) (by decide) rfl (Nat.le_of_ble_eq_true rfl) ?_
  intro p e s m below meth c A ls C hnm hP hD hS hl
  have C : ck_C p s m meth c bc_X_previousMachineMode (some .int) 1 #[.ref h0] "ControlDesk" A D tys := C
  have hl : lv_has ls 1 [(0, .ref h0)] := hl
  have hx := C.1
  have hb := C.2.1
  have hown := C.2.2.2.2.1
  have hT := C.2.2.2.2.2.1
  have hK := C.2.2.2.2.2.2.2.1
  have hN := C.2.2.2.2.2.2.2.2.2.2.2.1
  -- from the entry
  refine lv_aload_n hx hb dc_X_previousMachineMode_0 rfl (lv_at hl 0 rfl) ?_
  refine gx_status C hP dc_X_previousMachineMode_1 (fun v1 e1 => ?_)
  refine lv_ldc2 (v := 6144) hx hb hown (hT _ mw_0) dc_X_previousMachineMode_4 ?_
  refine xr_land hx hb dc_X_previousMachineMode_7 (fun v2 e2 => ?_)
  refine lv_bipush (v := 11) hx hb dc_X_previousMachineMode_8 (by decide) ?_
  refine xr_lushr hx hb dc_X_previousMachineMode_10 (fun v3 e3 => ?_)
  refine xr_l2i hx hb dc_X_previousMachineMode_11 (fun v4 e4 => ?_)
  exact ck_iret (v := v4) C hP hD hS ⟨by subst e1 e2 e3 e4; exact (rfl).symm, rfl⟩ dc_X_previousMachineMode_12
def f_X_dataMode (u : cs_St)  : Int32 := (let v2 : Int32 := f_X_has u 131072; (if v2 = 0 then (let v4 : Int32 := u.1; v4) else (let v6 : Int32 := f_X_previousMachineMode u; v6)))
set_option maxHeartbeats 4000000 in
set_option maxRecDepth 100000 in
theorem c_X_dataMode (l : Launch) (D : va_G) (tys : List (ClassId × FieldType)) (h0 b1 b2 : Nat) (u : cs_St)   : ck_Mi l D tys (wx h0 b1 b2) yn_X_dataMode w_X_dataMode rm_X_dataMode 0 0 [.ref h0] u (f_X_dataMode u) u := by
  refine ck_enti (cc := bc_X_dataMode) (maxL := 1) (ret := (some .int)) (by decide) rfl (Nat.le_of_ble_eq_true rfl) ?_
  intro p e s m below meth c A ls C hnm hP hD hS hl
  have C : ck_C p s m meth c bc_X_dataMode (some .int) 1 #[.ref h0] "ControlDesk" A D tys := C
  have hl : lv_has ls 1 [(0, .ref h0)] := hl
  have hx := C.1
  have hb := C.2.1
  have hown := C.2.2.2.2.1
  have hT := C.2.2.2.2.2.1
  have hK := C.2.2.2.2.2.2.2.1
  have hN := C.2.2.2.2.2.2.2.2.2.2.2.1
  -- from the entry
  refine lv_aload_n hx hb dc_X_dataMode_0 rfl (lv_at hl 0 rfl) ?_
  refine lv_ldc2 (v := 131072) hx hb hown (hT _ mw_1) dc_X_dataMode_1 ?_
  refine ck_gpi (rest := []) C kt_X hP hD hS (ck_runV (q0 := 0) C kt_X hK (c_X_has l D tys h0 b1 b2 u 131072  _) (cw_X_29 hT ⟨Nat.le_of_ble_eq_true rfl, Nat.le_of_ble_eq_true rfl⟩) rfl rfl hP hD hS rfl hl.1 rfl (Nat.le_of_ble_eq_true rfl) dc_X_dataMode_4 ⟨Nat.zero_le _, Nat.zero_le _⟩) (fun v2 H locs e2 hP hD hS => ?_)
  refine lv_if_eq (tgt := 17) hx hb dc_X_dataMode_7 (by decide) (fun c3 => ?_) (fun c3 => ?_)
  · refine lv_aload_n hx hb dc_X_dataMode_17 rfl (lv_at hl 0 rfl) ?_
    refine gx_currentMode C hP dc_X_dataMode_18 (fun v4 e4 => ?_)
    exact ck_iret (v := v4) C hP hD hS ⟨by subst e2 e4; exact ((if_pos c3)).symm, rfl⟩ dc_X_dataMode_21
  · refine lv_aload_n hx hb dc_X_dataMode_10 rfl (lv_at hl 0 rfl) ?_
    refine ck_gpi (rest := []) C kt_X hP hD hS (ck_runV (q0 := 0) C kt_X hK (c_X_previousMachineMode l D tys h0 b1 b2 u   _) (cw_X_33 hT ⟨Nat.le_of_ble_eq_true rfl, Nat.le_of_ble_eq_true rfl⟩) rfl rfl hP hD hS rfl hl.1 rfl (Nat.le_of_ble_eq_true rfl) dc_X_dataMode_11 ⟨Nat.zero_le _, Nat.zero_le _⟩) (fun v6 H locs e6 hP hD hS => ?_)
    refine lv_goto (tgt := 21) hx hb dc_X_dataMode_14 (by decide) ?_
    exact ck_iret (v := v6) C hP hD hS ⟨by subst e2 e6; exact ((if_neg c3)).symm, rfl⟩ dc_X_dataMode_21
def f_X_isHere (u : cs_St) (p1 : Int32) : Int32 := (if p1 = 256 then 1 else (if p1 = 260 then 1 else (if p1 = 261 then 1 else (if p1 = 262 then 1 else (if p1 = 320 then 1 else (if p1 = 321 then 1 else (if p1 = 322 then 1 else (if p1 = 323 then 1 else (if p1 = 324 then 1 else (if p1 = 384 then 1 else (if p1 = 768 then 1 else (if p1 = 769 then 1 else (if p1 = 770 then 1 else (if p1 = 771 then 1 else (if p1 = 772 then 1 else (if p1 = 773 then 1 else (if p1 = 774 then 1 else (if p1 = 832 then 1 else (if p1 = 833 then 1 else (if p1 = 834 then 1 else (if p1 = 835 then 1 else (if p1 = 836 then 1 else (if p1 = 2816 then 1 else (if p1 = 2818 then 1 else (if p1 = 3072 then 1 else (if p1 = 3073 then 1 else (if p1 = 3074 then 1 else (if p1 = 3857 then 1 else (if p1 = 3858 then 1 else (if p1 = 3859 then 1 else (if p1 = 3860 then 1 else (if p1 = 3861 then 1 else 0))))))))))))))))))))))))))))))))
set_option maxHeartbeats 4000000 in
set_option maxRecDepth 100000 in
theorem c_X_isHere (l : Launch) (D : va_G) (tys : List (ClassId × FieldType)) (h0 b1 b2 : Nat) (u : cs_St) (p1 : Int32)  : ck_Mi l D tys (wx h0 b1 b2) yn_X_isHere w_X_isHere rm_X_isHere 0 0 [.int p1] u (f_X_isHere u p1) u := by
  refine ck_enti (cc := bc_X_isHere) (maxL := 1) (ret := (some .boolean)) (by decide) rfl (Nat.le_of_ble_eq_true rfl) ?_
  intro p e s m below meth c A ls C hnm hP hD hS hl
  have C : ck_C p s m meth c bc_X_isHere (some .boolean) 1 #[.int p1] "ControlDesk" A D tys := C
  have hl : lv_has ls 1 [(0, .int p1)] := hl
  have hx := C.1
  have hb := C.2.1
  have hown := C.2.2.2.2.1
  have hT := C.2.2.2.2.2.1
  have hK := C.2.2.2.2.2.2.2.1
  have hN := C.2.2.2.2.2.2.2.2.2.2.2.1
  -- from the entry
  refine lv_iload_n hx hb dc_X_isHere_0 rfl (lv_at hl 0 rfl) ?_
  by_cases c1 : p1 = 256
  · refine lv_lookup (tgt := 268) hx hb dc_X_isHere_1 (by decide +kernel) (off := 267) (by rw [c1]; decide +kernel) (by decide) ?_
    refine lv_iconst (v := 1) hx hb dc_X_isHere_268 (by decide) ?_
    exact ck_zret (v := 1) C hP hD hS rfl ⟨by exact ((if_pos c1)).symm, rfl⟩ dc_X_isHere_269
  by_cases c2 : p1 = 260
  · refine lv_lookup (tgt := 268) hx hb dc_X_isHere_1 (by decide +kernel) (off := 267) (by rw [c2]; decide +kernel) (by decide) ?_
    refine lv_iconst (v := 1) hx hb dc_X_isHere_268 (by decide) ?_
    exact ck_zret (v := 1) C hP hD hS rfl ⟨by exact ((if_neg c1).trans ((if_pos c2))).symm, rfl⟩ dc_X_isHere_269
  by_cases c3 : p1 = 261
  · refine lv_lookup (tgt := 268) hx hb dc_X_isHere_1 (by decide +kernel) (off := 267) (by rw [c3]; decide +kernel) (by decide) ?_
    refine lv_iconst (v := 1) hx hb dc_X_isHere_268 (by decide) ?_
    exact ck_zret (v := 1) C hP hD hS rfl ⟨by exact ((if_neg c1).trans ((if_neg c2).trans ((if_pos c3)))).symm, rfl⟩ dc_X_isHere_269
  by_cases c4 : p1 = 262
  · refine lv_lookup (tgt := 268) hx hb dc_X_isHere_1 (by decide +kernel) (off := 267) (by rw [c4]; decide +kernel) (by decide) ?_
    refine lv_iconst (v := 1) hx hb dc_X_isHere_268 (by decide) ?_
    exact ck_zret (v := 1) C hP hD hS rfl ⟨by exact ((if_neg c1).trans ((if_neg c2).trans ((if_neg c3).trans ((if_pos c4))))).symm, rfl⟩ dc_X_isHere_269
  by_cases c5 : p1 = 320
  · refine lv_lookup (tgt := 268) hx hb dc_X_isHere_1 (by decide +kernel) (off := 267) (by rw [c5]; decide +kernel) (by decide) ?_
    refine lv_iconst (v := 1) hx hb dc_X_isHere_268 (by decide) ?_
    exact ck_zret (v := 1) C hP hD hS rfl ⟨by exact ((if_neg c1).trans ((if_neg c2).trans ((if_neg c3).trans ((if_neg c4).trans ((if_pos c5)))))).symm, rfl⟩ dc_X_isHere_269
  by_cases c6 : p1 = 321
  · refine lv_lookup (tgt := 268) hx hb dc_X_isHere_1 (by decide +kernel) (off := 267) (by rw [c6]; decide +kernel) (by decide) ?_
    refine lv_iconst (v := 1) hx hb dc_X_isHere_268 (by decide) ?_
    exact ck_zret (v := 1) C hP hD hS rfl ⟨by exact ((if_neg c1).trans ((if_neg c2).trans ((if_neg c3).trans ((if_neg c4).trans ((if_neg c5).trans ((if_pos c6))))))).symm, rfl⟩ dc_X_isHere_269
  by_cases c7 : p1 = 322
  · refine lv_lookup (tgt := 268) hx hb dc_X_isHere_1 (by decide +kernel) (off := 267) (by rw [c7]; decide +kernel) (by decide) ?_
    refine lv_iconst (v := 1) hx hb dc_X_isHere_268 (by decide) ?_
    exact ck_zret (v := 1) C hP hD hS rfl ⟨by exact ((if_neg c1).trans ((if_neg c2).trans ((if_neg c3).trans ((if_neg c4).trans ((if_neg c5).trans ((if_neg c6).trans ((if_pos c7)))))))).symm, rfl⟩ dc_X_isHere_269
  by_cases c8 : p1 = 323
  · refine lv_lookup (tgt := 268) hx hb dc_X_isHere_1 (by decide +kernel) (off := 267) (by rw [c8]; decide +kernel) (by decide) ?_
    refine lv_iconst (v := 1) hx hb dc_X_isHere_268 (by decide) ?_
    exact ck_zret (v := 1) C hP hD hS rfl ⟨by exact ((if_neg c1).trans ((if_neg c2).trans ((if_neg c3).trans ((if_neg c4).trans ((if_neg c5).trans ((if_neg c6).trans ((if_neg c7).trans ((if_pos c8))))))))).symm, rfl⟩ dc_X_isHere_269
  by_cases c9 : p1 = 324
  · refine lv_lookup (tgt := 268) hx hb dc_X_isHere_1 (by decide +kernel) (off := 267) (by rw [c9]; decide +kernel) (by decide) ?_
    refine lv_iconst (v := 1) hx hb dc_X_isHere_268 (by decide) ?_
    exact ck_zret (v := 1) C hP hD hS rfl ⟨by exact ((if_neg c1).trans ((if_neg c2).trans ((if_neg c3).trans ((if_neg c4).trans ((if_neg c5).trans ((if_neg c6).trans ((if_neg c7).trans ((if_neg c8).trans ((if_pos c9)))))))))).symm, rfl⟩ dc_X_isHere_269
  by_cases c10 : p1 = 384
  · refine lv_lookup (tgt := 268) hx hb dc_X_isHere_1 (by decide +kernel) (off := 267) (by rw [c10]; decide +kernel) (by decide) ?_
    refine lv_iconst (v := 1) hx hb dc_X_isHere_268 (by decide) ?_
    exact ck_zret (v := 1) C hP hD hS rfl ⟨by exact ((if_neg c1).trans ((if_neg c2).trans ((if_neg c3).trans ((if_neg c4).trans ((if_neg c5).trans ((if_neg c6).trans ((if_neg c7).trans ((if_neg c8).trans ((if_neg c9).trans ((if_pos c10))))))))))).symm, rfl⟩ dc_X_isHere_269
  by_cases c11 : p1 = 768
  · refine lv_lookup (tgt := 268) hx hb dc_X_isHere_1 (by decide +kernel) (off := 267) (by rw [c11]; decide +kernel) (by decide) ?_
    refine lv_iconst (v := 1) hx hb dc_X_isHere_268 (by decide) ?_
    exact ck_zret (v := 1) C hP hD hS rfl ⟨by exact ((if_neg c1).trans ((if_neg c2).trans ((if_neg c3).trans ((if_neg c4).trans ((if_neg c5).trans ((if_neg c6).trans ((if_neg c7).trans ((if_neg c8).trans ((if_neg c9).trans ((if_neg c10).trans ((if_pos c11)))))))))))).symm, rfl⟩ dc_X_isHere_269
  by_cases c12 : p1 = 769
  · refine lv_lookup (tgt := 268) hx hb dc_X_isHere_1 (by decide +kernel) (off := 267) (by rw [c12]; decide +kernel) (by decide) ?_
    refine lv_iconst (v := 1) hx hb dc_X_isHere_268 (by decide) ?_
    exact ck_zret (v := 1) C hP hD hS rfl ⟨by exact ((if_neg c1).trans ((if_neg c2).trans ((if_neg c3).trans ((if_neg c4).trans ((if_neg c5).trans ((if_neg c6).trans ((if_neg c7).trans ((if_neg c8).trans ((if_neg c9).trans ((if_neg c10).trans ((if_neg c11).trans ((if_pos c12))))))))))))).symm, rfl⟩ dc_X_isHere_269
  by_cases c13 : p1 = 770
  · refine lv_lookup (tgt := 268) hx hb dc_X_isHere_1 (by decide +kernel) (off := 267) (by rw [c13]; decide +kernel) (by decide) ?_
    refine lv_iconst (v := 1) hx hb dc_X_isHere_268 (by decide) ?_
    exact ck_zret (v := 1) C hP hD hS rfl ⟨by exact ((if_neg c1).trans ((if_neg c2).trans ((if_neg c3).trans ((if_neg c4).trans ((if_neg c5).trans ((if_neg c6).trans ((if_neg c7).trans ((if_neg c8).trans ((if_neg c9).trans ((if_neg c10).trans ((if_neg c11).trans ((if_neg c12).trans ((if_pos c13)))))))))))))).symm, rfl⟩ dc_X_isHere_269
  by_cases c14 : p1 = 771
  · refine lv_lookup (tgt := 268) hx hb dc_X_isHere_1 (by decide +kernel) (off := 267) (by rw [c14]; decide +kernel) (by decide) ?_
    refine lv_iconst (v := 1) hx hb dc_X_isHere_268 (by decide) ?_
    exact ck_zret (v := 1) C hP hD hS rfl ⟨by exact ((if_neg c1).trans ((if_neg c2).trans ((if_neg c3).trans ((if_neg c4).trans ((if_neg c5).trans ((if_neg c6).trans ((if_neg c7).trans ((if_neg c8).trans ((if_neg c9).trans ((if_neg c10).trans ((if_neg c11).trans ((if_neg c12).trans ((if_neg c13).trans ((if_pos c14))))))))))))))).symm, rfl⟩ dc_X_isHere_269
  by_cases c15 : p1 = 772
  · refine lv_lookup (tgt := 268) hx hb dc_X_isHere_1 (by decide +kernel) (off := 267) (by rw [c15]; decide +kernel) (by decide) ?_
    refine lv_iconst (v := 1) hx hb dc_X_isHere_268 (by decide) ?_
    exact ck_zret (v := 1) C hP hD hS rfl ⟨by exact ((if_neg c1).trans ((if_neg c2).trans ((if_neg c3).trans ((if_neg c4).trans ((if_neg c5).trans ((if_neg c6).trans ((if_neg c7).trans ((if_neg c8).trans ((if_neg c9).trans ((if_neg c10).trans ((if_neg c11).trans ((if_neg c12).trans ((if_neg c13).trans ((if_neg c14).trans ((if_pos c15)))))))))))))))).symm, rfl⟩ dc_X_isHere_269
  by_cases c16 : p1 = 773
  · refine lv_lookup (tgt := 268) hx hb dc_X_isHere_1 (by decide +kernel) (off := 267) (by rw [c16]; decide +kernel) (by decide) ?_
    refine lv_iconst (v := 1) hx hb dc_X_isHere_268 (by decide) ?_
    exact ck_zret (v := 1) C hP hD hS rfl ⟨by exact ((if_neg c1).trans ((if_neg c2).trans ((if_neg c3).trans ((if_neg c4).trans ((if_neg c5).trans ((if_neg c6).trans ((if_neg c7).trans ((if_neg c8).trans ((if_neg c9).trans ((if_neg c10).trans ((if_neg c11).trans ((if_neg c12).trans ((if_neg c13).trans ((if_neg c14).trans ((if_neg c15).trans ((if_pos c16))))))))))))))))).symm, rfl⟩ dc_X_isHere_269
  by_cases c17 : p1 = 774
  · refine lv_lookup (tgt := 268) hx hb dc_X_isHere_1 (by decide +kernel) (off := 267) (by rw [c17]; decide +kernel) (by decide) ?_
    refine lv_iconst (v := 1) hx hb dc_X_isHere_268 (by decide) ?_
    exact ck_zret (v := 1) C hP hD hS rfl ⟨by exact ((if_neg c1).trans ((if_neg c2).trans ((if_neg c3).trans ((if_neg c4).trans ((if_neg c5).trans ((if_neg c6).trans ((if_neg c7).trans ((if_neg c8).trans ((if_neg c9).trans ((if_neg c10).trans ((if_neg c11).trans ((if_neg c12).trans ((if_neg c13).trans ((if_neg c14).trans ((if_neg c15).trans ((if_neg c16).trans ((if_pos c17)))))))))))))))))).symm, rfl⟩ dc_X_isHere_269
  by_cases c18 : p1 = 832
  · refine lv_lookup (tgt := 268) hx hb dc_X_isHere_1 (by decide +kernel) (off := 267) (by rw [c18]; decide +kernel) (by decide) ?_
    refine lv_iconst (v := 1) hx hb dc_X_isHere_268 (by decide) ?_
    exact ck_zret (v := 1) C hP hD hS rfl ⟨by exact ((if_neg c1).trans ((if_neg c2).trans ((if_neg c3).trans ((if_neg c4).trans ((if_neg c5).trans ((if_neg c6).trans ((if_neg c7).trans ((if_neg c8).trans ((if_neg c9).trans ((if_neg c10).trans ((if_neg c11).trans ((if_neg c12).trans ((if_neg c13).trans ((if_neg c14).trans ((if_neg c15).trans ((if_neg c16).trans ((if_neg c17).trans ((if_pos c18))))))))))))))))))).symm, rfl⟩ dc_X_isHere_269
  by_cases c19 : p1 = 833
  · refine lv_lookup (tgt := 268) hx hb dc_X_isHere_1 (by decide +kernel) (off := 267) (by rw [c19]; decide +kernel) (by decide) ?_
    refine lv_iconst (v := 1) hx hb dc_X_isHere_268 (by decide) ?_
    exact ck_zret (v := 1) C hP hD hS rfl ⟨by exact ((if_neg c1).trans ((if_neg c2).trans ((if_neg c3).trans ((if_neg c4).trans ((if_neg c5).trans ((if_neg c6).trans ((if_neg c7).trans ((if_neg c8).trans ((if_neg c9).trans ((if_neg c10).trans ((if_neg c11).trans ((if_neg c12).trans ((if_neg c13).trans ((if_neg c14).trans ((if_neg c15).trans ((if_neg c16).trans ((if_neg c17).trans ((if_neg c18).trans ((if_pos c19)))))))))))))))))))).symm, rfl⟩ dc_X_isHere_269
  by_cases c20 : p1 = 834
  · refine lv_lookup (tgt := 268) hx hb dc_X_isHere_1 (by decide +kernel) (off := 267) (by rw [c20]; decide +kernel) (by decide) ?_
    refine lv_iconst (v := 1) hx hb dc_X_isHere_268 (by decide) ?_
    exact ck_zret (v := 1) C hP hD hS rfl ⟨by exact ((if_neg c1).trans ((if_neg c2).trans ((if_neg c3).trans ((if_neg c4).trans ((if_neg c5).trans ((if_neg c6).trans ((if_neg c7).trans ((if_neg c8).trans ((if_neg c9).trans ((if_neg c10).trans ((if_neg c11).trans ((if_neg c12).trans ((if_neg c13).trans ((if_neg c14).trans ((if_neg c15).trans ((if_neg c16).trans ((if_neg c17).trans ((if_neg c18).trans ((if_neg c19).trans ((if_pos c20))))))))))))))))))))).symm, rfl⟩ dc_X_isHere_269
  by_cases c21 : p1 = 835
  · refine lv_lookup (tgt := 268) hx hb dc_X_isHere_1 (by decide +kernel) (off := 267) (by rw [c21]; decide +kernel) (by decide) ?_
    refine lv_iconst (v := 1) hx hb dc_X_isHere_268 (by decide) ?_
    exact ck_zret (v := 1) C hP hD hS rfl ⟨by exact ((if_neg c1).trans ((if_neg c2).trans ((if_neg c3).trans ((if_neg c4).trans ((if_neg c5).trans ((if_neg c6).trans ((if_neg c7).trans ((if_neg c8).trans ((if_neg c9).trans ((if_neg c10).trans ((if_neg c11).trans ((if_neg c12).trans ((if_neg c13).trans ((if_neg c14).trans ((if_neg c15).trans ((if_neg c16).trans ((if_neg c17).trans ((if_neg c18).trans ((if_neg c19).trans ((if_neg c20).trans ((if_pos c21)))))))))))))))))))))).symm, rfl⟩ dc_X_isHere_269
  by_cases c22 : p1 = 836
  · refine lv_lookup (tgt := 268) hx hb dc_X_isHere_1 (by decide +kernel) (off := 267) (by rw [c22]; decide +kernel) (by decide) ?_
    refine lv_iconst (v := 1) hx hb dc_X_isHere_268 (by decide) ?_
    exact ck_zret (v := 1) C hP hD hS rfl ⟨by exact ((if_neg c1).trans ((if_neg c2).trans ((if_neg c3).trans ((if_neg c4).trans ((if_neg c5).trans ((if_neg c6).trans ((if_neg c7).trans ((if_neg c8).trans ((if_neg c9).trans ((if_neg c10).trans ((if_neg c11).trans ((if_neg c12).trans ((if_neg c13).trans ((if_neg c14).trans ((if_neg c15).trans ((if_neg c16).trans ((if_neg c17).trans ((if_neg c18).trans ((if_neg c19).trans ((if_neg c20).trans ((if_neg c21).trans ((if_pos c22))))))))))))))))))))))).symm, rfl⟩ dc_X_isHere_269
  by_cases c23 : p1 = 2816
  · refine lv_lookup (tgt := 268) hx hb dc_X_isHere_1 (by decide +kernel) (off := 267) (by rw [c23]; decide +kernel) (by decide) ?_
    refine lv_iconst (v := 1) hx hb dc_X_isHere_268 (by decide) ?_
    exact ck_zret (v := 1) C hP hD hS rfl ⟨by exact ((if_neg c1).trans ((if_neg c2).trans ((if_neg c3).trans ((if_neg c4).trans ((if_neg c5).trans ((if_neg c6).trans ((if_neg c7).trans ((if_neg c8).trans ((if_neg c9).trans ((if_neg c10).trans ((if_neg c11).trans ((if_neg c12).trans ((if_neg c13).trans ((if_neg c14).trans ((if_neg c15).trans ((if_neg c16).trans ((if_neg c17).trans ((if_neg c18).trans ((if_neg c19).trans ((if_neg c20).trans ((if_neg c21).trans ((if_neg c22).trans ((if_pos c23)))))))))))))))))))))))).symm, rfl⟩ dc_X_isHere_269
  by_cases c24 : p1 = 2818
  · refine lv_lookup (tgt := 268) hx hb dc_X_isHere_1 (by decide +kernel) (off := 267) (by rw [c24]; decide +kernel) (by decide) ?_
    refine lv_iconst (v := 1) hx hb dc_X_isHere_268 (by decide) ?_
    exact ck_zret (v := 1) C hP hD hS rfl ⟨by exact ((if_neg c1).trans ((if_neg c2).trans ((if_neg c3).trans ((if_neg c4).trans ((if_neg c5).trans ((if_neg c6).trans ((if_neg c7).trans ((if_neg c8).trans ((if_neg c9).trans ((if_neg c10).trans ((if_neg c11).trans ((if_neg c12).trans ((if_neg c13).trans ((if_neg c14).trans ((if_neg c15).trans ((if_neg c16).trans ((if_neg c17).trans ((if_neg c18).trans ((if_neg c19).trans ((if_neg c20).trans ((if_neg c21).trans ((if_neg c22).trans ((if_neg c23).trans ((if_pos c24))))))))))))))))))))))))).symm, rfl⟩ dc_X_isHere_269
  by_cases c25 : p1 = 3072
  · refine lv_lookup (tgt := 268) hx hb dc_X_isHere_1 (by decide +kernel) (off := 267) (by rw [c25]; decide +kernel) (by decide) ?_
    refine lv_iconst (v := 1) hx hb dc_X_isHere_268 (by decide) ?_
    exact ck_zret (v := 1) C hP hD hS rfl ⟨by exact ((if_neg c1).trans ((if_neg c2).trans ((if_neg c3).trans ((if_neg c4).trans ((if_neg c5).trans ((if_neg c6).trans ((if_neg c7).trans ((if_neg c8).trans ((if_neg c9).trans ((if_neg c10).trans ((if_neg c11).trans ((if_neg c12).trans ((if_neg c13).trans ((if_neg c14).trans ((if_neg c15).trans ((if_neg c16).trans ((if_neg c17).trans ((if_neg c18).trans ((if_neg c19).trans ((if_neg c20).trans ((if_neg c21).trans ((if_neg c22).trans ((if_neg c23).trans ((if_neg c24).trans ((if_pos c25)))))))))))))))))))))))))).symm, rfl⟩ dc_X_isHere_269
  by_cases c26 : p1 = 3073
  · refine lv_lookup (tgt := 268) hx hb dc_X_isHere_1 (by decide +kernel) (off := 267) (by rw [c26]; decide +kernel) (by decide) ?_
    refine lv_iconst (v := 1) hx hb dc_X_isHere_268 (by decide) ?_
    exact ck_zret (v := 1) C hP hD hS rfl ⟨by exact ((if_neg c1).trans ((if_neg c2).trans ((if_neg c3).trans ((if_neg c4).trans ((if_neg c5).trans ((if_neg c6).trans ((if_neg c7).trans ((if_neg c8).trans ((if_neg c9).trans ((if_neg c10).trans ((if_neg c11).trans ((if_neg c12).trans ((if_neg c13).trans ((if_neg c14).trans ((if_neg c15).trans ((if_neg c16).trans ((if_neg c17).trans ((if_neg c18).trans ((if_neg c19).trans ((if_neg c20).trans ((if_neg c21).trans ((if_neg c22).trans ((if_neg c23).trans ((if_neg c24).trans ((if_neg c25).trans ((if_pos c26))))))))))))))))))))))))))).symm, rfl⟩ dc_X_isHere_269
  by_cases c27 : p1 = 3074
  · refine lv_lookup (tgt := 268) hx hb dc_X_isHere_1 (by decide +kernel) (off := 267) (by rw [c27]; decide +kernel) (by decide) ?_
    refine lv_iconst (v := 1) hx hb dc_X_isHere_268 (by decide) ?_
    exact ck_zret (v := 1) C hP hD hS rfl ⟨by exact ((if_neg c1).trans ((if_neg c2).trans ((if_neg c3).trans ((if_neg c4).trans ((if_neg c5).trans ((if_neg c6).trans ((if_neg c7).trans ((if_neg c8).trans ((if_neg c9).trans ((if_neg c10).trans ((if_neg c11).trans ((if_neg c12).trans ((if_neg c13).trans ((if_neg c14).trans ((if_neg c15).trans ((if_neg c16).trans ((if_neg c17).trans ((if_neg c18).trans ((if_neg c19).trans ((if_neg c20).trans ((if_neg c21).trans ((if_neg c22).trans ((if_neg c23).trans ((if_neg c24).trans ((if_neg c25).trans ((if_neg c26).trans ((if_pos c27)))))))))))))))))))))))))))).symm, rfl⟩ dc_X_isHere_269
  by_cases c28 : p1 = 3857
  · refine lv_lookup (tgt := 268) hx hb dc_X_isHere_1 (by decide +kernel) (off := 267) (by rw [c28]; decide +kernel) (by decide) ?_
    refine lv_iconst (v := 1) hx hb dc_X_isHere_268 (by decide) ?_
    exact ck_zret (v := 1) C hP hD hS rfl ⟨by exact ((if_neg c1).trans ((if_neg c2).trans ((if_neg c3).trans ((if_neg c4).trans ((if_neg c5).trans ((if_neg c6).trans ((if_neg c7).trans ((if_neg c8).trans ((if_neg c9).trans ((if_neg c10).trans ((if_neg c11).trans ((if_neg c12).trans ((if_neg c13).trans ((if_neg c14).trans ((if_neg c15).trans ((if_neg c16).trans ((if_neg c17).trans ((if_neg c18).trans ((if_neg c19).trans ((if_neg c20).trans ((if_neg c21).trans ((if_neg c22).trans ((if_neg c23).trans ((if_neg c24).trans ((if_neg c25).trans ((if_neg c26).trans ((if_neg c27).trans ((if_pos c28))))))))))))))))))))))))))))).symm, rfl⟩ dc_X_isHere_269
  by_cases c29 : p1 = 3858
  · refine lv_lookup (tgt := 268) hx hb dc_X_isHere_1 (by decide +kernel) (off := 267) (by rw [c29]; decide +kernel) (by decide) ?_
    refine lv_iconst (v := 1) hx hb dc_X_isHere_268 (by decide) ?_
    exact ck_zret (v := 1) C hP hD hS rfl ⟨by exact ((if_neg c1).trans ((if_neg c2).trans ((if_neg c3).trans ((if_neg c4).trans ((if_neg c5).trans ((if_neg c6).trans ((if_neg c7).trans ((if_neg c8).trans ((if_neg c9).trans ((if_neg c10).trans ((if_neg c11).trans ((if_neg c12).trans ((if_neg c13).trans ((if_neg c14).trans ((if_neg c15).trans ((if_neg c16).trans ((if_neg c17).trans ((if_neg c18).trans ((if_neg c19).trans ((if_neg c20).trans ((if_neg c21).trans ((if_neg c22).trans ((if_neg c23).trans ((if_neg c24).trans ((if_neg c25).trans ((if_neg c26).trans ((if_neg c27).trans ((if_neg c28).trans ((if_pos c29)))))))))))))))))))))))))))))).symm, rfl⟩ dc_X_isHere_269
  by_cases c30 : p1 = 3859
  · refine lv_lookup (tgt := 268) hx hb dc_X_isHere_1 (by decide +kernel) (off := 267) (by rw [c30]; decide +kernel) (by decide) ?_
    refine lv_iconst (v := 1) hx hb dc_X_isHere_268 (by decide) ?_
    exact ck_zret (v := 1) C hP hD hS rfl ⟨by exact ((if_neg c1).trans ((if_neg c2).trans ((if_neg c3).trans ((if_neg c4).trans ((if_neg c5).trans ((if_neg c6).trans ((if_neg c7).trans ((if_neg c8).trans ((if_neg c9).trans ((if_neg c10).trans ((if_neg c11).trans ((if_neg c12).trans ((if_neg c13).trans ((if_neg c14).trans ((if_neg c15).trans ((if_neg c16).trans ((if_neg c17).trans ((if_neg c18).trans ((if_neg c19).trans ((if_neg c20).trans ((if_neg c21).trans ((if_neg c22).trans ((if_neg c23).trans ((if_neg c24).trans ((if_neg c25).trans ((if_neg c26).trans ((if_neg c27).trans ((if_neg c28).trans ((if_neg c29).trans ((if_pos c30))))))))))))))))))))))))))))))).symm, rfl⟩ dc_X_isHere_269
  by_cases c31 : p1 = 3860
  · refine lv_lookup (tgt := 268) hx hb dc_X_isHere_1 (by decide +kernel) (off := 267) (by rw [c31]; decide +kernel) (by decide) ?_
    refine lv_iconst (v := 1) hx hb dc_X_isHere_268 (by decide) ?_
    exact ck_zret (v := 1) C hP hD hS rfl ⟨by exact ((if_neg c1).trans ((if_neg c2).trans ((if_neg c3).trans ((if_neg c4).trans ((if_neg c5).trans ((if_neg c6).trans ((if_neg c7).trans ((if_neg c8).trans ((if_neg c9).trans ((if_neg c10).trans ((if_neg c11).trans ((if_neg c12).trans ((if_neg c13).trans ((if_neg c14).trans ((if_neg c15).trans ((if_neg c16).trans ((if_neg c17).trans ((if_neg c18).trans ((if_neg c19).trans ((if_neg c20).trans ((if_neg c21).trans ((if_neg c22).trans ((if_neg c23).trans ((if_neg c24).trans ((if_neg c25).trans ((if_neg c26).trans ((if_neg c27).trans ((if_neg c28).trans ((if_neg c29).trans ((if_neg c30).trans ((if_pos c31)))))))))))))))))))))))))))))))).symm, rfl⟩ dc_X_isHere_269
  by_cases c32 : p1 = 3861
  · refine lv_lookup (tgt := 268) hx hb dc_X_isHere_1 (by decide +kernel) (off := 267) (by rw [c32]; decide +kernel) (by decide) ?_
    refine lv_iconst (v := 1) hx hb dc_X_isHere_268 (by decide) ?_
    exact ck_zret (v := 1) C hP hD hS rfl ⟨by exact ((if_neg c1).trans ((if_neg c2).trans ((if_neg c3).trans ((if_neg c4).trans ((if_neg c5).trans ((if_neg c6).trans ((if_neg c7).trans ((if_neg c8).trans ((if_neg c9).trans ((if_neg c10).trans ((if_neg c11).trans ((if_neg c12).trans ((if_neg c13).trans ((if_neg c14).trans ((if_neg c15).trans ((if_neg c16).trans ((if_neg c17).trans ((if_neg c18).trans ((if_neg c19).trans ((if_neg c20).trans ((if_neg c21).trans ((if_neg c22).trans ((if_neg c23).trans ((if_neg c24).trans ((if_neg c25).trans ((if_neg c26).trans ((if_neg c27).trans ((if_neg c28).trans ((if_neg c29).trans ((if_neg c30).trans ((if_neg c31).trans ((if_pos c32))))))))))))))))))))))))))))))))).symm, rfl⟩ dc_X_isHere_269
  refine lv_lookup (tgt := 270) hx hb dc_X_isHere_1 (by decide +kernel) (off := 269) ((lv_osw (a := 256) c1 (by decide)).trans ((lv_osw (a := 260) c2 (by decide)).trans ((lv_osw (a := 261) c3 (by decide)).trans ((lv_osw (a := 262) c4 (by decide)).trans ((lv_osw (a := 320) c5 (by decide)).trans ((lv_osw (a := 321) c6 (by decide)).trans ((lv_osw (a := 322) c7 (by decide)).trans ((lv_osw (a := 323) c8 (by decide)).trans ((lv_osw (a := 324) c9 (by decide)).trans ((lv_osw (a := 384) c10 (by decide)).trans ((lv_osw (a := 768) c11 (by decide)).trans ((lv_osw (a := 769) c12 (by decide)).trans ((lv_osw (a := 770) c13 (by decide)).trans ((lv_osw (a := 771) c14 (by decide)).trans ((lv_osw (a := 772) c15 (by decide)).trans ((lv_osw (a := 773) c16 (by decide)).trans ((lv_osw (a := 774) c17 (by decide)).trans ((lv_osw (a := 832) c18 (by decide)).trans ((lv_osw (a := 833) c19 (by decide)).trans ((lv_osw (a := 834) c20 (by decide)).trans ((lv_osw (a := 835) c21 (by decide)).trans ((lv_osw (a := 836) c22 (by decide)).trans ((lv_osw (a := 2816) c23 (by decide)).trans ((lv_osw (a := 2818) c24 (by decide)).trans ((lv_osw (a := 3072) c25 (by decide)).trans ((lv_osw (a := 3073) c26 (by decide)).trans ((lv_osw (a := 3074) c27 (by decide)).trans ((lv_osw (a := 3857) c28 (by decide)).trans ((lv_osw (a := 3858) c29 (by decide)).trans ((lv_osw (a := 3859) c30 (by decide)).trans ((lv_osw (a := 3860) c31 (by decide)).trans ((lv_osw (a := 3861) c32 (by decide)).trans (rfl))))))))))))))))))))))))))))))))) (by decide) ?_
  refine lv_iconst (v := 0) hx hb dc_X_isHere_270 (by decide) ?_
  exact ck_zret (v := 0) C hP hD hS rfl ⟨by exact ((if_neg c1).trans ((if_neg c2).trans ((if_neg c3).trans ((if_neg c4).trans ((if_neg c5).trans ((if_neg c6).trans ((if_neg c7).trans ((if_neg c8).trans ((if_neg c9).trans ((if_neg c10).trans ((if_neg c11).trans ((if_neg c12).trans ((if_neg c13).trans ((if_neg c14).trans ((if_neg c15).trans ((if_neg c16).trans ((if_neg c17).trans ((if_neg c18).trans ((if_neg c19).trans ((if_neg c20).trans ((if_neg c21).trans ((if_neg c22).trans ((if_neg c23).trans ((if_neg c24).trans ((if_neg c25).trans ((if_neg c26).trans ((if_neg c27).trans ((if_neg c28).trans ((if_neg c29).trans ((if_neg c30).trans ((if_neg c31).trans ((if_neg c32))))))))))))))))))))))))))))))))).symm, rfl⟩ dc_X_isHere_271
def f_X_isFloat (u : cs_St) (p1 : Int32) : Int32 := (if p1 < 1 then 0 else (if 3 < p1 then 0 else 1))
set_option maxHeartbeats 4000000 in
set_option maxRecDepth 100000 in
theorem c_X_isFloat (l : Launch) (D : va_G) (tys : List (ClassId × FieldType)) (h0 b1 b2 : Nat) (u : cs_St) (p1 : Int32)  : ck_Mi l D tys (wx h0 b1 b2) yn_X_isFloat w_X_isFloat rm_X_isFloat 0 0 [.int p1] u (f_X_isFloat u p1) u := by
  refine ck_enti (cc := bc_X_isFloat) (maxL := 1) (ret := (some .boolean)) (by decide) rfl (Nat.le_of_ble_eq_true rfl) ?_
  intro p e s m below meth c A ls C hnm hP hD hS hl
  have C : ck_C p s m meth c bc_X_isFloat (some .boolean) 1 #[.int p1] "ControlDesk" A D tys := C
  have hl : lv_has ls 1 [(0, .int p1)] := hl
  have hx := C.1
  have hb := C.2.1
  have hown := C.2.2.2.2.1
  have hT := C.2.2.2.2.2.1
  have hK := C.2.2.2.2.2.2.2.1
  have hN := C.2.2.2.2.2.2.2.2.2.2.2.1
  -- from the entry
  refine lv_iload_n hx hb dc_X_isFloat_0 rfl (lv_at hl 0 rfl) ?_
  refine lv_iconst (v := 1) hx hb dc_X_isFloat_1 (by decide) ?_
  refine lv_icmp_lt (tgt := 14) hx hb dc_X_isFloat_2 (by decide) (fun c1 => ?_) (fun c1 => ?_)
  · refine lv_iconst (v := 0) hx hb dc_X_isFloat_14 (by decide) ?_
    exact ck_zret (v := 0) C hP hD hS rfl ⟨by exact ((if_pos c1)).symm, rfl⟩ dc_X_isFloat_15
  · refine lv_iload_n hx hb dc_X_isFloat_5 rfl (lv_at hl 0 rfl) ?_
    refine lv_iconst (v := 3) hx hb dc_X_isFloat_6 (by decide) ?_
    refine lv_icmp_gt (tgt := 14) hx hb dc_X_isFloat_7 (by decide) (fun c2 => ?_) (fun c2 => ?_)
    · refine lv_iconst (v := 0) hx hb dc_X_isFloat_14 (by decide) ?_
      exact ck_zret (v := 0) C hP hD hS rfl ⟨by exact ((if_neg c1).trans ((if_pos c2))).symm, rfl⟩ dc_X_isFloat_15
    · refine lv_iconst (v := 1) hx hb dc_X_isFloat_10 (by decide) ?_
      refine lv_goto (tgt := 15) hx hb dc_X_isFloat_11 (by decide) ?_
      exact ck_zret (v := 1) C hP hD hS rfl ⟨by exact ((if_neg c1).trans ((if_neg c2))).symm, rfl⟩ dc_X_isFloat_15
def f_X_isElsewhere (u : cs_St) (p1 : Int32) : Int32 := (let v2 : Int32 := f_X_isFloat u p1; (if v2 = 0 then (if p1 = 928 then 1 else (if p1 = 930 then 1 else (if p1 < 944 then 0 else (if 959 < p1 then 0 else 1)))) else 1))
set_option maxHeartbeats 4000000 in
set_option maxRecDepth 100000 in
theorem c_X_isElsewhere (l : Launch) (D : va_G) (tys : List (ClassId × FieldType)) (h0 b1 b2 : Nat) (u : cs_St) (p1 : Int32)  : ck_Mi l D tys (wx h0 b1 b2) yn_X_isElsewhere w_X_isElsewhere rm_X_isElsewhere 0 0 [.int p1] u (f_X_isElsewhere u p1) u := by
  refine ck_enti (cc := bc_X_isElsewhere) (maxL := 1) (ret := (some .boolean)) (by decide) rfl (Nat.le_of_ble_eq_true rfl) ?_
  intro p e s m below meth c A ls C hnm hP hD hS hl
  have C : ck_C p s m meth c bc_X_isElsewhere (some .boolean) 1 #[.int p1] "ControlDesk" A D tys := C
  have hl : lv_has ls 1 [(0, .int p1)] := hl
  have hx := C.1
  have hb := C.2.1
  have hown := C.2.2.2.2.1
  have hT := C.2.2.2.2.2.1
  have hK := C.2.2.2.2.2.2.2.1
  have hN := C.2.2.2.2.2.2.2.2.2.2.2.1
  -- from the entry
  refine lv_iload_n hx hb dc_X_isElsewhere_0 rfl (lv_at hl 0 rfl) ?_
  refine ck_gpi (rest := []) C kt_X hP hD hS (ck_runS C kt_X hK (c_X_isFloat l D tys h0 b1 b2 u p1  _) (cw_X_54 hT ⟨Nat.le_of_ble_eq_true rfl, Nat.le_of_ble_eq_true rfl⟩) hP hD hS rfl hl.1 rfl (Nat.le_of_ble_eq_true rfl) dc_X_isElsewhere_1 ⟨Nat.zero_le _, Nat.zero_le _⟩) (fun v2 H locs e2 hP hD hS => ?_)
  refine lv_if_ne (tgt := 35) hx hb dc_X_isElsewhere_4 (by decide) (fun c3 => ?_) (fun c3 => ?_)
  · refine lv_iconst (v := 1) hx hb dc_X_isElsewhere_35 (by decide) ?_
    refine lv_goto (tgt := 40) hx hb dc_X_isElsewhere_36 (by decide) ?_
    exact ck_zret (v := 1) C hP hD hS rfl ⟨by subst e2; exact ((if_neg c3)).symm, rfl⟩ dc_X_isElsewhere_40
  · refine lv_iload_n hx hb dc_X_isElsewhere_7 rfl (lv_at hl 0 rfl) ?_
    refine lv_sipush (v := 928) hx hb dc_X_isElsewhere_8 (by decide) ?_
    refine lv_icmp_eq (tgt := 35) hx hb dc_X_isElsewhere_11 (by decide) (fun c4 => ?_) (fun c4 => ?_)
    · refine lv_iconst (v := 1) hx hb dc_X_isElsewhere_35 (by decide) ?_
      refine lv_goto (tgt := 40) hx hb dc_X_isElsewhere_36 (by decide) ?_
      exact ck_zret (v := 1) C hP hD hS rfl ⟨by subst e2; exact ((if_pos c3).trans ((if_pos c4))).symm, rfl⟩ dc_X_isElsewhere_40
    · refine lv_iload_n hx hb dc_X_isElsewhere_14 rfl (lv_at hl 0 rfl) ?_
      refine lv_sipush (v := 930) hx hb dc_X_isElsewhere_15 (by decide) ?_
      refine lv_icmp_eq (tgt := 35) hx hb dc_X_isElsewhere_18 (by decide) (fun c5 => ?_) (fun c5 => ?_)
      · refine lv_iconst (v := 1) hx hb dc_X_isElsewhere_35 (by decide) ?_
        refine lv_goto (tgt := 40) hx hb dc_X_isElsewhere_36 (by decide) ?_
        exact ck_zret (v := 1) C hP hD hS rfl ⟨by subst e2; exact ((if_pos c3).trans ((if_neg c4).trans ((if_pos c5)))).symm, rfl⟩ dc_X_isElsewhere_40
      · refine lv_iload_n hx hb dc_X_isElsewhere_21 rfl (lv_at hl 0 rfl) ?_
        refine lv_sipush (v := 944) hx hb dc_X_isElsewhere_22 (by decide) ?_
        refine lv_icmp_lt (tgt := 39) hx hb dc_X_isElsewhere_25 (by decide) (fun c6 => ?_) (fun c6 => ?_)
        · refine lv_iconst (v := 0) hx hb dc_X_isElsewhere_39 (by decide) ?_
          exact ck_zret (v := 0) C hP hD hS rfl ⟨by subst e2; exact ((if_pos c3).trans ((if_neg c4).trans ((if_neg c5).trans ((if_pos c6))))).symm, rfl⟩ dc_X_isElsewhere_40
        · refine lv_iload_n hx hb dc_X_isElsewhere_28 rfl (lv_at hl 0 rfl) ?_
          refine lv_sipush (v := 959) hx hb dc_X_isElsewhere_29 (by decide) ?_
          refine lv_icmp_gt (tgt := 39) hx hb dc_X_isElsewhere_32 (by decide) (fun c7 => ?_) (fun c7 => ?_)
          · refine lv_iconst (v := 0) hx hb dc_X_isElsewhere_39 (by decide) ?_
            exact ck_zret (v := 0) C hP hD hS rfl ⟨by subst e2; exact ((if_pos c3).trans ((if_neg c4).trans ((if_neg c5).trans ((if_neg c6).trans ((if_pos c7)))))).symm, rfl⟩ dc_X_isElsewhere_40
          · refine lv_iconst (v := 1) hx hb dc_X_isElsewhere_35 (by decide) ?_
            refine lv_goto (tgt := 40) hx hb dc_X_isElsewhere_36 (by decide) ?_
            exact ck_zret (v := 1) C hP hD hS rfl ⟨by subst e2; exact ((if_pos c3).trans ((if_neg c4).trans ((if_neg c5).trans ((if_neg c6).trans ((if_neg c7)))))).symm, rfl⟩ dc_X_isElsewhere_40
def f_X_isOpenCount (u : cs_St) (p1 : Int32) : Int32 := (if p1 < 3072 then 0 else (if 3074 < p1 then 0 else 1))
set_option maxHeartbeats 4000000 in
set_option maxRecDepth 100000 in
theorem c_X_isOpenCount (l : Launch) (D : va_G) (tys : List (ClassId × FieldType)) (h0 b1 b2 : Nat) (u : cs_St) (p1 : Int32)  : ck_Mi l D tys (wx h0 b1 b2) yn_X_isOpenCount w_X_isOpenCount rm_X_isOpenCount 0 0 [.int p1] u (f_X_isOpenCount u p1) u := by
  refine ck_enti (cc := bc_X_isOpenCount) (maxL := 1) (ret := (some .boolean)) (by decide) rfl (Nat.le_of_ble_eq_true rfl) ?_
  intro p e s m below meth c A ls C hnm hP hD hS hl
  have C : ck_C p s m meth c bc_X_isOpenCount (some .boolean) 1 #[.int p1] "ControlDesk" A D tys := C
  have hl : lv_has ls 1 [(0, .int p1)] := hl
  have hx := C.1
  have hb := C.2.1
  have hown := C.2.2.2.2.1
  have hT := C.2.2.2.2.2.1
  have hK := C.2.2.2.2.2.2.2.1
  have hN := C.2.2.2.2.2.2.2.2.2.2.2.1
  -- from the entry
  refine lv_iload_n hx hb dc_X_isOpenCount_0 rfl (lv_at hl 0 rfl) ?_
  refine lv_sipush (v := 3072) hx hb dc_X_isOpenCount_1 (by decide) ?_
  refine lv_icmp_lt (tgt := 18) hx hb dc_X_isOpenCount_4 (by decide) (fun c1 => ?_) (fun c1 => ?_)
  · refine lv_iconst (v := 0) hx hb dc_X_isOpenCount_18 (by decide) ?_
    exact ck_zret (v := 0) C hP hD hS rfl ⟨by exact ((if_pos c1)).symm, rfl⟩ dc_X_isOpenCount_19
  · refine lv_iload_n hx hb dc_X_isOpenCount_7 rfl (lv_at hl 0 rfl) ?_
    refine lv_sipush (v := 3074) hx hb dc_X_isOpenCount_8 (by decide) ?_
    refine lv_icmp_gt (tgt := 18) hx hb dc_X_isOpenCount_11 (by decide) (fun c2 => ?_) (fun c2 => ?_)
    · refine lv_iconst (v := 0) hx hb dc_X_isOpenCount_18 (by decide) ?_
      exact ck_zret (v := 0) C hP hD hS rfl ⟨by exact ((if_neg c1).trans ((if_pos c2))).symm, rfl⟩ dc_X_isOpenCount_19
    · refine lv_iconst (v := 1) hx hb dc_X_isOpenCount_14 (by decide) ?_
      refine lv_goto (tgt := 19) hx hb dc_X_isOpenCount_15 (by decide) ?_
      exact ck_zret (v := 1) C hP hD hS rfl ⟨by exact ((if_neg c1).trans ((if_neg c2))).symm, rfl⟩ dc_X_isOpenCount_19
def f_X_isClosed_26 (u : cs_St) (p1 : Int32) (x2 : Int64) : Int32 := (let v1 : Int32 := u.1; (if v1 = 0 then (let v3 : Int64 := u.2 20; let v4 : Int64 := v3 &&& x2; let v5 : Int32 := lg_cmp v4 (0 : Int64); (if v5 = 0 then 1 else 0)) else 0))
def f_X_isClosed (u : cs_St) (p1 : Int32) : Int32 := (let v7 : Int64 := (1 : Int64) <<< (p1.toInt64 &&& 63); let v8 : Int32 := u.1; (if v8 = 3 then (f_X_isClosed_26 u p1 v7) else (let v10 : Int64 := u.2 14; let v11 : Int64 := v10 &&& v7; let v12 : Int32 := lg_cmp v11 (0 : Int64); (if v12 = 0 then 1 else (f_X_isClosed_26 u p1 v7)))))
set_option maxHeartbeats 4000000 in
set_option maxRecDepth 100000 in
theorem c_X_isClosed (l : Launch) (D : va_G) (tys : List (ClassId × FieldType)) (h0 b1 b2 : Nat) (u : cs_St) (p1 : Int32)  : ck_Mi l D tys (wx h0 b1 b2) yn_X_isClosed w_X_isClosed rm_X_isClosed 0 0 [.ref h0, .int p1] u (f_X_isClosed u p1) u := by
  refine ck_enti (cc := bc_X_isClosed) (maxL := 4) (ret := (some .boolean)) (by decide) rfl (Nat.le_of_ble_eq_true rfl) ?_
  intro p e s m below meth c A ls C hnm hP hD hS hl
  have C : ck_C p s m meth c bc_X_isClosed (some .boolean) 4 #[.ref h0, .int p1] "ControlDesk" A D tys := C
  have hl : lv_has ls 4 [(0, .ref h0), (1, .int p1)] := hl
  have hx := C.1
  have hb := C.2.1
  have hown := C.2.2.2.2.1
  have hT := C.2.2.2.2.2.1
  have hK := C.2.2.2.2.2.2.2.1
  have hN := C.2.2.2.2.2.2.2.2.2.2.2.1
  have k26 : ∀ (x2 : Int64) (H : Heap) (locs : List Loc) (ls : Array Slot), va_P D xw_Cl ((wx h0 b1 b2) u) H → va_D A ((wx h0 b1 b2) u) → va_S A s.heap H locs → lv_has ls 4 [(0, .ref h0), (2, .long x2)] → f_X_isClosed u p1 = f_X_isClosed_26 u p1 x2 → W p l e rm_X_isClosed s m #[.ref h0, .int p1] below meth c H locs 0 0 (MQ below (va_Qi (fun r2 u2 => r2 = (f_X_isClosed u p1) ∧ u2 = u) (ck_B D (wx h0 b1 b2) A) A) #[.ref h0, .int p1] s 0 0 A) (F0 m 26 ls []) := by
    intro x2 H locs ls hP hD hS hl hq 
    refine lv_aload_n hx hb dc_X_isClosed_26 rfl (lv_at hl 0 rfl) ?_
    refine gx_currentMode C hP dc_X_isClosed_27 (fun v1 e1 => ?_)
    refine lv_if_ne (tgt := 51) hx hb dc_X_isClosed_30 (by decide) (fun c2 => ?_) (fun c2 => ?_)
    · refine lv_iconst (v := 0) hx hb dc_X_isClosed_51 (by decide) ?_
      exact ck_zret (v := 0) C hP hD hS rfl ⟨by subst e1; exact (hq.trans ((if_neg c2))).symm, rfl⟩ dc_X_isClosed_52
    · refine lv_aload_n hx hb dc_X_isClosed_33 rfl (lv_at hl 0 rfl) ?_
      refine gx_supervisorBank C hP dc_X_isClosed_34 ?_
      refine gn2_openCounts C hP dc_X_isClosed_37 (fun v3 e3 => ?_)
      refine lv_lload_n hx hb dc_X_isClosed_40 rfl (lv_at hl 1 rfl) ?_
      refine xr_land hx hb dc_X_isClosed_41 (fun v4 e4 => ?_)
      refine lv_lconst (v := 0) hx hb dc_X_isClosed_42 (by decide) ?_
      refine xr_lcmp hx hb dc_X_isClosed_43 (fun v5 e5 => ?_)
      refine lv_if_ne (tgt := 51) hx hb dc_X_isClosed_44 (by decide) (fun c6 => ?_) (fun c6 => ?_)
      · refine lv_iconst (v := 0) hx hb dc_X_isClosed_51 (by decide) ?_
        exact ck_zret (v := 0) C hP hD hS rfl ⟨by subst e1 e3 e4 e5; exact (hq.trans ((if_pos c2).trans ((if_neg c6)))).symm, rfl⟩ dc_X_isClosed_52
      · refine lv_iconst (v := 1) hx hb dc_X_isClosed_47 (by decide) ?_
        refine lv_goto (tgt := 52) hx hb dc_X_isClosed_48 (by decide) ?_
        exact ck_zret (v := 1) C hP hD hS rfl ⟨by subst e1 e3 e4 e5; exact (hq.trans ((if_pos c2).trans ((if_pos c6)))).symm, rfl⟩ dc_X_isClosed_52
  -- from the entry
  refine lv_lconst (v := 1) hx hb dc_X_isClosed_0 (by decide) ?_
  refine lv_iload_n hx hb dc_X_isClosed_1 rfl (lv_at hl 1 rfl) ?_
  refine xr_lshl hx hb dc_X_isClosed_2 (fun v7 e7 => ?_)
  refine lv_lstore_n (lv' := [(2, .long v7), (0, .ref h0), (1, .int p1)]) hx hb dc_X_isClosed_3 rfl hl (by decide) rfl (fun ls hl => ?_)
  refine lv_aload_n hx hb dc_X_isClosed_4 rfl (lv_at hl 1 rfl) ?_
  refine gx_currentMode C hP dc_X_isClosed_5 (fun v8 e8 => ?_)
  refine lv_iconst (v := 3) hx hb dc_X_isClosed_8 (by decide) ?_
  refine lv_icmp_eq (tgt := 26) hx hb dc_X_isClosed_9 (by decide) (fun c9 => ?_) (fun c9 => ?_)
  · exact k26 v7 _ _ _ hP hD hS (lv_sub hl [1, 0] rfl) (by subst e7 e8; exact (if_pos c9))
  · refine lv_aload_n hx hb dc_X_isClosed_12 rfl (lv_at hl 1 rfl) ?_
    refine gx_machineBank C hP dc_X_isClosed_13 ?_
    refine gn1_openCounts C hP dc_X_isClosed_16 (fun v10 e10 => ?_)
    refine lv_lload_n hx hb dc_X_isClosed_19 rfl (lv_at hl 0 rfl) ?_
    refine xr_land hx hb dc_X_isClosed_20 (fun v11 e11 => ?_)
    refine lv_lconst (v := 0) hx hb dc_X_isClosed_21 (by decide) ?_
    refine xr_lcmp hx hb dc_X_isClosed_22 (fun v12 e12 => ?_)
    refine lv_if_eq (tgt := 47) hx hb dc_X_isClosed_23 (by decide) (fun c13 => ?_) (fun c13 => ?_)
    · refine lv_iconst (v := 1) hx hb dc_X_isClosed_47 (by decide) ?_
      refine lv_goto (tgt := 52) hx hb dc_X_isClosed_48 (by decide) ?_
      exact ck_zret (v := 1) C hP hD hS rfl ⟨by subst e7 e8 e10 e11 e12; exact ((if_neg c9).trans ((if_pos c13))).symm, rfl⟩ dc_X_isClosed_52
    · exact k26 v7 _ _ _ hP hD hS (lv_sub hl [1, 0] rfl) (by subst e7 e8 e10 e11 e12; exact (if_neg c9).trans ((if_neg c13)))
def f_X_isIllegal_97 (u : cs_St) (p1 : Int32) (p2 : Int32)  : Int32 := (let v2 : Int32 := f_X_isOpenCount u p1; (if v2 = 0 then 0 else (let v4 : Int32 := p1 - (3072 : Int32); let v6 : Int32 := f_X_isClosed u v4; (if v6 = 0 then 0 else 1))))
def f_X_isIllegal_80 (u : cs_St) (p1 : Int32) (p2 : Int32)  : Int32 := (let v9 : Int32 := f_X_isFloat u p1; (if v9 = 0 then (f_X_isIllegal_97 u p1 p2 ) else (let v12 : Int32 := f_X_has u 24576; (if v12 = 0 then 1 else (f_X_isIllegal_97 u p1 p2 )))))
def f_X_isIllegal_55 (u : cs_St) (p1 : Int32) (p2 : Int32)  : Int32 := (if p1 = 384 then (let v15 : Int32 := u.1; (if v15 = 1 then (let v18 : Int32 := f_X_has u 1048576; (if v18 = 0 then (f_X_isIllegal_80 u p1 p2 ) else 1)) else (f_X_isIllegal_80 u p1 p2 ))) else (f_X_isIllegal_80 u p1 p2 ))
def f_X_isIllegal_38 (u : cs_St) (p1 : Int32) (p2 : Int32) (x3 : Int32) (x4 : Int32) : Int32 := (let v20 : Int32 := u.1; (if v20 < x3 then 1 else (if p2 = 0 then (f_X_isIllegal_55 u p1 p2 ) else (if x4 = 0 then (f_X_isIllegal_55 u p1 p2 ) else 1))))
def f_X_isIllegal_22 (u : cs_St) (p1 : Int32) (p2 : Int32) (x3 : Int32) (y0 : Int32) : Int32 := (let v25 : Int32 := f_X_isHere u p1; (if v25 = 0 then (let v28 : Int32 := f_X_isElsewhere u p1; (if v28 = 0 then 1 else (f_X_isIllegal_38 u p1 p2 x3 y0))) else (f_X_isIllegal_38 u p1 p2 x3 y0)))
def f_X_isIllegal (u : cs_St) (p1 : Int32) (p2 : Int32) : Int32 := (let v30 : Int32 := p1 >>> ((8 : Int32) &&& 31); let v31 : Int32 := v30 &&& (3 : Int32); let v32 : Int32 := p1 >>> ((10 : Int32) &&& 31); let v33 : Int32 := v32 &&& (3 : Int32); (if v33 = 3 then (f_X_isIllegal_22 u p1 p2 v31 1) else (f_X_isIllegal_22 u p1 p2 v31 0)))
set_option maxHeartbeats 4000000 in
set_option maxRecDepth 100000 in
theorem c_X_isIllegal (l : Launch) (D : va_G) (tys : List (ClassId × FieldType)) (h0 b1 b2 : Nat) (u : cs_St) (p1 : Int32) (p2 : Int32)  : ck_Mi l D tys (wx h0 b1 b2) yn_X_isIllegal w_X_isIllegal rm_X_isIllegal 0 0 [.ref h0, .int p1, .int p2] u (f_X_isIllegal u p1 p2) u := by
  refine ck_enti (cc := bc_X_isIllegal) (maxL := 5) (ret := (some .boolean)) (by decide) rfl (Nat.le_of_ble_eq_true rfl) ?_
  intro p e s m below meth c A ls C hnm hP hD hS hl
  have C : ck_C p s m meth c bc_X_isIllegal (some .boolean) 5 #[.ref h0, .int p1, .int p2] "ControlDesk" A D tys := C
  have hl : lv_has ls 5 [(0, .ref h0), (1, .int p1), (2, .int p2)] := hl
  have hx := C.1
  have hb := C.2.1
  have hown := C.2.2.2.2.1
  have hT := C.2.2.2.2.2.1
  have hK := C.2.2.2.2.2.2.2.1
  have hN := C.2.2.2.2.2.2.2.2.2.2.2.1
  have k97 : ∀ (H : Heap) (locs : List Loc) (ls : Array Slot), va_P D xw_Cl ((wx h0 b1 b2) u) H → va_D A ((wx h0 b1 b2) u) → va_S A s.heap H locs → lv_has ls 5 [(0, .ref h0), (1, .int p1)] → f_X_isIllegal u p1 p2 = f_X_isIllegal_97 u p1 p2  → W p l e rm_X_isIllegal s m #[.ref h0, .int p1, .int p2] below meth c H locs 0 0 (MQ below (va_Qi (fun r2 u2 => r2 = (f_X_isIllegal u p1 p2) ∧ u2 = u) (ck_B D (wx h0 b1 b2) A) A) #[.ref h0, .int p1, .int p2] s 0 0 A) (F0 m 97 ls []) := by
    intro  H locs ls hP hD hS hl hq 
    refine lv_iload_n hx hb dc_X_isIllegal_97 rfl (lv_at hl 1 rfl) ?_
    refine ck_gpi (rest := []) C kt_X hP hD hS (ck_runS C kt_X hK (c_X_isOpenCount l D tys h0 b1 b2 u p1  _) (cw_X_167 hT ⟨Nat.le_of_ble_eq_true rfl, Nat.le_of_ble_eq_true rfl⟩) hP hD hS rfl hl.1 rfl (Nat.le_of_ble_eq_true rfl) dc_X_isIllegal_98 ⟨Nat.zero_le _, Nat.zero_le _⟩) (fun v2 H locs e2 hP hD hS => ?_)
    refine lv_if_eq (tgt := 120) hx hb dc_X_isIllegal_101 (by decide) (fun c3 => ?_) (fun c3 => ?_)
    · refine lv_iconst (v := 0) hx hb dc_X_isIllegal_120 (by decide) ?_
      exact ck_zret (v := 0) C hP hD hS rfl ⟨by subst e2; exact (hq.trans ((if_pos c3))).symm, rfl⟩ dc_X_isIllegal_121
    · refine lv_aload_n hx hb dc_X_isIllegal_104 rfl (lv_at hl 0 rfl) ?_
      refine lv_iload_n hx hb dc_X_isIllegal_105 rfl (lv_at hl 1 rfl) ?_
      refine lv_sipush (v := 3072) hx hb dc_X_isIllegal_106 (by decide) ?_
      refine xr_isub hx hb dc_X_isIllegal_109 (fun v4 e4 => ?_)
      refine ck_gpi (rest := []) C kt_X hP hD hS (ck_runV (q0 := 0) C kt_X hK (c_X_isClosed l D tys h0 b1 b2 u v4  _) (cw_X_170 hT ⟨Nat.le_of_ble_eq_true rfl, Nat.le_of_ble_eq_true rfl⟩) rfl rfl hP hD hS rfl hl.1 rfl (Nat.le_of_ble_eq_true rfl) dc_X_isIllegal_110 ⟨Nat.zero_le _, Nat.zero_le _⟩) (fun v6 H locs e6 hP hD hS => ?_)
      refine lv_if_eq (tgt := 120) hx hb dc_X_isIllegal_113 (by decide) (fun c7 => ?_) (fun c7 => ?_)
      · refine lv_iconst (v := 0) hx hb dc_X_isIllegal_120 (by decide) ?_
        exact ck_zret (v := 0) C hP hD hS rfl ⟨by subst e2 e4 e6; exact (hq.trans ((if_neg c3).trans ((if_pos c7)))).symm, rfl⟩ dc_X_isIllegal_121
      · refine lv_iconst (v := 1) hx hb dc_X_isIllegal_116 (by decide) ?_
        refine lv_goto (tgt := 121) hx hb dc_X_isIllegal_117 (by decide) ?_
        exact ck_zret (v := 1) C hP hD hS rfl ⟨by subst e2 e4 e6; exact (hq.trans ((if_neg c3).trans ((if_neg c7)))).symm, rfl⟩ dc_X_isIllegal_121
  have k80 : ∀ (H : Heap) (locs : List Loc) (ls : Array Slot), va_P D xw_Cl ((wx h0 b1 b2) u) H → va_D A ((wx h0 b1 b2) u) → va_S A s.heap H locs → lv_has ls 5 [(0, .ref h0), (1, .int p1)] → f_X_isIllegal u p1 p2 = f_X_isIllegal_80 u p1 p2  → W p l e rm_X_isIllegal s m #[.ref h0, .int p1, .int p2] below meth c H locs 0 0 (MQ below (va_Qi (fun r2 u2 => r2 = (f_X_isIllegal u p1 p2) ∧ u2 = u) (ck_B D (wx h0 b1 b2) A) A) #[.ref h0, .int p1, .int p2] s 0 0 A) (F0 m 80 ls []) := by
    intro  H locs ls hP hD hS hl hq 
    refine lv_iload_n hx hb dc_X_isIllegal_80 rfl (lv_at hl 1 rfl) ?_
    refine ck_gpi (rest := []) C kt_X hP hD hS (ck_runS C kt_X hK (c_X_isFloat l D tys h0 b1 b2 u p1  _) (cw_X_54 hT ⟨Nat.le_of_ble_eq_true rfl, Nat.le_of_ble_eq_true rfl⟩) hP hD hS rfl hl.1 rfl (Nat.le_of_ble_eq_true rfl) dc_X_isIllegal_81 ⟨Nat.zero_le _, Nat.zero_le _⟩) (fun v9 H locs e9 hP hD hS => ?_)
    refine lv_if_eq (tgt := 97) hx hb dc_X_isIllegal_84 (by decide) (fun c10 => ?_) (fun c10 => ?_)
    · exact k97  _ _ _ hP hD hS (lv_sub hl [0, 1] rfl) (by subst e9; exact hq.trans ((if_pos c10)))
    · refine lv_aload_n hx hb dc_X_isIllegal_87 rfl (lv_at hl 0 rfl) ?_
      refine lv_ldc2 (v := 24576) hx hb hown (hT _ mw_2) dc_X_isIllegal_88 ?_
      refine ck_gpi (rest := []) C kt_X hP hD hS (ck_runV (q0 := 0) C kt_X hK (c_X_has l D tys h0 b1 b2 u 24576  _) (cw_X_29 hT ⟨Nat.le_of_ble_eq_true rfl, Nat.le_of_ble_eq_true rfl⟩) rfl rfl hP hD hS rfl hl.1 rfl (Nat.le_of_ble_eq_true rfl) dc_X_isIllegal_91 ⟨Nat.zero_le _, Nat.zero_le _⟩) (fun v12 H locs e12 hP hD hS => ?_)
      refine lv_if_eq (tgt := 116) hx hb dc_X_isIllegal_94 (by decide) (fun c13 => ?_) (fun c13 => ?_)
      · refine lv_iconst (v := 1) hx hb dc_X_isIllegal_116 (by decide) ?_
        refine lv_goto (tgt := 121) hx hb dc_X_isIllegal_117 (by decide) ?_
        exact ck_zret (v := 1) C hP hD hS rfl ⟨by subst e9 e12; exact (hq.trans ((if_neg c10).trans ((if_pos c13)))).symm, rfl⟩ dc_X_isIllegal_121
      · exact k97  _ _ _ hP hD hS (lv_sub hl [0, 1] rfl) (by subst e9 e12; exact hq.trans ((if_neg c10).trans ((if_neg c13))))
  have k55 : ∀ (H : Heap) (locs : List Loc) (ls : Array Slot), va_P D xw_Cl ((wx h0 b1 b2) u) H → va_D A ((wx h0 b1 b2) u) → va_S A s.heap H locs → lv_has ls 5 [(0, .ref h0), (1, .int p1)] → f_X_isIllegal u p1 p2 = f_X_isIllegal_55 u p1 p2  → W p l e rm_X_isIllegal s m #[.ref h0, .int p1, .int p2] below meth c H locs 0 0 (MQ below (va_Qi (fun r2 u2 => r2 = (f_X_isIllegal u p1 p2) ∧ u2 = u) (ck_B D (wx h0 b1 b2) A) A) #[.ref h0, .int p1, .int p2] s 0 0 A) (F0 m 55 ls []) := by
    intro  H locs ls hP hD hS hl hq 
    refine lv_iload_n hx hb dc_X_isIllegal_55 rfl (lv_at hl 1 rfl) ?_
    refine lv_sipush (v := 384) hx hb dc_X_isIllegal_56 (by decide) ?_
    refine lv_icmp_ne (tgt := 80) hx hb dc_X_isIllegal_59 (by decide) (fun c14 => ?_) (fun c14 => ?_)
    · exact k80  _ _ _ hP hD hS (lv_sub hl [0, 1] rfl) (by exact hq.trans ((if_neg c14)))
    · refine lv_aload_n hx hb dc_X_isIllegal_62 rfl (lv_at hl 0 rfl) ?_
      refine gx_currentMode C hP dc_X_isIllegal_63 (fun v15 e15 => ?_)
      refine lv_iconst (v := 1) hx hb dc_X_isIllegal_66 (by decide) ?_
      refine lv_icmp_ne (tgt := 80) hx hb dc_X_isIllegal_67 (by decide) (fun c16 => ?_) (fun c16 => ?_)
      · exact k80  _ _ _ hP hD hS (lv_sub hl [0, 1] rfl) (by subst e15; exact hq.trans ((if_pos c14).trans ((if_neg c16))))
      · refine lv_aload_n hx hb dc_X_isIllegal_70 rfl (lv_at hl 0 rfl) ?_
        refine lv_ldc2 (v := 1048576) hx hb hown (hT _ mw_3) dc_X_isIllegal_71 ?_
        refine ck_gpi (rest := []) C kt_X hP hD hS (ck_runV (q0 := 0) C kt_X hK (c_X_has l D tys h0 b1 b2 u 1048576  _) (cw_X_29 hT ⟨Nat.le_of_ble_eq_true rfl, Nat.le_of_ble_eq_true rfl⟩) rfl rfl hP hD hS rfl hl.1 rfl (Nat.le_of_ble_eq_true rfl) dc_X_isIllegal_74 ⟨Nat.zero_le _, Nat.zero_le _⟩) (fun v18 H locs e18 hP hD hS => ?_)
        refine lv_if_ne (tgt := 116) hx hb dc_X_isIllegal_77 (by decide) (fun c19 => ?_) (fun c19 => ?_)
        · refine lv_iconst (v := 1) hx hb dc_X_isIllegal_116 (by decide) ?_
          refine lv_goto (tgt := 121) hx hb dc_X_isIllegal_117 (by decide) ?_
          exact ck_zret (v := 1) C hP hD hS rfl ⟨by subst e15 e18; exact (hq.trans ((if_pos c14).trans ((if_pos c16).trans ((if_neg c19))))).symm, rfl⟩ dc_X_isIllegal_121
        · exact k80  _ _ _ hP hD hS (lv_sub hl [0, 1] rfl) (by subst e15 e18; exact hq.trans ((if_pos c14).trans ((if_pos c16).trans ((if_pos c19)))))
  have k38 : ∀ (x3 : Int32) (x4 : Int32) (H : Heap) (locs : List Loc) (ls : Array Slot), va_P D xw_Cl ((wx h0 b1 b2) u) H → va_D A ((wx h0 b1 b2) u) → va_S A s.heap H locs → lv_has ls 5 [(0, .ref h0), (1, .int p1), (2, .int p2), (3, .int x3), (4, .int x4)] → f_X_isIllegal u p1 p2 = f_X_isIllegal_38 u p1 p2 x3 x4 → W p l e rm_X_isIllegal s m #[.ref h0, .int p1, .int p2] below meth c H locs 0 0 (MQ below (va_Qi (fun r2 u2 => r2 = (f_X_isIllegal u p1 p2) ∧ u2 = u) (ck_B D (wx h0 b1 b2) A) A) #[.ref h0, .int p1, .int p2] s 0 0 A) (F0 m 38 ls []) := by
    intro x3 x4 H locs ls hP hD hS hl hq 
    refine lv_iload_n hx hb dc_X_isIllegal_38 rfl (lv_at hl 3 rfl) ?_
    refine lv_aload_n hx hb dc_X_isIllegal_39 rfl (lv_at hl 0 rfl) ?_
    refine gx_currentMode C hP dc_X_isIllegal_40 (fun v20 e20 => ?_)
    refine lv_icmp_gt (tgt := 116) hx hb dc_X_isIllegal_43 (by decide) (fun c21 => ?_) (fun c21 => ?_)
    · refine lv_iconst (v := 1) hx hb dc_X_isIllegal_116 (by decide) ?_
      refine lv_goto (tgt := 121) hx hb dc_X_isIllegal_117 (by decide) ?_
      exact ck_zret (v := 1) C hP hD hS rfl ⟨by subst e20; exact (hq.trans ((if_pos c21))).symm, rfl⟩ dc_X_isIllegal_121
    · refine lv_iload_n hx hb dc_X_isIllegal_46 rfl (lv_at hl 2 rfl) ?_
      refine lv_if_eq (tgt := 55) hx hb dc_X_isIllegal_47 (by decide) (fun c22 => ?_) (fun c22 => ?_)
      · exact k55  _ _ _ hP hD hS (lv_sub hl [0, 1] rfl) (by subst e20; exact hq.trans ((if_neg c21).trans ((if_pos c22))))
      · refine lv_iload hx hb dc_X_isIllegal_50 (lv_at hl 4 rfl) ?_
        refine lv_if_ne (tgt := 116) hx hb dc_X_isIllegal_52 (by decide) (fun c23 => ?_) (fun c23 => ?_)
        · refine lv_iconst (v := 1) hx hb dc_X_isIllegal_116 (by decide) ?_
          refine lv_goto (tgt := 121) hx hb dc_X_isIllegal_117 (by decide) ?_
          exact ck_zret (v := 1) C hP hD hS rfl ⟨by subst e20; exact (hq.trans ((if_neg c21).trans ((if_neg c22).trans ((if_neg c23))))).symm, rfl⟩ dc_X_isIllegal_121
        · exact k55  _ _ _ hP hD hS (lv_sub hl [0, 1] rfl) (by subst e20; exact hq.trans ((if_neg c21).trans ((if_neg c22).trans ((if_pos c23)))))
  have k22 : ∀ (x3 : Int32) (y0 : Int32) (H : Heap) (locs : List Loc) (ls : Array Slot), va_P D xw_Cl ((wx h0 b1 b2) u) H → va_D A ((wx h0 b1 b2) u) → va_S A s.heap H locs → lv_has ls 5 [(0, .ref h0), (1, .int p1), (2, .int p2), (3, .int x3)] → f_X_isIllegal u p1 p2 = f_X_isIllegal_22 u p1 p2 x3 y0 → W p l e rm_X_isIllegal s m #[.ref h0, .int p1, .int p2] below meth c H locs 0 0 (MQ below (va_Qi (fun r2 u2 => r2 = (f_X_isIllegal u p1 p2) ∧ u2 = u) (ck_B D (wx h0 b1 b2) A) A) #[.ref h0, .int p1, .int p2] s 0 0 A) (F0 m 22 ls [.int y0]) := by
    intro x3 y0 H locs ls hP hD hS hl hq 
    refine lv_istore (lv' := [(4, .int y0), (0, .ref h0), (1, .int p1), (2, .int p2), (3, .int x3)]) hx hb dc_X_isIllegal_22 hl (by decide) rfl (fun ls hl => ?_)
    refine lv_iload_n hx hb dc_X_isIllegal_24 rfl (lv_at hl 2 rfl) ?_
    refine ck_gpi (rest := []) C kt_X hP hD hS (ck_runS C kt_X hK (c_X_isHere l D tys h0 b1 b2 u p1  _) (cw_X_164 hT ⟨Nat.le_of_ble_eq_true rfl, Nat.le_of_ble_eq_true rfl⟩) hP hD hS rfl hl.1 rfl (Nat.le_of_ble_eq_true rfl) dc_X_isIllegal_25 ⟨Nat.zero_le _, Nat.zero_le _⟩) (fun v25 H locs e25 hP hD hS => ?_)
    refine lv_if_ne (tgt := 38) hx hb dc_X_isIllegal_28 (by decide) (fun c26 => ?_) (fun c26 => ?_)
    · exact k38 x3 y0 _ _ _ hP hD hS (lv_sub hl [1, 2, 3, 4, 0] rfl) (by subst e25; exact hq.trans ((if_neg c26)))
    · refine lv_iload_n hx hb dc_X_isIllegal_31 rfl (lv_at hl 2 rfl) ?_
      refine ck_gpi (rest := []) C kt_X hP hD hS (ck_runS C kt_X hK (c_X_isElsewhere l D tys h0 b1 b2 u p1  _) (cw_X_50 hT ⟨Nat.le_of_ble_eq_true rfl, Nat.le_of_ble_eq_true rfl⟩) hP hD hS rfl hl.1 rfl (Nat.le_of_ble_eq_true rfl) dc_X_isIllegal_32 ⟨Nat.zero_le _, Nat.zero_le _⟩) (fun v28 H locs e28 hP hD hS => ?_)
      refine lv_if_eq (tgt := 116) hx hb dc_X_isIllegal_35 (by decide) (fun c29 => ?_) (fun c29 => ?_)
      · refine lv_iconst (v := 1) hx hb dc_X_isIllegal_116 (by decide) ?_
        refine lv_goto (tgt := 121) hx hb dc_X_isIllegal_117 (by decide) ?_
        exact ck_zret (v := 1) C hP hD hS rfl ⟨by subst e25 e28; exact (hq.trans ((if_pos c26).trans ((if_pos c29)))).symm, rfl⟩ dc_X_isIllegal_121
      · exact k38 x3 y0 _ _ _ hP hD hS (lv_sub hl [1, 2, 3, 4, 0] rfl) (by subst e25 e28; exact hq.trans ((if_pos c26).trans ((if_neg c29))))
  -- from the entry
  refine lv_iload_n hx hb dc_X_isIllegal_0 rfl (lv_at hl 1 rfl) ?_
  refine lv_bipush (v := 8) hx hb dc_X_isIllegal_1 (by decide) ?_
  refine xr_ishr hx hb dc_X_isIllegal_3 (fun v30 e30 => ?_)
  refine lv_iconst (v := 3) hx hb dc_X_isIllegal_4 (by decide) ?_
  refine xr_iand hx hb dc_X_isIllegal_5 (fun v31 e31 => ?_)
  refine lv_istore_n (lv' := [(3, .int v31), (0, .ref h0), (1, .int p1), (2, .int p2)]) hx hb dc_X_isIllegal_6 rfl hl (by decide) rfl (fun ls hl => ?_)
  refine lv_iload_n hx hb dc_X_isIllegal_7 rfl (lv_at hl 2 rfl) ?_
  refine lv_bipush (v := 10) hx hb dc_X_isIllegal_8 (by decide) ?_
  refine xr_ishr hx hb dc_X_isIllegal_10 (fun v32 e32 => ?_)
  refine lv_iconst (v := 3) hx hb dc_X_isIllegal_11 (by decide) ?_
  refine xr_iand hx hb dc_X_isIllegal_12 (fun v33 e33 => ?_)
  refine lv_iconst (v := 3) hx hb dc_X_isIllegal_13 (by decide) ?_
  refine lv_icmp_ne (tgt := 21) hx hb dc_X_isIllegal_14 (by decide) (fun c34 => ?_) (fun c34 => ?_)
  · refine lv_iconst (v := 0) hx hb dc_X_isIllegal_21 (by decide) ?_
    exact k22 v31 0 _ _ _ hP hD hS (lv_sub hl [1, 2, 3, 0] rfl) (by subst e30 e31 e32 e33; exact (if_neg c34))
  · refine lv_iconst (v := 1) hx hb dc_X_isIllegal_17 (by decide) ?_
    refine lv_goto (tgt := 22) hx hb dc_X_isIllegal_18 (by decide) ?_
    exact k22 v31 1 _ _ _ hP hD hS (lv_sub hl [1, 2, 3, 0] rfl) (by subst e30 e31 e32 e33; exact (if_pos c34))
end
