set_option maxRecDepth 20000 in
theorem cw_B_22 {R : Room} {s : State} {args : Array Value} (hT : ∀ w ∈ xw_T, w.before args s = true) (hR : rm_B1_keepResume.frames + 1 ≤ R.frames ∧ 8 + (3 + 11) + rm_B1_keepResume.locals ≤ R.locals) : CallW R s args "ControlDesk$Bank" "ControlDesk$Bank" 22 yn_B_keepResume bc_B_keepResume 3 none w_B1_keepResume rm_B1_keepResume 0 0 1 :=
  ⟨callB_of 1 hT (xw_good mc_B_keepResume) rfl rfl rfl (hT _ mw_83) (hT _ mw_86) (by decide +kernel) hR, hT _ mw_84, hT _ mw_85⟩
set_option maxRecDepth 20000 in
theorem cw_M_106 {R : Room} {s : State} {args : Array Value} (hT : ∀ w ∈ xw_T, w.before args s = true) (hR : rm_M_isIllegal.frames + 1 ≤ R.frames ∧ 8 + (7 + 11) + rm_M_isIllegal.locals ≤ R.locals) : CallW R s args "ControlDeskModel" "ControlDeskModel" 106 yn_M_isIllegal bc_M_isIllegal 7 (some .boolean) w_M_isIllegal rm_M_isIllegal 0 0 2 :=
  ⟨callB_of 2 hT (xw_good mc_M_isIllegal) rfl rfl rfl (hT _ mw_88) (hT _ mw_91) (by decide +kernel) hR, hT _ mw_89, hT _ mw_90⟩
set_option maxRecDepth 20000 in
theorem cw_M_115 {R : Room} {s : State} {args : Array Value} (hT : ∀ w ∈ xw_T, w.before args s = true) (hR : rm_M_write.frames + 1 ≤ R.frames ∧ 8 + (6 + 11) + rm_M_write.locals ≤ R.locals) : CallW R s args "ControlDeskModel" "ControlDeskModel" 115 yn_M_write bc_M_write 6 none w_M_write rm_M_write 0 0 2 :=
  ⟨callB_of 2 hT (xw_good mc_M_write) rfl rfl rfl (hT _ mw_88) (hT _ mw_95) (by decide +kernel) hR, hT _ mw_93, hT _ mw_94⟩
set_option maxRecDepth 20000 in
theorem cw_M_123 {R : Room} {s : State} {args : Array Value} (hT : ∀ w ∈ xw_T, w.before args s = true) (hR : rm_M_beginning.frames + 1 ≤ R.frames ∧ 8 + (6 + 11) + rm_M_beginning.locals ≤ R.locals) : CallB R s args "ControlDeskModel" 123 yn_M_beginning bc_M_beginning 6 (some .long) w_M_beginning rm_M_beginning 0 0 3 ∧ (Cond.static yn_M_beginning).before args s = true :=
  ⟨callB_of 3 hT (xw_good mc_M_beginning) rfl rfl rfl (hT _ mw_88) (hT _ mw_97) (by decide +kernel) hR, hT _ mw_98⟩
set_option maxRecDepth 20000 in
theorem cw_M_130 {R : Room} {s : State} {args : Array Value} (hT : ∀ w ∈ xw_T, w.before args s = true) (hR : rm_M_isPending.frames + 1 ≤ R.frames ∧ 8 + (2 + 11) + rm_M_isPending.locals ≤ R.locals) : CallW R s args "ControlDeskModel" "ControlDeskModel" 130 yn_M_isPending bc_M_isPending 2 (some .boolean) w_M_isPending rm_M_isPending 0 0 1 :=
  ⟨callB_of 1 hT (xw_good mc_M_isPending) rfl rfl rfl (hT _ mw_88) (hT _ mw_102) (by decide +kernel) hR, hT _ mw_100, hT _ mw_101⟩
set_option maxRecDepth 20000 in
theorem cw_M_133 {R : Room} {s : State} {args : Array Value} (hT : ∀ w ∈ xw_T, w.before args s = true) (hR : rm_M_mayBe.frames + 1 ≤ R.frames ∧ 8 + (5 + 11) + rm_M_mayBe.locals ≤ R.locals) : CallW R s args "ControlDeskModel" "ControlDeskModel" 133 yn_M_mayBe bc_M_mayBe 5 (some .boolean) w_M_mayBe rm_M_mayBe 0 0 2 :=
  ⟨callB_of 2 hT (xw_good mc_M_mayBe) rfl rfl rfl (hT _ mw_88) (hT _ mw_106) (by decide +kernel) hR, hT _ mw_104, hT _ mw_105⟩
set_option maxRecDepth 20000 in
theorem cw_M_136 {R : Room} {s : State} {args : Array Value} (hT : ∀ w ∈ xw_T, w.before args s = true) (hR : rm_M_first.frames + 1 ≤ R.frames ∧ 8 + (4 + 11) + rm_M_first.locals ≤ R.locals) : CallW R s args "ControlDeskModel" "ControlDeskModel" 136 yn_M_first bc_M_first 4 (some .int) w_M_first rm_M_first 0 0 1 :=
  ⟨callB_of 1 hT (xw_good mc_M_first) rfl rfl rfl (hT _ mw_88) (hT _ mw_110) (by decide +kernel) hR, hT _ mw_108, hT _ mw_109⟩
set_option maxRecDepth 20000 in
theorem cw_M_29 {R : Room} {s : State} {args : Array Value} (hT : ∀ w ∈ xw_T, w.before args s = true) (hR : rm_M_status.frames + 1 ≤ R.frames ∧ 8 + (2 + 11) + rm_M_status.locals ≤ R.locals) : CallW R s args "ControlDeskModel" "ControlDeskModel" 29 yn_M_status bc_M_status 2 (some .int) w_M_status rm_M_status 0 0 1 :=
  ⟨callB_of 1 hT (xw_good mc_M_status) rfl rfl rfl (hT _ mw_88) (hT _ mw_114) (by decide +kernel) hR, hT _ mw_112, hT _ mw_113⟩
set_option maxRecDepth 20000 in
theorem cw_M_33 {R : Room} {s : State} {args : Array Value} (hT : ∀ w ∈ xw_T, w.before args s = true) (hR : rm_M_below.frames + 1 ≤ R.frames ∧ 8 + (1 + 11) + rm_M_below.locals ≤ R.locals) : CallW R s args "ControlDeskModel" "ControlDeskModel" 33 yn_M_below bc_M_below 1 (some .int) w_M_below rm_M_below 0 0 0 :=
  ⟨callB_of 0 hT (xw_good mc_M_below) rfl rfl rfl (hT _ mw_88) (hT _ mw_118) (by decide +kernel) hR, hT _ mw_116, hT _ mw_117⟩
set_option maxRecDepth 20000 in
theorem cw_M_37 {R : Room} {s : State} {args : Array Value} (hT : ∀ w ∈ xw_T, w.before args s = true) (hR : rm_M_isCount.frames + 1 ≤ R.frames ∧ 8 + (1 + 11) + rm_M_isCount.locals ≤ R.locals) : CallB R s args "ControlDeskModel" 37 yn_M_isCount bc_M_isCount 1 (some .boolean) w_M_isCount rm_M_isCount 0 0 1 ∧ (Cond.static yn_M_isCount).before args s = true :=
  ⟨callB_of 1 hT (xw_good mc_M_isCount) rfl rfl rfl (hT _ mw_88) (hT _ mw_120) (by decide +kernel) hR, hT _ mw_121⟩
set_option maxRecDepth 20000 in
theorem cw_M_41 {R : Room} {s : State} {args : Array Value} (hT : ∀ w ∈ xw_T, w.before args s = true) (hR : rm_M_isElsewhere.frames + 1 ≤ R.frames ∧ 8 + (1 + 11) + rm_M_isElsewhere.locals ≤ R.locals) : CallB R s args "ControlDeskModel" 41 yn_M_isElsewhere bc_M_isElsewhere 1 (some .boolean) w_M_isElsewhere rm_M_isElsewhere 0 0 1 ∧ (Cond.static yn_M_isElsewhere).before args s = true :=
  ⟨callB_of 1 hT (xw_good mc_M_isElsewhere) rfl rfl rfl (hT _ mw_88) (hT _ mw_123) (by decide +kernel) hR, hT _ mw_124⟩
set_option maxRecDepth 20000 in
theorem cw_M_44 {R : Room} {s : State} {args : Array Value} (hT : ∀ w ∈ xw_T, w.before args s = true) (hR : rm_M_floating.frames + 1 ≤ R.frames ∧ 8 + (1 + 11) + rm_M_floating.locals ≤ R.locals) : CallW R s args "ControlDeskModel" "ControlDeskModel" 44 yn_M_floating bc_M_floating 1 (some .int) w_M_floating rm_M_floating 0 0 0 :=
  ⟨callB_of 0 hT (xw_good mc_M_floating) rfl rfl rfl (hT _ mw_88) (hT _ mw_128) (by decide +kernel) hR, hT _ mw_126, hT _ mw_127⟩
set_option maxRecDepth 20000 in
theorem cw_M_51 {R : Room} {s : State} {args : Array Value} (hT : ∀ w ∈ xw_T, w.before args s = true) (hR : rm_M_statusSeen.frames + 1 ≤ R.frames ∧ 8 + (6 + 11) + rm_M_statusSeen.locals ≤ R.locals) : CallB R s args "ControlDeskModel" 51 yn_M_statusSeen bc_M_statusSeen 6 (some .long) w_M_statusSeen rm_M_statusSeen 0 0 1 ∧ (Cond.static yn_M_statusSeen).before args s = true :=
  ⟨callB_of 1 hT (xw_good mc_M_statusSeen) rfl rfl rfl (hT _ mw_88) (hT _ mw_130) (by decide +kernel) hR, hT _ mw_131⟩
set_option maxRecDepth 20000 in
theorem cw_M_59 {R : Room} {s : State} {args : Array Value} (hT : ∀ w ∈ xw_T, w.before args s = true) (hR : rm_M_lineBits.frames + 1 ≤ R.frames ∧ 8 + (4 + 11) + rm_M_lineBits.locals ≤ R.locals) : CallW R s args "ControlDeskModel" "ControlDeskModel" 59 yn_M_lineBits bc_M_lineBits 4 (some .long) w_M_lineBits rm_M_lineBits 0 0 0 :=
  ⟨callB_of 0 hT (xw_good mc_M_lineBits) rfl rfl rfl (hT _ mw_88) (hT _ mw_135) (by decide +kernel) hR, hT _ mw_133, hT _ mw_134⟩
set_option maxRecDepth 20000 in
theorem cw_M_67 {R : Room} {s : State} {args : Array Value} (hT : ∀ w ∈ xw_T, w.before args s = true) (hR : rm_M_isThere.frames + 1 ≤ R.frames ∧ 8 + (3 + 11) + rm_M_isThere.locals ≤ R.locals) : CallB R s args "ControlDeskModel" 67 yn_M_isThere bc_M_isThere 3 (some .boolean) w_M_isThere rm_M_isThere 0 0 1 ∧ (Cond.static yn_M_isThere).before args s = true :=
  ⟨callB_of 1 hT (xw_good mc_M_isThere) rfl rfl rfl (hT _ mw_88) (hT _ mw_137) (by decide +kernel) hR, hT _ mw_138⟩
set_option maxRecDepth 20000 in
theorem cw_M_70 {R : Room} {s : State} {args : Array Value} (hT : ∀ w ∈ xw_T, w.before args s = true) (hR : rm_M_shown.frames + 1 ≤ R.frames ∧ 8 + (4 + 11) + rm_M_shown.locals ≤ R.locals) : CallW R s args "ControlDeskModel" "ControlDeskModel" 70 yn_M_shown bc_M_shown 4 (some .long) w_M_shown rm_M_shown 0 0 1 :=
  ⟨callB_of 1 hT (xw_good mc_M_shown) rfl rfl rfl (hT _ mw_88) (hT _ mw_142) (by decide +kernel) hR, hT _ mw_140, hT _ mw_141⟩
set_option maxRecDepth 20000 in
theorem cw_M_74 {R : Room} {s : State} {args : Array Value} (hT : ∀ w ∈ xw_T, w.before args s = true) (hR : rm_M_through.frames + 1 ≤ R.frames ∧ 8 + (6 + 11) + rm_M_through.locals ≤ R.locals) : CallW R s args "ControlDeskModel" "ControlDeskModel" 74 yn_M_through bc_M_through 6 none w_M_through rm_M_through 0 0 3 :=
  ⟨callB_of 3 hT (xw_good mc_M_through) rfl rfl rfl (hT _ mw_88) (hT _ mw_146) (by decide +kernel) hR, hT _ mw_144, hT _ mw_145⟩
set_option maxRecDepth 20000 in
theorem cw_M_78 {R : Room} {s : State} {args : Array Value} (hT : ∀ w ∈ xw_T, w.before args s = true) (hR : rm_M_put.frames + 1 ≤ R.frames ∧ 8 + (3 + 11) + rm_M_put.locals ≤ R.locals) : CallW R s args "ControlDeskModel" "ControlDeskModel" 78 yn_M_put bc_M_put 3 none w_M_put rm_M_put 0 0 2 :=
  ⟨callB_of 2 hT (xw_good mc_M_put) rfl rfl rfl (hT _ mw_88) (hT _ mw_150) (by decide +kernel) hR, hT _ mw_148, hT _ mw_149⟩
set_option maxRecDepth 20000 in
theorem cw_M_82 {R : Room} {s : State} {args : Array Value} (hT : ∀ w ∈ xw_T, w.before args s = true) (hR : rm_M_writeStatus.frames + 1 ≤ R.frames ∧ 8 + (6 + 11) + rm_M_writeStatus.locals ≤ R.locals) : CallW R s args "ControlDeskModel" "ControlDeskModel" 82 yn_M_writeStatus bc_M_writeStatus 6 none w_M_writeStatus rm_M_writeStatus 0 0 2 :=
  ⟨callB_of 2 hT (xw_good mc_M_writeStatus) rfl rfl rfl (hT _ mw_88) (hT _ mw_154) (by decide +kernel) hR, hT _ mw_152, hT _ mw_153⟩
set_option maxRecDepth 20000 in
theorem cw_X_104 {R : Room} {s : State} {args : Array Value} (hT : ∀ w ∈ xw_T, w.before args s = true) (hR : rm_X_mayReturn.frames + 1 ≤ R.frames ∧ 8 + (2 + 11) + rm_X_mayReturn.locals ≤ R.locals) : CallW R s args "ControlDesk" "ControlDesk" 104 yn_X_mayReturn bc_X_mayReturn 2 (some .boolean) w_X_mayReturn rm_X_mayReturn 0 0 1 :=
  ⟨callB_of 1 hT (xw_good mc_X_mayReturn) rfl rfl rfl (hT _ mw_156) (hT _ mw_159) (by decide +kernel) hR, hT _ mw_157, hT _ mw_158⟩
set_option maxRecDepth 20000 in
theorem cw_X_108 {R : Room} {s : State} {args : Array Value} (hT : ∀ w ∈ xw_T, w.before args s = true) (hR : rm_X_leaveMachine.frames + 1 ≤ R.frames ∧ 8 + (3 + 11) + rm_X_leaveMachine.locals ≤ R.locals) : CallW R s args "ControlDesk" "ControlDesk" 108 yn_X_leaveMachine bc_X_leaveMachine 3 none w_X_leaveMachine rm_X_leaveMachine 0 0 0 :=
  ⟨callB_of 0 hT (xw_good mc_X_leaveMachine) rfl rfl rfl (hT _ mw_156) (hT _ mw_163) (by decide +kernel) hR, hT _ mw_161, hT _ mw_162⟩
set_option maxRecDepth 20000 in
theorem cw_X_111 {R : Room} {s : State} {args : Array Value} (hT : ∀ w ∈ xw_T, w.before args s = true) (hR : rm_X_leaveSupervisor.frames + 1 ≤ R.frames ∧ 8 + (3 + 11) + rm_X_leaveSupervisor.locals ≤ R.locals) : CallW R s args "ControlDesk" "ControlDesk" 111 yn_X_leaveSupervisor bc_X_leaveSupervisor 3 none w_X_leaveSupervisor rm_X_leaveSupervisor 0 0 0 :=
  ⟨callB_of 0 hT (xw_good mc_X_leaveSupervisor) rfl rfl rfl (hT _ mw_156) (hT _ mw_167) (by decide +kernel) hR, hT _ mw_165, hT _ mw_166⟩
set_option maxRecDepth 20000 in
theorem cw_X_116 {R : Room} {s : State} {args : Array Value} (hT : ∀ w ∈ xw_T, w.before args s = true) (hR : rm_X_pending.frames + 1 ≤ R.frames ∧ 8 + (1 + 11) + rm_X_pending.locals ≤ R.locals) : CallW R s args "ControlDesk" "ControlDesk" 116 yn_X_pending bc_X_pending 1 (some .long) w_X_pending rm_X_pending 0 0 0 :=
  ⟨callB_of 0 hT (xw_good mc_X_pending) rfl rfl rfl (hT _ mw_156) (hT _ mw_171) (by decide +kernel) hR, hT _ mw_169, hT _ mw_170⟩
set_option maxRecDepth 20000 in
theorem cw_X_123 {R : Room} {s : State} {args : Array Value} (hT : ∀ w ∈ xw_T, w.before args s = true) (hR : rm_X_takesUndelegated.frames + 1 ≤ R.frames ∧ 8 + (1 + 11) + rm_X_takesUndelegated.locals ≤ R.locals) : CallW R s args "ControlDesk" "ControlDesk" 123 yn_X_takesUndelegated bc_X_takesUndelegated 1 (some .boolean) w_X_takesUndelegated rm_X_takesUndelegated 0 0 0 :=
  ⟨callB_of 0 hT (xw_good mc_X_takesUndelegated) rfl rfl rfl (hT _ mw_156) (hT _ mw_175) (by decide +kernel) hR, hT _ mw_173, hT _ mw_174⟩
set_option maxRecDepth 20000 in
theorem cw_X_132 {R : Room} {s : State} {args : Array Value} (hT : ∀ w ∈ xw_T, w.before args s = true) (hR : rm_X_firstInOrder.frames + 1 ≤ R.frames ∧ 8 + (6 + 11) + rm_X_firstInOrder.locals ≤ R.locals) : CallB R s args "ControlDesk" 132 yn_X_firstInOrder bc_X_firstInOrder 6 (some .int) w_X_firstInOrder rm_X_firstInOrder 0 0 1 ∧ (Cond.static yn_X_firstInOrder).before args s = true :=
  ⟨callB_of 1 hT (xw_good mc_X_firstInOrder) rfl rfl rfl (hT _ mw_156) (hT _ mw_177) (by decide +kernel) hR, hT _ mw_178⟩
set_option maxRecDepth 20000 in
theorem cw_X_136 {R : Room} {s : State} {args : Array Value} (hT : ∀ w ∈ xw_T, w.before args s = true) (hR : rm_X_takesDelegated.frames + 1 ≤ R.frames ∧ 8 + (1 + 11) + rm_X_takesDelegated.locals ≤ R.locals) : CallW R s args "ControlDesk" "ControlDesk" 136 yn_X_takesDelegated bc_X_takesDelegated 1 (some .boolean) w_X_takesDelegated rm_X_takesDelegated 0 0 0 :=
  ⟨callB_of 0 hT (xw_good mc_X_takesDelegated) rfl rfl rfl (hT _ mw_156) (hT _ mw_182) (by decide +kernel) hR, hT _ mw_180, hT _ mw_181⟩
set_option maxRecDepth 20000 in
theorem cw_X_150 {R : Room} {s : State} {args : Array Value} (hT : ∀ w ∈ xw_T, w.before args s = true) (hR : rm_X_machineOrSupervisorWithout.frames + 1 ≤ R.frames ∧ 8 + (3 + 11) + rm_X_machineOrSupervisorWithout.locals ≤ R.locals) : CallW R s args "ControlDesk" "ControlDesk" 150 yn_X_machineOrSupervisorWithout bc_X_machineOrSupervisorWithout 3 (some .boolean) w_X_machineOrSupervisorWithout rm_X_machineOrSupervisorWithout 0 0 1 :=
  ⟨callB_of 1 hT (xw_good mc_X_machineOrSupervisorWithout) rfl rfl rfl (hT _ mw_156) (hT _ mw_186) (by decide +kernel) hR, hT _ mw_184, hT _ mw_185⟩
set_option maxRecDepth 20000 in
theorem cw_X_164 {R : Room} {s : State} {args : Array Value} (hT : ∀ w ∈ xw_T, w.before args s = true) (hR : rm_X_isHere.frames + 1 ≤ R.frames ∧ 8 + (1 + 11) + rm_X_isHere.locals ≤ R.locals) : CallB R s args "ControlDesk" 164 yn_X_isHere bc_X_isHere 1 (some .boolean) w_X_isHere rm_X_isHere 0 0 1 ∧ (Cond.static yn_X_isHere).before args s = true :=
  ⟨callB_of 1 hT (xw_good mc_X_isHere) rfl rfl rfl (hT _ mw_156) (hT _ mw_188) (by decide +kernel) hR, hT _ mw_189⟩
set_option maxRecDepth 20000 in
theorem cw_X_167 {R : Room} {s : State} {args : Array Value} (hT : ∀ w ∈ xw_T, w.before args s = true) (hR : rm_X_isOpenCount.frames + 1 ≤ R.frames ∧ 8 + (1 + 11) + rm_X_isOpenCount.locals ≤ R.locals) : CallB R s args "ControlDesk" 167 yn_X_isOpenCount bc_X_isOpenCount 1 (some .boolean) w_X_isOpenCount rm_X_isOpenCount 0 0 1 ∧ (Cond.static yn_X_isOpenCount).before args s = true :=
  ⟨callB_of 1 hT (xw_good mc_X_isOpenCount) rfl rfl rfl (hT _ mw_156) (hT _ mw_191) (by decide +kernel) hR, hT _ mw_192⟩
set_option maxRecDepth 20000 in
theorem cw_X_170 {R : Room} {s : State} {args : Array Value} (hT : ∀ w ∈ xw_T, w.before args s = true) (hR : rm_X_isClosed.frames + 1 ≤ R.frames ∧ 8 + (4 + 11) + rm_X_isClosed.locals ≤ R.locals) : CallW R s args "ControlDesk" "ControlDesk" 170 yn_X_isClosed bc_X_isClosed 4 (some .boolean) w_X_isClosed rm_X_isClosed 0 0 1 :=
  ⟨callB_of 1 hT (xw_good mc_X_isClosed) rfl rfl rfl (hT _ mw_156) (hT _ mw_196) (by decide +kernel) hR, hT _ mw_194, hT _ mw_195⟩
set_option maxRecDepth 20000 in
theorem cw_X_183 {R : Room} {s : State} {args : Array Value} (hT : ∀ w ∈ xw_T, w.before args s = true) (hR : rm_X_shownStatus.frames + 1 ≤ R.frames ∧ 8 + (3 + 11) + rm_X_shownStatus.locals ≤ R.locals) : CallW R s args "ControlDesk" "ControlDesk" 183 yn_X_shownStatus bc_X_shownStatus 3 (some .long) w_X_shownStatus rm_X_shownStatus 0 0 0 :=
  ⟨callB_of 0 hT (xw_good mc_X_shownStatus) rfl rfl rfl (hT _ mw_156) (hT _ mw_200) (by decide +kernel) hR, hT _ mw_198, hT _ mw_199⟩
set_option maxRecDepth 20000 in
theorem cw_X_213 {R : Room} {s : State} {args : Array Value} (hT : ∀ w ∈ xw_T, w.before args s = true) (hR : rm_X_merged.frames + 1 ≤ R.frames ∧ 8 + (6 + 11) + rm_X_merged.locals ≤ R.locals) : CallB R s args "ControlDesk" 213 yn_X_merged bc_X_merged 6 (some .long) w_X_merged rm_X_merged 0 0 3 ∧ (Cond.static yn_X_merged).before args s = true :=
  ⟨callB_of 3 hT (xw_good mc_X_merged) rfl rfl rfl (hT _ mw_156) (hT _ mw_202) (by decide +kernel) hR, hT _ mw_203⟩
set_option maxRecDepth 20000 in
theorem cw_X_219 {R : Room} {s : State} {args : Array Value} (hT : ∀ w ∈ xw_T, w.before args s = true) (hR : rm_X_storeStatus.frames + 1 ≤ R.frames ∧ 8 + (8 + 11) + rm_X_storeStatus.locals ≤ R.locals) : CallW R s args "ControlDesk" "ControlDesk" 219 yn_X_storeStatus bc_X_storeStatus 8 none w_X_storeStatus rm_X_storeStatus 0 0 2 :=
  ⟨callB_of 2 hT (xw_good mc_X_storeStatus) rfl rfl rfl (hT _ mw_156) (hT _ mw_207) (by decide +kernel) hR, hT _ mw_205, hT _ mw_206⟩
set_option maxRecDepth 20000 in
theorem cw_X_231 {R : Room} {s : State} {args : Array Value} (hT : ∀ w ∈ xw_T, w.before args s = true) (hR : rm_X_storeSupervisorPending.frames + 1 ≤ R.frames ∧ 8 + (3 + 11) + rm_X_storeSupervisorPending.locals ≤ R.locals) : CallW R s args "ControlDesk" "ControlDesk" 231 yn_X_storeSupervisorPending bc_X_storeSupervisorPending 3 none w_X_storeSupervisorPending rm_X_storeSupervisorPending 0 0 1 :=
  ⟨callB_of 1 hT (xw_good mc_X_storeSupervisorPending) rfl rfl rfl (hT _ mw_156) (hT _ mw_211) (by decide +kernel) hR, hT _ mw_209, hT _ mw_210⟩
set_option maxRecDepth 20000 in
theorem cw_X_235 {R : Room} {s : State} {args : Array Value} (hT : ∀ w ∈ xw_T, w.before args s = true) (hN : ∀ w ∈ xe_N, va_Nw w s) (hR : rm_B1_keepVectors.frames + 1 ≤ R.frames ∧ 8 + (3 + 11) + rm_B1_keepVectors.locals ≤ R.locals) : va_CN R s args "ControlDesk" 235 yn_B_keepVectors "ControlDesk" bc_B_keepVectors 3 none w_B1_keepVectors rm_B1_keepVectors 0 0 1 ∧ (Cond.instanceMethod yn_B_keepVectors).before args s = true ∧ (Cond.selects "ControlDesk$Bank" yn_B_keepVectors yn_B_keepVectors).before args s = true :=
  ⟨va_cnB 1 hT (xw_good mc_B_keepVectors) rfl rfl rfl (hN _ (List.mem_of_getElem? (i := 14) rfl)) (hT _ mw_83) (by decide +kernel) hR, hT _ mw_213, hT _ mw_214⟩
set_option maxRecDepth 20000 in
theorem cw_X_240 {R : Room} {s : State} {args : Array Value} (hT : ∀ w ∈ xw_T, w.before args s = true) (hN : ∀ w ∈ xe_N, va_Nw w s) (hR : rm_B1_keepResume.frames + 1 ≤ R.frames ∧ 8 + (3 + 11) + rm_B1_keepResume.locals ≤ R.locals) : va_CN R s args "ControlDesk" 240 yn_B_keepResume "ControlDesk" bc_B_keepResume 3 none w_B1_keepResume rm_B1_keepResume 0 0 1 ∧ (Cond.instanceMethod yn_B_keepResume).before args s = true ∧ (Cond.selects "ControlDesk$Bank" yn_B_keepResume yn_B_keepResume).before args s = true :=
  ⟨va_cnB 1 hT (xw_good mc_B_keepResume) rfl rfl rfl (hN _ (List.mem_of_getElem? (i := 15) rfl)) (hT _ mw_83) (by decide +kernel) hR, hT _ mw_84, hT _ mw_85⟩
set_option maxRecDepth 20000 in
theorem cw_X_243 {R : Room} {s : State} {args : Array Value} (hT : ∀ w ∈ xw_T, w.before args s = true) (hR : rm_X_storeTable.frames + 1 ≤ R.frames ∧ 8 + (5 + 11) + rm_X_storeTable.locals ≤ R.locals) : CallW R s args "ControlDesk" "ControlDesk" 243 yn_X_storeTable bc_X_storeTable 5 none w_X_storeTable rm_X_storeTable 0 0 1 :=
  ⟨callB_of 1 hT (xw_good mc_X_storeTable) rfl rfl rfl (hT _ mw_156) (hT _ mw_218) (by decide +kernel) hR, hT _ mw_216, hT _ mw_217⟩
set_option maxRecDepth 20000 in
theorem cw_X_29 {R : Room} {s : State} {args : Array Value} (hT : ∀ w ∈ xw_T, w.before args s = true) (hR : rm_X_has.frames + 1 ≤ R.frames ∧ 8 + (3 + 11) + rm_X_has.locals ≤ R.locals) : CallW R s args "ControlDesk" "ControlDesk" 29 yn_X_has bc_X_has 3 (some .boolean) w_X_has rm_X_has 0 0 1 :=
  ⟨callB_of 1 hT (xw_good mc_X_has) rfl rfl rfl (hT _ mw_156) (hT _ mw_222) (by decide +kernel) hR, hT _ mw_220, hT _ mw_221⟩
set_option maxRecDepth 20000 in
theorem cw_X_33 {R : Room} {s : State} {args : Array Value} (hT : ∀ w ∈ xw_T, w.before args s = true) (hR : rm_X_previousMachineMode.frames + 1 ≤ R.frames ∧ 8 + (1 + 11) + rm_X_previousMachineMode.locals ≤ R.locals) : CallW R s args "ControlDesk" "ControlDesk" 33 yn_X_previousMachineMode bc_X_previousMachineMode 1 (some .int) w_X_previousMachineMode rm_X_previousMachineMode 0 0 0 :=
  ⟨callB_of 0 hT (xw_good mc_X_previousMachineMode) rfl rfl rfl (hT _ mw_156) (hT _ mw_226) (by decide +kernel) hR, hT _ mw_224, hT _ mw_225⟩
set_option maxRecDepth 20000 in
theorem cw_X_46 {R : Room} {s : State} {args : Array Value} (hT : ∀ w ∈ xw_T, w.before args s = true) (hR : rm_X_isIllegal.frames + 1 ≤ R.frames ∧ 8 + (5 + 11) + rm_X_isIllegal.locals ≤ R.locals) : CallW R s args "ControlDesk" "ControlDesk" 46 yn_X_isIllegal bc_X_isIllegal 5 (some .boolean) w_X_isIllegal rm_X_isIllegal 0 0 2 :=
  ⟨callB_of 2 hT (xw_good mc_X_isIllegal) rfl rfl rfl (hT _ mw_156) (hT _ mw_230) (by decide +kernel) hR, hT _ mw_228, hT _ mw_229⟩
set_option maxRecDepth 20000 in
theorem cw_X_50 {R : Room} {s : State} {args : Array Value} (hT : ∀ w ∈ xw_T, w.before args s = true) (hR : rm_X_isElsewhere.frames + 1 ≤ R.frames ∧ 8 + (1 + 11) + rm_X_isElsewhere.locals ≤ R.locals) : CallB R s args "ControlDesk" 50 yn_X_isElsewhere bc_X_isElsewhere 1 (some .boolean) w_X_isElsewhere rm_X_isElsewhere 0 0 1 ∧ (Cond.static yn_X_isElsewhere).before args s = true :=
  ⟨callB_of 1 hT (xw_good mc_X_isElsewhere) rfl rfl rfl (hT _ mw_156) (hT _ mw_232) (by decide +kernel) hR, hT _ mw_233⟩
set_option maxRecDepth 20000 in
theorem cw_X_54 {R : Room} {s : State} {args : Array Value} (hT : ∀ w ∈ xw_T, w.before args s = true) (hR : rm_X_isFloat.frames + 1 ≤ R.frames ∧ 8 + (1 + 11) + rm_X_isFloat.locals ≤ R.locals) : CallB R s args "ControlDesk" 54 yn_X_isFloat bc_X_isFloat 1 (some .boolean) w_X_isFloat rm_X_isFloat 0 0 1 ∧ (Cond.static yn_X_isFloat).before args s = true :=
  ⟨callB_of 1 hT (xw_good mc_X_isFloat) rfl rfl rfl (hT _ mw_156) (hT _ mw_235) (by decide +kernel) hR, hT _ mw_236⟩
set_option maxRecDepth 20000 in
theorem cw_X_62 {R : Room} {s : State} {args : Array Value} (hT : ∀ w ∈ xw_T, w.before args s = true) (hR : rm_X_shown.frames + 1 ≤ R.frames ∧ 8 + (2 + 11) + rm_X_shown.locals ≤ R.locals) : CallW R s args "ControlDesk" "ControlDesk" 62 yn_X_shown bc_X_shown 2 (some .long) w_X_shown rm_X_shown 0 0 1 :=
  ⟨callB_of 1 hT (xw_good mc_X_shown) rfl rfl rfl (hT _ mw_156) (hT _ mw_240) (by decide +kernel) hR, hT _ mw_238, hT _ mw_239⟩
set_option maxRecDepth 20000 in
theorem cw_X_66 {R : Room} {s : State} {args : Array Value} (hT : ∀ w ∈ xw_T, w.before args s = true) (hR : rm_X_changeable.frames + 1 ≤ R.frames ∧ 8 + (4 + 11) + rm_X_changeable.locals ≤ R.locals) : CallW R s args "ControlDesk" "ControlDesk" 66 yn_X_changeable bc_X_changeable 4 (some .long) w_X_changeable rm_X_changeable 0 0 2 :=
  ⟨callB_of 2 hT (xw_good mc_X_changeable) rfl rfl rfl (hT _ mw_156) (hT _ mw_244) (by decide +kernel) hR, hT _ mw_242, hT _ mw_243⟩
set_option maxRecDepth 20000 in
theorem cw_X_70 {R : Room} {s : State} {args : Array Value} (hT : ∀ w ∈ xw_T, w.before args s = true) (hR : rm_X_combined.frames + 1 ≤ R.frames ∧ 8 + (5 + 11) + rm_X_combined.locals ≤ R.locals) : CallB R s args "ControlDesk" 70 yn_X_combined bc_X_combined 5 (some .long) w_X_combined rm_X_combined 0 0 3 ∧ (Cond.static yn_X_combined).before args s = true :=
  ⟨callB_of 3 hT (xw_good mc_X_combined) rfl rfl rfl (hT _ mw_156) (hT _ mw_246) (by decide +kernel) hR, hT _ mw_247⟩
set_option maxRecDepth 20000 in
theorem cw_X_74 {R : Room} {s : State} {args : Array Value} (hT : ∀ w ∈ xw_T, w.before args s = true) (hR : rm_X_store.frames + 1 ≤ R.frames ∧ 8 + (4 + 11) + rm_X_store.locals ≤ R.locals) : CallW R s args "ControlDesk" "ControlDesk" 74 yn_X_store bc_X_store 4 none w_X_store rm_X_store 0 0 2 :=
  ⟨callB_of 2 hT (xw_good mc_X_store) rfl rfl rfl (hT _ mw_156) (hT _ mw_251) (by decide +kernel) hR, hT _ mw_249, hT _ mw_250⟩
set_option maxRecDepth 20000 in
theorem cw_X_83 {R : Room} {s : State} {args : Array Value} (hT : ∀ w ∈ xw_T, w.before args s = true) (hR : rm_X_goesToSupervisor.frames + 1 ≤ R.frames ∧ 8 + (5 + 11) + rm_X_goesToSupervisor.locals ≤ R.locals) : CallW R s args "ControlDesk" "ControlDesk" 83 yn_X_goesToSupervisor bc_X_goesToSupervisor 5 (some .boolean) w_X_goesToSupervisor rm_X_goesToSupervisor 0 0 2 :=
  ⟨callB_of 2 hT (xw_good mc_X_goesToSupervisor) rfl rfl rfl (hT _ mw_156) (hT _ mw_255) (by decide +kernel) hR, hT _ mw_253, hT _ mw_254⟩
set_option maxRecDepth 20000 in
theorem cw_X_87 {R : Room} {s : State} {args : Array Value} (hT : ∀ w ∈ xw_T, w.before args s = true) (hR : rm_X_enterSupervisor.frames + 1 ≤ R.frames ∧ 8 + (7 + 11) + rm_X_enterSupervisor.locals ≤ R.locals) : CallW R s args "ControlDesk" "ControlDesk" 87 yn_X_enterSupervisor bc_X_enterSupervisor 7 none w_X_enterSupervisor rm_X_enterSupervisor 0 0 0 :=
  ⟨callB_of 0 hT (xw_good mc_X_enterSupervisor) rfl rfl rfl (hT _ mw_156) (hT _ mw_259) (by decide +kernel) hR, hT _ mw_257, hT _ mw_258⟩
set_option maxRecDepth 20000 in
theorem cw_X_90 {R : Room} {s : State} {args : Array Value} (hT : ∀ w ∈ xw_T, w.before args s = true) (hR : rm_X_enterMachine.frames + 1 ≤ R.frames ∧ 8 + (7 + 11) + rm_X_enterMachine.locals ≤ R.locals) : CallW R s args "ControlDesk" "ControlDesk" 90 yn_X_enterMachine bc_X_enterMachine 7 none w_X_enterMachine rm_X_enterMachine 0 0 0 :=
  ⟨callB_of 0 hT (xw_good mc_X_enterMachine) rfl rfl rfl (hT _ mw_156) (hT _ mw_263) (by decide +kernel) hR, hT _ mw_261, hT _ mw_262⟩
set_option maxRecDepth 20000 in
theorem cw_X_93 {R : Room} {s : State} {args : Array Value} (hT : ∀ w ∈ xw_T, w.before args s = true) (hN : ∀ w ∈ xe_N, va_Nw w s) (hR : rm_B1_remember.frames + 1 ≤ R.frames ∧ 8 + (7 + 11) + rm_B1_remember.locals ≤ R.locals) : va_CN R s args "ControlDesk" 93 yn_B_remember "ControlDesk" bc_B_remember 7 none w_B1_remember rm_B1_remember 0 0 4 ∧ (Cond.instanceMethod yn_B_remember).before args s = true ∧ (Cond.selects "ControlDesk$Bank" yn_B_remember yn_B_remember).before args s = true :=
  ⟨va_cnB 4 hT (xw_good mc_B_remember) rfl rfl rfl (hN _ (List.mem_of_getElem? (i := 16) rfl)) (hT _ mw_83) (by decide +kernel) hR, hT _ mw_265, hT _ mw_266⟩
set_option maxRecDepth 20000 in
theorem cw_X_97 {R : Room} {s : State} {args : Array Value} (hT : ∀ w ∈ xw_T, w.before args s = true) (hN : ∀ w ∈ xe_N, va_Nw w s) (hR : rm_B1_entry.frames + 1 ≤ R.frames ∧ 8 + (6 + 11) + rm_B1_entry.locals ≤ R.locals) : va_CN R s args "ControlDesk" 97 yn_B_entry "ControlDesk" bc_B_entry 6 (some .long) w_B1_entry rm_B1_entry 0 0 2 ∧ (Cond.instanceMethod yn_B_entry).before args s = true ∧ (Cond.selects "ControlDesk$Bank" yn_B_entry yn_B_entry).before args s = true :=
  ⟨va_cnB 2 hT (xw_good mc_B_entry) rfl rfl rfl (hN _ (List.mem_of_getElem? (i := 17) rfl)) (hT _ mw_83) (by decide +kernel) hR, hT _ mw_268, hT _ mw_269⟩
