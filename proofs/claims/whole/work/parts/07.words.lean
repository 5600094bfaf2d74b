set_option maxRecDepth 20000 in
theorem mc_B_entry : Cond.code yn_B_entry bc_B_entry 6 (some .long) ∈ xw_T := xw_in (List.mem_of_getElem? (i := 422) rfl) rfl
set_option maxRecDepth 20000 in
theorem mc_B_init : Cond.code yn_B_init bc_B_init 1 none ∈ xw_T := xw_in (List.mem_of_getElem? (i := 59) rfl) rfl
set_option maxRecDepth 20000 in
theorem mc_B_keepResume : Cond.code yn_B_keepResume bc_B_keepResume 3 none ∈ xw_T := xw_in (List.mem_of_getElem? (i := 384) rfl) rfl
set_option maxRecDepth 20000 in
theorem mc_B_keepVectors : Cond.code yn_B_keepVectors bc_B_keepVectors 3 none ∈ xw_T := xw_in (List.mem_of_getElem? (i := 378) rfl) rfl
set_option maxRecDepth 20000 in
theorem mc_B_remember : Cond.code yn_B_remember bc_B_remember 7 none ∈ xw_T := xw_in (List.mem_of_getElem? (i := 416) rfl) rfl
set_option maxRecDepth 20000 in
theorem mc_L_cell : Cond.code yn_L_cell bc_L_cell 2 (some .int) ∈ xw_T := xw_in (List.mem_of_getElem? (i := 249) rfl) rfl
set_option maxRecDepth 20000 in
theorem mc_M_access : Cond.code yn_M_access bc_M_access 8 (some .int) ∈ xw_T := xw_in (List.mem_of_getElem? (i := 530) rfl) rfl
set_option maxRecDepth 20000 in
theorem mc_M_allowed : Cond.code yn_M_allowed bc_M_allowed 2 (some .boolean) ∈ xw_T := xw_in (List.mem_of_getElem? (i := 611) rfl) rfl
set_option maxRecDepth 20000 in
theorem mc_M_back : Cond.code yn_M_back bc_M_back 4 (some .boolean) ∈ xw_T := xw_in (List.mem_of_getElem? (i := 579) rfl) rfl
set_option maxRecDepth 20000 in
theorem mc_M_beginning : Cond.code yn_M_beginning bc_M_beginning 6 (some .long) ∈ xw_T := xw_in (List.mem_of_getElem? (i := 573) rfl) rfl
set_option maxRecDepth 20000 in
theorem mc_M_below : Cond.code yn_M_below bc_M_below 1 (some .int) ∈ xw_T := xw_in (List.mem_of_getElem? (i := 494) rfl) rfl
set_option maxRecDepth 20000 in
theorem mc_M_count : Cond.code yn_M_count bc_M_count 5 none ∈ xw_T := xw_in (List.mem_of_getElem? (i := 623) rfl) rfl
set_option maxRecDepth 20000 in
theorem mc_M_dataMode : Cond.code yn_M_dataMode bc_M_dataMode 1 (some .int) ∈ xw_T := xw_in (List.mem_of_getElem? (i := 486) rfl) rfl
set_option maxRecDepth 20000 in
theorem mc_M_dirty : Cond.code yn_M_dirty bc_M_dirty 1 none ∈ xw_T := xw_in (List.mem_of_getElem? (i := 619) rfl) rfl
set_option maxRecDepth 20000 in
theorem mc_M_first : Cond.code yn_M_first bc_M_first 4 (some .int) ∈ xw_T := xw_in (List.mem_of_getElem? (i := 591) rfl) rfl
set_option maxRecDepth 20000 in
theorem mc_M_floating : Cond.code yn_M_floating bc_M_floating 1 (some .int) ∈ xw_T := xw_in (List.mem_of_getElem? (i := 506) rfl) rfl
set_option maxRecDepth 20000 in
theorem mc_M_floats : Cond.code yn_M_floats bc_M_floats 1 (some .boolean) ∈ xw_T := xw_in (List.mem_of_getElem? (i := 615) rfl) rfl
set_option maxRecDepth 20000 in
theorem mc_M_had : Cond.code yn_M_had bc_M_had 1 (some .long) ∈ xw_T := xw_in (List.mem_of_getElem? (i := 566) rfl) rfl
set_option maxRecDepth 20000 in
theorem mc_M_init : Cond.code yn_M_init bc_M_init 2 none ∈ xw_T := xw_in (List.mem_of_getElem? (i := 446) rfl) rfl
set_option maxRecDepth 20000 in
theorem mc_M_isCount : Cond.code yn_M_isCount bc_M_isCount 1 (some .boolean) ∈ xw_T := xw_in (List.mem_of_getElem? (i := 523) rfl) rfl
set_option maxRecDepth 20000 in
theorem mc_M_isElsewhere : Cond.code yn_M_isElsewhere bc_M_isElsewhere 1 (some .boolean) ∈ xw_T := xw_in (List.mem_of_getElem? (i := 526) rfl) rfl
set_option maxRecDepth 20000 in
theorem mc_M_isIllegal : Cond.code yn_M_isIllegal bc_M_isIllegal 7 (some .boolean) ∈ xw_T := xw_in (List.mem_of_getElem? (i := 534) rfl) rfl
set_option maxRecDepth 20000 in
theorem mc_M_isPending : Cond.code yn_M_isPending bc_M_isPending 2 (some .boolean) ∈ xw_T := xw_in (List.mem_of_getElem? (i := 599) rfl) rfl
set_option maxRecDepth 20000 in
theorem mc_M_isThere : Cond.code yn_M_isThere bc_M_isThere 3 (some .boolean) ∈ xw_T := xw_in (List.mem_of_getElem? (i := 520) rfl) rfl
set_option maxRecDepth 20000 in
theorem mc_M_line : Cond.code yn_M_line bc_M_line 3 none ∈ xw_T := xw_in (List.mem_of_getElem? (i := 607) rfl) rfl
set_option maxRecDepth 20000 in
theorem mc_M_lineBits : Cond.code yn_M_lineBits bc_M_lineBits 4 (some .long) ∈ xw_T := xw_in (List.mem_of_getElem? (i := 517) rfl) rfl
set_option maxRecDepth 20000 in
theorem mc_M_mayBe : Cond.code yn_M_mayBe bc_M_mayBe 5 (some .boolean) ∈ xw_T := xw_in (List.mem_of_getElem? (i := 595) rfl) rfl
set_option maxRecDepth 20000 in
theorem mc_M_mode : Cond.code yn_M_mode bc_M_mode 1 (some .int) ∈ xw_T := xw_in (List.mem_of_getElem? (i := 482) rfl) rfl
set_option maxRecDepth 20000 in
theorem mc_M_peek : Cond.code yn_M_peek bc_M_peek 2 (some .long) ∈ xw_T := xw_in (List.mem_of_getElem? (i := 498) rfl) rfl
set_option maxRecDepth 20000 in
theorem mc_M_place : Cond.code yn_M_place bc_M_place 1 (some .long) ∈ xw_T := xw_in (List.mem_of_getElem? (i := 583) rfl) rfl
set_option maxRecDepth 20000 in
theorem mc_M_put : Cond.code yn_M_put bc_M_put 3 none ∈ xw_T := xw_in (List.mem_of_getElem? (i := 538) rfl) rfl
set_option maxRecDepth 20000 in
theorem mc_M_shown : Cond.code yn_M_shown bc_M_shown 4 (some .long) ∈ xw_T := xw_in (List.mem_of_getElem? (i := 502) rfl) rfl
set_option maxRecDepth 20000 in
theorem mc_M_status : Cond.code yn_M_status bc_M_status 2 (some .int) ∈ xw_T := xw_in (List.mem_of_getElem? (i := 490) rfl) rfl
set_option maxRecDepth 20000 in
theorem mc_M_statusSeen : Cond.code yn_M_statusSeen bc_M_statusSeen 6 (some .long) ∈ xw_T := xw_in (List.mem_of_getElem? (i := 511) rfl) rfl
set_option maxRecDepth 20000 in
theorem mc_M_taken : Cond.code yn_M_taken bc_M_taken 2 (some .int) ∈ xw_T := xw_in (List.mem_of_getElem? (i := 587) rfl) rfl
set_option maxRecDepth 20000 in
theorem mc_M_through : Cond.code yn_M_through bc_M_through 6 none ∈ xw_T := xw_in (List.mem_of_getElem? (i := 552) rfl) rfl
set_option maxRecDepth 20000 in
theorem mc_M_thrown : Cond.code yn_M_thrown bc_M_thrown 1 (some .int) ∈ xw_T := xw_in (List.mem_of_getElem? (i := 478) rfl) rfl
set_option maxRecDepth 20000 in
theorem mc_M_time : Cond.code yn_M_time bc_M_time 3 none ∈ xw_T := xw_in (List.mem_of_getElem? (i := 627) rfl) rfl
set_option maxRecDepth 20000 in
theorem mc_M_trap : Cond.code yn_M_trap bc_M_trap 11 (some .long) ∈ xw_T := xw_in (List.mem_of_getElem? (i := 570) rfl) rfl
set_option maxRecDepth 20000 in
theorem mc_M_wakes : Cond.code yn_M_wakes bc_M_wakes 1 (some .boolean) ∈ xw_T := xw_in (List.mem_of_getElem? (i := 603) rfl) rfl
set_option maxRecDepth 20000 in
theorem mc_M_write : Cond.code yn_M_write bc_M_write 6 none ∈ xw_T := xw_in (List.mem_of_getElem? (i := 544) rfl) rfl
set_option maxRecDepth 20000 in
theorem mc_M_writeStatus : Cond.code yn_M_writeStatus bc_M_writeStatus 6 none ∈ xw_T := xw_in (List.mem_of_getElem? (i := 548) rfl) rfl
set_option maxRecDepth 20000 in
theorem mc_X_access : Cond.code yn_X_access bc_X_access 8 (some .int) ∈ xw_T := xw_in (List.mem_of_getElem? (i := 257) rfl) rfl
set_option maxRecDepth 20000 in
theorem mc_X_allowed : Cond.code yn_X_allowed bc_X_allowed 2 (some .boolean) ∈ xw_T := xw_in (List.mem_of_getElem? (i := 439) rfl) rfl
set_option maxRecDepth 20000 in
theorem mc_X_back : Cond.code yn_X_back bc_X_back 2 (some .boolean) ∈ xw_T := xw_in (List.mem_of_getElem? (i := 179) rfl) rfl
set_option maxRecDepth 20000 in
theorem mc_X_changeable : Cond.code yn_X_changeable bc_X_changeable 4 (some .long) ∈ xw_T := xw_in (List.mem_of_getElem? (i := 349) rfl) rfl
set_option maxRecDepth 20000 in
theorem mc_X_combined : Cond.code yn_X_combined bc_X_combined 5 (some .long) ∈ xw_T := xw_in (List.mem_of_getElem? (i := 356) rfl) rfl
set_option maxRecDepth 20000 in
theorem mc_X_count : Cond.code yn_X_count bc_X_count 5 none ∈ xw_T := xw_in (List.mem_of_getElem? (i := 242) rfl) rfl
set_option maxRecDepth 20000 in
theorem mc_X_dataMode : Cond.code yn_X_dataMode bc_X_dataMode 1 (some .int) ∈ xw_T := xw_in (List.mem_of_getElem? (i := 140) rfl) rfl
set_option maxRecDepth 20000 in
theorem mc_X_dirty : Cond.code yn_X_dirty bc_X_dirty 1 none ∈ xw_T := xw_in (List.mem_of_getElem? (i := 238) rfl) rfl
set_option maxRecDepth 20000 in
theorem mc_X_enterMachine : Cond.code yn_X_enterMachine bc_X_enterMachine 7 none ∈ xw_T := xw_in (List.mem_of_getElem? (i := 411) rfl) rfl
set_option maxRecDepth 20000 in
theorem mc_X_enterSupervisor : Cond.code yn_X_enterSupervisor bc_X_enterSupervisor 7 none ∈ xw_T := xw_in (List.mem_of_getElem? (i := 406) rfl) rfl
set_option maxRecDepth 20000 in
theorem mc_X_firstInOrder : Cond.code yn_X_firstInOrder bc_X_firstInOrder 6 (some .int) ∈ xw_T := xw_in (List.mem_of_getElem? (i := 220) rfl) rfl
set_option maxRecDepth 20000 in
theorem mc_X_floats : Cond.code yn_X_floats bc_X_floats 1 (some .boolean) ∈ xw_T := xw_in (List.mem_of_getElem? (i := 234) rfl) rfl
set_option maxRecDepth 20000 in
theorem mc_X_goesToSupervisor : Cond.code yn_X_goesToSupervisor bc_X_goesToSupervisor 5 (some .boolean) ∈ xw_T := xw_in (List.mem_of_getElem? (i := 402) rfl) rfl
set_option maxRecDepth 20000 in
theorem mc_X_had : Cond.code yn_X_had bc_X_had 1 (some .long) ∈ xw_T := xw_in (List.mem_of_getElem? (i := 154) rfl) rfl
set_option maxRecDepth 20000 in
theorem mc_X_has : Cond.code yn_X_has bc_X_has 3 (some .boolean) ∈ xw_T := xw_in (List.mem_of_getElem? (i := 145) rfl) rfl
set_option maxRecDepth 20000 in
theorem mc_X_init : Cond.code yn_X_init bc_X_init 2 none ∈ xw_T := xw_in (List.mem_of_getElem? (i := 51) rfl) rfl
set_option maxRecDepth 20000 in
theorem mc_X_isClosed : Cond.code yn_X_isClosed bc_X_isClosed 4 (some .boolean) ∈ xw_T := xw_in (List.mem_of_getElem? (i := 345) rfl) rfl
set_option maxRecDepth 20000 in
theorem mc_X_isElsewhere : Cond.code yn_X_isElsewhere bc_X_isElsewhere 1 (some .boolean) ∈ xw_T := xw_in (List.mem_of_getElem? (i := 334) rfl) rfl
set_option maxRecDepth 20000 in
theorem mc_X_isFloat : Cond.code yn_X_isFloat bc_X_isFloat 1 (some .boolean) ∈ xw_T := xw_in (List.mem_of_getElem? (i := 337) rfl) rfl
set_option maxRecDepth 20000 in
theorem mc_X_isHere : Cond.code yn_X_isHere bc_X_isHere 1 (some .boolean) ∈ xw_T := xw_in (List.mem_of_getElem? (i := 331) rfl) rfl
set_option maxRecDepth 20000 in
theorem mc_X_isIllegal : Cond.code yn_X_isIllegal bc_X_isIllegal 5 (some .boolean) ∈ xw_T := xw_in (List.mem_of_getElem? (i := 328) rfl) rfl
set_option maxRecDepth 20000 in
theorem mc_X_isOpenCount : Cond.code yn_X_isOpenCount bc_X_isOpenCount 1 (some .boolean) ∈ xw_T := xw_in (List.mem_of_getElem? (i := 341) rfl) rfl
set_option maxRecDepth 20000 in
theorem mc_X_leaveMachine : Cond.code yn_X_leaveMachine bc_X_leaveMachine 3 none ∈ xw_T := xw_in (List.mem_of_getElem? (i := 192) rfl) rfl
set_option maxRecDepth 20000 in
theorem mc_X_leaveSupervisor : Cond.code yn_X_leaveSupervisor bc_X_leaveSupervisor 3 none ∈ xw_T := xw_in (List.mem_of_getElem? (i := 199) rfl) rfl
set_option maxRecDepth 20000 in
theorem mc_X_line : Cond.code yn_X_line bc_X_line 5 none ∈ xw_T := xw_in (List.mem_of_getElem? (i := 431) rfl) rfl
set_option maxRecDepth 20000 in
theorem mc_X_machineOrSupervisorWithout : Cond.code yn_X_machineOrSupervisorWithout bc_X_machineOrSupervisorWithout 3 (some .boolean) ∈ xw_T := xw_in (List.mem_of_getElem? (i := 188) rfl) rfl
set_option maxRecDepth 20000 in
theorem mc_X_mayReturn : Cond.code yn_X_mayReturn bc_X_mayReturn 2 (some .boolean) ∈ xw_T := xw_in (List.mem_of_getElem? (i := 183) rfl) rfl
set_option maxRecDepth 20000 in
theorem mc_X_merged : Cond.code yn_X_merged bc_X_merged 6 (some .long) ∈ xw_T := xw_in (List.mem_of_getElem? (i := 353) rfl) rfl
set_option maxRecDepth 20000 in
theorem mc_X_mode : Cond.code yn_X_mode bc_X_mode 1 (some .int) ∈ xw_T := xw_in (List.mem_of_getElem? (i := 136) rfl) rfl
set_option maxRecDepth 20000 in
theorem mc_X_peek : Cond.code yn_X_peek bc_X_peek 2 (some .long) ∈ xw_T := xw_in (List.mem_of_getElem? (i := 158) rfl) rfl
set_option maxRecDepth 20000 in
theorem mc_X_pending : Cond.code yn_X_pending bc_X_pending 1 (some .long) ∈ xw_T := xw_in (List.mem_of_getElem? (i := 175) rfl) rfl
set_option maxRecDepth 20000 in
theorem mc_X_place : Cond.code yn_X_place bc_X_place 1 (some .long) ∈ xw_T := xw_in (List.mem_of_getElem? (i := 208) rfl) rfl
set_option maxRecDepth 20000 in
theorem mc_X_previousMachineMode : Cond.code yn_X_previousMachineMode bc_X_previousMachineMode 1 (some .int) ∈ xw_T := xw_in (List.mem_of_getElem? (i := 149) rfl) rfl
set_option maxRecDepth 20000 in
theorem mc_X_shown : Cond.code yn_X_shown bc_X_shown 2 (some .long) ∈ xw_T := xw_in (List.mem_of_getElem? (i := 162) rfl) rfl
set_option maxRecDepth 20000 in
theorem mc_X_shownStatus : Cond.code yn_X_shownStatus bc_X_shownStatus 3 (some .long) ∈ xw_T := xw_in (List.mem_of_getElem? (i := 166) rfl) rfl
set_option maxRecDepth 20000 in
theorem mc_X_store : Cond.code yn_X_store bc_X_store 4 none ∈ xw_T := xw_in (List.mem_of_getElem? (i := 360) rfl) rfl
set_option maxRecDepth 20000 in
theorem mc_X_storeStatus : Cond.code yn_X_storeStatus bc_X_storeStatus 8 none ∈ xw_T := xw_in (List.mem_of_getElem? (i := 365) rfl) rfl
set_option maxRecDepth 20000 in
theorem mc_X_storeSupervisorPending : Cond.code yn_X_storeSupervisorPending bc_X_storeSupervisorPending 3 none ∈ xw_T := xw_in (List.mem_of_getElem? (i := 374) rfl) rfl
set_option maxRecDepth 20000 in
theorem mc_X_storeTable : Cond.code yn_X_storeTable bc_X_storeTable 5 none ∈ xw_T := xw_in (List.mem_of_getElem? (i := 389) rfl) rfl
set_option maxRecDepth 20000 in
theorem mc_X_taken : Cond.code yn_X_taken bc_X_taken 4 (some .int) ∈ xw_T := xw_in (List.mem_of_getElem? (i := 212) rfl) rfl
set_option maxRecDepth 20000 in
theorem mc_X_takesDelegated : Cond.code yn_X_takesDelegated bc_X_takesDelegated 1 (some .boolean) ∈ xw_T := xw_in (List.mem_of_getElem? (i := 226) rfl) rfl
set_option maxRecDepth 20000 in
theorem mc_X_takesUndelegated : Cond.code yn_X_takesUndelegated bc_X_takesUndelegated 1 (some .boolean) ∈ xw_T := xw_in (List.mem_of_getElem? (i := 216) rfl) rfl
set_option maxRecDepth 20000 in
theorem mc_X_time : Cond.code yn_X_time bc_X_time 3 none ∈ xw_T := xw_in (List.mem_of_getElem? (i := 246) rfl) rfl
set_option maxRecDepth 20000 in
theorem mc_X_trap : Cond.code yn_X_trap bc_X_trap 8 (some .long) ∈ xw_T := xw_in (List.mem_of_getElem? (i := 397) rfl) rfl
set_option maxRecDepth 20000 in
theorem mc_X_wakes : Cond.code yn_X_wakes bc_X_wakes 1 (some .boolean) ∈ xw_T := xw_in (List.mem_of_getElem? (i := 230) rfl) rfl
set_option maxRecDepth 20000 in
theorem mw_0 : Cond.constantLong "ControlDesk" 162 (6144) ∈ xw_T := xw_in (List.mem_of_getElem? (i := 150) (by decide +kernel)) (by decide +kernel)
set_option maxRecDepth 20000 in
theorem mw_1 : Cond.constantLong "ControlDesk" 27 (131072) ∈ xw_T := xw_in (List.mem_of_getElem? (i := 141) (by decide +kernel)) (by decide +kernel)
set_option maxRecDepth 20000 in
theorem mw_10 : Cond.constantLong "ControlDesk" 246 (4096) ∈ xw_T := xw_in (List.mem_of_getElem? (i := 366) (by decide +kernel)) (by decide +kernel)
set_option maxRecDepth 20000 in
theorem mw_100 : Cond.instanceMethod ⟨"ControlDeskModel", "isPending", "(I)Z"⟩ ∈ xw_T := xw_in (List.mem_of_getElem? (i := 598) (by decide +kernel)) (by decide +kernel)
set_option maxRecDepth 20000 in
theorem mw_101 : Cond.selects "ControlDeskModel" ⟨"ControlDeskModel", "isPending", "(I)Z"⟩ ⟨"ControlDeskModel", "isPending", "(I)Z"⟩ ∈ xw_T := xw_in (List.mem_of_getElem? (i := 38) (by decide +kernel)) (by decide +kernel)
set_option maxRecDepth 20000 in
theorem mw_102 : Cond.methodLink "ControlDeskModel" 130 ⟨"ControlDeskModel", "isPending", "(I)Z"⟩ ∈ xw_T := xw_in (List.mem_of_getElem? (i := 596) (by decide +kernel)) (by decide +kernel)
set_option maxRecDepth 20000 in
theorem mw_104 : Cond.instanceMethod ⟨"ControlDeskModel", "mayBe", "(IZ)Z"⟩ ∈ xw_T := xw_in (List.mem_of_getElem? (i := 594) (by decide +kernel)) (by decide +kernel)
set_option maxRecDepth 20000 in
theorem mw_105 : Cond.selects "ControlDeskModel" ⟨"ControlDeskModel", "mayBe", "(IZ)Z"⟩ ⟨"ControlDeskModel", "mayBe", "(IZ)Z"⟩ ∈ xw_T := xw_in (List.mem_of_getElem? (i := 37) (by decide +kernel)) (by decide +kernel)
set_option maxRecDepth 20000 in
theorem mw_106 : Cond.methodLink "ControlDeskModel" 133 ⟨"ControlDeskModel", "mayBe", "(IZ)Z"⟩ ∈ xw_T := xw_in (List.mem_of_getElem? (i := 592) (by decide +kernel)) (by decide +kernel)
set_option maxRecDepth 20000 in
theorem mw_108 : Cond.instanceMethod ⟨"ControlDeskModel", "first", "(Z)I"⟩ ∈ xw_T := xw_in (List.mem_of_getElem? (i := 590) (by decide +kernel)) (by decide +kernel)
set_option maxRecDepth 20000 in
theorem mw_109 : Cond.selects "ControlDeskModel" ⟨"ControlDeskModel", "first", "(Z)I"⟩ ⟨"ControlDeskModel", "first", "(Z)I"⟩ ∈ xw_T := xw_in (List.mem_of_getElem? (i := 36) (by decide +kernel)) (by decide +kernel)
set_option maxRecDepth 20000 in
theorem mw_11 : Cond.constantLong "ControlDesk" 248 (2) ∈ xw_T := xw_in (List.mem_of_getElem? (i := 201) (by decide +kernel)) (by decide +kernel)
set_option maxRecDepth 20000 in
theorem mw_110 : Cond.methodLink "ControlDeskModel" 136 ⟨"ControlDeskModel", "first", "(Z)I"⟩ ∈ xw_T := xw_in (List.mem_of_getElem? (i := 588) (by decide +kernel)) (by decide +kernel)
set_option maxRecDepth 20000 in
theorem mw_112 : Cond.instanceMethod ⟨"ControlDeskModel", "status", "(I)I"⟩ ∈ xw_T := xw_in (List.mem_of_getElem? (i := 489) (by decide +kernel)) (by decide +kernel)
set_option maxRecDepth 20000 in
theorem mw_113 : Cond.selects "ControlDeskModel" ⟨"ControlDeskModel", "status", "(I)I"⟩ ⟨"ControlDeskModel", "status", "(I)I"⟩ ∈ xw_T := xw_in (List.mem_of_getElem? (i := 26) (by decide +kernel)) (by decide +kernel)
set_option maxRecDepth 20000 in
theorem mw_114 : Cond.methodLink "ControlDeskModel" 29 ⟨"ControlDeskModel", "status", "(I)I"⟩ ∈ xw_T := xw_in (List.mem_of_getElem? (i := 487) (by decide +kernel)) (by decide +kernel)
set_option maxRecDepth 20000 in
theorem mw_116 : Cond.instanceMethod ⟨"ControlDeskModel", "below", "()I"⟩ ∈ xw_T := xw_in (List.mem_of_getElem? (i := 493) (by decide +kernel)) (by decide +kernel)
set_option maxRecDepth 20000 in
theorem mw_117 : Cond.selects "ControlDeskModel" ⟨"ControlDeskModel", "below", "()I"⟩ ⟨"ControlDeskModel", "below", "()I"⟩ ∈ xw_T := xw_in (List.mem_of_getElem? (i := 27) (by decide +kernel)) (by decide +kernel)
set_option maxRecDepth 20000 in
theorem mw_118 : Cond.methodLink "ControlDeskModel" 33 ⟨"ControlDeskModel", "below", "()I"⟩ ∈ xw_T := xw_in (List.mem_of_getElem? (i := 491) (by decide +kernel)) (by decide +kernel)
set_option maxRecDepth 20000 in
theorem mw_12 : Cond.constantLong "ControlDesk$Bank" 9 (-3) ∈ xw_T := xw_in (List.mem_of_getElem? (i := 379) (by decide +kernel)) (by decide +kernel)
set_option maxRecDepth 20000 in
theorem mw_120 : Cond.methodLink "ControlDeskModel" 37 ⟨"ControlDeskModel", "isCount", "(I)Z"⟩ ∈ xw_T := xw_in (List.mem_of_getElem? (i := 521) (by decide +kernel)) (by decide +kernel)
set_option maxRecDepth 20000 in
theorem mw_121 : Cond.static ⟨"ControlDeskModel", "isCount", "(I)Z"⟩ ∈ xw_T := xw_in (List.mem_of_getElem? (i := 522) (by decide +kernel)) (by decide +kernel)
set_option maxRecDepth 20000 in
theorem mw_123 : Cond.methodLink "ControlDeskModel" 41 ⟨"ControlDeskModel", "isElsewhere", "(I)Z"⟩ ∈ xw_T := xw_in (List.mem_of_getElem? (i := 524) (by decide +kernel)) (by decide +kernel)
set_option maxRecDepth 20000 in
theorem mw_124 : Cond.static ⟨"ControlDeskModel", "isElsewhere", "(I)Z"⟩ ∈ xw_T := xw_in (List.mem_of_getElem? (i := 525) (by decide +kernel)) (by decide +kernel)
set_option maxRecDepth 20000 in
theorem mw_126 : Cond.instanceMethod ⟨"ControlDeskModel", "floating", "()I"⟩ ∈ xw_T := xw_in (List.mem_of_getElem? (i := 505) (by decide +kernel)) (by decide +kernel)
set_option maxRecDepth 20000 in
theorem mw_127 : Cond.selects "ControlDeskModel" ⟨"ControlDeskModel", "floating", "()I"⟩ ⟨"ControlDeskModel", "floating", "()I"⟩ ∈ xw_T := xw_in (List.mem_of_getElem? (i := 29) (by decide +kernel)) (by decide +kernel)
set_option maxRecDepth 20000 in
theorem mw_128 : Cond.methodLink "ControlDeskModel" 44 ⟨"ControlDeskModel", "floating", "()I"⟩ ∈ xw_T := xw_in (List.mem_of_getElem? (i := 503) (by decide +kernel)) (by decide +kernel)
set_option maxRecDepth 20000 in
theorem mw_13 : Cond.constantLong "ControlDesk$Bank" 17 (-2) ∈ xw_T := xw_in (List.mem_of_getElem? (i := 385) (by decide +kernel)) (by decide +kernel)
set_option maxRecDepth 20000 in
theorem mw_130 : Cond.methodLink "ControlDeskModel" 51 ⟨"ControlDeskModel", "statusSeen", "(Z)J"⟩ ∈ xw_T := xw_in (List.mem_of_getElem? (i := 509) (by decide +kernel)) (by decide +kernel)
set_option maxRecDepth 20000 in
theorem mw_131 : Cond.static ⟨"ControlDeskModel", "statusSeen", "(Z)J"⟩ ∈ xw_T := xw_in (List.mem_of_getElem? (i := 510) (by decide +kernel)) (by decide +kernel)
set_option maxRecDepth 20000 in
theorem mw_133 : Cond.instanceMethod ⟨"ControlDeskModel", "lineBits", "()J"⟩ ∈ xw_T := xw_in (List.mem_of_getElem? (i := 516) (by decide +kernel)) (by decide +kernel)
set_option maxRecDepth 20000 in
theorem mw_134 : Cond.selects "ControlDeskModel" ⟨"ControlDeskModel", "lineBits", "()J"⟩ ⟨"ControlDeskModel", "lineBits", "()J"⟩ ∈ xw_T := xw_in (List.mem_of_getElem? (i := 30) (by decide +kernel)) (by decide +kernel)
set_option maxRecDepth 20000 in
theorem mw_135 : Cond.methodLink "ControlDeskModel" 59 ⟨"ControlDeskModel", "lineBits", "()J"⟩ ∈ xw_T := xw_in (List.mem_of_getElem? (i := 514) (by decide +kernel)) (by decide +kernel)
set_option maxRecDepth 20000 in
theorem mw_137 : Cond.methodLink "ControlDeskModel" 67 ⟨"ControlDeskModel", "isThere", "(I)Z"⟩ ∈ xw_T := xw_in (List.mem_of_getElem? (i := 518) (by decide +kernel)) (by decide +kernel)
set_option maxRecDepth 20000 in
theorem mw_138 : Cond.static ⟨"ControlDeskModel", "isThere", "(I)Z"⟩ ∈ xw_T := xw_in (List.mem_of_getElem? (i := 519) (by decide +kernel)) (by decide +kernel)
set_option maxRecDepth 20000 in
theorem mw_14 : Cond.constantLong "ControlDesk" 250 (8) ∈ xw_T := xw_in (List.mem_of_getElem? (i := 194) (by decide +kernel)) (by decide +kernel)
set_option maxRecDepth 20000 in
theorem mw_140 : Cond.instanceMethod ⟨"ControlDeskModel", "shown", "(I)J"⟩ ∈ xw_T := xw_in (List.mem_of_getElem? (i := 501) (by decide +kernel)) (by decide +kernel)
set_option maxRecDepth 20000 in
theorem mw_141 : Cond.selects "ControlDeskModel" ⟨"ControlDeskModel", "shown", "(I)J"⟩ ⟨"ControlDeskModel", "shown", "(I)J"⟩ ∈ xw_T := xw_in (List.mem_of_getElem? (i := 28) (by decide +kernel)) (by decide +kernel)
set_option maxRecDepth 20000 in
theorem mw_142 : Cond.methodLink "ControlDeskModel" 70 ⟨"ControlDeskModel", "shown", "(I)J"⟩ ∈ xw_T := xw_in (List.mem_of_getElem? (i := 499) (by decide +kernel)) (by decide +kernel)
set_option maxRecDepth 20000 in
theorem mw_144 : Cond.instanceMethod ⟨"ControlDeskModel", "through", "(IJJ)V"⟩ ∈ xw_T := xw_in (List.mem_of_getElem? (i := 551) (by decide +kernel)) (by decide +kernel)
set_option maxRecDepth 20000 in
theorem mw_145 : Cond.selects "ControlDeskModel" ⟨"ControlDeskModel", "through", "(IJJ)V"⟩ ⟨"ControlDeskModel", "through", "(IJJ)V"⟩ ∈ xw_T := xw_in (List.mem_of_getElem? (i := 35) (by decide +kernel)) (by decide +kernel)
set_option maxRecDepth 20000 in
theorem mw_146 : Cond.methodLink "ControlDeskModel" 74 ⟨"ControlDeskModel", "through", "(IJJ)V"⟩ ∈ xw_T := xw_in (List.mem_of_getElem? (i := 549) (by decide +kernel)) (by decide +kernel)
set_option maxRecDepth 20000 in
theorem mw_148 : Cond.instanceMethod ⟨"ControlDeskModel", "put", "(II)V"⟩ ∈ xw_T := xw_in (List.mem_of_getElem? (i := 537) (by decide +kernel)) (by decide +kernel)
set_option maxRecDepth 20000 in
theorem mw_149 : Cond.selects "ControlDeskModel" ⟨"ControlDeskModel", "put", "(II)V"⟩ ⟨"ControlDeskModel", "put", "(II)V"⟩ ∈ xw_T := xw_in (List.mem_of_getElem? (i := 32) (by decide +kernel)) (by decide +kernel)
set_option maxRecDepth 20000 in
theorem mw_15 : Cond.constantLong "ControlDesk" 252 (9) ∈ xw_T := xw_in (List.mem_of_getElem? (i := 390) (by decide +kernel)) (by decide +kernel)
set_option maxRecDepth 20000 in
theorem mw_150 : Cond.methodLink "ControlDeskModel" 78 ⟨"ControlDeskModel", "put", "(II)V"⟩ ∈ xw_T := xw_in (List.mem_of_getElem? (i := 535) (by decide +kernel)) (by decide +kernel)
set_option maxRecDepth 20000 in
theorem mw_152 : Cond.instanceMethod ⟨"ControlDeskModel", "writeStatus", "(JJ)V"⟩ ∈ xw_T := xw_in (List.mem_of_getElem? (i := 547) (by decide +kernel)) (by decide +kernel)
set_option maxRecDepth 20000 in
theorem mw_153 : Cond.selects "ControlDeskModel" ⟨"ControlDeskModel", "writeStatus", "(JJ)V"⟩ ⟨"ControlDeskModel", "writeStatus", "(JJ)V"⟩ ∈ xw_T := xw_in (List.mem_of_getElem? (i := 34) (by decide +kernel)) (by decide +kernel)
set_option maxRecDepth 20000 in
theorem mw_154 : Cond.methodLink "ControlDeskModel" 82 ⟨"ControlDeskModel", "writeStatus", "(JJ)V"⟩ ∈ xw_T := xw_in (List.mem_of_getElem? (i := 545) (by decide +kernel)) (by decide +kernel)
set_option maxRecDepth 20000 in
theorem mw_156 : Cond.initialized "ControlDesk" ∈ xw_T := xw_in (List.mem_of_getElem? (i := 40) (by decide +kernel)) (by decide +kernel)
set_option maxRecDepth 20000 in
theorem mw_157 : Cond.instanceMethod ⟨"ControlDesk", "mayReturn", "(Z)Z"⟩ ∈ xw_T := xw_in (List.mem_of_getElem? (i := 182) (by decide +kernel)) (by decide +kernel)
set_option maxRecDepth 20000 in
theorem mw_158 : Cond.selects "ControlDesk" ⟨"ControlDesk", "mayReturn", "(Z)Z"⟩ ⟨"ControlDesk", "mayReturn", "(Z)Z"⟩ ∈ xw_T := xw_in (List.mem_of_getElem? (i := 5) (by decide +kernel)) (by decide +kernel)
set_option maxRecDepth 20000 in
theorem mw_159 : Cond.methodLink "ControlDesk" 104 ⟨"ControlDesk", "mayReturn", "(Z)Z"⟩ ∈ xw_T := xw_in (List.mem_of_getElem? (i := 180) (by decide +kernel)) (by decide +kernel)
set_option maxRecDepth 20000 in
theorem mw_16 : Cond.constantLong "ControlDesk" 223 (811298) ∈ xw_T := xw_in (List.mem_of_getElem? (i := 367) (by decide +kernel)) (by decide +kernel)
set_option maxRecDepth 20000 in
theorem mw_161 : Cond.instanceMethod ⟨"ControlDesk", "leaveMachine", "()V"⟩ ∈ xw_T := xw_in (List.mem_of_getElem? (i := 191) (by decide +kernel)) (by decide +kernel)
set_option maxRecDepth 20000 in
theorem mw_162 : Cond.selects "ControlDesk" ⟨"ControlDesk", "leaveMachine", "()V"⟩ ⟨"ControlDesk", "leaveMachine", "()V"⟩ ∈ xw_T := xw_in (List.mem_of_getElem? (i := 7) (by decide +kernel)) (by decide +kernel)
set_option maxRecDepth 20000 in
theorem mw_163 : Cond.methodLink "ControlDesk" 108 ⟨"ControlDesk", "leaveMachine", "()V"⟩ ∈ xw_T := xw_in (List.mem_of_getElem? (i := 189) (by decide +kernel)) (by decide +kernel)
set_option maxRecDepth 20000 in
theorem mw_165 : Cond.instanceMethod ⟨"ControlDesk", "leaveSupervisor", "()V"⟩ ∈ xw_T := xw_in (List.mem_of_getElem? (i := 198) (by decide +kernel)) (by decide +kernel)
set_option maxRecDepth 20000 in
theorem mw_166 : Cond.selects "ControlDesk" ⟨"ControlDesk", "leaveSupervisor", "()V"⟩ ⟨"ControlDesk", "leaveSupervisor", "()V"⟩ ∈ xw_T := xw_in (List.mem_of_getElem? (i := 8) (by decide +kernel)) (by decide +kernel)
set_option maxRecDepth 20000 in
theorem mw_167 : Cond.methodLink "ControlDesk" 111 ⟨"ControlDesk", "leaveSupervisor", "()V"⟩ ∈ xw_T := xw_in (List.mem_of_getElem? (i := 196) (by decide +kernel)) (by decide +kernel)
set_option maxRecDepth 20000 in
theorem mw_169 : Cond.instanceMethod ⟨"ControlDesk", "pending", "()J"⟩ ∈ xw_T := xw_in (List.mem_of_getElem? (i := 174) (by decide +kernel)) (by decide +kernel)
set_option maxRecDepth 20000 in
theorem mw_17 : Cond.constantLong "ControlDesk" 238 (7) ∈ xw_T := xw_in (List.mem_of_getElem? (i := 380) (by decide +kernel)) (by decide +kernel)
set_option maxRecDepth 20000 in
theorem mw_170 : Cond.selects "ControlDesk" ⟨"ControlDesk", "pending", "()J"⟩ ⟨"ControlDesk", "pending", "()J"⟩ ∈ xw_T := xw_in (List.mem_of_getElem? (i := 4) (by decide +kernel)) (by decide +kernel)
set_option maxRecDepth 20000 in
theorem mw_171 : Cond.methodLink "ControlDesk" 116 ⟨"ControlDesk", "pending", "()J"⟩ ∈ xw_T := xw_in (List.mem_of_getElem? (i := 172) (by decide +kernel)) (by decide +kernel)
set_option maxRecDepth 20000 in
theorem mw_173 : Cond.instanceMethod ⟨"ControlDesk", "takesUndelegated", "()Z"⟩ ∈ xw_T := xw_in (List.mem_of_getElem? (i := 215) (by decide +kernel)) (by decide +kernel)
set_option maxRecDepth 20000 in
theorem mw_174 : Cond.selects "ControlDesk" ⟨"ControlDesk", "takesUndelegated", "()Z"⟩ ⟨"ControlDesk", "takesUndelegated", "()Z"⟩ ∈ xw_T := xw_in (List.mem_of_getElem? (i := 9) (by decide +kernel)) (by decide +kernel)
set_option maxRecDepth 20000 in
theorem mw_175 : Cond.methodLink "ControlDesk" 123 ⟨"ControlDesk", "takesUndelegated", "()Z"⟩ ∈ xw_T := xw_in (List.mem_of_getElem? (i := 213) (by decide +kernel)) (by decide +kernel)
set_option maxRecDepth 20000 in
theorem mw_177 : Cond.methodLink "ControlDesk" 132 ⟨"ControlDesk", "firstInOrder", "(J)I"⟩ ∈ xw_T := xw_in (List.mem_of_getElem? (i := 218) (by decide +kernel)) (by decide +kernel)
set_option maxRecDepth 20000 in
theorem mw_178 : Cond.static ⟨"ControlDesk", "firstInOrder", "(J)I"⟩ ∈ xw_T := xw_in (List.mem_of_getElem? (i := 219) (by decide +kernel)) (by decide +kernel)
set_option maxRecDepth 20000 in
theorem mw_18 : Cond.constantLong "ControlDesk" 217 (8288682) ∈ xw_T := xw_in (List.mem_of_getElem? (i := 361) (by decide +kernel)) (by decide +kernel)
set_option maxRecDepth 20000 in
theorem mw_180 : Cond.instanceMethod ⟨"ControlDesk", "takesDelegated", "()Z"⟩ ∈ xw_T := xw_in (List.mem_of_getElem? (i := 225) (by decide +kernel)) (by decide +kernel)
set_option maxRecDepth 20000 in
theorem mw_181 : Cond.selects "ControlDesk" ⟨"ControlDesk", "takesDelegated", "()Z"⟩ ⟨"ControlDesk", "takesDelegated", "()Z"⟩ ∈ xw_T := xw_in (List.mem_of_getElem? (i := 10) (by decide +kernel)) (by decide +kernel)
set_option maxRecDepth 20000 in
theorem mw_182 : Cond.methodLink "ControlDesk" 136 ⟨"ControlDesk", "takesDelegated", "()Z"⟩ ∈ xw_T := xw_in (List.mem_of_getElem? (i := 223) (by decide +kernel)) (by decide +kernel)
set_option maxRecDepth 20000 in
theorem mw_184 : Cond.instanceMethod ⟨"ControlDesk", "machineOrSupervisorWithout", "(J)Z"⟩ ∈ xw_T := xw_in (List.mem_of_getElem? (i := 187) (by decide +kernel)) (by decide +kernel)
set_option maxRecDepth 20000 in
theorem mw_185 : Cond.selects "ControlDesk" ⟨"ControlDesk", "machineOrSupervisorWithout", "(J)Z"⟩ ⟨"ControlDesk", "machineOrSupervisorWithout", "(J)Z"⟩ ∈ xw_T := xw_in (List.mem_of_getElem? (i := 6) (by decide +kernel)) (by decide +kernel)
set_option maxRecDepth 20000 in
theorem mw_186 : Cond.methodLink "ControlDesk" 150 ⟨"ControlDesk", "machineOrSupervisorWithout", "(J)Z"⟩ ∈ xw_T := xw_in (List.mem_of_getElem? (i := 185) (by decide +kernel)) (by decide +kernel)
set_option maxRecDepth 20000 in
theorem mw_188 : Cond.methodLink "ControlDesk" 164 ⟨"ControlDesk", "isHere", "(I)Z"⟩ ∈ xw_T := xw_in (List.mem_of_getElem? (i := 329) (by decide +kernel)) (by decide +kernel)
set_option maxRecDepth 20000 in
theorem mw_189 : Cond.static ⟨"ControlDesk", "isHere", "(I)Z"⟩ ∈ xw_T := xw_in (List.mem_of_getElem? (i := 330) (by decide +kernel)) (by decide +kernel)
set_option maxRecDepth 20000 in
theorem mw_19 : Cond.constantLong "ControlDesk" 225 (46079) ∈ xw_T := xw_in (List.mem_of_getElem? (i := 368) (by decide +kernel)) (by decide +kernel)
set_option maxRecDepth 20000 in
theorem mw_191 : Cond.methodLink "ControlDesk" 167 ⟨"ControlDesk", "isOpenCount", "(I)Z"⟩ ∈ xw_T := xw_in (List.mem_of_getElem? (i := 339) (by decide +kernel)) (by decide +kernel)
set_option maxRecDepth 20000 in
theorem mw_192 : Cond.static ⟨"ControlDesk", "isOpenCount", "(I)Z"⟩ ∈ xw_T := xw_in (List.mem_of_getElem? (i := 340) (by decide +kernel)) (by decide +kernel)
set_option maxRecDepth 20000 in
theorem mw_194 : Cond.instanceMethod ⟨"ControlDesk", "isClosed", "(I)Z"⟩ ∈ xw_T := xw_in (List.mem_of_getElem? (i := 344) (by decide +kernel)) (by decide +kernel)
set_option maxRecDepth 20000 in
theorem mw_195 : Cond.selects "ControlDesk" ⟨"ControlDesk", "isClosed", "(I)Z"⟩ ⟨"ControlDesk", "isClosed", "(I)Z"⟩ ∈ xw_T := xw_in (List.mem_of_getElem? (i := 13) (by decide +kernel)) (by decide +kernel)
set_option maxRecDepth 20000 in
theorem mw_196 : Cond.methodLink "ControlDesk" 170 ⟨"ControlDesk", "isClosed", "(I)Z"⟩ ∈ xw_T := xw_in (List.mem_of_getElem? (i := 342) (by decide +kernel)) (by decide +kernel)
set_option maxRecDepth 20000 in
theorem mw_198 : Cond.instanceMethod ⟨"ControlDesk", "shownStatus", "()J"⟩ ∈ xw_T := xw_in (List.mem_of_getElem? (i := 165) (by decide +kernel)) (by decide +kernel)
set_option maxRecDepth 20000 in
theorem mw_199 : Cond.selects "ControlDesk" ⟨"ControlDesk", "shownStatus", "()J"⟩ ⟨"ControlDesk", "shownStatus", "()J"⟩ ∈ xw_T := xw_in (List.mem_of_getElem? (i := 3) (by decide +kernel)) (by decide +kernel)
set_option maxRecDepth 20000 in
theorem mw_2 : Cond.constantLong "ControlDesk" 60 (24576) ∈ xw_T := xw_in (List.mem_of_getElem? (i := 168) (by decide +kernel)) (by decide +kernel)
set_option maxRecDepth 20000 in
theorem mw_20 : Cond.constantLong "ControlDesk" 227 (546) ∈ xw_T := xw_in (List.mem_of_getElem? (i := 369) (by decide +kernel)) (by decide +kernel)
set_option maxRecDepth 20000 in
theorem mw_200 : Cond.methodLink "ControlDesk" 183 ⟨"ControlDesk", "shownStatus", "()J"⟩ ∈ xw_T := xw_in (List.mem_of_getElem? (i := 163) (by decide +kernel)) (by decide +kernel)
set_option maxRecDepth 20000 in
theorem mw_202 : Cond.methodLink "ControlDesk" 213 ⟨"ControlDesk", "merged", "(JJJ)J"⟩ ∈ xw_T := xw_in (List.mem_of_getElem? (i := 351) (by decide +kernel)) (by decide +kernel)
set_option maxRecDepth 20000 in
theorem mw_203 : Cond.static ⟨"ControlDesk", "merged", "(JJJ)J"⟩ ∈ xw_T := xw_in (List.mem_of_getElem? (i := 352) (by decide +kernel)) (by decide +kernel)
set_option maxRecDepth 20000 in
theorem mw_205 : Cond.instanceMethod ⟨"ControlDesk", "storeStatus", "(JJ)V"⟩ ∈ xw_T := xw_in (List.mem_of_getElem? (i := 364) (by decide +kernel)) (by decide +kernel)
set_option maxRecDepth 20000 in
theorem mw_206 : Cond.selects "ControlDesk" ⟨"ControlDesk", "storeStatus", "(JJ)V"⟩ ⟨"ControlDesk", "storeStatus", "(JJ)V"⟩ ∈ xw_T := xw_in (List.mem_of_getElem? (i := 16) (by decide +kernel)) (by decide +kernel)
set_option maxRecDepth 20000 in
theorem mw_207 : Cond.methodLink "ControlDesk" 219 ⟨"ControlDesk", "storeStatus", "(JJ)V"⟩ ∈ xw_T := xw_in (List.mem_of_getElem? (i := 362) (by decide +kernel)) (by decide +kernel)
set_option maxRecDepth 20000 in
theorem mw_209 : Cond.instanceMethod ⟨"ControlDesk", "storeSupervisorPending", "(J)V"⟩ ∈ xw_T := xw_in (List.mem_of_getElem? (i := 373) (by decide +kernel)) (by decide +kernel)
set_option maxRecDepth 20000 in
theorem mw_21 : Cond.constantLong "ControlDesk" 229 (2730) ∈ xw_T := xw_in (List.mem_of_getElem? (i := 370) (by decide +kernel)) (by decide +kernel)
set_option maxRecDepth 20000 in
theorem mw_210 : Cond.selects "ControlDesk" ⟨"ControlDesk", "storeSupervisorPending", "(J)V"⟩ ⟨"ControlDesk", "storeSupervisorPending", "(J)V"⟩ ∈ xw_T := xw_in (List.mem_of_getElem? (i := 17) (by decide +kernel)) (by decide +kernel)
set_option maxRecDepth 20000 in
theorem mw_211 : Cond.methodLink "ControlDesk" 231 ⟨"ControlDesk", "storeSupervisorPending", "(J)V"⟩ ∈ xw_T := xw_in (List.mem_of_getElem? (i := 371) (by decide +kernel)) (by decide +kernel)
set_option maxRecDepth 20000 in
theorem mw_213 : Cond.instanceMethod ⟨"ControlDesk$Bank", "keepVectors", "(J)V"⟩ ∈ xw_T := xw_in (List.mem_of_getElem? (i := 377) (by decide +kernel)) (by decide +kernel)
set_option maxRecDepth 20000 in
theorem mw_214 : Cond.selects "ControlDesk$Bank" ⟨"ControlDesk$Bank", "keepVectors", "(J)V"⟩ ⟨"ControlDesk$Bank", "keepVectors", "(J)V"⟩ ∈ xw_T := xw_in (List.mem_of_getElem? (i := 18) (by decide +kernel)) (by decide +kernel)
set_option maxRecDepth 20000 in
theorem mw_216 : Cond.instanceMethod ⟨"ControlDesk", "storeTable", "(J)V"⟩ ∈ xw_T := xw_in (List.mem_of_getElem? (i := 388) (by decide +kernel)) (by decide +kernel)
set_option maxRecDepth 20000 in
theorem mw_217 : Cond.selects "ControlDesk" ⟨"ControlDesk", "storeTable", "(J)V"⟩ ⟨"ControlDesk", "storeTable", "(J)V"⟩ ∈ xw_T := xw_in (List.mem_of_getElem? (i := 20) (by decide +kernel)) (by decide +kernel)
set_option maxRecDepth 20000 in
theorem mw_218 : Cond.methodLink "ControlDesk" 243 ⟨"ControlDesk", "storeTable", "(J)V"⟩ ∈ xw_T := xw_in (List.mem_of_getElem? (i := 386) (by decide +kernel)) (by decide +kernel)
set_option maxRecDepth 20000 in
theorem mw_22 : Cond.constantLong "ControlDesk" 258 (32) ∈ xw_T := xw_in (List.mem_of_getElem? (i := 200) (by decide +kernel)) (by decide +kernel)
set_option maxRecDepth 20000 in
theorem mw_220 : Cond.instanceMethod ⟨"ControlDesk", "has", "(J)Z"⟩ ∈ xw_T := xw_in (List.mem_of_getElem? (i := 144) (by decide +kernel)) (by decide +kernel)
set_option maxRecDepth 20000 in
theorem mw_221 : Cond.selects "ControlDesk" ⟨"ControlDesk", "has", "(J)Z"⟩ ⟨"ControlDesk", "has", "(J)Z"⟩ ∈ xw_T := xw_in (List.mem_of_getElem? (i := 0) (by decide +kernel)) (by decide +kernel)
set_option maxRecDepth 20000 in
theorem mw_222 : Cond.methodLink "ControlDesk" 29 ⟨"ControlDesk", "has", "(J)Z"⟩ ∈ xw_T := xw_in (List.mem_of_getElem? (i := 142) (by decide +kernel)) (by decide +kernel)
set_option maxRecDepth 20000 in
theorem mw_224 : Cond.instanceMethod ⟨"ControlDesk", "previousMachineMode", "()I"⟩ ∈ xw_T := xw_in (List.mem_of_getElem? (i := 148) (by decide +kernel)) (by decide +kernel)
set_option maxRecDepth 20000 in
theorem mw_225 : Cond.selects "ControlDesk" ⟨"ControlDesk", "previousMachineMode", "()I"⟩ ⟨"ControlDesk", "previousMachineMode", "()I"⟩ ∈ xw_T := xw_in (List.mem_of_getElem? (i := 1) (by decide +kernel)) (by decide +kernel)
set_option maxRecDepth 20000 in
theorem mw_226 : Cond.methodLink "ControlDesk" 33 ⟨"ControlDesk", "previousMachineMode", "()I"⟩ ∈ xw_T := xw_in (List.mem_of_getElem? (i := 146) (by decide +kernel)) (by decide +kernel)
set_option maxRecDepth 20000 in
theorem mw_228 : Cond.instanceMethod ⟨"ControlDesk", "isIllegal", "(IZ)Z"⟩ ∈ xw_T := xw_in (List.mem_of_getElem? (i := 327) (by decide +kernel)) (by decide +kernel)
set_option maxRecDepth 20000 in
theorem mw_229 : Cond.selects "ControlDesk" ⟨"ControlDesk", "isIllegal", "(IZ)Z"⟩ ⟨"ControlDesk", "isIllegal", "(IZ)Z"⟩ ∈ xw_T := xw_in (List.mem_of_getElem? (i := 12) (by decide +kernel)) (by decide +kernel)
set_option maxRecDepth 20000 in
theorem mw_23 : Cond.constantLong "ControlDesk" 254 (-291) ∈ xw_T := xw_in (List.mem_of_getElem? (i := 407) (by decide +kernel)) (by decide +kernel)
set_option maxRecDepth 20000 in
theorem mw_230 : Cond.methodLink "ControlDesk" 46 ⟨"ControlDesk", "isIllegal", "(IZ)Z"⟩ ∈ xw_T := xw_in (List.mem_of_getElem? (i := 325) (by decide +kernel)) (by decide +kernel)
set_option maxRecDepth 20000 in
theorem mw_232 : Cond.methodLink "ControlDesk" 50 ⟨"ControlDesk", "isElsewhere", "(I)Z"⟩ ∈ xw_T := xw_in (List.mem_of_getElem? (i := 332) (by decide +kernel)) (by decide +kernel)
set_option maxRecDepth 20000 in
theorem mw_233 : Cond.static ⟨"ControlDesk", "isElsewhere", "(I)Z"⟩ ∈ xw_T := xw_in (List.mem_of_getElem? (i := 333) (by decide +kernel)) (by decide +kernel)
set_option maxRecDepth 20000 in
theorem mw_235 : Cond.methodLink "ControlDesk" 54 ⟨"ControlDesk", "isFloat", "(I)Z"⟩ ∈ xw_T := xw_in (List.mem_of_getElem? (i := 335) (by decide +kernel)) (by decide +kernel)
set_option maxRecDepth 20000 in
theorem mw_236 : Cond.static ⟨"ControlDesk", "isFloat", "(I)Z"⟩ ∈ xw_T := xw_in (List.mem_of_getElem? (i := 336) (by decide +kernel)) (by decide +kernel)
set_option maxRecDepth 20000 in
theorem mw_238 : Cond.instanceMethod ⟨"ControlDesk", "shown", "(I)J"⟩ ∈ xw_T := xw_in (List.mem_of_getElem? (i := 161) (by decide +kernel)) (by decide +kernel)
set_option maxRecDepth 20000 in
theorem mw_239 : Cond.selects "ControlDesk" ⟨"ControlDesk", "shown", "(I)J"⟩ ⟨"ControlDesk", "shown", "(I)J"⟩ ∈ xw_T := xw_in (List.mem_of_getElem? (i := 2) (by decide +kernel)) (by decide +kernel)
set_option maxRecDepth 20000 in
theorem mw_24 : Cond.constantLong "ControlDesk" 256 (256) ∈ xw_T := xw_in (List.mem_of_getElem? (i := 202) (by decide +kernel)) (by decide +kernel)
set_option maxRecDepth 20000 in
theorem mw_240 : Cond.methodLink "ControlDesk" 62 ⟨"ControlDesk", "shown", "(I)J"⟩ ∈ xw_T := xw_in (List.mem_of_getElem? (i := 159) (by decide +kernel)) (by decide +kernel)
set_option maxRecDepth 20000 in
theorem mw_242 : Cond.instanceMethod ⟨"ControlDesk", "changeable", "(IJ)J"⟩ ∈ xw_T := xw_in (List.mem_of_getElem? (i := 348) (by decide +kernel)) (by decide +kernel)
set_option maxRecDepth 20000 in
theorem mw_243 : Cond.selects "ControlDesk" ⟨"ControlDesk", "changeable", "(IJ)J"⟩ ⟨"ControlDesk", "changeable", "(IJ)J"⟩ ∈ xw_T := xw_in (List.mem_of_getElem? (i := 14) (by decide +kernel)) (by decide +kernel)
set_option maxRecDepth 20000 in
theorem mw_244 : Cond.methodLink "ControlDesk" 66 ⟨"ControlDesk", "changeable", "(IJ)J"⟩ ∈ xw_T := xw_in (List.mem_of_getElem? (i := 346) (by decide +kernel)) (by decide +kernel)
set_option maxRecDepth 20000 in
theorem mw_246 : Cond.methodLink "ControlDesk" 70 ⟨"ControlDesk", "combined", "(IJJ)J"⟩ ∈ xw_T := xw_in (List.mem_of_getElem? (i := 354) (by decide +kernel)) (by decide +kernel)
set_option maxRecDepth 20000 in
theorem mw_247 : Cond.static ⟨"ControlDesk", "combined", "(IJJ)J"⟩ ∈ xw_T := xw_in (List.mem_of_getElem? (i := 355) (by decide +kernel)) (by decide +kernel)
set_option maxRecDepth 20000 in
theorem mw_249 : Cond.instanceMethod ⟨"ControlDesk", "store", "(IJ)V"⟩ ∈ xw_T := xw_in (List.mem_of_getElem? (i := 359) (by decide +kernel)) (by decide +kernel)
set_option maxRecDepth 20000 in
theorem mw_25 : Cond.constantLong "ControlDesk" 260 (-6281) ∈ xw_T := xw_in (List.mem_of_getElem? (i := 412) (by decide +kernel)) (by decide +kernel)
set_option maxRecDepth 20000 in
theorem mw_250 : Cond.selects "ControlDesk" ⟨"ControlDesk", "store", "(IJ)V"⟩ ⟨"ControlDesk", "store", "(IJ)V"⟩ ∈ xw_T := xw_in (List.mem_of_getElem? (i := 15) (by decide +kernel)) (by decide +kernel)
set_option maxRecDepth 20000 in
theorem mw_251 : Cond.methodLink "ControlDesk" 74 ⟨"ControlDesk", "store", "(IJ)V"⟩ ∈ xw_T := xw_in (List.mem_of_getElem? (i := 357) (by decide +kernel)) (by decide +kernel)
set_option maxRecDepth 20000 in
theorem mw_253 : Cond.instanceMethod ⟨"ControlDesk", "goesToSupervisor", "(ZI)Z"⟩ ∈ xw_T := xw_in (List.mem_of_getElem? (i := 401) (by decide +kernel)) (by decide +kernel)
set_option maxRecDepth 20000 in
theorem mw_254 : Cond.selects "ControlDesk" ⟨"ControlDesk", "goesToSupervisor", "(ZI)Z"⟩ ⟨"ControlDesk", "goesToSupervisor", "(ZI)Z"⟩ ∈ xw_T := xw_in (List.mem_of_getElem? (i := 21) (by decide +kernel)) (by decide +kernel)
set_option maxRecDepth 20000 in
theorem mw_255 : Cond.methodLink "ControlDesk" 83 ⟨"ControlDesk", "goesToSupervisor", "(ZI)Z"⟩ ∈ xw_T := xw_in (List.mem_of_getElem? (i := 399) (by decide +kernel)) (by decide +kernel)
set_option maxRecDepth 20000 in
theorem mw_257 : Cond.instanceMethod ⟨"ControlDesk", "enterSupervisor", "()V"⟩ ∈ xw_T := xw_in (List.mem_of_getElem? (i := 405) (by decide +kernel)) (by decide +kernel)
set_option maxRecDepth 20000 in
theorem mw_258 : Cond.selects "ControlDesk" ⟨"ControlDesk", "enterSupervisor", "()V"⟩ ⟨"ControlDesk", "enterSupervisor", "()V"⟩ ∈ xw_T := xw_in (List.mem_of_getElem? (i := 22) (by decide +kernel)) (by decide +kernel)
set_option maxRecDepth 20000 in
theorem mw_259 : Cond.methodLink "ControlDesk" 87 ⟨"ControlDesk", "enterSupervisor", "()V"⟩ ∈ xw_T := xw_in (List.mem_of_getElem? (i := 403) (by decide +kernel)) (by decide +kernel)
set_option maxRecDepth 20000 in
theorem mw_26 : Cond.constantLong "ControlDesk" 262 (128) ∈ xw_T := xw_in (List.mem_of_getElem? (i := 193) (by decide +kernel)) (by decide +kernel)
set_option maxRecDepth 20000 in
theorem mw_261 : Cond.instanceMethod ⟨"ControlDesk", "enterMachine", "()V"⟩ ∈ xw_T := xw_in (List.mem_of_getElem? (i := 410) (by decide +kernel)) (by decide +kernel)
set_option maxRecDepth 20000 in
theorem mw_262 : Cond.selects "ControlDesk" ⟨"ControlDesk", "enterMachine", "()V"⟩ ⟨"ControlDesk", "enterMachine", "()V"⟩ ∈ xw_T := xw_in (List.mem_of_getElem? (i := 23) (by decide +kernel)) (by decide +kernel)
set_option maxRecDepth 20000 in
theorem mw_263 : Cond.methodLink "ControlDesk" 90 ⟨"ControlDesk", "enterMachine", "()V"⟩ ∈ xw_T := xw_in (List.mem_of_getElem? (i := 408) (by decide +kernel)) (by decide +kernel)
set_option maxRecDepth 20000 in
theorem mw_265 : Cond.instanceMethod ⟨"ControlDesk$Bank", "remember", "(ZIJJ)V"⟩ ∈ xw_T := xw_in (List.mem_of_getElem? (i := 415) (by decide +kernel)) (by decide +kernel)
set_option maxRecDepth 20000 in
theorem mw_266 : Cond.selects "ControlDesk$Bank" ⟨"ControlDesk$Bank", "remember", "(ZIJJ)V"⟩ ⟨"ControlDesk$Bank", "remember", "(ZIJJ)V"⟩ ∈ xw_T := xw_in (List.mem_of_getElem? (i := 24) (by decide +kernel)) (by decide +kernel)
set_option maxRecDepth 20000 in
theorem mw_268 : Cond.instanceMethod ⟨"ControlDesk$Bank", "entry", "(ZI)J"⟩ ∈ xw_T := xw_in (List.mem_of_getElem? (i := 421) (by decide +kernel)) (by decide +kernel)
set_option maxRecDepth 20000 in
theorem mw_269 : Cond.selects "ControlDesk$Bank" ⟨"ControlDesk$Bank", "entry", "(ZI)J"⟩ ⟨"ControlDesk$Bank", "entry", "(ZI)J"⟩ ∈ xw_T := xw_in (List.mem_of_getElem? (i := 25) (by decide +kernel)) (by decide +kernel)
set_option maxRecDepth 20000 in
theorem mw_27 : Cond.constantLong "ControlDesk$Bank" 26 (-9223372036854775808) ∈ xw_T := xw_in (List.mem_of_getElem? (i := 418) (by decide +kernel)) (by decide +kernel)
set_option maxRecDepth 20000 in
theorem mw_270 : Cond.instanceMethod ⟨"java/lang/Object", "<init>", "()V"⟩ ∈ xw_T := xw_in (List.mem_of_getElem? (i := 53) (by decide +kernel)) (by decide +kernel)
set_option maxRecDepth 20000 in
theorem mw_271 : Cond.methodLink "ControlDesk$Bank" 3 ⟨"java/lang/Object", "<init>", "()V"⟩ ∈ xw_T := xw_in (List.mem_of_getElem? (i := 60) (by decide +kernel)) (by decide +kernel)
set_option maxRecDepth 20000 in
theorem mw_273 : Cond.instanceMethod ⟨"ControlDesk$Bank", "<init>", "()V"⟩ ∈ xw_T := xw_in (List.mem_of_getElem? (i := 58) (by decide +kernel)) (by decide +kernel)
set_option maxRecDepth 20000 in
theorem mw_274 : Cond.methodLink "ControlDesk" 3 ⟨"java/lang/Object", "<init>", "()V"⟩ ∈ xw_T := xw_in (List.mem_of_getElem? (i := 52) (by decide +kernel)) (by decide +kernel)
set_option maxRecDepth 20000 in
theorem mw_275 : Cond.classLink "ControlDesk" 9 "ControlDesk$Bank" ∈ xw_T := xw_in (List.mem_of_getElem? (i := 55) (by decide +kernel)) (by decide +kernel)
set_option maxRecDepth 20000 in
theorem mw_276 : Cond.instantiable "ControlDesk$Bank" 6 ∈ xw_T := xw_in (List.mem_of_getElem? (i := 56) (by decide +kernel)) (by decide +kernel)
set_option maxRecDepth 20000 in
theorem mw_277 : Cond.methodLink "ControlDeskModel" 1 ⟨"java/lang/Object", "<init>", "()V"⟩ ∈ xw_T := xw_in (List.mem_of_getElem? (i := 447) (by decide +kernel)) (by decide +kernel)
set_option maxRecDepth 20000 in
theorem mw_278 : Cond.arrayClass .long ∈ xw_T := xw_in (List.mem_of_getElem? (i := 473) (by decide +kernel)) (by decide +kernel)
set_option maxRecDepth 20000 in
theorem mw_279 : Cond.arrayClass .boolean ∈ xw_T := xw_in (List.mem_of_getElem? (i := 474) (by decide +kernel)) (by decide +kernel)
set_option maxRecDepth 20000 in
theorem mw_28 : Cond.constantLong "ControlDesk$Bank" 36 (4) ∈ xw_T := xw_in (List.mem_of_getElem? (i := 424) (by decide +kernel)) (by decide +kernel)
set_option maxRecDepth 20000 in
theorem mw_280 : Cond.classLink "ControlDesk" 37 "java/lang/IllegalArgumentException" ∈ xw_T := xw_in (List.mem_of_getElem? (i := 258) (by decide +kernel)) (by decide +kernel)
set_option maxRecDepth 20000 in
theorem mw_281 : Cond.initialized "java/lang/IllegalArgumentException" ∈ xw_T := xw_in (List.mem_of_getElem? (i := 46) (by decide +kernel)) (by decide +kernel)
set_option maxRecDepth 20000 in
theorem mw_283 : Cond.methodLink "ControlDeskLaw" 7 ⟨"ControlDesk", "access", "(IIZJ)I"⟩ ∈ xw_T := xw_in (List.mem_of_getElem? (i := 254) (by decide +kernel)) (by decide +kernel)
set_option maxRecDepth 20000 in
theorem mw_284 : Cond.instanceMethod ⟨"ControlDesk", "access", "(IIZJ)I"⟩ ∈ xw_T := xw_in (List.mem_of_getElem? (i := 255) (by decide +kernel)) (by decide +kernel)
set_option maxRecDepth 20000 in
theorem mw_285 : Cond.selects "ControlDesk" ⟨"ControlDesk", "access", "(IIZJ)I"⟩ ⟨"ControlDesk", "access", "(IIZJ)I"⟩ ∈ xw_T := xw_in (List.mem_of_getElem? (i := 256) (by decide +kernel)) (by decide +kernel)
set_option maxRecDepth 20000 in
theorem mw_286 : Cond.classLink "ControlDeskLaw" 13 "java/lang/IllegalArgumentException" ∈ xw_T := xw_in (List.mem_of_getElem? (i := 253) (by decide +kernel)) (by decide +kernel)
set_option maxRecDepth 20000 in
theorem mw_288 : Cond.methodLink "ControlDeskLaw" 15 ⟨"ControlDesk", "trap", "(ZIJJ)J"⟩ ∈ xw_T := xw_in (List.mem_of_getElem? (i := 394) (by decide +kernel)) (by decide +kernel)
set_option maxRecDepth 20000 in
theorem mw_289 : Cond.instanceMethod ⟨"ControlDesk", "trap", "(ZIJJ)J"⟩ ∈ xw_T := xw_in (List.mem_of_getElem? (i := 395) (by decide +kernel)) (by decide +kernel)
set_option maxRecDepth 20000 in
theorem mw_29 : Cond.constantLong "ControlDesk$Bank" 34 (-4) ∈ xw_T := xw_in (List.mem_of_getElem? (i := 423) (by decide +kernel)) (by decide +kernel)
set_option maxRecDepth 20000 in
theorem mw_290 : Cond.selects "ControlDesk" ⟨"ControlDesk", "trap", "(ZIJJ)J"⟩ ⟨"ControlDesk", "trap", "(ZIJJ)J"⟩ ∈ xw_T := xw_in (List.mem_of_getElem? (i := 396) (by decide +kernel)) (by decide +kernel)
set_option maxRecDepth 20000 in
theorem mw_292 : Cond.methodLink "ControlDeskLaw" 19 ⟨"ControlDesk", "line", "(IZ)V"⟩ ∈ xw_T := xw_in (List.mem_of_getElem? (i := 428) (by decide +kernel)) (by decide +kernel)
set_option maxRecDepth 20000 in
theorem mw_293 : Cond.instanceMethod ⟨"ControlDesk", "line", "(IZ)V"⟩ ∈ xw_T := xw_in (List.mem_of_getElem? (i := 429) (by decide +kernel)) (by decide +kernel)
set_option maxRecDepth 20000 in
theorem mw_294 : Cond.selects "ControlDesk" ⟨"ControlDesk", "line", "(IZ)V"⟩ ⟨"ControlDesk", "line", "(IZ)V"⟩ ∈ xw_T := xw_in (List.mem_of_getElem? (i := 430) (by decide +kernel)) (by decide +kernel)
set_option maxRecDepth 20000 in
theorem mw_296 : Cond.methodLink "ControlDeskLaw" 23 ⟨"ControlDesk", "allowed", "(I)Z"⟩ ∈ xw_T := xw_in (List.mem_of_getElem? (i := 436) (by decide +kernel)) (by decide +kernel)
set_option maxRecDepth 20000 in
theorem mw_297 : Cond.instanceMethod ⟨"ControlDesk", "allowed", "(I)Z"⟩ ∈ xw_T := xw_in (List.mem_of_getElem? (i := 437) (by decide +kernel)) (by decide +kernel)
set_option maxRecDepth 20000 in
theorem mw_298 : Cond.selects "ControlDesk" ⟨"ControlDesk", "allowed", "(I)Z"⟩ ⟨"ControlDesk", "allowed", "(I)Z"⟩ ∈ xw_T := xw_in (List.mem_of_getElem? (i := 438) (by decide +kernel)) (by decide +kernel)
set_option maxRecDepth 20000 in
theorem mw_3 : Cond.constantLong "ControlDesk" 148 (1048576) ∈ xw_T := xw_in (List.mem_of_getElem? (i := 338) (by decide +kernel)) (by decide +kernel)
set_option maxRecDepth 20000 in
theorem mw_30 : Cond.constantLong "ControlDesk" 264 (4194304) ∈ xw_T := xw_in (List.mem_of_getElem? (i := 184) (by decide +kernel)) (by decide +kernel)
set_option maxRecDepth 20000 in
theorem mw_300 : Cond.instanceMethod ⟨"ControlDesk", "mode", "()I"⟩ ∈ xw_T := xw_in (List.mem_of_getElem? (i := 134) (by decide +kernel)) (by decide +kernel)
set_option maxRecDepth 20000 in
theorem mw_301 : Cond.selects "ControlDesk" ⟨"ControlDesk", "mode", "()I"⟩ ⟨"ControlDesk", "mode", "()I"⟩ ∈ xw_T := xw_in (List.mem_of_getElem? (i := 135) (by decide +kernel)) (by decide +kernel)
set_option maxRecDepth 20000 in
theorem mw_302 : Cond.methodLink "ControlDeskLaw" 39 ⟨"ControlDesk", "mode", "()I"⟩ ∈ xw_T := xw_in (List.mem_of_getElem? (i := 133) (by decide +kernel)) (by decide +kernel)
set_option maxRecDepth 20000 in
theorem mw_304 : Cond.instanceMethod ⟨"ControlDeskModel", "mode", "()I"⟩ ∈ xw_T := xw_in (List.mem_of_getElem? (i := 480) (by decide +kernel)) (by decide +kernel)
set_option maxRecDepth 20000 in
theorem mw_305 : Cond.selects "ControlDeskModel" ⟨"ControlDeskModel", "mode", "()I"⟩ ⟨"ControlDeskModel", "mode", "()I"⟩ ∈ xw_T := xw_in (List.mem_of_getElem? (i := 481) (by decide +kernel)) (by decide +kernel)
set_option maxRecDepth 20000 in
theorem mw_306 : Cond.methodLink "ControlDeskLaw" 43 ⟨"ControlDeskModel", "mode", "()I"⟩ ∈ xw_T := xw_in (List.mem_of_getElem? (i := 479) (by decide +kernel)) (by decide +kernel)
set_option maxRecDepth 20000 in
theorem mw_308 : Cond.instanceMethod ⟨"ControlDesk", "dataMode", "()I"⟩ ∈ xw_T := xw_in (List.mem_of_getElem? (i := 138) (by decide +kernel)) (by decide +kernel)
set_option maxRecDepth 20000 in
theorem mw_309 : Cond.selects "ControlDesk" ⟨"ControlDesk", "dataMode", "()I"⟩ ⟨"ControlDesk", "dataMode", "()I"⟩ ∈ xw_T := xw_in (List.mem_of_getElem? (i := 139) (by decide +kernel)) (by decide +kernel)
set_option maxRecDepth 20000 in
theorem mw_31 : Cond.constantLong "ControlDesk" 266 (-6153) ∈ xw_T := xw_in (List.mem_of_getElem? (i := 195) (by decide +kernel)) (by decide +kernel)
set_option maxRecDepth 20000 in
theorem mw_310 : Cond.methodLink "ControlDeskLaw" 44 ⟨"ControlDesk", "dataMode", "()I"⟩ ∈ xw_T := xw_in (List.mem_of_getElem? (i := 137) (by decide +kernel)) (by decide +kernel)
set_option maxRecDepth 20000 in
theorem mw_312 : Cond.instanceMethod ⟨"ControlDeskModel", "dataMode", "()I"⟩ ∈ xw_T := xw_in (List.mem_of_getElem? (i := 484) (by decide +kernel)) (by decide +kernel)
set_option maxRecDepth 20000 in
theorem mw_313 : Cond.selects "ControlDeskModel" ⟨"ControlDeskModel", "dataMode", "()I"⟩ ⟨"ControlDeskModel", "dataMode", "()I"⟩ ∈ xw_T := xw_in (List.mem_of_getElem? (i := 485) (by decide +kernel)) (by decide +kernel)
set_option maxRecDepth 20000 in
theorem mw_314 : Cond.methodLink "ControlDeskLaw" 47 ⟨"ControlDeskModel", "dataMode", "()I"⟩ ∈ xw_T := xw_in (List.mem_of_getElem? (i := 483) (by decide +kernel)) (by decide +kernel)
set_option maxRecDepth 20000 in
theorem mw_315 : Cond.constantLong "ControlDeskLaw" 48 4294967295 ∈ xw_T := xw_in (List.mem_of_getElem? (i := 628) (by decide +kernel)) (by decide +kernel)
set_option maxRecDepth 20000 in
theorem mw_316 : Cond.methodLink "ControlDeskLaw" 50 ⟨"ControlDeskLaw", "access", "(LControlDesk;IIZJ[J)I"⟩ ∈ xw_T := xw_in (List.mem_of_getElem? (i := 250) (by decide +kernel)) (by decide +kernel)
set_option maxRecDepth 20000 in
theorem mw_317 : Cond.static ⟨"ControlDeskLaw", "access", "(LControlDesk;IIZJ[J)I"⟩ ∈ xw_T := xw_in (List.mem_of_getElem? (i := 251) (by decide +kernel)) (by decide +kernel)
set_option maxRecDepth 20000 in
theorem mw_318 : Cond.initialized "ControlDeskLaw" ∈ xw_T := xw_in (List.mem_of_getElem? (i := 39) (by decide +kernel)) (by decide +kernel)
set_option maxRecDepth 20000 in
theorem mw_32 : Cond.constantLong "ControlDesk" 268 (-259) ∈ xw_T := xw_in (List.mem_of_getElem? (i := 203) (by decide +kernel)) (by decide +kernel)
set_option maxRecDepth 20000 in
theorem mw_320 : Cond.instanceMethod ⟨"ControlDeskModel", "access", "(IIZJ)I"⟩ ∈ xw_T := xw_in (List.mem_of_getElem? (i := 528) (by decide +kernel)) (by decide +kernel)
set_option maxRecDepth 20000 in
theorem mw_321 : Cond.selects "ControlDeskModel" ⟨"ControlDeskModel", "access", "(IIZJ)I"⟩ ⟨"ControlDeskModel", "access", "(IIZJ)I"⟩ ∈ xw_T := xw_in (List.mem_of_getElem? (i := 529) (by decide +kernel)) (by decide +kernel)
set_option maxRecDepth 20000 in
theorem mw_322 : Cond.methodLink "ControlDeskLaw" 53 ⟨"ControlDeskModel", "access", "(IIZJ)I"⟩ ∈ xw_T := xw_in (List.mem_of_getElem? (i := 527) (by decide +kernel)) (by decide +kernel)
set_option maxRecDepth 20000 in
theorem mw_324 : Cond.instanceMethod ⟨"ControlDeskModel", "thrown", "()I"⟩ ∈ xw_T := xw_in (List.mem_of_getElem? (i := 476) (by decide +kernel)) (by decide +kernel)
set_option maxRecDepth 20000 in
theorem mw_325 : Cond.selects "ControlDeskModel" ⟨"ControlDeskModel", "thrown", "()I"⟩ ⟨"ControlDeskModel", "thrown", "()I"⟩ ∈ xw_T := xw_in (List.mem_of_getElem? (i := 477) (by decide +kernel)) (by decide +kernel)
set_option maxRecDepth 20000 in
theorem mw_326 : Cond.methodLink "ControlDeskLaw" 54 ⟨"ControlDeskModel", "thrown", "()I"⟩ ∈ xw_T := xw_in (List.mem_of_getElem? (i := 475) (by decide +kernel)) (by decide +kernel)
set_option maxRecDepth 20000 in
theorem mw_328 : Cond.instanceMethod ⟨"ControlDesk", "had", "()J"⟩ ∈ xw_T := xw_in (List.mem_of_getElem? (i := 152) (by decide +kernel)) (by decide +kernel)
set_option maxRecDepth 20000 in
theorem mw_329 : Cond.selects "ControlDesk" ⟨"ControlDesk", "had", "()J"⟩ ⟨"ControlDesk", "had", "()J"⟩ ∈ xw_T := xw_in (List.mem_of_getElem? (i := 153) (by decide +kernel)) (by decide +kernel)
set_option maxRecDepth 20000 in
theorem mw_33 : Cond.constantLong "ControlDesk" 114 (-131073) ∈ xw_T := xw_in (List.mem_of_getElem? (i := 204) (by decide +kernel)) (by decide +kernel)
set_option maxRecDepth 20000 in
theorem mw_330 : Cond.methodLink "ControlDeskLaw" 57 ⟨"ControlDesk", "had", "()J"⟩ ∈ xw_T := xw_in (List.mem_of_getElem? (i := 151) (by decide +kernel)) (by decide +kernel)
set_option maxRecDepth 20000 in
theorem mw_332 : Cond.instanceMethod ⟨"ControlDeskModel", "had", "()J"⟩ ∈ xw_T := xw_in (List.mem_of_getElem? (i := 564) (by decide +kernel)) (by decide +kernel)
set_option maxRecDepth 20000 in
theorem mw_333 : Cond.selects "ControlDeskModel" ⟨"ControlDeskModel", "had", "()J"⟩ ⟨"ControlDeskModel", "had", "()J"⟩ ∈ xw_T := xw_in (List.mem_of_getElem? (i := 565) (by decide +kernel)) (by decide +kernel)
set_option maxRecDepth 20000 in
theorem mw_334 : Cond.methodLink "ControlDeskLaw" 61 ⟨"ControlDeskModel", "had", "()J"⟩ ∈ xw_T := xw_in (List.mem_of_getElem? (i := 563) (by decide +kernel)) (by decide +kernel)
set_option maxRecDepth 20000 in
theorem mw_336 : Cond.instanceMethod ⟨"ControlDesk", "peek", "(I)J"⟩ ∈ xw_T := xw_in (List.mem_of_getElem? (i := 156) (by decide +kernel)) (by decide +kernel)
set_option maxRecDepth 20000 in
theorem mw_337 : Cond.selects "ControlDesk" ⟨"ControlDesk", "peek", "(I)J"⟩ ⟨"ControlDesk", "peek", "(I)J"⟩ ∈ xw_T := xw_in (List.mem_of_getElem? (i := 157) (by decide +kernel)) (by decide +kernel)
set_option maxRecDepth 20000 in
theorem mw_338 : Cond.methodLink "ControlDeskLaw" 62 ⟨"ControlDesk", "peek", "(I)J"⟩ ∈ xw_T := xw_in (List.mem_of_getElem? (i := 155) (by decide +kernel)) (by decide +kernel)
set_option maxRecDepth 20000 in
theorem mw_34 : Cond.fieldLink "ControlDesk" 270 "ControlDesk" "INTERRUPT_ORDER" "[I" ∈ xw_T := xw_in (List.mem_of_getElem? (i := 221) (by decide +kernel)) (by decide +kernel)
set_option maxRecDepth 20000 in
theorem mw_340 : Cond.instanceMethod ⟨"ControlDeskModel", "peek", "(I)J"⟩ ∈ xw_T := xw_in (List.mem_of_getElem? (i := 496) (by decide +kernel)) (by decide +kernel)
set_option maxRecDepth 20000 in
theorem mw_341 : Cond.selects "ControlDeskModel" ⟨"ControlDeskModel", "peek", "(I)J"⟩ ⟨"ControlDeskModel", "peek", "(I)J"⟩ ∈ xw_T := xw_in (List.mem_of_getElem? (i := 497) (by decide +kernel)) (by decide +kernel)
set_option maxRecDepth 20000 in
theorem mw_342 : Cond.methodLink "ControlDeskLaw" 66 ⟨"ControlDeskModel", "peek", "(I)J"⟩ ∈ xw_T := xw_in (List.mem_of_getElem? (i := 495) (by decide +kernel)) (by decide +kernel)
set_option maxRecDepth 20000 in
theorem mw_343 : Cond.methodLink "ControlDeskLaw" 67 ⟨"ControlDeskLaw", "trap", "(LControlDesk;ZIJJ[J)I"⟩ ∈ xw_T := xw_in (List.mem_of_getElem? (i := 391) (by decide +kernel)) (by decide +kernel)
set_option maxRecDepth 20000 in
theorem mw_344 : Cond.static ⟨"ControlDeskLaw", "trap", "(LControlDesk;ZIJJ[J)I"⟩ ∈ xw_T := xw_in (List.mem_of_getElem? (i := 392) (by decide +kernel)) (by decide +kernel)
set_option maxRecDepth 20000 in
theorem mw_346 : Cond.instanceMethod ⟨"ControlDeskModel", "trap", "(ZIJJ)J"⟩ ∈ xw_T := xw_in (List.mem_of_getElem? (i := 568) (by decide +kernel)) (by decide +kernel)
set_option maxRecDepth 20000 in
theorem mw_347 : Cond.selects "ControlDeskModel" ⟨"ControlDeskModel", "trap", "(ZIJJ)J"⟩ ⟨"ControlDeskModel", "trap", "(ZIJJ)J"⟩ ∈ xw_T := xw_in (List.mem_of_getElem? (i := 569) (by decide +kernel)) (by decide +kernel)
set_option maxRecDepth 20000 in
theorem mw_348 : Cond.methodLink "ControlDeskLaw" 70 ⟨"ControlDeskModel", "trap", "(ZIJJ)J"⟩ ∈ xw_T := xw_in (List.mem_of_getElem? (i := 567) (by decide +kernel)) (by decide +kernel)
set_option maxRecDepth 20000 in
theorem mw_35 : Cond.constantLong "ControlDesk" 146 (2097152) ∈ xw_T := xw_in (List.mem_of_getElem? (i := 441) (by decide +kernel)) (by decide +kernel)
set_option maxRecDepth 20000 in
theorem mw_350 : Cond.instanceMethod ⟨"ControlDesk", "back", "(Z)Z"⟩ ∈ xw_T := xw_in (List.mem_of_getElem? (i := 177) (by decide +kernel)) (by decide +kernel)
set_option maxRecDepth 20000 in
theorem mw_351 : Cond.selects "ControlDesk" ⟨"ControlDesk", "back", "(Z)Z"⟩ ⟨"ControlDesk", "back", "(Z)Z"⟩ ∈ xw_T := xw_in (List.mem_of_getElem? (i := 178) (by decide +kernel)) (by decide +kernel)
set_option maxRecDepth 20000 in
theorem mw_352 : Cond.methodLink "ControlDeskLaw" 71 ⟨"ControlDesk", "back", "(Z)Z"⟩ ∈ xw_T := xw_in (List.mem_of_getElem? (i := 176) (by decide +kernel)) (by decide +kernel)
set_option maxRecDepth 20000 in
theorem mw_354 : Cond.instanceMethod ⟨"ControlDeskModel", "back", "(Z)Z"⟩ ∈ xw_T := xw_in (List.mem_of_getElem? (i := 577) (by decide +kernel)) (by decide +kernel)
set_option maxRecDepth 20000 in
theorem mw_355 : Cond.selects "ControlDeskModel" ⟨"ControlDeskModel", "back", "(Z)Z"⟩ ⟨"ControlDeskModel", "back", "(Z)Z"⟩ ∈ xw_T := xw_in (List.mem_of_getElem? (i := 578) (by decide +kernel)) (by decide +kernel)
set_option maxRecDepth 20000 in
theorem mw_356 : Cond.methodLink "ControlDeskLaw" 75 ⟨"ControlDeskModel", "back", "(Z)Z"⟩ ∈ xw_T := xw_in (List.mem_of_getElem? (i := 576) (by decide +kernel)) (by decide +kernel)
set_option maxRecDepth 20000 in
theorem mw_358 : Cond.instanceMethod ⟨"ControlDesk", "place", "()J"⟩ ∈ xw_T := xw_in (List.mem_of_getElem? (i := 206) (by decide +kernel)) (by decide +kernel)
set_option maxRecDepth 20000 in
theorem mw_359 : Cond.selects "ControlDesk" ⟨"ControlDesk", "place", "()J"⟩ ⟨"ControlDesk", "place", "()J"⟩ ∈ xw_T := xw_in (List.mem_of_getElem? (i := 207) (by decide +kernel)) (by decide +kernel)
set_option maxRecDepth 20000 in
theorem mw_36 : Cond.constantLong "ControlDeskModel" 27 (-1) ∈ xw_T := xw_in (List.mem_of_getElem? (i := 539) (by decide +kernel)) (by decide +kernel)
set_option maxRecDepth 20000 in
theorem mw_360 : Cond.methodLink "ControlDeskLaw" 76 ⟨"ControlDesk", "place", "()J"⟩ ∈ xw_T := xw_in (List.mem_of_getElem? (i := 205) (by decide +kernel)) (by decide +kernel)
set_option maxRecDepth 20000 in
theorem mw_362 : Cond.instanceMethod ⟨"ControlDeskModel", "place", "()J"⟩ ∈ xw_T := xw_in (List.mem_of_getElem? (i := 581) (by decide +kernel)) (by decide +kernel)
set_option maxRecDepth 20000 in
theorem mw_363 : Cond.selects "ControlDeskModel" ⟨"ControlDeskModel", "place", "()J"⟩ ⟨"ControlDeskModel", "place", "()J"⟩ ∈ xw_T := xw_in (List.mem_of_getElem? (i := 582) (by decide +kernel)) (by decide +kernel)
set_option maxRecDepth 20000 in
theorem mw_364 : Cond.methodLink "ControlDeskLaw" 79 ⟨"ControlDeskModel", "place", "()J"⟩ ∈ xw_T := xw_in (List.mem_of_getElem? (i := 580) (by decide +kernel)) (by decide +kernel)
set_option maxRecDepth 20000 in
theorem mw_366 : Cond.instanceMethod ⟨"ControlDesk", "taken", "()I"⟩ ∈ xw_T := xw_in (List.mem_of_getElem? (i := 210) (by decide +kernel)) (by decide +kernel)
set_option maxRecDepth 20000 in
theorem mw_367 : Cond.selects "ControlDesk" ⟨"ControlDesk", "taken", "()I"⟩ ⟨"ControlDesk", "taken", "()I"⟩ ∈ xw_T := xw_in (List.mem_of_getElem? (i := 211) (by decide +kernel)) (by decide +kernel)
set_option maxRecDepth 20000 in
theorem mw_368 : Cond.methodLink "ControlDeskLaw" 80 ⟨"ControlDesk", "taken", "()I"⟩ ∈ xw_T := xw_in (List.mem_of_getElem? (i := 209) (by decide +kernel)) (by decide +kernel)
set_option maxRecDepth 20000 in
theorem mw_37 : Cond.constantLong "ControlDeskModel" 55 (8589934592) ∈ xw_T := xw_in (List.mem_of_getElem? (i := 512) (by decide +kernel)) (by decide +kernel)
set_option maxRecDepth 20000 in
theorem mw_370 : Cond.instanceMethod ⟨"ControlDeskModel", "taken", "()I"⟩ ∈ xw_T := xw_in (List.mem_of_getElem? (i := 585) (by decide +kernel)) (by decide +kernel)
set_option maxRecDepth 20000 in
theorem mw_371 : Cond.selects "ControlDeskModel" ⟨"ControlDeskModel", "taken", "()I"⟩ ⟨"ControlDeskModel", "taken", "()I"⟩ ∈ xw_T := xw_in (List.mem_of_getElem? (i := 586) (by decide +kernel)) (by decide +kernel)
set_option maxRecDepth 20000 in
theorem mw_372 : Cond.methodLink "ControlDeskLaw" 83 ⟨"ControlDeskModel", "taken", "()I"⟩ ∈ xw_T := xw_in (List.mem_of_getElem? (i := 584) (by decide +kernel)) (by decide +kernel)
set_option maxRecDepth 20000 in
theorem mw_374 : Cond.instanceMethod ⟨"ControlDesk", "wakes", "()Z"⟩ ∈ xw_T := xw_in (List.mem_of_getElem? (i := 228) (by decide +kernel)) (by decide +kernel)
set_option maxRecDepth 20000 in
theorem mw_375 : Cond.selects "ControlDesk" ⟨"ControlDesk", "wakes", "()Z"⟩ ⟨"ControlDesk", "wakes", "()Z"⟩ ∈ xw_T := xw_in (List.mem_of_getElem? (i := 229) (by decide +kernel)) (by decide +kernel)
set_option maxRecDepth 20000 in
theorem mw_376 : Cond.methodLink "ControlDeskLaw" 84 ⟨"ControlDesk", "wakes", "()Z"⟩ ∈ xw_T := xw_in (List.mem_of_getElem? (i := 227) (by decide +kernel)) (by decide +kernel)
set_option maxRecDepth 20000 in
theorem mw_378 : Cond.instanceMethod ⟨"ControlDeskModel", "wakes", "()Z"⟩ ∈ xw_T := xw_in (List.mem_of_getElem? (i := 601) (by decide +kernel)) (by decide +kernel)
set_option maxRecDepth 20000 in
theorem mw_379 : Cond.selects "ControlDeskModel" ⟨"ControlDeskModel", "wakes", "()Z"⟩ ⟨"ControlDeskModel", "wakes", "()Z"⟩ ∈ xw_T := xw_in (List.mem_of_getElem? (i := 602) (by decide +kernel)) (by decide +kernel)
set_option maxRecDepth 20000 in
theorem mw_38 : Cond.constantLong "ControlDeskModel" 49 (42949672960) ∈ xw_T := xw_in (List.mem_of_getElem? (i := 508) (by decide +kernel)) (by decide +kernel)
set_option maxRecDepth 20000 in
theorem mw_380 : Cond.methodLink "ControlDeskLaw" 88 ⟨"ControlDeskModel", "wakes", "()Z"⟩ ∈ xw_T := xw_in (List.mem_of_getElem? (i := 600) (by decide +kernel)) (by decide +kernel)
set_option maxRecDepth 20000 in
theorem mw_381 : Cond.methodLink "ControlDeskLaw" 89 ⟨"ControlDeskLaw", "line", "(LControlDesk;IZ)I"⟩ ∈ xw_T := xw_in (List.mem_of_getElem? (i := 425) (by decide +kernel)) (by decide +kernel)
set_option maxRecDepth 20000 in
theorem mw_382 : Cond.static ⟨"ControlDeskLaw", "line", "(LControlDesk;IZ)I"⟩ ∈ xw_T := xw_in (List.mem_of_getElem? (i := 426) (by decide +kernel)) (by decide +kernel)
set_option maxRecDepth 20000 in
theorem mw_384 : Cond.instanceMethod ⟨"ControlDeskModel", "line", "(IZ)V"⟩ ∈ xw_T := xw_in (List.mem_of_getElem? (i := 605) (by decide +kernel)) (by decide +kernel)
set_option maxRecDepth 20000 in
theorem mw_385 : Cond.selects "ControlDeskModel" ⟨"ControlDeskModel", "line", "(IZ)V"⟩ ⟨"ControlDeskModel", "line", "(IZ)V"⟩ ∈ xw_T := xw_in (List.mem_of_getElem? (i := 606) (by decide +kernel)) (by decide +kernel)
set_option maxRecDepth 20000 in
theorem mw_386 : Cond.methodLink "ControlDeskLaw" 92 ⟨"ControlDeskModel", "line", "(IZ)V"⟩ ∈ xw_T := xw_in (List.mem_of_getElem? (i := 604) (by decide +kernel)) (by decide +kernel)
set_option maxRecDepth 20000 in
theorem mw_387 : Cond.methodLink "ControlDeskLaw" 93 ⟨"ControlDeskLaw", "allowed", "(LControlDesk;I[J)I"⟩ ∈ xw_T := xw_in (List.mem_of_getElem? (i := 433) (by decide +kernel)) (by decide +kernel)
set_option maxRecDepth 20000 in
theorem mw_388 : Cond.static ⟨"ControlDeskLaw", "allowed", "(LControlDesk;I[J)I"⟩ ∈ xw_T := xw_in (List.mem_of_getElem? (i := 434) (by decide +kernel)) (by decide +kernel)
set_option maxRecDepth 20000 in
theorem mw_39 : Cond.constantLong "ControlDeskModel" 57 (-9223372036853460691) ∈ xw_T := xw_in (List.mem_of_getElem? (i := 513) (by decide +kernel)) (by decide +kernel)
set_option maxRecDepth 20000 in
theorem mw_390 : Cond.instanceMethod ⟨"ControlDeskModel", "allowed", "(I)Z"⟩ ∈ xw_T := xw_in (List.mem_of_getElem? (i := 609) (by decide +kernel)) (by decide +kernel)
set_option maxRecDepth 20000 in
theorem mw_391 : Cond.selects "ControlDeskModel" ⟨"ControlDeskModel", "allowed", "(I)Z"⟩ ⟨"ControlDeskModel", "allowed", "(I)Z"⟩ ∈ xw_T := xw_in (List.mem_of_getElem? (i := 610) (by decide +kernel)) (by decide +kernel)
set_option maxRecDepth 20000 in
theorem mw_392 : Cond.methodLink "ControlDeskLaw" 96 ⟨"ControlDeskModel", "allowed", "(I)Z"⟩ ∈ xw_T := xw_in (List.mem_of_getElem? (i := 608) (by decide +kernel)) (by decide +kernel)
set_option maxRecDepth 20000 in
theorem mw_394 : Cond.instanceMethod ⟨"ControlDesk", "floats", "()Z"⟩ ∈ xw_T := xw_in (List.mem_of_getElem? (i := 232) (by decide +kernel)) (by decide +kernel)
set_option maxRecDepth 20000 in
theorem mw_395 : Cond.selects "ControlDesk" ⟨"ControlDesk", "floats", "()Z"⟩ ⟨"ControlDesk", "floats", "()Z"⟩ ∈ xw_T := xw_in (List.mem_of_getElem? (i := 233) (by decide +kernel)) (by decide +kernel)
set_option maxRecDepth 20000 in
theorem mw_396 : Cond.methodLink "ControlDeskLaw" 97 ⟨"ControlDesk", "floats", "()Z"⟩ ∈ xw_T := xw_in (List.mem_of_getElem? (i := 231) (by decide +kernel)) (by decide +kernel)
set_option maxRecDepth 20000 in
theorem mw_398 : Cond.instanceMethod ⟨"ControlDeskModel", "floats", "()Z"⟩ ∈ xw_T := xw_in (List.mem_of_getElem? (i := 613) (by decide +kernel)) (by decide +kernel)
set_option maxRecDepth 20000 in
theorem mw_399 : Cond.selects "ControlDeskModel" ⟨"ControlDeskModel", "floats", "()Z"⟩ ⟨"ControlDeskModel", "floats", "()Z"⟩ ∈ xw_T := xw_in (List.mem_of_getElem? (i := 614) (by decide +kernel)) (by decide +kernel)
set_option maxRecDepth 20000 in
theorem mw_4 : Cond.constantLong "ControlDesk" 176 (42949672960) ∈ xw_T := xw_in (List.mem_of_getElem? (i := 167) (by decide +kernel)) (by decide +kernel)
set_option maxRecDepth 20000 in
theorem mw_40 : Cond.constantLong "ControlDeskModel" 47 (-9223372036854775808) ∈ xw_T := xw_in (List.mem_of_getElem? (i := 507) (by decide +kernel)) (by decide +kernel)
set_option maxRecDepth 20000 in
theorem mw_400 : Cond.methodLink "ControlDeskLaw" 100 ⟨"ControlDeskModel", "floats", "()Z"⟩ ∈ xw_T := xw_in (List.mem_of_getElem? (i := 612) (by decide +kernel)) (by decide +kernel)
set_option maxRecDepth 20000 in
theorem mw_402 : Cond.instanceMethod ⟨"ControlDesk", "dirty", "()V"⟩ ∈ xw_T := xw_in (List.mem_of_getElem? (i := 236) (by decide +kernel)) (by decide +kernel)
set_option maxRecDepth 20000 in
theorem mw_403 : Cond.selects "ControlDesk" ⟨"ControlDesk", "dirty", "()V"⟩ ⟨"ControlDesk", "dirty", "()V"⟩ ∈ xw_T := xw_in (List.mem_of_getElem? (i := 237) (by decide +kernel)) (by decide +kernel)
set_option maxRecDepth 20000 in
theorem mw_404 : Cond.methodLink "ControlDeskLaw" 101 ⟨"ControlDesk", "dirty", "()V"⟩ ∈ xw_T := xw_in (List.mem_of_getElem? (i := 235) (by decide +kernel)) (by decide +kernel)
set_option maxRecDepth 20000 in
theorem mw_406 : Cond.instanceMethod ⟨"ControlDeskModel", "dirty", "()V"⟩ ∈ xw_T := xw_in (List.mem_of_getElem? (i := 617) (by decide +kernel)) (by decide +kernel)
set_option maxRecDepth 20000 in
theorem mw_407 : Cond.selects "ControlDeskModel" ⟨"ControlDeskModel", "dirty", "()V"⟩ ⟨"ControlDeskModel", "dirty", "()V"⟩ ∈ xw_T := xw_in (List.mem_of_getElem? (i := 618) (by decide +kernel)) (by decide +kernel)
set_option maxRecDepth 20000 in
theorem mw_408 : Cond.methodLink "ControlDeskLaw" 104 ⟨"ControlDeskModel", "dirty", "()V"⟩ ∈ xw_T := xw_in (List.mem_of_getElem? (i := 616) (by decide +kernel)) (by decide +kernel)
set_option maxRecDepth 20000 in
theorem mw_41 : Cond.constantLong "ControlDeskModel" 94 (-3) ∈ xw_T := xw_in (List.mem_of_getElem? (i := 557) (by decide +kernel)) (by decide +kernel)
set_option maxRecDepth 20000 in
theorem mw_410 : Cond.instanceMethod ⟨"ControlDesk", "count", "(JJ)V"⟩ ∈ xw_T := xw_in (List.mem_of_getElem? (i := 240) (by decide +kernel)) (by decide +kernel)
set_option maxRecDepth 20000 in
theorem mw_411 : Cond.selects "ControlDesk" ⟨"ControlDesk", "count", "(JJ)V"⟩ ⟨"ControlDesk", "count", "(JJ)V"⟩ ∈ xw_T := xw_in (List.mem_of_getElem? (i := 241) (by decide +kernel)) (by decide +kernel)
set_option maxRecDepth 20000 in
theorem mw_412 : Cond.methodLink "ControlDeskLaw" 105 ⟨"ControlDesk", "count", "(JJ)V"⟩ ∈ xw_T := xw_in (List.mem_of_getElem? (i := 239) (by decide +kernel)) (by decide +kernel)
set_option maxRecDepth 20000 in
theorem mw_414 : Cond.instanceMethod ⟨"ControlDeskModel", "count", "(JJ)V"⟩ ∈ xw_T := xw_in (List.mem_of_getElem? (i := 621) (by decide +kernel)) (by decide +kernel)
set_option maxRecDepth 20000 in
theorem mw_415 : Cond.selects "ControlDeskModel" ⟨"ControlDeskModel", "count", "(JJ)V"⟩ ⟨"ControlDeskModel", "count", "(JJ)V"⟩ ∈ xw_T := xw_in (List.mem_of_getElem? (i := 622) (by decide +kernel)) (by decide +kernel)
set_option maxRecDepth 20000 in
theorem mw_416 : Cond.methodLink "ControlDeskLaw" 109 ⟨"ControlDeskModel", "count", "(JJ)V"⟩ ∈ xw_T := xw_in (List.mem_of_getElem? (i := 620) (by decide +kernel)) (by decide +kernel)
set_option maxRecDepth 20000 in
theorem mw_418 : Cond.instanceMethod ⟨"ControlDesk", "time", "(J)V"⟩ ∈ xw_T := xw_in (List.mem_of_getElem? (i := 244) (by decide +kernel)) (by decide +kernel)
set_option maxRecDepth 20000 in
theorem mw_419 : Cond.selects "ControlDesk" ⟨"ControlDesk", "time", "(J)V"⟩ ⟨"ControlDesk", "time", "(J)V"⟩ ∈ xw_T := xw_in (List.mem_of_getElem? (i := 245) (by decide +kernel)) (by decide +kernel)
set_option maxRecDepth 20000 in
theorem mw_42 : Cond.constantLong "ControlDeskModel" 98 (7) ∈ xw_T := xw_in (List.mem_of_getElem? (i := 559) (by decide +kernel)) (by decide +kernel)
set_option maxRecDepth 20000 in
theorem mw_420 : Cond.methodLink "ControlDeskLaw" 110 ⟨"ControlDesk", "time", "(J)V"⟩ ∈ xw_T := xw_in (List.mem_of_getElem? (i := 243) (by decide +kernel)) (by decide +kernel)
set_option maxRecDepth 20000 in
theorem mw_422 : Cond.instanceMethod ⟨"ControlDeskModel", "time", "(J)V"⟩ ∈ xw_T := xw_in (List.mem_of_getElem? (i := 625) (by decide +kernel)) (by decide +kernel)
set_option maxRecDepth 20000 in
theorem mw_423 : Cond.selects "ControlDeskModel" ⟨"ControlDeskModel", "time", "(J)V"⟩ ⟨"ControlDeskModel", "time", "(J)V"⟩ ∈ xw_T := xw_in (List.mem_of_getElem? (i := 626) (by decide +kernel)) (by decide +kernel)
set_option maxRecDepth 20000 in
theorem mw_424 : Cond.methodLink "ControlDeskLaw" 114 ⟨"ControlDeskModel", "time", "(J)V"⟩ ∈ xw_T := xw_in (List.mem_of_getElem? (i := 624) (by decide +kernel)) (by decide +kernel)
set_option maxRecDepth 20000 in
theorem mw_426 : Cond.methodLink "ControlDeskLaw" 27 ⟨"ControlDeskLaw", "cell", "([II)I"⟩ ∈ xw_T := xw_in (List.mem_of_getElem? (i := 247) (by decide +kernel)) (by decide +kernel)
set_option maxRecDepth 20000 in
theorem mw_427 : Cond.static ⟨"ControlDeskLaw", "cell", "([II)I"⟩ ∈ xw_T := xw_in (List.mem_of_getElem? (i := 248) (by decide +kernel)) (by decide +kernel)
set_option maxRecDepth 20000 in
theorem mw_429 : Cond.methodLink "ControlDeskLaw" 33 ⟨"ControlDesk", "<init>", "(I)V"⟩ ∈ xw_T := xw_in (List.mem_of_getElem? (i := 49) (by decide +kernel)) (by decide +kernel)
set_option maxRecDepth 20000 in
theorem mw_43 : Cond.constantLong "ControlDeskModel" 96 (-2) ∈ xw_T := xw_in (List.mem_of_getElem? (i := 558) (by decide +kernel)) (by decide +kernel)
set_option maxRecDepth 20000 in
theorem mw_430 : Cond.instanceMethod ⟨"ControlDesk", "<init>", "(I)V"⟩ ∈ xw_T := xw_in (List.mem_of_getElem? (i := 50) (by decide +kernel)) (by decide +kernel)
set_option maxRecDepth 20000 in
theorem mw_432 : Cond.methodLink "ControlDeskLaw" 38 ⟨"ControlDeskModel", "<init>", "(I)V"⟩ ∈ xw_T := xw_in (List.mem_of_getElem? (i := 444) (by decide +kernel)) (by decide +kernel)
set_option maxRecDepth 20000 in
theorem mw_433 : Cond.instanceMethod ⟨"ControlDeskModel", "<init>", "(I)V"⟩ ∈ xw_T := xw_in (List.mem_of_getElem? (i := 445) (by decide +kernel)) (by decide +kernel)
set_option maxRecDepth 20000 in
theorem mw_434 : Cond.instantiable "ControlDesk" 16 ∈ xw_T := xw_in (List.mem_of_getElem? (i := 48) (by decide +kernel)) (by decide +kernel)
set_option maxRecDepth 20000 in
theorem mw_435 : Cond.instantiable "ControlDeskModel" 8 ∈ xw_T := xw_in (List.mem_of_getElem? (i := 443) (by decide +kernel)) (by decide +kernel)
set_option maxRecDepth 20000 in
theorem mw_436 : Cond.classLink "ControlDeskLaw" 8 "ControlDesk" ∈ xw_T := xw_in (List.mem_of_getElem? (i := 47) (by decide +kernel)) (by decide +kernel)
set_option maxRecDepth 20000 in
theorem mw_437 : Cond.classLink "ControlDeskLaw" 36 "ControlDeskModel" ∈ xw_T := xw_in (List.mem_of_getElem? (i := 442) (by decide +kernel)) (by decide +kernel)
set_option maxRecDepth 20000 in
theorem mw_44 : Cond.constantLong "ControlDeskModel" 92 (2) ∈ xw_T := xw_in (List.mem_of_getElem? (i := 556) (by decide +kernel)) (by decide +kernel)
set_option maxRecDepth 20000 in
theorem mw_45 : Cond.constantLong "ControlDeskModel" 100 (15) ∈ xw_T := xw_in (List.mem_of_getElem? (i := 560) (by decide +kernel)) (by decide +kernel)
set_option maxRecDepth 20000 in
theorem mw_46 : Cond.constantLong "ControlDeskModel" 102 (8) ∈ xw_T := xw_in (List.mem_of_getElem? (i := 561) (by decide +kernel)) (by decide +kernel)
set_option maxRecDepth 20000 in
theorem mw_47 : Cond.constantLong "ControlDeskModel" 104 (9) ∈ xw_T := xw_in (List.mem_of_getElem? (i := 562) (by decide +kernel)) (by decide +kernel)
set_option maxRecDepth 20000 in
theorem mw_48 : Cond.constantLong "ControlDeskModel" 86 (46079) ∈ xw_T := xw_in (List.mem_of_getElem? (i := 553) (by decide +kernel)) (by decide +kernel)
set_option maxRecDepth 20000 in
theorem mw_49 : Cond.constantLong "ControlDeskModel" 88 (546) ∈ xw_T := xw_in (List.mem_of_getElem? (i := 554) (by decide +kernel)) (by decide +kernel)
set_option maxRecDepth 20000 in
theorem mw_5 : Cond.constantLong "ControlDesk" 178 (-9223372036854775808) ∈ xw_T := xw_in (List.mem_of_getElem? (i := 169) (by decide +kernel)) (by decide +kernel)
set_option maxRecDepth 20000 in
theorem mw_50 : Cond.constantLong "ControlDeskModel" 90 (2730) ∈ xw_T := xw_in (List.mem_of_getElem? (i := 555) (by decide +kernel)) (by decide +kernel)
set_option maxRecDepth 20000 in
theorem mw_51 : Cond.constantLong "ControlDeskModel" 113 (-513) ∈ xw_T := xw_in (List.mem_of_getElem? (i := 540) (by decide +kernel)) (by decide +kernel)
set_option maxRecDepth 20000 in
theorem mw_52 : Cond.constantLong "ControlDeskModel" 119 (-4) ∈ xw_T := xw_in (List.mem_of_getElem? (i := 574) (by decide +kernel)) (by decide +kernel)
set_option maxRecDepth 20000 in
theorem mw_53 : Cond.constantLong "ControlDeskModel" 121 (4) ∈ xw_T := xw_in (List.mem_of_getElem? (i := 575) (by decide +kernel)) (by decide +kernel)
set_option maxRecDepth 20000 in
theorem mw_54 : Cond.fieldLink "ControlDesk$Bank" 11 "ControlDesk$Bank" "vectors" "J" ∈ xw_T := xw_in (List.mem_of_getElem? (i := 61) (by decide +kernel)) (by decide +kernel)
set_option maxRecDepth 20000 in
theorem mw_55 : Cond.fieldLink "ControlDeskModel" 110 "ControlDeskModel" "had" "J" ∈ xw_T := xw_in (List.mem_of_getElem? (i := 454) (by decide +kernel)) (by decide +kernel)
set_option maxRecDepth 20000 in
theorem mw_56 : Cond.fieldLink "ControlDeskModel" 13 "ControlDeskModel" "held" "[J" ∈ xw_T := xw_in (List.mem_of_getElem? (i := 451) (by decide +kernel)) (by decide +kernel)
set_option maxRecDepth 20000 in
theorem mw_57 : Cond.fieldLink "ControlDeskModel" 17 "ControlDeskModel" "lines" "[Z" ∈ xw_T := xw_in (List.mem_of_getElem? (i := 452) (by decide +kernel)) (by decide +kernel)
set_option maxRecDepth 20000 in
theorem mw_58 : Cond.fieldLink "ControlDeskModel" 7 "ControlDeskModel" "mode" "I" ∈ xw_T := xw_in (List.mem_of_getElem? (i := 450) (by decide +kernel)) (by decide +kernel)
set_option maxRecDepth 20000 in
theorem mw_59 : Cond.fieldLink "ControlDeskModel" 127 "ControlDeskModel" "place" "J" ∈ xw_T := xw_in (List.mem_of_getElem? (i := 455) (by decide +kernel)) (by decide +kernel)
set_option maxRecDepth 20000 in
theorem mw_6 : Cond.constantLong "ControlDesk" 186 (-9223372028264029918) ∈ xw_T := xw_in (List.mem_of_getElem? (i := 170) (by decide +kernel)) (by decide +kernel)
set_option maxRecDepth 20000 in
theorem mw_60 : Cond.fieldLink "ControlDeskModel" 21 "ControlDeskModel" "processor" "I" ∈ xw_T := xw_in (List.mem_of_getElem? (i := 449) (by decide +kernel)) (by decide +kernel)
set_option maxRecDepth 20000 in
theorem mw_61 : Cond.fieldLink "ControlDeskModel" 24 "ControlDeskModel" "thrown" "I" ∈ xw_T := xw_in (List.mem_of_getElem? (i := 448) (by decide +kernel)) (by decide +kernel)
set_option maxRecDepth 20000 in
theorem mw_62 : Cond.fieldLink "ControlDeskModel" 63 "ControlDeskModel" "time" "J" ∈ xw_T := xw_in (List.mem_of_getElem? (i := 453) (by decide +kernel)) (by decide +kernel)
set_option maxRecDepth 20000 in
theorem mw_63 : Cond.fieldLink "ControlDesk" 159 "ControlDesk" "clock" "J" ∈ xw_T := xw_in (List.mem_of_getElem? (i := 97) (by decide +kernel)) (by decide +kernel)
set_option maxRecDepth 20000 in
theorem mw_64 : Cond.fieldLink "ControlDesk" 19 "ControlDesk" "currentMode" "I" ∈ xw_T := xw_in (List.mem_of_getElem? (i := 87) (by decide +kernel)) (by decide +kernel)
set_option maxRecDepth 20000 in
theorem mw_65 : Cond.fieldLink "ControlDesk" 153 "ControlDesk" "cycleCount" "J" ∈ xw_T := xw_in (List.mem_of_getElem? (i := 95) (by decide +kernel)) (by decide +kernel)
set_option maxRecDepth 20000 in
theorem mw_66 : Cond.fieldLink "ControlDesk" 190 "ControlDesk" "delegatedExceptions" "J" ∈ xw_T := xw_in (List.mem_of_getElem? (i := 89) (by decide +kernel)) (by decide +kernel)
set_option maxRecDepth 20000 in
theorem mw_67 : Cond.fieldLink "ControlDesk" 127 "ControlDesk" "delegatedInterrupts" "J" ∈ xw_T := xw_in (List.mem_of_getElem? (i := 90) (by decide +kernel)) (by decide +kernel)
set_option maxRecDepth 20000 in
theorem mw_68 : Cond.fieldLink "ControlDesk" 120 "ControlDesk" "enabled" "J" ∈ xw_T := xw_in (List.mem_of_getElem? (i := 91) (by decide +kernel)) (by decide +kernel)
set_option maxRecDepth 20000 in
theorem mw_69 : Cond.fieldLink "ControlDesk" 156 "ControlDesk" "instructionCount" "J" ∈ xw_T := xw_in (List.mem_of_getElem? (i := 96) (by decide +kernel)) (by decide +kernel)
set_option maxRecDepth 20000 in
theorem mw_7 : Cond.constantLong "ControlDesk" 188 (-9223372036853460691) ∈ xw_T := xw_in (List.mem_of_getElem? (i := 171) (by decide +kernel)) (by decide +kernel)
set_option maxRecDepth 20000 in
theorem mw_70 : Cond.fieldLink "ControlDesk" 78 "ControlDesk" "lastHad" "J" ∈ xw_T := xw_in (List.mem_of_getElem? (i := 98) (by decide +kernel)) (by decide +kernel)
set_option maxRecDepth 20000 in
theorem mw_71 : Cond.fieldLink "ControlDesk" 101 "ControlDesk" "lastPlace" "J" ∈ xw_T := xw_in (List.mem_of_getElem? (i := 99) (by decide +kernel)) (by decide +kernel)
set_option maxRecDepth 20000 in
theorem mw_72 : Cond.fieldLink "ControlDesk" 141 "ControlDesk" "lines" "J" ∈ xw_T := xw_in (List.mem_of_getElem? (i := 93) (by decide +kernel)) (by decide +kernel)
set_option maxRecDepth 20000 in
theorem mw_73 : Cond.fieldLink "ControlDesk" 12 "ControlDesk" "machineBank" "LControlDesk$Bank;" ∈ xw_T := xw_in (List.mem_of_getElem? (i := 84) (by decide +kernel)) (by decide +kernel)
set_option maxRecDepth 20000 in
theorem mw_74 : Cond.fieldLink "ControlDesk" 180 "ControlDesk" "pendingWritten" "J" ∈ xw_T := xw_in (List.mem_of_getElem? (i := 92) (by decide +kernel)) (by decide +kernel)
set_option maxRecDepth 20000 in
theorem mw_75 : Cond.fieldLink "ControlDesk" 23 "ControlDesk" "processor" "J" ∈ xw_T := xw_in (List.mem_of_getElem? (i := 86) (by decide +kernel)) (by decide +kernel)
set_option maxRecDepth 20000 in
theorem mw_76 : Cond.fieldLink "ControlDesk" 57 "ControlDesk" "status" "J" ∈ xw_T := xw_in (List.mem_of_getElem? (i := 88) (by decide +kernel)) (by decide +kernel)
set_option maxRecDepth 20000 in
theorem mw_77 : Cond.fieldLink "ControlDesk" 16 "ControlDesk" "supervisorBank" "LControlDesk$Bank;" ∈ xw_T := xw_in (List.mem_of_getElem? (i := 85) (by decide +kernel)) (by decide +kernel)
set_option maxRecDepth 20000 in
theorem mw_78 : Cond.fieldLink "ControlDesk" 208 "ControlDesk" "table" "J" ∈ xw_T := xw_in (List.mem_of_getElem? (i := 94) (by decide +kernel)) (by decide +kernel)
set_option maxRecDepth 20000 in
theorem mw_79 : Cond.fieldLink "ControlDesk$Bank" 28 "ControlDesk$Bank" "cause" "J" ∈ xw_T := xw_in (List.mem_of_getElem? (i := 67) (by decide +kernel)) (by decide +kernel)
set_option maxRecDepth 20000 in
theorem mw_8 : Cond.constantLong "ControlDesk" 130 (-1) ∈ xw_T := xw_in (List.mem_of_getElem? (i := 217) (by decide +kernel)) (by decide +kernel)
set_option maxRecDepth 20000 in
theorem mw_80 : Cond.fieldLink "ControlDesk$Bank" 19 "ControlDesk$Bank" "resume" "J" ∈ xw_T := xw_in (List.mem_of_getElem? (i := 65) (by decide +kernel)) (by decide +kernel)
set_option maxRecDepth 20000 in
theorem mw_81 : Cond.fieldLink "ControlDesk$Bank" 31 "ControlDesk$Bank" "value" "J" ∈ xw_T := xw_in (List.mem_of_getElem? (i := 69) (by decide +kernel)) (by decide +kernel)
set_option maxRecDepth 20000 in
theorem mw_83 : Cond.initialized "ControlDesk$Bank" ∈ xw_T := xw_in (List.mem_of_getElem? (i := 41) (by decide +kernel)) (by decide +kernel)
set_option maxRecDepth 20000 in
theorem mw_84 : Cond.instanceMethod ⟨"ControlDesk$Bank", "keepResume", "(J)V"⟩ ∈ xw_T := xw_in (List.mem_of_getElem? (i := 383) (by decide +kernel)) (by decide +kernel)
set_option maxRecDepth 20000 in
theorem mw_85 : Cond.selects "ControlDesk$Bank" ⟨"ControlDesk$Bank", "keepResume", "(J)V"⟩ ⟨"ControlDesk$Bank", "keepResume", "(J)V"⟩ ∈ xw_T := xw_in (List.mem_of_getElem? (i := 19) (by decide +kernel)) (by decide +kernel)
set_option maxRecDepth 20000 in
theorem mw_86 : Cond.methodLink "ControlDesk$Bank" 22 ⟨"ControlDesk$Bank", "keepResume", "(J)V"⟩ ∈ xw_T := xw_in (List.mem_of_getElem? (i := 417) (by decide +kernel)) (by decide +kernel)
set_option maxRecDepth 20000 in
theorem mw_88 : Cond.initialized "ControlDeskModel" ∈ xw_T := xw_in (List.mem_of_getElem? (i := 42) (by decide +kernel)) (by decide +kernel)
set_option maxRecDepth 20000 in
theorem mw_89 : Cond.instanceMethod ⟨"ControlDeskModel", "isIllegal", "(IZ)Z"⟩ ∈ xw_T := xw_in (List.mem_of_getElem? (i := 533) (by decide +kernel)) (by decide +kernel)
set_option maxRecDepth 20000 in
theorem mw_9 : Cond.constantLong "ControlDesk" 211 (512) ∈ xw_T := xw_in (List.mem_of_getElem? (i := 350) (by decide +kernel)) (by decide +kernel)
set_option maxRecDepth 20000 in
theorem mw_90 : Cond.selects "ControlDeskModel" ⟨"ControlDeskModel", "isIllegal", "(IZ)Z"⟩ ⟨"ControlDeskModel", "isIllegal", "(IZ)Z"⟩ ∈ xw_T := xw_in (List.mem_of_getElem? (i := 31) (by decide +kernel)) (by decide +kernel)
set_option maxRecDepth 20000 in
theorem mw_91 : Cond.methodLink "ControlDeskModel" 106 ⟨"ControlDeskModel", "isIllegal", "(IZ)Z"⟩ ∈ xw_T := xw_in (List.mem_of_getElem? (i := 531) (by decide +kernel)) (by decide +kernel)
set_option maxRecDepth 20000 in
theorem mw_93 : Cond.instanceMethod ⟨"ControlDeskModel", "write", "(IJ)V"⟩ ∈ xw_T := xw_in (List.mem_of_getElem? (i := 543) (by decide +kernel)) (by decide +kernel)
set_option maxRecDepth 20000 in
theorem mw_94 : Cond.selects "ControlDeskModel" ⟨"ControlDeskModel", "write", "(IJ)V"⟩ ⟨"ControlDeskModel", "write", "(IJ)V"⟩ ∈ xw_T := xw_in (List.mem_of_getElem? (i := 33) (by decide +kernel)) (by decide +kernel)
set_option maxRecDepth 20000 in
theorem mw_95 : Cond.methodLink "ControlDeskModel" 115 ⟨"ControlDeskModel", "write", "(IJ)V"⟩ ∈ xw_T := xw_in (List.mem_of_getElem? (i := 541) (by decide +kernel)) (by decide +kernel)
set_option maxRecDepth 20000 in
theorem mw_97 : Cond.methodLink "ControlDeskModel" 123 ⟨"ControlDeskModel", "beginning", "(JZI)J"⟩ ∈ xw_T := xw_in (List.mem_of_getElem? (i := 571) (by decide +kernel)) (by decide +kernel)
set_option maxRecDepth 20000 in
theorem mw_98 : Cond.static ⟨"ControlDeskModel", "beginning", "(JZI)J"⟩ ∈ xw_T := xw_in (List.mem_of_getElem? (i := 572) (by decide +kernel)) (by decide +kernel)
set_option maxRecDepth 20000 in
theorem mo_c : Cond.code Lib.objectInit ⟨#[0xb1]⟩ 1 none ∈ xw_T := xw_in (List.mem_of_getElem? (i := 54) rfl) rfl
