-- PART: THE CALLS KEEP THE RELATION
theorem pl_mode {u : cs_St} {w : ms_St} (hR : rr_R u w) : f_X_mode u = (f_M_mode w).1 ∧ rr_R u (f_M_mode w).2 := ⟨hR.1.1, rr_thr 0 hR⟩
theorem pl_dataMode {u : cs_St} {w : ms_St} (hR : rr_R u w) : f_X_dataMode u = (f_M_dataMode w).1 ∧ rr_R u (f_M_dataMode w).2 := by
  refine ⟨?_, ?_⟩
  · unfold f_X_dataMode f_M_dataMode
    dsimp only
    rw [hs_17, st_17, ← hR.2.1.2.1, pmm_eq, bel_eq]
    cases h : bq (u.2 1) 17
    · show u.1 = _
      exact hR.1.1
    · show mpp (u.2 1) = mpp _
      exact congrArg mpp hR.2.1.2.1
  · unfold f_M_dataMode
    dsimp only
    split <;> exact rr_thr 0 hR
theorem pl_had {u : cs_St} {w : ms_St} (hR : rr_R u w) : f_X_had u = (f_M_had w).1 ∧ rr_R u (f_M_had w).2 := ⟨hR.2.2.1.2.1, rr_thr 0 hR⟩
theorem pl_place {u : cs_St} {w : ms_St} (hR : rr_R u w) : f_X_place u = (f_M_place w).1 ∧ rr_R u (f_M_place w).2 := ⟨hR.2.2.1.2.2, rr_thr 0 hR⟩
theorem pl_floats {u : cs_St} {w : ms_St} (hR : rr_R u w) : f_X_floats u = (f_M_floats w).1 ∧ rr_R u (f_M_floats w).2 := by
  refine ⟨?_, ?_⟩
  · unfold f_X_floats f_M_floats
    dsimp only
    rw [hs_fs, flo_eq, ← hR.2.1.2.1]
    cases bq (u.2 1) 13 <;> cases bq (u.2 1) 14 <;> rfl
  · unfold f_M_floats
    dsimp only
    split <;> exact rr_thr 0 hR
theorem pl_time {u : cs_St} {w : ms_St} (a : Int64) (hR : rr_R u w) : rr_R (f_X_time u a) (f_M_time w a) := ⟨hR.1, hR.2.1, ⟨rfl, hR.2.2.1.2.1, hR.2.2.1.2.2⟩, hR.2.2.2.1, hR.2.2.2.2.1, hR.2.2.2.2.2.1, hR.2.2.2.2.2.2.1, hR.2.2.2.2.2.2.2.1, hR.2.2.2.2.2.2.2.2⟩
