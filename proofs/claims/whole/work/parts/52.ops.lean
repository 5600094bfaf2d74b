-- PART: THE CALLS KEEP THE RELATION
theorem pl_mode {u : cs_St} {w : ms_St} (hR : rr_R u w) : f_X_mode u = (f_M_mode w).1 ∧ rr_R u (f_M_mode w).2 := ⟨hR.1.1, rr_thr 0 hR⟩
theorem pl_dataMode {u : cs_St} {w : ms_St} (hR : rr_R u w) : f_X_dataMode u = (f_M_dataMode w).1 ∧ rr_R u (f_M_dataMode w).2 := by
  refine ⟨?_, ?_⟩
  · unfold f_X_dataMode f_M_dataMode
    dsimp only
    rw [hs_17, st_17, ← hR.2.1.2.1, pmm_eq, bel_eq]
    cases h : bq (u.2 1) 17
    · show u.1 = _
      exact hR.1.1
    · show mpp (u.2 1) = mpp _
      exact congrArg mpp hR.2.1.2.1
  · unfold f_M_dataMode
    dsimp only
    split <;> exact rr_thr 0 hR
theorem pl_had {u : cs_St} {w : ms_St} (hR : rr_R u w) : f_X_had u = (f_M_had w).1 ∧ rr_R u (f_M_had w).2 := ⟨hR.2.2.1.2.1, rr_thr 0 hR⟩
theorem pl_place {u : cs_St} {w : ms_St} (hR : rr_R u w) : f_X_place u = (f_M_place w).1 ∧ rr_R u (f_M_place w).2 := ⟨hR.2.2.1.2.2, rr_thr 0 hR⟩
theorem pl_taken {u : cs_St} {w : ms_St} (hR : rr_R u w) : f_X_taken u = (f_M_taken w).1 ∧ rr_R u (f_M_taken w).2 := sorry
theorem pl_floats {u : cs_St} {w : ms_St} (hR : rr_R u w) : f_X_floats u = (f_M_floats w).1 ∧ rr_R u (f_M_floats w).2 := by
  refine ⟨?_, ?_⟩
  · unfold f_X_floats f_M_floats
    dsimp only
    rw [hs_fs, flo_eq, ← hR.2.1.2.1]
    cases bq (u.2 1) 13 <;> cases bq (u.2 1) 14 <;> rfl
  · unfold f_M_floats
    dsimp only
    split <;> exact rr_thr 0 hR
theorem pl_peek {u : cs_St} {w : ms_St} (n : Int32) (hR : rr_R u w) : f_X_peek u n = (f_M_peek w n).1 ∧ rr_R u (f_M_peek w n).2 := sorry
theorem pl_back {u : cs_St} {w : ms_St} (n : Int32) (hR : rr_R u w) : (f_X_back u n).1 = (f_M_back w n).1 ∧ rr_R (f_X_back u n).2 (f_M_back w n).2 := sorry
theorem pl_time {u : cs_St} {w : ms_St} (a : Int64) (hR : rr_R u w) : rr_R (f_X_time u a) (f_M_time w a) := ⟨hR.1, hR.2.1, ⟨rfl, hR.2.2.1.2.1, hR.2.2.1.2.2⟩, hR.2.2.2.1, hR.2.2.2.2.1, hR.2.2.2.2.2.1, hR.2.2.2.2.2.2.1, hR.2.2.2.2.2.2.2.1, hR.2.2.2.2.2.2.2.2⟩
theorem pl_access {u : cs_St} {w : ms_St} (n op wr : Int32) (v : Int64) (g1 : ¬ n < 0) (g2 : n ≤ 4095) (g3 : ¬ op < 1) (g4 : op ≤ 3) (hR : rr_R u w) : f_M_thrown (f_M_access w n op wr v).2 = 0 ∧ (f_X_access u n op wr v).1.toInt64 = (f_M_access w n op wr v).1.toInt64 ∧ rr_R (f_X_access u n op wr v).2 (f_M_access w n op wr v).2 := sorry
theorem pl_trap {u : cs_St} {w : ms_St} (i k : Int32) (a b : Int64) (g1 : ¬ k < 0) (g2 : k ≤ 63) (hR : rr_R u w) : f_M_thrown (f_M_trap w i k a b).2 = 0 ∧ (f_X_trap u i k a b).1 = (f_M_trap w i k a b).1 ∧ rr_R (f_X_trap u i k a b).2 (f_M_trap w i k a b).2 := sorry
