-- PART: the small calls
theorem px_access {u : cs_St} {w : ms_St} (n op wr : Int32) (v : Int64) (hg : n < 0 ∨ ¬ n ≤ 4095 ∨ op < 1 ∨ ¬ op ≤ 3) (hR : rr_R u w) : f_M_thrown (f_M_access w n op wr v).2 = 1 ∧ rr_R u (f_M_access w n op wr v).2 := by
  have key : f_M_access w n op wr v = (0, (upd w.1 0 1, w.2)) := by
    unfold f_M_access
    dsimp only
    by_cases h1 : n < 0
    · rw [if_pos h1]
    · rw [if_neg h1]
      by_cases h2 : 4095 < n
      · rw [if_pos h2]
      · rw [if_neg h2]
        by_cases h3 : op < 1
        · rw [if_pos h3]
        · rw [if_neg h3]
          by_cases h4 : op ≤ 3
          · rcases hg with h | h | h | h
            · exact absurd h h1
            · exact absurd (Int32.not_lt.mp h2) h
            · exact absurd h h3
            · exact absurd h4 h
          · rw [if_neg h4]
  rw [key]
  exact ⟨rfl, rr_thr 1 hR⟩
theorem px_trap {u : cs_St} {w : ms_St} (i k : Int32) (a b : Int64) (hg : k < 0 ∨ ¬ k ≤ 63) (hR : rr_R u w) : f_M_thrown (f_M_trap w i k a b).2 = 1 ∧ rr_R u (f_M_trap w i k a b).2 := by
  have key : f_M_trap w i k a b = (0, (upd w.1 0 1, w.2)) := by
    unfold f_M_trap
    dsimp only
    by_cases h1 : k < 0
    · rw [if_pos h1]
    · rw [if_neg h1, if_neg (hg.resolve_left h1)]
  rw [key]
  exact ⟨rfl, rr_thr 1 hR⟩
theorem px_line {u : cs_St} {w : ms_St} (k on : Int32) (hg : ¬ k = 3 ∧ ¬ k = 7 ∧ ¬ k = 9 ∧ ¬ k = 11) (ho : on = 0 ∨ on = 1) (hR : rr_R u w) : f_M_thrown (f_M_line w k on) = 1 ∧ rr_R u (f_M_line w k on) := by
  have key : f_M_line w k on = (upd w.1 0 1, w.2) := by
    unfold f_M_line
    dsimp only
    rw [if_neg hg.1, if_neg hg.2.1, if_neg hg.2.2.1, if_neg hg.2.2.2]
  rw [key]
  exact ⟨rfl, rr_thr 1 hR⟩
theorem px_allowed {u : cs_St} {w : ms_St} (k : Int32) (hg : ¬ k = 0 ∧ ¬ k = 1) (hR : rr_R u w) : f_M_thrown (f_M_allowed w k).2 = 1 ∧ rr_R u (f_M_allowed w k).2 := by
  have key : f_M_allowed w k = (0, (upd w.1 0 1, w.2)) := by
    unfold f_M_allowed
    rw [if_neg hg.1, if_neg hg.2]
    rfl
  rw [key]
  exact ⟨rfl, rr_thr 1 hR⟩
theorem pl_count {u : cs_St} {w : ms_St} (a b : Int64) (hR : rr_R u w) : rr_R (f_X_count u a b) (f_M_count w a b) := by
  unfold f_X_count f_M_count
  dsimp only
  rw [cl_2816, cl_2818]
  have e8 : u.2 8 + a = w.2.1 2816 + a := by rw [hR.2.1.2.2.2.2.2.2.2.1]
  have e9 : u.2 9 + b = w.2.1 2818 + b := by rw [hR.2.1.2.2.2.2.2.2.2.2]
  exact rs_9 (rs_8 (rr_thr 0 hR) e8) e9
theorem pl_init (n : Int32) : rr_R (cx_i n) (cm_i n) := by
  refine ⟨⟨rfl, Or.inr (Or.inr rfl)⟩, ⟨?_, rfl, rfl, rfl, rfl, rfl, rfl, rfl, rfl⟩, ⟨rfl, rfl, rfl⟩, ⟨rfl, rfl, rfl, rfl, rfl, rfl⟩, ⟨rfl, rfl, rfl, rfl, rfl, rfl⟩, ⟨rfl, rfl, rfl, rfl⟩, ?_, ⟨wi_0 _, ?_⟩, ⟨wi_0 _, wi_0 _, wi_0 _, wi_0 _, wi_0 _, wi_0 _, wi_0 _, wi_0 _, wi_0 _, wi_0 _⟩⟩
  · show (if n < 0 then (0 : Int64) else if 3 < n then 0 else n.toInt64) = (if n < 0 then (0 : Int32) else if 4 ≤ n then 0 else n).toInt64
    by_cases h1 : n < 0
    · rw [if_pos h1, if_pos h1]; rfl
    · rw [if_neg h1, if_neg h1]
      by_cases h2 : 3 < n
      · have h3 : 4 ≤ n := by
          rw [Int32.le_iff_toInt_le]
          rw [Int32.lt_iff_toInt_lt] at h2
          have e0 : (3 : Int32).toInt = 3 := by decide
          have e1 : (4 : Int32).toInt = 4 := by decide
          omega
        rw [if_pos h2, if_pos h3]; rfl
      · have h3 : ¬ 4 ≤ n := by
          rw [Int32.le_iff_toInt_le]
          rw [Int32.lt_iff_toInt_lt] at h2
          have e0 : (3 : Int32).toInt = 3 := by decide
          have e1 : (4 : Int32).toInt = 4 := by decide
          omega
        rw [if_neg h2, if_neg h3]
  · show (0 : Int64) = lb (fun _ => 0)
    decide +kernel
  · show ¬ (bq 0 12 = true ∧ bq 0 11 = false)
    decide
theorem fs_b (b : Bool) : vp_nar .boolean (ib b) = ib b := by cases b <;> decide
theorem li_c (u : cs_St) (j : Nat) (hj : j = 3 ∨ j = 7 ∨ j = 9 ∨ j = 11) (b : Bool) : f_X_line u (nI j) (ib b) = (u.1, vp_updL u.2 6 (if b then u.2 6 ||| ((1 : Int64) <<< ((nI j).toInt64 &&& 63)) else u.2 6 &&& (((1 : Int64) <<< ((nI j).toInt64 &&& 63)) ^^^ (-1)))) := by
  rcases hj with e | e | e | e <;> subst e <;> cases b <;> rfl
theorem li_m (w : ms_St) (j : Nat) (hj : j = 3 ∨ j = 7 ∨ j = 9 ∨ j = 11) (b : Bool) : f_M_line w (nI j) (ib b) = (upd w.1 0 0, w.2.1, upd w.2.2.1 j (ib b), w.2.2.2) := by
  rw [show upd w.2.2.1 j (ib b) = upd w.2.2.1 j (vp_nar .boolean (ib b)) by rw [fs_b]]
  rcases hj with e | e | e | e <;> subst e <;> rfl
theorem li_b (g : Nat → Int32) (j : Nat) (hj : 3 ≤ j ∧ j ≤ 11) (b : Bool) (x : Int64) (hx : x = lb g) : (if b then x ||| ((1 : Int64) <<< ((nI j).toInt64 &&& 63)) else x &&& (((1 : Int64) <<< ((nI j).toInt64 &&& 63)) ^^^ (-1))) = lb (upd g j (ib b)) := by
  subst hx
  refine bq_ext (fun i hi => ?_)
  rw [lb_bit _ hi]
  have hs : bq ((1 : Int64) <<< ((nI j).toInt64 &&& 63)) i = decide (i = j) := by
    rw [bq_shl j (by omega) _ hi, bq_1 (i - j) (by omega)]
    by_cases e : i = j
    · subst e; simp
    · have : j ≤ i → ¬ i - j = 0 := by omega
      simpa [e] using this
  by_cases e : i = j
  · have hu : upd g j (ib b) i = ib b := by subst e; unfold upd; simp
    rw [hu]
    cases b
    · show bq (_ &&& _) i = _
      rw [bq_and, bq_not _ hi, hs]; simp [e, ib]
    · show bq (_ ||| _) i = _
      rw [bq_or, hs]; subst e; simp [ib, hj]
  · have hu : upd g j (ib b) i = g i := by unfold upd; simp [e]
    rw [hu]
    cases b
    · show bq (_ &&& _) i = _
      rw [bq_and, bq_not _ hi, hs, lb_bit _ hi]; simp [e]
    · show bq (_ ||| _) i = _
      rw [bq_or, hs, lb_bit _ hi]; simp [e]
theorem li_r {u : cs_St} {w : ms_St} (j : Nat) (hj : j = 3 ∨ j = 7 ∨ j = 9 ∨ j = 11) (b : Bool) (hR : rr_R u w) : f_M_thrown (f_M_line w (nI j) (ib b)) = 0 ∧ rr_R (f_X_line u (nI j) (ib b)) (f_M_line w (nI j) (ib b)) := by
  rw [li_c u j hj b, li_m w j hj b]
  have h6 := li_b w.2.2.1 j (by omega) b (u.2 6) hR.2.2.2.2.2.2.1
  exact ⟨rfl, ⟨hR.1, hR.2.1, hR.2.2.1, hR.2.2.2.1, hR.2.2.2.2.1, hR.2.2.2.2.2.1, h6, hR.2.2.2.2.2.2.2.1, hR.2.2.2.2.2.2.2.2⟩⟩
theorem pl_line {u : cs_St} {w : ms_St} (k on : Int32) (hg : k = 3 ∨ k = 7 ∨ k = 9 ∨ k = 11) (ho : on = 0 ∨ on = 1) (hR : rr_R u w) : f_M_thrown (f_M_line w k on) = 0 ∧ rr_R (f_X_line u k on) (f_M_line w k on) := by
  have hb : ∃ b, on = ib b := by
    rcases ho with e | e
    · exact ⟨false, e⟩
    · exact ⟨true, e⟩
  have hj : ∃ j, k = nI j ∧ (j = 3 ∨ j = 7 ∨ j = 9 ∨ j = 11) := by
    rcases hg with e | e | e | e
    · exact ⟨3, e, by decide⟩
    · exact ⟨7, e, by decide⟩
    · exact ⟨9, e, by decide⟩
    · exact ⟨11, e, by decide⟩
  obtain ⟨b, rfl⟩ := hb
  obtain ⟨j, rfl, hj⟩ := hj
  exact li_r j hj b hR
theorem pl_allowed {u : cs_St} {w : ms_St} (k : Int32) (hg : k = 0 ∨ k = 1) (hR : rr_R u w) : f_M_thrown (f_M_allowed w k).2 = 0 ∧ f_X_allowed u k = (f_M_allowed w k).1 ∧ rr_R u (f_M_allowed w k).2 := by
  have key : f_M_allowed w k = ((f_M_allowed w k).1, (upd w.1 0 0, w.2)) := by
    rcases hg with e | e <;> subst e
    · show f_M_allowed_15 w 0 0 = ((f_M_allowed_15 w 0 0).1, _)
      unfold f_M_allowed_15 f_M_allowed_53
      dsimp only
      rw [if_pos (show upd w.1 0 0 0 = 0 from rfl), if_pos (show (0 : Int32) = 0 from rfl)]
      split
      · rfl
      · split
        · split <;> rfl
        · rfl
    · show f_M_allowed_15 w 1 0 = ((f_M_allowed_15 w 1 0).1, _)
      unfold f_M_allowed_15 f_M_allowed_53
      dsimp only
      rw [if_pos (show upd w.1 0 0 0 = 0 from rfl), if_neg (show ¬ (1 : Int32) = 0 from by decide)]
      split
      · rfl
      · split
        · split <;> rfl
        · rfl
  have e2 : f_X_allowed u k = (f_M_allowed w k).1 := by
    rcases hg with e | e <;> subst e
    · show f_X_machineOrSupervisorWithout u 2097152 = (f_M_allowed_15 w 0 0).1
      unfold f_M_allowed_15 f_M_allowed_53 f_X_machineOrSupervisorWithout
      dsimp only
      rw [if_pos (show upd w.1 0 0 0 = 0 from rfl), if_pos (show (0 : Int32) = 0 from rfl), hs_21, st_21]
      simp only [show upd w.1 0 0 2 = u.1 from hR.1.1.symm, show w.2.1 768 = u.2 1 from hR.2.1.2.1.symm]
      cases bq (u.2 1) 21 <;> (split; rfl; split <;> rfl)
    · show f_X_machineOrSupervisorWithout u 1048576 = (f_M_allowed_15 w 1 0).1
      unfold f_M_allowed_15 f_M_allowed_53 f_X_machineOrSupervisorWithout
      dsimp only
      rw [if_pos (show upd w.1 0 0 0 = 0 from rfl), if_neg (show ¬ (1 : Int32) = 0 from by decide), hs_20, st_20]
      simp only [show upd w.1 0 0 2 = u.1 from hR.1.1.symm, show w.2.1 768 = u.2 1 from hR.2.1.2.1.symm]
      cases bq (u.2 1) 20 <;> (split; rfl; split <;> rfl)
  refine ⟨?_, e2, ?_⟩
  · rw [key]; rfl
  · rw [key]; exact rr_thr 0 hR
-- bits 13 and 14 set
theorem fs_bits : ∀ i, i < 64 → bq 24576 i = (decide (i = 13) || decide (i = 14)) := by decide +kernel
theorem fs_set (x : Int64) : x ||| 24576 = pb (pb x 13 true) 14 true := by
  refine bq_ext (fun i hi => ?_)
  rw [bq_or, fs_bits i hi, pb_bit _ (by decide) _ hi, pb_bit _ (by decide) _ hi]
  by_cases h1 : i = 13
  · subst h1; simp
  · by_cases h2 : i = 14
    · subst h2; simp
    · simp [h1, h2]
theorem fs_r {u : cs_St} {w : ms_St} (hR : rr_R u w) : rr_R (u.1, vp_updL u.2 1 (u.2 1 ||| 24576)) (f_M_put (f_M_put w 13 1) 14 1) := by
  rw [show f_M_put w 13 1 = _ from put_13 w true, show f_M_put (sst w (pb (w.2.1 768) 13 true)) 14 1 = _ from put_14 _ true, sst_sst, sst_r]
  refine rr_st hR ?_ ?_ ?_
  · rw [fs_set, hR.2.1.2.1]
  · exact wi_or hR.2.2.2.2.2.2.2.1.1 (wi_d (by decide +kernel))
  · rw [bq_or, bq_or, fs_bits 12 (by decide), fs_bits 11 (by decide)]
    have := hR.2.2.2.2.2.2.2.1.2
    simpa using this
theorem pl_dirty {u : cs_St} {w : ms_St} (hR : rr_R u w) : rr_R (f_X_dirty u) (f_M_dirty w) := by
  unfold f_X_dirty f_M_dirty
  dsimp only
  rw [hs_fs, flo_eq, show (upd w.1 0 0, w.2).2.1 768 = u.2 1 from hR.2.1.2.1.symm]
  have h2 := fs_r (rr_thr 0 hR)
  cases bq (u.2 1) 13 <;> cases bq (u.2 1) 14
  · exact rr_thr 0 hR
  · exact h2
  · exact h2
  · exact h2
theorem pe_eq {u : cs_St} {w : ms_St} (hR : rr_R u w) (y : Int64) : f_M_shown_15 w 836 y = f_X_pending u := by
  show w.2.1 (836 : Int32).toNatClampNeg ||| f_M_lineBits w = u.2 5 ||| u.2 6
  rw [cl_836, lb_eq, hR.2.1.2.2.2.2.2.1, hR.2.2.2.2.2.2.1]
theorem ps_eq {u : cs_St} {w : ms_St} (hR : rr_R u w) : f_M_shown w 836 = f_X_pending u := by
  unfold f_M_shown
  dsimp only
  split <;> exact pe_eq hR _
theorem pl_wakes {u : cs_St} {w : ms_St} (hR : rr_R u w) : f_X_wakes u = (f_M_wakes w).1 ∧ rr_R u (f_M_wakes w).2 := by
  refine ⟨?_, ?_⟩
  · unfold f_X_wakes f_M_wakes
    dsimp only
    rw [ps_eq (rr_thr 0 hR), cl_772, hR.2.1.2.2.2.2.1]
    split <;> rfl
  · unfold f_M_wakes
    dsimp only
    split <;> exact rr_thr 0 hR
