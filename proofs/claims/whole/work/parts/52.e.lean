-- PART: trap
theorem sb_1 (w : ms_St) : f_M_status w 1 = ib (bq (w.2.1 768) 1) := st_1 w
theorem sb_3 (w : ms_St) : f_M_status w 3 = ib (bq (w.2.1 768) 3) := st_3 w
theorem sb_5 (w : ms_St) : f_M_status w 5 = ib (bq (w.2.1 768) 5) := st_5 w
theorem sb_7 (w : ms_St) : f_M_status w 7 = ib (bq (w.2.1 768) 7) := st_7 w
theorem sb_8 (w : ms_St) : f_M_status w 8 = ib (bq (w.2.1 768) 8) := st_8 w
theorem sst_1 (w : ms_St) (x : Int64) : (sst w x).1 = w.1 := rfl
theorem sst_m (w : ms_St) (x : Int64) : (sst w x).1 2 = w.1 2 := rfl
theorem k_6281 : ∀ i, i < 64 → bq (-6281) i = !(decide (i = 3) || decide (i = 7) || decide (i = 11) || decide (i = 12)) := by decide +kernel
theorem k_291 : ∀ i, i < 64 → bq (-291) i = !(decide (i = 1) || decide (i = 5) || decide (i = 8)) := by decide +kernel
theorem k_128 : ∀ i, i < 64 → bq 128 i = decide (i = 7) := by decide +kernel
theorem k_32 : ∀ i, i < 64 → bq 32 i = decide (i = 5) := by decide +kernel
theorem k_256 : ∀ i, i < 64 → bq 256 i = decide (i = 8) := by decide +kernel
theorem k_if (b : Bool) (m : Int64) (i : Nat) : bq (if b then m else 0) i = (b && bq m i) := by cases b <;> simp [bq_0]
/-- the status after a trap to the machine mode -/
def tmS (x : Int64) (b c : Bool) : Int64 := pb (pb (pb (pb x 11 b) 12 c) 7 (bq x 3)) 3 false
/-- the status after a trap to the supervisor mode -/
def tsS (x : Int64) (b : Bool) : Int64 := pb (pb (pb x 8 b) 5 (bq x 1)) 1 false
theorem tm_b (x c : Int64) (b d : Bool) (hc : ∀ i, i < 64 → bq c i = ((decide (i = 11) && b) || (decide (i = 12) && d))) : ((x &&& (-6281)) ||| c) ||| (if bq x 3 then 128 else 0) = tmS x b d := by
  unfold tmS
  refine bq_ext (fun i hi => ?_)
  rw [bq_or, bq_or, bq_and, k_if, k_6281 i hi, k_128 i hi, hc i hi, pb_bit _ (by decide) _ hi, pb_bit _ (by decide) _ hi, pb_bit _ (by decide) _ hi, pb_bit _ (by decide) _ hi]
  by_cases a1 : i = 3
  · subst a1; simp
  · by_cases a2 : i = 7
    · subst a2; simp
    · by_cases a3 : i = 12
      · subst a3; simp
      · by_cases a4 : i = 11
        · subst a4; simp
        · simp [a1, a2, a3, a4]
theorem ts_b (x : Int64) (b : Bool) : ((x &&& (-291)) ||| (if b then 256 else 0)) ||| (if bq x 1 then 32 else 0) = tsS x b := by
  unfold tsS
  refine bq_ext (fun i hi => ?_)
  rw [bq_or, bq_or, bq_and, k_if, k_if, k_291 i hi, k_256 i hi, k_32 i hi, pb_bit _ (by decide) _ hi, pb_bit _ (by decide) _ hi, pb_bit _ (by decide) _ hi]
  by_cases a1 : i = 1
  · subst a1; simp
  · by_cases a2 : i = 5
    · subst a2; simp
    · by_cases a3 : i = 8
      · subst a3; simp
      · simp [a1, a2, a3]
theorem tm_w {x : Int64} (b c : Bool) (h : wi x 8288682) : wi (tmS x b c) 8288682 := wi_pb _ (wi_pb _ (wi_pb _ (wi_pb _ h (by decide) (by decide +kernel)) (by decide) (by decide +kernel)) (by decide) (by decide +kernel)) (by decide) (by decide +kernel)
theorem ts_w {x : Int64} (b : Bool) (h : wi x 8288682) : wi (tsS x b) 8288682 := wi_pb _ (wi_pb _ (wi_pb _ h (by decide) (by decide +kernel)) (by decide) (by decide +kernel)) (by decide) (by decide +kernel)
theorem tm_p (x : Int64) (b c : Bool) (h : ¬ (c = true ∧ b = false)) : ¬ (bq (tmS x b c) 12 = true ∧ bq (tmS x b c) 11 = false) := by
  unfold tmS
  simp only [pb_bit _ (show 3 < 64 by decide) _ (show 12 < 64 by decide), pb_bit _ (show 7 < 64 by decide) _ (show 12 < 64 by decide), pb_bit _ (show 12 < 64 by decide) _ (show 12 < 64 by decide), pb_bit _ (show 3 < 64 by decide) _ (show 11 < 64 by decide), pb_bit _ (show 7 < 64 by decide) _ (show 11 < 64 by decide), pb_bit _ (show 12 < 64 by decide) _ (show 11 < 64 by decide), pb_bit _ (show 11 < 64 by decide) _ (show 11 < 64 by decide)]
  simpa using h
theorem ts_p (x : Int64) (b : Bool) (h : ¬ (bq x 12 = true ∧ bq x 11 = false)) : ¬ (bq (tsS x b) 12 = true ∧ bq (tsS x b) 11 = false) := by
  unfold tsS
  simp only [pb_bit _ (show 1 < 64 by decide) _ (show 12 < 64 by decide), pb_bit _ (show 5 < 64 by decide) _ (show 12 < 64 by decide), pb_bit _ (show 8 < 64 by decide) _ (show 12 < 64 by decide), pb_bit _ (show 1 < 64 by decide) _ (show 11 < 64 by decide), pb_bit _ (show 5 < 64 by decide) _ (show 11 < 64 by decide), pb_bit _ (show 8 < 64 by decide) _ (show 11 < 64 by decide)]
  simpa using h
theorem an1_b (x : Int64) : x &&& 1 = bn (bq x 0) := by
  refine bq_ext (fun i hi => ?_)
  rw [bq_and, bq_1 i hi, bn_bit _ hi]
  by_cases h : i = 0
  · subst h; simp
  · simp [h]
theorem lc_00 : lg_cmp (bn false) 0 = 0 := (lg_cmp_eq _ _).mpr (by decide)
theorem lc_11 : lg_cmp (bn true) 1 = 0 := (lg_cmp_eq _ _).mpr (by decide)
theorem lc_01 : ¬ lg_cmp (bn false) 1 = 0 := fun e => absurd ((lg_cmp_eq _ _).mp e) (by decide)
theorem lc_10 : ¬ lg_cmp (bn true) 0 = 0 := fun e => absurd ((lg_cmp_eq _ _).mp e) (by decide)
theorem en_1 (u : cs_St) (w : ms_St) (p k : Int32) : f_B1_entry u p k = f_M_beginning w (u.2 13) p k := by
  unfold f_B1_entry f_M_beginning f_B1_entry_29
  dsimp only
  by_cases h : p = 0
  · rw [if_pos h, if_pos h]; rfl
  · rw [if_neg h, if_neg h, an1_b]
    cases bq (u.2 13) 0
    · rw [if_pos lc_00, if_neg lc_01]; rfl
    · rw [if_neg lc_10, if_pos lc_11]; rfl
theorem en_2 (u : cs_St) (w : ms_St) (p k : Int32) : f_B2_entry u p k = f_M_beginning w (u.2 19) p k := by
  unfold f_B2_entry f_M_beginning f_B2_entry_29
  dsimp only
  by_cases h : p = 0
  · rw [if_pos h, if_pos h]; rfl
  · rw [if_neg h, if_neg h, an1_b]
    cases bq (u.2 19) 0
    · rw [if_pos lc_00, if_neg lc_01]; rfl
    · rw [if_neg lc_10, if_pos lc_11]; rfl
def tc (p k : Int32) : Int64 := if p = 0 then k.toInt64 else k.toInt64 ||| (-9223372036854775808)
theorem tm_m (w : ms_St) (p1 p2 : Int32) (p3 p4 c : Int64) (b d : Bool) (h1 : w.1 2 - w.1 2 / 2 * 2 = ib b) (h2 : w.1 2 / 2 = ib d) : f_M_trap_85 w p1 p2 p3 p4 c 0 = (f_M_beginning zm (w.2.1 773) p1 p2, (upd w.1 2 3, vp_updL (vp_updL (vp_updL (vp_updL w.2.1 833 (p4 &&& (-2))) 834 c) 835 p3) 768 (tmS (w.2.1 768) b d), w.2.2.1, vp_updL w.2.2.2 2 (f_M_beginning zm (w.2.1 773) p1 p2))) := by
  unfold f_M_trap_85
  dsimp only
  rw [if_pos rfl, cl_833, cl_834, cl_835, h1, put_11, sst_m]
  dsimp only
  rw [h2, put_12, sst_sst, sst_r, sb_3, put_7, sst_sst, sst_r, show f_M_put _ 3 0 = _ from put_3 _ false, sst_sst, sst_r]
  have e3 : bq (pb (pb (w.2.1 768) 11 b) 12 d) 3 = bq (w.2.1 768) 3 := by
    rw [pb_bit _ (by decide) _ (by decide), pb_bit _ (by decide) _ (by decide), if_neg (by decide), if_neg (by decide)]
  show f_M_trap_224 _ p1 p2 p3 p4 0 = _
  unfold f_M_trap_224
  dsimp only
  rw [if_pos rfl, cl_773]
  unfold tmS
  rw [← e3]
  rfl
theorem ts_m (w : ms_St) (p1 p2 : Int32) (p3 p4 c : Int64) (b : Bool) (h1 : w.1 2 = ib b) : f_M_trap_85 w p1 p2 p3 p4 c 1 = (f_M_beginning zm (w.2.1 261) p1 p2, (upd w.1 2 1, vp_updL (vp_updL (vp_updL (vp_updL w.2.1 321 (p4 &&& (-2))) 322 c) 323 p3) 768 (tsS (w.2.1 768) b), w.2.2.1, vp_updL w.2.2.2 2 (f_M_beginning zm (w.2.1 261) p1 p2))) := by
  unfold f_M_trap_85
  dsimp only
  rw [if_neg (by decide), cl_321, cl_322, cl_323, h1, put_8, sb_1, sst_r, put_5, sst_sst, sst_r, show f_M_put _ 1 0 = _ from put_1 _ false, sst_sst, sst_r]
  have e3 : bq (pb (w.2.1 768) 8 b) 1 = bq (w.2.1 768) 1 := by
    rw [pb_bit _ (by decide) _ (by decide), if_neg (by decide)]
  show f_M_trap_224 _ p1 p2 p3 p4 1 = _
  unfold f_M_trap_224
  dsimp only
  rw [if_neg (by decide), cl_261]
  unfold tsS
  rw [← e3]
  rfl
theorem tm_c (u : cs_St) (p1 p2 : Int32) (p3 p4 : Int64) (b d : Bool) (hc : ∀ i, i < 64 → bq (u.1.toInt64 <<< ((11 : Int32).toInt64 &&& 63)) i = ((decide (i = 11) && b) || (decide (i = 12) && d))) (hg : f_X_goesToSupervisor u p1 p2 = 0) : f_X_trap u p1 p2 p3 p4 = (f_M_beginning zm (u.2 13) p1 p2, (3, vp_updL (vp_updL (vp_updL (vp_updL (vp_updL u.2 1 (tmS (u.2 1) b d)) 16 (p4 &&& (-2))) 17 (tc p1 p2)) 18 p3) 12 (f_M_beginning zm (u.2 13) p1 p2))) := by
  have he : f_X_enterMachine u = (3, vp_updL u.2 1 (tmS (u.2 1) b d)) := by
    rw [← tm_b (u.2 1) _ b d hc]
    unfold f_X_enterMachine f_X_enterMachine_35
    dsimp only
    rw [hs_3]
    cases bq (u.2 1) 3 <;> rfl
  have hr : ∀ v : cs_St, f_B1_remember v p1 p2 p3 p4 = (v.1, vp_updL (vp_updL (vp_updL v.2 16 (p4 &&& (-2))) 17 (tc p1 p2)) 18 p3) := by
    intro v
    unfold f_B1_remember tc
    dsimp only
    split <;> rfl
  unfold f_X_trap
  dsimp only
  rw [if_pos hg, he, hr, en_1 _ zm]
  rfl
theorem ts_c (u : cs_St) (p1 p2 : Int32) (p3 p4 : Int64) (b : Bool) (hb : u.1 = ib b) (hg : ¬ f_X_goesToSupervisor u p1 p2 = 0) : f_X_trap u p1 p2 p3 p4 = (f_M_beginning zm (u.2 19) p1 p2, (1, vp_updL (vp_updL (vp_updL (vp_updL (vp_updL u.2 1 (tsS (u.2 1) b)) 22 (p4 &&& (-2))) 23 (tc p1 p2)) 24 p3) 12 (f_M_beginning zm (u.2 19) p1 p2))) := by
  have he : f_X_enterSupervisor u = (1, vp_updL u.2 1 (tsS (u.2 1) b)) := by
    rw [← ts_b (u.2 1) b]
    unfold f_X_enterSupervisor f_X_enterSupervisor_24 f_X_enterSupervisor_42
    dsimp only
    rw [hs_1]
    cases b
    · rw [if_neg (by rw [hb]; decide)]
      cases bq (u.2 1) 1 <;> rfl
    · rw [if_pos (by rw [hb]; decide)]
      cases bq (u.2 1) 1 <;> rfl
  have hr : ∀ v : cs_St, f_B2_remember v p1 p2 p3 p4 = (v.1, vp_updL (vp_updL (vp_updL v.2 22 (p4 &&& (-2))) 23 (tc p1 p2)) 24 p3) := by
    intro v
    unfold f_B2_remember tc
    dsimp only
    split <;> rfl
  unfold f_X_trap
  dsimp only
  rw [if_neg hg, he, hr, en_2 _ zm]
  rfl
theorem gs_c (u : cs_St) (p : Int32) (j : Nat) (hj : j < 64) : f_X_goesToSupervisor u p (nI j) = if u.1 = 3 then 0 else ib (bq (if p = 0 then u.2 2 else u.2 3) j) := by
  unfold f_X_goesToSupervisor f_X_goesToSupervisor_15
  dsimp only
  by_cases h3 : u.1 = 3
  · rw [if_pos h3, if_pos h3, if_pos h3]; split <;> rfl
  · rw [if_neg h3, if_neg h3, if_neg h3]
    by_cases hp : p = 0
    · rw [if_pos hp, if_pos hp, bn_ushr j hj]
      cases bq (u.2 2) j
      · rw [if_pos lc_00]; rfl
      · rw [if_neg lc_10]; rfl
    · rw [if_neg hp, if_neg hp, bn_ushr j hj]
      cases bq (u.2 3) j
      · rw [if_pos lc_00]; rfl
      · rw [if_neg lc_10]; rfl
theorem gs_m (w : ms_St) (p : Int32) (j : Nat) (hj : j < 64) (a b c : Int64) : f_M_trap_43 w p (nI j) a b c = f_M_trap_85 w p (nI j) a b c (if 3 ≤ w.1 2 then 0 else ib (bq (if p = 0 then w.2.1 770 else w.2.1 771) j)) := by
  unfold f_M_trap_43
  dsimp only
  by_cases h3 : 3 ≤ w.1 2
  · rw [if_pos h3, if_pos h3]
  · rw [if_neg h3, if_neg h3]
    by_cases hp : p = 0
    · rw [if_pos hp, if_pos hp, cl_770, bn_sshr j hj]
      cases bq (w.2.1 770) j
      · rw [if_neg lc_01]; rfl
      · rw [if_pos lc_11]; rfl
    · rw [if_neg hp, if_neg hp, cl_771, bn_sshr j hj]
      cases bq (w.2.1 771) j
      · rw [if_neg lc_01]; rfl
      · rw [if_pos lc_11]; rfl
theorem tm_r {u : cs_St} {w : ms_St} (p1 p2 : Int32) (p3 p4 : Int64) (hR : rr_R u w) (hg : f_X_goesToSupervisor u p1 p2 = 0) : f_M_thrown (f_M_trap_85 (upd w.1 0 0, w.2) p1 p2 p3 p4 (tc p1 p2) 0).2 = 0 ∧ (f_X_trap u p1 p2 p3 p4).1 = (f_M_trap_85 (upd w.1 0 0, w.2) p1 p2 p3 p4 (tc p1 p2) 0).1 ∧ rr_R (f_X_trap u p1 p2 p3 p4).2 (f_M_trap_85 (upd w.1 0 0, w.2) p1 p2 p3 p4 (tc p1 p2) 0).2 := by
  have key : ∃ b d : Bool, ((upd w.1 0 0) 2 - (upd w.1 0 0) 2 / 2 * 2 = ib b) ∧ ((upd w.1 0 0) 2 / 2 = ib d) ∧ (∀ i, i < 64 → bq (u.1.toInt64 <<< ((11 : Int32).toInt64 &&& 63)) i = ((decide (i = 11) && b) || (decide (i = 12) && d))) ∧ ¬ (d = true ∧ b = false) := by
    have hm : upd w.1 0 0 2 = u.1 := hR.1.1.symm
    rw [hm]
    rcases hR.1.2 with e | e | e <;> rw [e]
    · exact ⟨false, false, by decide, by decide, by decide +kernel, by decide⟩
    · exact ⟨true, false, by decide, by decide, by decide +kernel, by decide⟩
    · exact ⟨true, true, by decide, by decide, by decide +kernel, by decide⟩
  obtain ⟨b, d, h1, h2, h3, h4⟩ := key
  rw [tm_m (upd w.1 0 0, w.2) p1 p2 p3 p4 (tc p1 p2) b d h1 h2, tm_c u p1 p2 p3 p4 b d h3 hg]
  have ep : f_M_beginning zm (u.2 13) p1 p2 = f_M_beginning zm (w.2.1 773) p1 p2 := by rw [hR.2.2.2.1.1]
  have es : tmS (u.2 1) b d = tmS (w.2.1 768) b d := by rw [hR.2.1.2.1]
  refine ⟨rfl, ep, ?_⟩
  exact ⟨⟨rfl, Or.inr (Or.inr rfl)⟩, ⟨hR.2.1.1, es, hR.2.1.2.2.1, hR.2.1.2.2.2.1, hR.2.1.2.2.2.2.1, hR.2.1.2.2.2.2.2.1, hR.2.1.2.2.2.2.2.2.1, hR.2.1.2.2.2.2.2.2.2.1, hR.2.1.2.2.2.2.2.2.2.2⟩, ⟨hR.2.2.1.1, hR.2.2.1.2.1, ep⟩, ⟨hR.2.2.2.1.1, hR.2.2.2.1.2.1, hR.2.2.2.1.2.2.1, rfl, rfl, rfl⟩, hR.2.2.2.2.1, hR.2.2.2.2.2.1, hR.2.2.2.2.2.2.1, ⟨tm_w b d hR.2.2.2.2.2.2.2.1.1, tm_p _ b d h4⟩, ⟨hR.2.2.2.2.2.2.2.2.1, hR.2.2.2.2.2.2.2.2.2.1, hR.2.2.2.2.2.2.2.2.2.2.1, hR.2.2.2.2.2.2.2.2.2.2.2.1, hR.2.2.2.2.2.2.2.2.2.2.2.2.1, hR.2.2.2.2.2.2.2.2.2.2.2.2.2.1, wi_and _ _, hR.2.2.2.2.2.2.2.2.2.2.2.2.2.2.2.1, hR.2.2.2.2.2.2.2.2.2.2.2.2.2.2.2.2.1, hR.2.2.2.2.2.2.2.2.2.2.2.2.2.2.2.2.2⟩⟩
theorem ts_r {u : cs_St} {w : ms_St} (p1 p2 : Int32) (p3 p4 : Int64) (hR : rr_R u w) (h3 : ¬ u.1 = 3) (hg : ¬ f_X_goesToSupervisor u p1 p2 = 0) : f_M_thrown (f_M_trap_85 (upd w.1 0 0, w.2) p1 p2 p3 p4 (tc p1 p2) 1).2 = 0 ∧ (f_X_trap u p1 p2 p3 p4).1 = (f_M_trap_85 (upd w.1 0 0, w.2) p1 p2 p3 p4 (tc p1 p2) 1).1 ∧ rr_R (f_X_trap u p1 p2 p3 p4).2 (f_M_trap_85 (upd w.1 0 0, w.2) p1 p2 p3 p4 (tc p1 p2) 1).2 := by
  have key : ∃ b : Bool, u.1 = ib b := by
    rcases hR.1.2 with e | e | e
    · exact ⟨false, e⟩
    · exact ⟨true, e⟩
    · exact absurd e h3
  obtain ⟨b, h1⟩ := key
  have hm : upd w.1 0 0 2 = ib b := hR.1.1.symm.trans h1
  rw [ts_m (upd w.1 0 0, w.2) p1 p2 p3 p4 (tc p1 p2) b hm, ts_c u p1 p2 p3 p4 b h1 hg]
  have ep : f_M_beginning zm (u.2 19) p1 p2 = f_M_beginning zm (w.2.1 261) p1 p2 := by rw [hR.2.2.2.2.1.1]
  have es : tsS (u.2 1) b = tsS (w.2.1 768) b := by rw [hR.2.1.2.1]
  refine ⟨rfl, ep, ?_⟩
  exact ⟨⟨rfl, Or.inr (Or.inl rfl)⟩, ⟨hR.2.1.1, es, hR.2.1.2.2.1, hR.2.1.2.2.2.1, hR.2.1.2.2.2.2.1, hR.2.1.2.2.2.2.2.1, hR.2.1.2.2.2.2.2.2.1, hR.2.1.2.2.2.2.2.2.2.1, hR.2.1.2.2.2.2.2.2.2.2⟩, ⟨hR.2.2.1.1, hR.2.2.1.2.1, ep⟩, hR.2.2.2.1, ⟨hR.2.2.2.2.1.1, hR.2.2.2.2.1.2.1, hR.2.2.2.2.1.2.2.1, rfl, rfl, rfl⟩, hR.2.2.2.2.2.1, hR.2.2.2.2.2.2.1, ⟨ts_w b hR.2.2.2.2.2.2.2.1.1, ts_p _ b hR.2.2.2.2.2.2.2.1.2⟩, ⟨hR.2.2.2.2.2.2.2.2.1, hR.2.2.2.2.2.2.2.2.2.1, hR.2.2.2.2.2.2.2.2.2.2.1, hR.2.2.2.2.2.2.2.2.2.2.2.1, hR.2.2.2.2.2.2.2.2.2.2.2.2.1, hR.2.2.2.2.2.2.2.2.2.2.2.2.2.1, hR.2.2.2.2.2.2.2.2.2.2.2.2.2.2.1, hR.2.2.2.2.2.2.2.2.2.2.2.2.2.2.2.1, hR.2.2.2.2.2.2.2.2.2.2.2.2.2.2.2.2.1, wi_and _ _⟩⟩
theorem nI_ob {k : Int32} {N : Nat} (h1 : ¬ k < 0) (h2 : k.toInt ≤ (N : Int)) (hN : N < 2147483647) : ∃ j, k = nI j ∧ j ≤ N := by
  rw [Int32.lt_iff_toInt_lt] at h1
  have e0 : (0 : Int32).toInt = 0 := by decide
  rw [e0] at h1
  refine ⟨k.toInt.toNat, ?_, by omega⟩
  refine Int32.toInt_inj.mp ?_
  rw [nI_toInt (by omega)]
  omega
theorem pl_trap {u : cs_St} {w : ms_St} (i k : Int32) (a b : Int64) (g1 : ¬ k < 0) (g2 : k ≤ 63) (hR : rr_R u w) : f_M_thrown (f_M_trap w i k a b).2 = 0 ∧ (f_X_trap u i k a b).1 = (f_M_trap w i k a b).1 ∧ rr_R (f_X_trap u i k a b).2 (f_M_trap w i k a b).2 := by
  have hk : ∃ j, k = nI j ∧ j ≤ 63 := by
    refine nI_ob g1 ?_ (by decide)
    have h := g2
    rw [Int32.le_iff_toInt_le] at h
    exact h
  obtain ⟨j, ej, hj⟩ := hk
  have e : f_M_trap w i k a b = f_M_trap_43 (upd w.1 0 0, w.2) i k a b (tc i k) := by
    unfold f_M_trap tc
    dsimp only
    rw [if_neg g1, if_pos g2]
    split <;> rfl
  have hm : upd w.1 0 0 2 = u.1 := hR.1.1.symm
  have gc := gs_c u i j (by omega)
  have gm := gs_m (upd w.1 0 0, w.2) i j (by omega) a b (tc i k)
  rw [← ej] at gc gm
  rw [e, gm]
  by_cases h3 : u.1 = 3
  · rw [if_pos (show 3 ≤ upd w.1 0 0 2 by rw [hm, h3]; decide)]
    rw [if_pos h3] at gc
    exact tm_r i k a b hR gc
  · have h4 : ¬ 3 ≤ upd w.1 0 0 2 := by
      rw [hm]
      rcases hR.1.2 with e | e | e
      · rw [e]; decide
      · rw [e]; decide
      · exact absurd e h3
    rw [if_neg h4]
    rw [if_neg h3] at gc
    have hq : bq (if i = 0 then w.2.1 770 else w.2.1 771) j = bq (if i = 0 then u.2 2 else u.2 3) j := by rw [hR.2.1.2.2.1, hR.2.1.2.2.2.1]
    show f_M_thrown (f_M_trap_85 _ i k a b (tc i k) (ib (bq (if i = 0 then w.2.1 770 else w.2.1 771) j))).2 = 0 ∧ _ = (f_M_trap_85 _ i k a b (tc i k) (ib (bq (if i = 0 then w.2.1 770 else w.2.1 771) j))).1 ∧ rr_R _ (f_M_trap_85 _ i k a b (tc i k) (ib (bq (if i = 0 then w.2.1 770 else w.2.1 771) j))).2
    rw [hq]
    cases hb : bq (if i = 0 then u.2 2 else u.2 3) j
    · rw [hb] at gc
      exact tm_r i k a b hR gc
    · rw [hb] at gc
      exact ts_r i k a b hR h3 (by rw [gc]; decide)
