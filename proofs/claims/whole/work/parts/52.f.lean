-- PART: back
theorem k_6153 : ∀ i, i < 64 → bq (-6153) i = !(decide (i = 3) || decide (i = 11) || decide (i = 12)) := by decide +kernel
theorem k_259 : ∀ i, i < 64 → bq (-259) i = !(decide (i = 1) || decide (i = 8)) := by decide +kernel
theorem k_17n : ∀ i, i < 64 → bq (-131073) i = !decide (i = 17) := by decide +kernel
theorem k_8 : ∀ i, i < 64 → bq 8 i = decide (i = 3) := by decide +kernel
theorem k_2 : ∀ i, i < 64 → bq 2 i = decide (i = 1) := by decide +kernel
def bmS (x : Int64) : Int64 := pb (pb (pb (pb x 3 (bq x 7)) 7 true) 11 false) 12 false
def bsS (x : Int64) : Int64 := pb (pb (pb x 1 (bq x 5)) 5 true) 8 false
theorem bm_b (x : Int64) : ((x &&& (-6153)) ||| 128) ||| (if bq x 7 then 8 else 0) = bmS x := by
  unfold bmS
  refine bq_ext (fun i hi => ?_)
  rw [bq_or, bq_or, bq_and, k_if, k_6153 i hi, k_128 i hi, k_8 i hi, pb_bit _ (by decide) _ hi, pb_bit _ (by decide) _ hi, pb_bit _ (by decide) _ hi, pb_bit _ (by decide) _ hi]
  by_cases a1 : i = 3
  · subst a1; simp
  · by_cases a2 : i = 7
    · subst a2; simp
    · by_cases a3 : i = 12
      · subst a3; simp
      · by_cases a4 : i = 11
        · subst a4; simp
        · simp [a1, a2, a3, a4]
theorem bs_b (x : Int64) : ((x &&& (-259)) ||| 32) ||| (if bq x 5 then 2 else 0) = bsS x := by
  unfold bsS
  refine bq_ext (fun i hi => ?_)
  rw [bq_or, bq_or, bq_and, k_if, k_259 i hi, k_32 i hi, k_2 i hi, pb_bit _ (by decide) _ hi, pb_bit _ (by decide) _ hi, pb_bit _ (by decide) _ hi]
  by_cases a1 : i = 1
  · subst a1; simp
  · by_cases a2 : i = 5
    · subst a2; simp
    · by_cases a3 : i = 8
      · subst a3; simp
      · simp [a1, a2, a3]
theorem b17 (x : Int64) : x &&& (-131073) = pb x 17 false := by
  refine bq_ext (fun i hi => ?_)
  rw [bq_and, k_17n i hi, pb_bit _ (by decide) _ hi]
  by_cases a1 : i = 17
  · subst a1; simp
  · simp [a1]
theorem bm_w {x : Int64} (h : wi x 8288682) : wi (bmS x) 8288682 := wi_pb _ (wi_pb _ (wi_pb _ (wi_pb _ h (by decide) (by decide +kernel)) (by decide) (by decide +kernel)) (by decide) (by decide +kernel)) (by decide) (by decide +kernel)
theorem bs_w {x : Int64} (h : wi x 8288682) : wi (bsS x) 8288682 := wi_pb _ (wi_pb _ (wi_pb _ h (by decide) (by decide +kernel)) (by decide) (by decide +kernel)) (by decide) (by decide +kernel)
theorem bw_17 {x : Int64} (h : wi x 8288682) : wi (pb x 17 false) 8288682 := wi_pb _ h (by decide) (by decide +kernel)
theorem bm_p (x : Int64) : ¬ (bq (bmS x) 12 = true ∧ bq (bmS x) 11 = false) := by
  unfold bmS
  rw [pb_bit _ (show 12 < 64 by decide) _ (show 12 < 64 by decide)]
  simp
theorem bs_p {x : Int64} (h : ¬ (bq x 12 = true ∧ bq x 11 = false)) : ¬ (bq (bsS x) 12 = true ∧ bq (bsS x) 11 = false) := by
  unfold bsS
  simp only [pb_bit _ (show 8 < 64 by decide) _ (show 12 < 64 by decide), pb_bit _ (show 5 < 64 by decide) _ (show 12 < 64 by decide), pb_bit _ (show 1 < 64 by decide) _ (show 12 < 64 by decide), pb_bit _ (show 8 < 64 by decide) _ (show 11 < 64 by decide), pb_bit _ (show 5 < 64 by decide) _ (show 11 < 64 by decide), pb_bit _ (show 1 < 64 by decide) _ (show 11 < 64 by decide)]
  simpa using h
theorem bp_17 {x : Int64} (h : ¬ (bq x 12 = true ∧ bq x 11 = false)) : ¬ (bq (pb x 17 false) 12 = true ∧ bq (pb x 17 false) 11 = false) := by
  rw [pb_bit _ (show 17 < 64 by decide) _ (show 12 < 64 by decide), pb_bit _ (show 17 < 64 by decide) _ (show 11 < 64 by decide)]
  simpa using h
theorem ib_3 (b : Bool) : ¬ 3 ≤ ib b := by cases b <;> decide
theorem pbn (x : Int64) {j : Nat} (hj : j < 64) (b : Bool) {i : Nat} (hi : i < 64) (h : i ≠ j) : bq (pb x j b) i = bq x i := by rw [pb_bit x hj b hi, if_neg h]
theorem b125_n (z : ms_St) (p : Int32) (h : ¬ 3 ≤ z.1 2) : f_M_back_125 z p = f_M_back_140 (sst z (pb (z.2.1 768) 17 false)) p := by
  unfold f_M_back_125
  dsimp only
  rw [if_neg h]
  exact congrArg (fun q => f_M_back_140 q p) (put_17 z false)
theorem b125_p (z : ms_St) (p : Int32) (h : 3 ≤ z.1 2) : f_M_back_125 z p = f_M_back_140 z p := by
  unfold f_M_back_125
  dsimp only
  rw [if_pos h]
theorem b94_s (z : ms_St) (y : Int32) : f_M_back_94 z 0 y = f_M_back_125 (sst (upd z.1 2 y, z.2) (pb (z.2.1 768) 8 false)) 0 := by
  unfold f_M_back_94
  dsimp only
  rw [if_pos rfl]
  exact congrArg (fun q => f_M_back_125 q 0) (put_8 _ false)
theorem b94_m (z : ms_St) (p y : Int32) (hp : ¬ p = 0) : f_M_back_94 z p y = f_M_back_125 (sst (upd z.1 2 y, z.2) (pb (pb (z.2.1 768) 11 false) 12 false)) p := by
  unfold f_M_back_94
  dsimp only
  rw [if_neg hp, show f_M_put _ 11 0 = _ from put_11 _ false, show f_M_put _ 12 0 = _ from put_12 _ false, sst_sst, sst_r]
theorem bs_m (w : ms_St) : f_M_back_55 w 0 1 = (1, (upd w.1 2 (ib (bq (w.2.1 768) 8)), vp_updL w.2.1 768 (pb (bsS (w.2.1 768)) 17 false), w.2.2.1, vp_updL w.2.2.2 2 (w.2.1 321))) := by
  have e8 : bq (pb (pb (w.2.1 768) 1 (bq (w.2.1 768) 5)) 5 true) 8 = bq (w.2.1 768) 8 := by
    rw [pbn _ (show 5 < 64 by decide) _ (show 8 < 64 by decide) (by decide), pbn _ (show 1 < 64 by decide) _ (show 8 < 64 by decide) (by decide)]
  unfold f_M_back_55
  dsimp only
  rw [if_pos rfl, show (1 : Int32) + 4 = 5 from by decide, sb_5, put_1, show f_M_put _ 5 1 = _ from put_5 _ true, sst_sst, sst_r, sb_8, sst_r, e8, b94_s, b125_n]
  · unfold f_M_back_140
    dsimp only
    rw [if_pos rfl, cl_321]
    unfold sst bsS
    dsimp only
    rw [uu_L, uu_L]
    rfl
  · exact ib_3 _
theorem bm_m (w : ms_St) (p : Int32) (hp : ¬ p = 0) : f_M_back_55 w p 3 = (1, (upd w.1 2 (mpp (w.2.1 768)), vp_updL w.2.1 768 (if 3 ≤ mpp (w.2.1 768) then bmS (w.2.1 768) else pb (bmS (w.2.1 768)) 17 false), w.2.2.1, vp_updL w.2.2.2 2 (w.2.1 833))) := by
  have e8 : mpp (pb (pb (w.2.1 768) 3 (bq (w.2.1 768) 7)) 7 true) = mpp (w.2.1 768) := by
    unfold mpp
    rw [pbn _ (show 7 < 64 by decide) _ (show 11 < 64 by decide) (by decide), pbn _ (show 3 < 64 by decide) _ (show 11 < 64 by decide) (by decide), pbn _ (show 7 < 64 by decide) _ (show 12 < 64 by decide) (by decide), pbn _ (show 3 < 64 by decide) _ (show 12 < 64 by decide) (by decide)]
  unfold f_M_back_55
  dsimp only
  rw [if_neg hp, show (3 : Int32) + 4 = 7 from by decide, sb_7, put_3, show f_M_put _ 7 1 = _ from put_7 _ true, sst_sst, sst_r, bel_eq, sst_r, e8, b94_m _ _ _ hp]
  by_cases h3 : 3 ≤ mpp (w.2.1 768)
  · rw [if_pos h3, b125_p]
    · unfold f_M_back_140
      dsimp only
      rw [if_neg hp, cl_833]
      unfold sst bmS
      dsimp only
      rw [uu_L]
      rfl
    · exact h3
  · rw [if_neg h3, b125_n]
    · unfold f_M_back_140
      dsimp only
      rw [if_neg hp, cl_833]
      unfold sst bmS
      dsimp only
      rw [uu_L, uu_L]
      rfl
    · exact h3
theorem bs_c (u : cs_St) : f_X_leaveSupervisor u = (ib (bq (u.2 1) 8), vp_updL (vp_updL u.2 1 (bsS (u.2 1))) 12 (u.2 22)) := by
  rw [← bs_b]
  unfold f_X_leaveSupervisor f_X_leaveSupervisor_17 f_X_leaveSupervisor_34
  dsimp only
  rw [hs_5, hs_8]
  cases bq (u.2 1) 5 <;> cases bq (u.2 1) 8 <;> rfl
theorem bm_c (u : cs_St) : f_X_leaveMachine u = (mpp (u.2 1), vp_updL (vp_updL u.2 1 (bmS (u.2 1))) 12 (u.2 16)) := by
  rw [← bm_b]
  unfold f_X_leaveMachine f_X_leaveMachine_17
  dsimp only
  rw [hs_7, pmm_eq]
  cases bq (u.2 1) 7 <;> rfl
theorem mpp_c {x : Int64} (h : ¬ (bq x 12 = true ∧ bq x 11 = false)) : mpp x = 0 ∨ mpp x = 1 ∨ mpp x = 3 := by
  unfold mpp
  cases h1 : bq x 11 <;> cases h2 : bq x 12
  · decide
  · exact absurd ⟨h2, h1⟩ h
  · decide
  · decide
theorem bs_r {u : cs_St} {w : ms_St} (hR : rr_R u w) : (f_X_back_25 (f_X_leaveSupervisor u) 0).1 = (f_M_back_55 w 0 1).1 ∧ rr_R (f_X_back_25 (f_X_leaveSupervisor u) 0).2 (f_M_back_55 w 0 1).2 := by
  rw [bs_m, bs_c]
  have hn : ¬ ib (bq (u.2 1) 8) = 3 := by cases bq (u.2 1) 8 <;> decide
  have e : f_X_back_25 (ib (bq (u.2 1) 8), vp_updL (vp_updL u.2 1 (bsS (u.2 1))) 12 (u.2 22)) 0 = (1, (ib (bq (u.2 1) 8), vp_updL (vp_updL (vp_updL u.2 1 (bsS (u.2 1))) 12 (u.2 22)) 1 (pb (bsS (u.2 1)) 17 false))) := by
    rw [← b17]
    unfold f_X_back_25
    dsimp only
    rw [if_neg hn]
    rfl
  rw [e]
  have em : ib (bq (u.2 1) 8) = ib (bq (w.2.1 768) 8) := by rw [hR.2.1.2.1]
  have es : pb (bsS (u.2 1)) 17 false = pb (bsS (w.2.1 768)) 17 false := by rw [hR.2.1.2.1]
  have ed : ib (bq (u.2 1) 8) = 0 ∨ ib (bq (u.2 1) 8) = 1 ∨ ib (bq (u.2 1) 8) = 3 := by cases bq (u.2 1) 8 <;> decide
  refine ⟨rfl, ?_⟩
  exact ⟨⟨em, ed⟩, ⟨hR.2.1.1, es, hR.2.1.2.2.1, hR.2.1.2.2.2.1, hR.2.1.2.2.2.2.1, hR.2.1.2.2.2.2.2.1, hR.2.1.2.2.2.2.2.2.1, hR.2.1.2.2.2.2.2.2.2.1, hR.2.1.2.2.2.2.2.2.2.2⟩, ⟨hR.2.2.1.1, hR.2.2.1.2.1, hR.2.2.2.2.1.2.2.2.1⟩, hR.2.2.2.1, hR.2.2.2.2.1, hR.2.2.2.2.2.1, hR.2.2.2.2.2.2.1, ⟨bw_17 (bs_w hR.2.2.2.2.2.2.2.1.1), bp_17 (bs_p hR.2.2.2.2.2.2.2.1.2)⟩, hR.2.2.2.2.2.2.2.2⟩
theorem bm_r {u : cs_St} {w : ms_St} (p : Int32) (hp : ¬ p = 0) (hR : rr_R u w) : (f_X_back_25 (f_X_leaveMachine u) p).1 = (f_M_back_55 w p 3).1 ∧ rr_R (f_X_back_25 (f_X_leaveMachine u) p).2 (f_M_back_55 w p 3).2 := by
  rw [bm_m w p hp, bm_c]
  have em : mpp (u.2 1) = mpp (w.2.1 768) := by rw [hR.2.1.2.1]
  have ed := mpp_c hR.2.2.2.2.2.2.2.1.2
  by_cases hn : mpp (u.2 1) = 3
  · have h3 : 3 ≤ mpp (w.2.1 768) := by rw [← em, hn]; decide
    have e : f_X_back_25 (mpp (u.2 1), vp_updL (vp_updL u.2 1 (bmS (u.2 1))) 12 (u.2 16)) p = (1, (mpp (u.2 1), vp_updL (vp_updL u.2 1 (bmS (u.2 1))) 12 (u.2 16))) := by
      unfold f_X_back_25
      dsimp only
      rw [if_pos hn]
    rw [e, if_pos h3]
    have es : bmS (u.2 1) = bmS (w.2.1 768) := by rw [hR.2.1.2.1]
    refine ⟨rfl, ?_⟩
    exact ⟨⟨em, ed⟩, ⟨hR.2.1.1, es, hR.2.1.2.2.1, hR.2.1.2.2.2.1, hR.2.1.2.2.2.2.1, hR.2.1.2.2.2.2.2.1, hR.2.1.2.2.2.2.2.2.1, hR.2.1.2.2.2.2.2.2.2.1, hR.2.1.2.2.2.2.2.2.2.2⟩, ⟨hR.2.2.1.1, hR.2.2.1.2.1, hR.2.2.2.1.2.2.2.1⟩, hR.2.2.2.1, hR.2.2.2.2.1, hR.2.2.2.2.2.1, hR.2.2.2.2.2.2.1, ⟨bm_w hR.2.2.2.2.2.2.2.1.1, bm_p _⟩, hR.2.2.2.2.2.2.2.2⟩
  · have h3 : ¬ 3 ≤ mpp (w.2.1 768) := by
      rw [← em]
      rcases ed with h | h | h
      · rw [h]; decide
      · rw [h]; decide
      · exact absurd h hn
    have e : f_X_back_25 (mpp (u.2 1), vp_updL (vp_updL u.2 1 (bmS (u.2 1))) 12 (u.2 16)) p = (1, (mpp (u.2 1), vp_updL (vp_updL (vp_updL u.2 1 (bmS (u.2 1))) 12 (u.2 16)) 1 (pb (bmS (u.2 1)) 17 false))) := by
      rw [← b17]
      unfold f_X_back_25
      dsimp only
      rw [if_neg hn]
      rfl
    rw [e, if_neg h3]
    have es : pb (bmS (u.2 1)) 17 false = pb (bmS (w.2.1 768)) 17 false := by rw [hR.2.1.2.1]
    refine ⟨rfl, ?_⟩
    exact ⟨⟨em, ed⟩, ⟨hR.2.1.1, es, hR.2.1.2.2.1, hR.2.1.2.2.2.1, hR.2.1.2.2.2.2.1, hR.2.1.2.2.2.2.2.1, hR.2.1.2.2.2.2.2.2.1, hR.2.1.2.2.2.2.2.2.2.1, hR.2.1.2.2.2.2.2.2.2.2⟩, ⟨hR.2.2.1.1, hR.2.2.1.2.1, hR.2.2.2.1.2.2.2.1⟩, hR.2.2.2.1, hR.2.2.2.2.1, hR.2.2.2.2.2.1, hR.2.2.2.2.2.2.1, ⟨bw_17 (bm_w hR.2.2.2.2.2.2.2.1.1), bp_17 (bm_p _)⟩, hR.2.2.2.2.2.2.2.2⟩
theorem bk_39 {u : cs_St} {w : ms_St} (p : Int32) (d : Bool) (hd : f_X_mayReturn u p = ib d) (hR : rr_R u w) : (f_X_back u p).1 = (f_M_back_39 w p (ib d)).1 ∧ rr_R (f_X_back u p).2 (f_M_back_39 w p (ib d)).2 := by
  unfold f_X_back f_M_back_39
  dsimp only
  rw [hd]
  cases d
  · exact ⟨rfl, hR⟩
  · rw [if_neg (show ¬ ib true = 0 by decide), if_neg (show ¬ ib true = 0 by decide)]
    by_cases hp : p = 0
    · subst hp
      rw [if_pos rfl, if_pos rfl]
      exact bs_r hR
    · rw [if_neg hp, if_neg hp]
      exact bm_r p hp hR
theorem pl_back {u : cs_St} {w : ms_St} (n : Int32) (hR : rr_R u w) : (f_X_back u n).1 = (f_M_back w n).1 ∧ rr_R (f_X_back u n).2 (f_M_back w n).2 := by
  have hq : rr_R u (upd w.1 0 0, w.2) := rr_thr 0 hR
  have hm : upd w.1 0 0 2 = u.1 := hR.1.1.symm
  have h1 : (upd w.1 0 0, w.2).2.1 768 = u.2 1 := hR.2.1.2.1.symm
  have key : ∃ d : Bool, f_X_mayReturn u n = ib d ∧ f_M_back w n = f_M_back_39 (upd w.1 0 0, w.2) n (ib d) := by
    unfold f_M_back f_X_mayReturn f_X_machineOrSupervisorWithout
    dsimp only
    rw [hs_22, st_22, h1]
    simp only [hm]
    by_cases e3 : u.1 = 3
    · refine ⟨true, ?_, ?_⟩
      · simp [e3, ib]
      · simp [e3, ib]
    · by_cases hn : n = 0
      · by_cases e1 : u.1 = 1
        · refine ⟨!bq (u.2 1) 22, ?_, ?_⟩
          · cases bq (u.2 1) 22 <;> simp [e1, hn, ib]
          · cases bq (u.2 1) 22 <;> simp [e1, hn, ib]
        · refine ⟨false, ?_, ?_⟩
          · simp [e3, e1, hn, ib]
          · simp [e3, e1, hn, ib]
      · refine ⟨false, ?_, ?_⟩
        · simp [e3, hn, ib]
        · simp [e3, hn, ib]
  obtain ⟨d, hd, hb⟩ := key
  rw [hb]
  exact bk_39 n d hd hq
