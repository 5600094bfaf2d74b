-- PART: taken
def fo (f : Nat → Bool) : Int32 := if f 11 then 11 else if f 3 then 3 else if f 7 then 7 else if f 9 then 9 else if f 1 then 1 else if f 5 then 5 else -1
theorem fx_s (u : cs_St) (x : Int64) (n k j : Nat) (hk : k < 6) (hj : j < 64) (ho : xe_ord k = nI j) : f_X_firstInOrder_10 u x (n + 1) (nI k) = if bq x j then nI j else f_X_firstInOrder_10 u x n (nI (k + 1)) := by
  rw [f_X_firstInOrder_10, if_neg (show ¬ (6 : Int32) ≤ nI k from nI_ge (b := 6) hk (by decide))]
  dsimp only
  rw [nI_clamp (by omega), ho, bn_ushr j hj, nI_1]
  cases bq x j
  · rw [if_pos lc_00]; rfl
  · rw [if_neg lc_10]; rfl
theorem fx_e (u : cs_St) (x : Int64) : f_X_firstInOrder u x = fo (bq x) := by
  unfold f_X_firstInOrder fo
  rw [show (0 : Int32) = nI 0 from rfl, fx_s u x 6 0 11 (by decide) (by decide) rfl, fx_s u x 5 1 3 (by decide) (by decide) rfl, fx_s u x 4 2 7 (by decide) (by decide) rfl, fx_s u x 3 3 9 (by decide) (by decide) rfl, fx_s u x 2 4 1 (by decide) (by decide) rfl, fx_s u x 1 5 5 (by decide) (by decide) rfl]
  rfl
theorem fm_s (w : ms_St) (p : Int32) (n k j : Nat) (hk : k = 0 ∧ j = 11 ∨ k = 1 ∧ j = 3 ∨ k = 2 ∧ j = 7 ∨ k = 3 ∧ j = 9 ∨ k = 4 ∧ j = 1 ∨ k = 5 ∧ j = 5) (b : Bool) (hb : f_M_mayBe w (nI j) p = ib b) : f_M_first_2 w p (n + 1) (nI k) = if b then nI j else f_M_first_2 w p n (nI (k + 1)) := by
  have e : f_M_first_2 w p (n + 1) (nI k) = f_M_first_56 (f_M_first_2 w p n) w p (nI k) (nI j) := by
    rcases hk with h | h | h | h | h | h <;> (obtain ⟨h1, h2⟩ := h; subst h1; subst h2; rfl)
  rw [e]
  unfold f_M_first_56
  dsimp only
  rw [hb, nI_1]
  cases b
  · rw [if_pos (show ib false = 0 from rfl)]; rfl
  · rw [if_neg (show ¬ ib true = 0 by decide)]; rfl
theorem fm_e (w : ms_St) (p : Int32) (f : Nat → Bool) (hf : ∀ j, j < 64 → f_M_mayBe w (nI j) p = ib (f j)) : f_M_first w p = fo f := by
  unfold f_M_first fo
  rw [show f_M_first_2 w p 7 0 = _ from fm_s w p 6 0 11 (by decide) (f 11) (hf 11 (by decide)), fm_s w p 5 1 3 (by decide) (f 3) (hf 3 (by decide)), fm_s w p 4 2 7 (by decide) (f 7) (hf 7 (by decide)), fm_s w p 3 3 9 (by decide) (f 9) (hf 9 (by decide)), fm_s w p 2 4 1 (by decide) (f 1) (hf 1 (by decide)), fm_s w p 1 5 5 (by decide) (f 5) (hf 5 (by decide))]
  rfl
theorem one_b (j : Nat) (hj : j < 64) : ∀ i, i < 64 → bq ((1 : Int64) <<< ((nI j).toInt64 &&& 63)) i = decide (i = j) := by
  intro i hi
  rw [bq_shl j hj _ hi, bq_1 (i - j) (by omega)]
  by_cases e : i = j
  · subst e; simp
  · have : j ≤ i → ¬ i - j = 0 := by omega
    simpa [e] using this
theorem ip_e {u : cs_St} {w : ms_St} (hR : rr_R u w) (j : Nat) (hj : j < 64) : f_M_isPending w (nI j) = ib (bq (f_X_pending u &&& u.2 4) j) := by
  unfold f_M_isPending
  dsimp only
  rw [ps_eq hR, cl_772, ← hR.2.1.2.2.2.2.1]
  cases h : bq (f_X_pending u &&& u.2 4) j
  · rw [if_pos ((lg_cmp_eq _ _).mpr ((an_1 _ _ j hj (one_b j hj)).mpr h))]; rfl
  · rw [if_neg (fun e => by rw [(an_1 _ _ j hj (one_b j hj)).mp ((lg_cmp_eq _ _).mp e)] at h; cases h)]; rfl
theorem mb_81 {u : cs_St} {w : ms_St} (hR : rr_R u w) (j : Nat) (hj : j < 64) (p a b : Bool) : f_M_mayBe_81 w (nI j) (ib p) (ib a) (ib b) = ib (bq (f_X_pending u &&& u.2 4) j && (a == p) && b) := by
  unfold f_M_mayBe_81
  dsimp only
  rw [ip_e hR j hj]
  cases bq (f_X_pending u &&& u.2 4) j <;> cases a <;> cases p <;> cases b <;> rfl
theorem mb_e {u : cs_St} {w : ms_St} (hR : rr_R u w) (j : Nat) (hj : j < 64) (p : Bool) : f_M_mayBe w (nI j) (ib p) = ib (bq (f_X_pending u &&& u.2 4) j && (bq (u.2 3) j == p) && (if p then decide (u.1 = 0) || (decide (u.1 = 1) && bq (u.2 1) 1) else decide (u.1 < 3) || bq (u.2 1) 3)) := by
  have e : f_M_mayBe w (nI j) (ib p) = f_M_mayBe_22 w (nI j) (ib p) (ib (bq (u.2 3) j)) := by
    unfold f_M_mayBe
    dsimp only
    rw [cl_771, bn_sshr j hj, ← hR.2.1.2.2.2.1]
    cases bq (u.2 3) j
    · rw [if_neg lc_01]; rfl
    · rw [if_pos lc_11]; rfl
  have hm : w.1 2 = u.1 := hR.1.1.symm
  rw [e]
  unfold f_M_mayBe_22
  dsimp only
  rw [sb_3, sb_1, ← hR.2.1.2.1]
  simp only [hm]
  have q1 := mb_81 hR j hj p (bq (u.2 3) j) true
  have q0 := mb_81 hR j hj p (bq (u.2 3) j) false
  rw [show ib true = 1 from rfl] at q1
  rw [show ib false = 0 from rfl] at q0
  cases p
  · rw [if_pos (show ib false = 0 from rfl)]
    by_cases h3 : u.1 < 3
    · rw [if_pos h3, q1]; simp [h3]
    · rw [if_neg h3]
      cases bq (u.2 1) 3
      · rw [if_neg (show ¬ ib false = 1 by decide), q0]; simp [h3]
      · rw [if_pos (show ib true = 1 from rfl), q1]; simp
  · rw [if_neg (show ¬ ib true = 0 by decide)]
    by_cases h0 : u.1 = 0
    · rw [if_pos h0, q1]; simp [h0]
    · rw [if_neg h0]
      by_cases h1 : u.1 = 1
      · rw [if_pos h1]
        cases bq (u.2 1) 1
        · rw [if_neg (show ¬ ib false = 1 by decide), q0]; simp [h0]
        · rw [if_pos (show ib true = 1 from rfl), q1]; simp [h1]
      · rw [if_neg h1, q0]; simp [h0, h1]
theorem fo_f (f : Nat → Bool) (h : ∀ j, f j = false) : fo f = -1 := by
  unfold fo
  simp [h]
theorem fo_x {f g : Nat → Bool} (h : ∀ j, j < 64 → f j = g j) : fo f = fo g := by
  unfold fo
  rw [h 11 (by decide), h 3 (by decide), h 7 (by decide), h 9 (by decide), h 1 (by decide), h 5 (by decide)]
theorem fo_n (f : Nat → Bool) : fo f = -1 ∨ ¬ fo f < 0 ∧ ¬ fo f = -1 := by
  unfold fo
  cases f 11
  · cases f 3
    · cases f 7
      · cases f 9
        · cases f 1
          · cases f 5
            · exact Or.inl rfl
            · exact Or.inr (show ¬ (5 : Int32) < 0 ∧ ¬ (5 : Int32) = -1 by decide)
          · exact Or.inr (show ¬ (1 : Int32) < 0 ∧ ¬ (1 : Int32) = -1 by decide)
        · exact Or.inr (show ¬ (9 : Int32) < 0 ∧ ¬ (9 : Int32) = -1 by decide)
      · exact Or.inr (show ¬ (7 : Int32) < 0 ∧ ¬ (7 : Int32) = -1 by decide)
    · exact Or.inr (show ¬ (3 : Int32) < 0 ∧ ¬ (3 : Int32) = -1 by decide)
  · exact Or.inr (show ¬ (11 : Int32) < 0 ∧ ¬ (11 : Int32) = -1 by decide)
theorem pl_taken {u : cs_St} {w : ms_St} (hR : rr_R u w) : f_X_taken u = (f_M_taken w).1 ∧ rr_R u (f_M_taken w).2 := by
  have hq : rr_R u (upd w.1 0 0, w.2) := rr_thr 0 hR
  refine ⟨?_, ?_⟩
  · have m0 := fm_e (upd w.1 0 0, w.2) 0 _ (fun j hj => mb_e hq j hj false)
    have m1 := fm_e (upd w.1 0 0, w.2) 1 _ (fun j hj => mb_e hq j hj true)
    have x0 : f_M_first (upd w.1 0 0, w.2) 0 = if f_X_takesUndelegated u = 0 then -1 else f_X_firstInOrder u ((f_X_pending u &&& u.2 4) &&& (u.2 3 ^^^ (-1))) := by
      rw [m0, fx_e]
      unfold f_X_takesUndelegated
      dsimp only
      rw [hs_3]
      by_cases h3 : u.1 = 3
      · have h4 : ¬ u.1 < 3 := by rw [h3]; decide
        rw [if_pos h3]
        cases bq (u.2 1) 3
        · refine (fo_f _ (fun j => ?_)).trans ?_
          · simp [h4]
          · rfl
        · refine (fo_x (g := bq ((f_X_pending u &&& u.2 4) &&& (u.2 3 ^^^ (-1)))) (fun j hj => ?_)).trans ?_
          · rw [bq_and (f_X_pending u &&& u.2 4), bq_not _ hj]
            cases bq (u.2 3) j <;> simp
          · rfl
      · have h4 : u.1 < 3 := by
          rcases hR.1.2 with e | e | e
          · rw [e]; decide
          · rw [e]; decide
          · exact absurd e h3
        rw [if_neg h3]
        refine (fo_x (g := bq ((f_X_pending u &&& u.2 4) &&& (u.2 3 ^^^ (-1)))) (fun j hj => ?_)).trans ?_
        · rw [bq_and (f_X_pending u &&& u.2 4), bq_not _ hj]
          cases bq (u.2 3) j <;> simp [h4]
        · rfl
    have x1 : f_M_first (upd w.1 0 0, w.2) 1 = if f_X_takesDelegated u = 0 then -1 else f_X_firstInOrder u ((f_X_pending u &&& u.2 4) &&& u.2 3) := by
      rw [m1, fx_e]
      unfold f_X_takesDelegated
      dsimp only
      rw [hs_1]
      by_cases h0 : u.1 = 0
      · rw [if_pos h0]
        refine (fo_x (g := bq ((f_X_pending u &&& u.2 4) &&& u.2 3)) (fun j hj => ?_)).trans ?_
        · rw [bq_and (f_X_pending u &&& u.2 4)]
          cases bq (u.2 3) j <;> simp [h0]
        · rfl
      · rw [if_neg h0]
        by_cases h1 : u.1 = 1
        · rw [if_pos h1]
          cases bq (u.2 1) 1
          · refine (fo_f _ (fun j => ?_)).trans ?_
            · simp [h0]
            · rfl
          · refine (fo_x (g := bq ((f_X_pending u &&& u.2 4) &&& u.2 3)) (fun j hj => ?_)).trans ?_
            · rw [bq_and (f_X_pending u &&& u.2 4)]
              cases bq (u.2 3) j <;> simp [h1]
            · rfl
        · rw [if_neg h1]
          refine (fo_f _ (fun j => ?_)).trans ?_
          · simp [h0, h1]
          · rfl
    unfold f_X_taken f_M_taken
    dsimp only
    rw [x0, x1]
    unfold f_X_taken_33
    dsimp only
    by_cases t0 : f_X_takesUndelegated u = 0
    · rw [if_pos t0, if_pos t0, if_pos (show (-1 : Int32) = -1 from rfl), if_pos (show (-1 : Int32) < 0 by decide)]
    · rw [if_neg t0, if_neg t0, fx_e u (_ &&& (_ ^^^ _))]
      rcases fo_n (bq ((f_X_pending u &&& u.2 4) &&& (u.2 3 ^^^ (-1)))) with h | h
      · rw [h, if_pos (show (-1 : Int32) = -1 from rfl), if_pos (show (-1 : Int32) < 0 by decide)]
      · rw [if_neg h.2, if_neg h.1]
  · unfold f_M_taken
    dsimp only
    split <;> exact hq
