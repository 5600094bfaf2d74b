-- PART: access: is it illegal
theorem m163 (w : ms_St) (n q : Int32) (a b : Bool) : f_M_isIllegal_163 w n q (ib a) (ib b) = ib (a || b) := by cases a <;> cases b <;> rfl
def clo (m : Int32) (x y : Int64) (k : Int32) : Bool := (!decide (m = 3) && decide (x &&& ((1 : Int64) <<< (k.toInt64 &&& 63)) = 0)) || (decide (m = 0) && decide (y &&& ((1 : Int64) <<< (k.toInt64 &&& 63)) = 0))
theorem clo_c (u : cs_St) (k : Int32) : f_X_isClosed u k = ib (clo u.1 (u.2 14) (u.2 20) k) := by
  unfold f_X_isClosed f_X_isClosed_26 clo
  dsimp only
  simp only [lg_cmp_eq]
  by_cases h3 : u.1 = 3
  · have h0 : ¬ u.1 = 0 := by rw [h3]; decide
    simp [h3, ib]
  · by_cases h1 : u.2 14 &&& ((1 : Int64) <<< (k.toInt64 &&& 63)) = 0
    · simp [h3, h1, ib]
    · by_cases h0 : u.1 = 0
      · by_cases h2 : u.2 20 &&& ((1 : Int64) <<< (k.toInt64 &&& 63)) = 0
        · simp [h1, h0, h2, ib]
        · simp [h1, h0, h2, ib]
      · simp [h3, h1, h0, ib]
theorem m133 (w : ms_St) (n q : Int32) (a : Bool) (x : Int64) : f_M_isIllegal_133 w n q (ib a) x = ib (a || (decide (w.1 2 = 0) && decide (w.2.1 262 &&& x = 0))) := by
  have q1 := m163 w n q a true
  have q0 := m163 w n q a false
  rw [show ib true = 1 from rfl] at q1
  rw [show ib false = 0 from rfl] at q0
  unfold f_M_isIllegal_133
  dsimp only
  rw [cl_262, q1, q0]
  simp only [lg_cmp_eq]
  by_cases h0 : w.1 2 = 0
  · by_cases h2 : w.2.1 262 &&& x = 0
    · simp [h0, h2]
    · simp [h0, h2]
  · simp [h0]
theorem m86 (w : ms_St) (n q : Int32) (a b : Bool) (hm : w.1 2 = 0 ∨ w.1 2 = 1 ∨ w.1 2 = 3) : f_M_isIllegal_86 w n q (ib a) (ib b) = ib (a || b || (!decide (f_M_isCount w n = 0) && clo (w.1 2) (w.2.1 774) (w.2.1 262) (n - 3072))) := by
  unfold f_M_isIllegal_86 clo
  dsimp only
  have q1 := m163 w n q a true
  rw [show ib true = 1 from rfl] at q1
  have hm3 : (3 ≤ w.1 2) ↔ w.1 2 = 3 := by
    rcases hm with e | e | e <;> rw [e] <;> decide
  rw [cl_774, q1, m163, m133]
  simp only [lg_cmp_eq, hm3]
  by_cases hc : f_M_isCount w n = 0
  · simp [hc]
  · cases b
    · by_cases h3 : w.1 2 = 3
      · simp [hc, h3, ib]
      · by_cases h1 : w.2.1 774 &&& ((1 : Int64) <<< ((n - 3072).toInt64 &&& 63)) = 0
        · simp [hc, h3, h1, ib]
        · simp [hc, h3, h1, ib]
    · simp [hc, ib]
theorem m65 (w : ms_St) (n q : Int32) (a : Bool) (hm : w.1 2 = 0 ∨ w.1 2 = 1 ∨ w.1 2 = 3) : f_M_isIllegal_65 w n q (ib a) = ib (a || (!decide (n ≤ 0) && !decide (4 ≤ n) && !(bq (w.2.1 768) 13 || bq (w.2.1 768) 14)) || (!decide (f_M_isCount w n = 0) && clo (w.1 2) (w.2.1 774) (w.2.1 262) (n - 3072))) := by
  have q1 := m86 w n q a true hm
  have q0 := m86 w n q a false hm
  rw [show ib true = 1 from rfl] at q1
  rw [show ib false = 0 from rfl] at q0
  unfold f_M_isIllegal_65
  dsimp only
  rw [q1, q0, flo_eq]
  by_cases h1 : n ≤ 0
  · simp [h1]
  · by_cases h2 : 4 ≤ n
    · simp [h1, h2]
    · rw [if_neg h1, if_neg h2]
      cases bq (w.2.1 768) 13 <;> cases bq (w.2.1 768) 14 <;> simp [h1, h2]
theorem m39 (w : ms_St) (n q : Int32) (a : Bool) (hm : w.1 2 = 0 ∨ w.1 2 = 1 ∨ w.1 2 = 3) : f_M_isIllegal_39 w n q (ib a) = ib (a || (decide (n = 384) && decide (w.1 2 = 1) && bq (w.2.1 768) 20) || (!decide (n ≤ 0) && !decide (4 ≤ n) && !(bq (w.2.1 768) 13 || bq (w.2.1 768) 14)) || (!decide (f_M_isCount w n = 0) && clo (w.1 2) (w.2.1 774) (w.2.1 262) (n - 3072))) := by
  have q1 := m86 w n q a true hm
  rw [show ib true = 1 from rfl] at q1
  unfold f_M_isIllegal_39
  dsimp only
  rw [q1, m65 w n q a hm, st_20]
  by_cases h1 : n = 384
  · by_cases h2 : w.1 2 = 1
    · cases bq (w.2.1 768) 20 <;> simp [h1, h2]
    · simp [h1, h2]
  · simp [h1]
theorem mil (w : ms_St) (n q : Int32) (hm : w.1 2 = 0 ∨ w.1 2 = 1 ∨ w.1 2 = 3) : f_M_isIllegal w n q = ib ((decide (f_M_isThere w n = 0) || decide (w.1 2 < ((n >>> ((8 : Int32) &&& 31)) &&& 3)) || (!decide (q = 0) && decide ((n >>> ((10 : Int32) &&& 31)) &&& 3 = 3))) || (decide (n = 384) && decide (w.1 2 = 1) && bq (w.2.1 768) 20) || (!decide (n ≤ 0) && !decide (4 ≤ n) && !(bq (w.2.1 768) 13 || bq (w.2.1 768) 14)) || (!decide (f_M_isCount w n = 0) && clo (w.1 2) (w.2.1 774) (w.2.1 262) (n - 3072))) := by
  have q1 := m39 w n q true hm
  have q0 := m39 w n q false hm
  rw [show ib true = 1 from rfl] at q1
  rw [show ib false = 0 from rfl] at q0
  unfold f_M_isIllegal
  dsimp only
  rw [q1, q0]
  by_cases h1 : f_M_isThere w n = 0
  · simp [h1]
  · by_cases h2 : w.1 2 < ((n >>> ((8 : Int32) &&& 31)) &&& 3)
    · rw [if_neg h1, if_pos h2]
      simp only [decide_eq_true h2, Bool.or_true, Bool.true_or]
    · rw [if_neg h1, if_neg h2]
      by_cases h3 : q = 0
      · rw [if_pos h3, decide_eq_false h1, decide_eq_false h2, decide_eq_true h3]
        rfl
      · rw [if_neg h3]
        by_cases h4 : (n >>> ((10 : Int32) &&& 31)) &&& 3 = 3
        · rw [if_pos h4, decide_eq_false h3, decide_eq_true h4]
          simp only [Bool.not_false, Bool.and_self, Bool.or_true, Bool.true_or]
        · rw [if_neg h4, decide_eq_false h1, decide_eq_false h2, decide_eq_false h3, decide_eq_false h4]
          rfl
theorem x97 (u : cs_St) (n q : Int32) : f_X_isIllegal_97 u n q = ib (!decide (f_X_isOpenCount u n = 0) && clo u.1 (u.2 14) (u.2 20) (n - 3072)) := by
  unfold f_X_isIllegal_97
  dsimp only
  rw [clo_c]
  by_cases h : f_X_isOpenCount u n = 0
  · simp [h, ib]
  · cases clo u.1 (u.2 14) (u.2 20) (n - 3072) <;> simp [h, ib]
theorem x80 (u : cs_St) (n q : Int32) : f_X_isIllegal_80 u n q = ib ((!decide (f_X_isFloat u n = 0) && !(bq (u.2 1) 13 || bq (u.2 1) 14)) || (!decide (f_X_isOpenCount u n = 0) && clo u.1 (u.2 14) (u.2 20) (n - 3072))) := by
  unfold f_X_isIllegal_80
  dsimp only
  rw [x97, hs_fs]
  by_cases h : f_X_isFloat u n = 0
  · simp [h]
  · cases bq (u.2 1) 13 <;> cases bq (u.2 1) 14 <;> simp [h, ib]
theorem x55 (u : cs_St) (n q : Int32) : f_X_isIllegal_55 u n q = ib ((decide (n = 384) && decide (u.1 = 1) && bq (u.2 1) 20) || (!decide (f_X_isFloat u n = 0) && !(bq (u.2 1) 13 || bq (u.2 1) 14)) || (!decide (f_X_isOpenCount u n = 0) && clo u.1 (u.2 14) (u.2 20) (n - 3072))) := by
  unfold f_X_isIllegal_55
  dsimp only
  rw [x80, hs_20]
  by_cases h1 : n = 384
  · by_cases h2 : u.1 = 1
    · cases bq (u.2 1) 20 <;> simp [h1, h2, ib]
    · simp [h1, h2]
  · simp [h1]
theorem x38 (u : cs_St) (n q a : Int32) (b : Bool) : f_X_isIllegal_38 u n q a (ib b) = ib (decide (u.1 < a) || (!decide (q = 0) && b) || (decide (n = 384) && decide (u.1 = 1) && bq (u.2 1) 20) || (!decide (f_X_isFloat u n = 0) && !(bq (u.2 1) 13 || bq (u.2 1) 14)) || (!decide (f_X_isOpenCount u n = 0) && clo u.1 (u.2 14) (u.2 20) (n - 3072))) := by
  unfold f_X_isIllegal_38
  dsimp only
  rw [x55]
  by_cases h1 : u.1 < a
  · rw [if_pos h1, decide_eq_true h1]
    simp only [Bool.true_or]
    rfl
  · rw [if_neg h1, decide_eq_false h1]
    by_cases h2 : q = 0
    · rw [if_pos h2, decide_eq_true h2]
      rfl
    · rw [if_neg h2, decide_eq_false h2]
      cases b
      · rfl
      · simp only [Bool.not_false, Bool.and_self, Bool.or_true, Bool.true_or]
        rfl
theorem xil (u : cs_St) (n q : Int32) : f_X_isIllegal u n q = ib ((decide (f_X_isHere u n = 0) && decide (f_X_isElsewhere u n = 0)) || (decide (u.1 < ((n >>> ((8 : Int32) &&& 31)) &&& 3)) || (!decide (q = 0) && decide ((n >>> ((10 : Int32) &&& 31)) &&& 3 = 3)) || (decide (n = 384) && decide (u.1 = 1) && bq (u.2 1) 20) || (!decide (f_X_isFloat u n = 0) && !(bq (u.2 1) 13 || bq (u.2 1) 14)) || (!decide (f_X_isOpenCount u n = 0) && clo u.1 (u.2 14) (u.2 20) (n - 3072)))) := by
  have q1 := x38 u n q ((n >>> ((8 : Int32) &&& 31)) &&& 3) true
  have q0 := x38 u n q ((n >>> ((8 : Int32) &&& 31)) &&& 3) false
  rw [show ib true = 1 from rfl] at q1
  rw [show ib false = 0 from rfl] at q0
  unfold f_X_isIllegal f_X_isIllegal_22
  dsimp only
  rw [q1, q0]
  by_cases h1 : f_X_isHere u n = 0
  · by_cases h2 : f_X_isElsewhere u n = 0
    · rw [if_pos h1, if_pos h2, if_pos h1, if_pos h2, decide_eq_true h1, decide_eq_true h2]
      simp only [Bool.and_self, Bool.true_or]
      split <;> rfl
    · rw [if_pos h1, if_neg h2, if_pos h1, if_neg h2, decide_eq_false h2]
      by_cases h4 : (n >>> ((10 : Int32) &&& 31)) &&& 3 = 3
      · rw [if_pos h4, decide_eq_true h4, Bool.and_false, Bool.false_or]
      · rw [if_neg h4, decide_eq_false h4, decide_eq_true h1]; rfl
  · rw [if_neg h1, if_neg h1, decide_eq_false h1]
    by_cases h4 : (n >>> ((10 : Int32) &&& 31)) &&& 3 = 3
    · rw [if_pos h4, decide_eq_true h4, Bool.false_and, Bool.false_or]
    · rw [if_neg h4, decide_eq_false h4, Bool.false_and, Bool.false_or]
theorem il_e {u : cs_St} {w : ms_St} (n q : Int32) (hR : rr_R u w) (hs : swp n = true) : f_X_isIllegal u n q = f_M_isIllegal w n q := by
  have hm : w.1 2 = 0 ∨ w.1 2 = 1 ∨ w.1 2 = 3 := hR.1.1 ▸ hR.1.2
  rw [xil, mil w n q hm, ← hR.1.1, ← hR.2.1.2.1, ← hR.2.2.2.1.2.1, ← hR.2.2.2.2.1.2.1]
  unfold swp at hs
  simp only [Bool.and_eq_true, decide_eq_true_eq] at hs
  obtain ⟨⟨⟨⟨s1, s2⟩, s3⟩, s4⟩, s5⟩ := hs
  have t1 : decide (f_M_isThere w n = 0) = (decide (f_X_isHere u n = 0) && decide (f_X_isElsewhere u n = 0)) := by
    rw [z_th w n, z_he u n, z_el u n, s1]
    by_cases h : f_X_isHere zc n = 0
    · rw [if_pos h, decide_eq_true h, Bool.true_and]
    · rw [if_neg h, decide_eq_false h]; rfl
  have t4 : f_M_isCount w n = f_X_isOpenCount u n := by rw [z_mc w n, z_oc u n, s4]
  have t3 : (!decide (f_X_isFloat u n = 0)) = (!decide (n ≤ 0) && !decide (4 ≤ n)) := by
    rw [z_fl u n, s3]
    by_cases h1 : n ≤ 0
    · rw [if_pos h1, decide_eq_true h1]; rfl
    · rw [if_neg h1, decide_eq_false h1]
      by_cases h2 : 4 ≤ n
      · rw [if_pos h2, decide_eq_true h2]; rfl
      · rw [if_neg h2, decide_eq_false h2]; rfl
  rw [t1, t3, t4]
  simp only [Bool.or_assoc]
theorem ib_0 {b : Bool} (h : ib b = 0) : b = false := by cases b
                                                         · rfl
                                                         · exact absurd h (by decide)
theorem il_h {u : cs_St} {n q : Int32} (h : f_X_isIllegal u n q = 0) (he : f_X_isElsewhere u n = 0) : n ∈ Hl ∧ (¬ q = 0 → ¬ (n >>> ((10 : Int32) &&& 31)) &&& 3 = 3) := by
  rw [xil] at h
  have h2 := ib_0 h
  simp only [Bool.or_eq_false_iff] at h2
  obtain ⟨a, ⟨⟨⟨-, c⟩, -⟩, -⟩, -⟩ := h2
  refine ⟨?_, ?_⟩
  · rcases ih_c u n with g | g
    · rw [decide_eq_true g, decide_eq_true he] at a; cases a
    · exact g
  · intro hq hh
    rw [decide_eq_false hq, decide_eq_true hh] at c
    cases c
