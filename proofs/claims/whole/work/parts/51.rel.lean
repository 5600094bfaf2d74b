-- PART: THE RELATION between a state of the class and one of the reference
def lb_s (g : Nat → Int32) (v : Int64) (k : Nat) : Int64 := if g k = 0 then v else v ||| ((1 : Int64) <<< ((nI k).toInt64 &&& 63))
def lb (g : Nat → Int32) : Int64 := lb_s g (lb_s g (lb_s g (lb_s g (lb_s g (lb_s g (lb_s g (lb_s g (lb_s g 0 3) 4) 5) 6) 7) 8) 9) 10) 11
theorem lb_step (u : ms_St) (n : Nat) (v : Int64) (k : Nat) (hk : k < 12) : f_M_lineBits_4 u (n + 1) v (nI k) = f_M_lineBits_4 u n (lb_s u.2.2.1 v k) (nI (k + 1)) := by
  rw [f_M_lineBits_4, if_neg (show ¬ (12 : Int32) ≤ nI k from nI_ge (b := 12) hk (by decide))]
  dsimp only
  rw [nI_clamp (by omega), nI_1]
  unfold lb_s
  split <;> rfl
theorem lb_eq (u : ms_St) : f_M_lineBits u = lb u.2.2.1 := by
  unfold f_M_lineBits
  rw [show (3 : Int32) = nI 3 from rfl, lb_step u 9 _ 3 (by decide), lb_step u 8 _ 4 (by decide), lb_step u 7 _ 5 (by decide), lb_step u 6 _ 6 (by decide), lb_step u 5 _ 7 (by decide), lb_step u 4 _ 8 (by decide), lb_step u 3 _ 9 (by decide), lb_step u 2 _ 10 (by decide), lb_step u 1 _ 11 (by decide)]
  rw [f_M_lineBits_4, if_pos (by decide)]
  rfl
def wi (x M : Int64) : Prop := ∀ i, i < 64 → bq x i = true → bq M i = true
def rr_R (u : cs_St) (w : ms_St) : Prop :=
  (u.1 = w.1 2 ∧ (u.1 = 0 ∨ u.1 = 1 ∨ u.1 = 3)) ∧
  (u.2 0 = (w.1 1).toInt64 ∧ u.2 1 = w.2.1 768 ∧ u.2 2 = w.2.1 770 ∧ u.2 3 = w.2.1 771 ∧ u.2 4 = w.2.1 772 ∧ u.2 5 = w.2.1 836 ∧ u.2 7 = w.2.1 384 ∧ u.2 8 = w.2.1 2816 ∧ u.2 9 = w.2.1 2818) ∧
  (u.2 10 = w.2.2.2 0 ∧ u.2 11 = w.2.2.2 1 ∧ u.2 12 = w.2.2.2 2) ∧
  (u.2 13 = w.2.1 773 ∧ u.2 14 = w.2.1 774 ∧ u.2 15 = w.2.1 832 ∧ u.2 16 = w.2.1 833 ∧ u.2 17 = w.2.1 834 ∧ u.2 18 = w.2.1 835) ∧
  (u.2 19 = w.2.1 261 ∧ u.2 20 = w.2.1 262 ∧ u.2 21 = w.2.1 320 ∧ u.2 22 = w.2.1 321 ∧ u.2 23 = w.2.1 322 ∧ u.2 24 = w.2.1 323) ∧
  (w.2.1 3857 = 0 ∧ w.2.1 3858 = 0 ∧ w.2.1 3859 = 0 ∧ w.2.1 3861 = 0) ∧
  (u.2 6 = lb w.2.2.1) ∧
  (wi (u.2 1) 8288682 ∧ ¬ (bq (u.2 1) 12 = true ∧ bq (u.2 1) 11 = false)) ∧
  (wi (u.2 2) (46079) ∧ wi (u.2 3) (546) ∧ wi (u.2 4) (2730) ∧ wi (u.2 5) (546) ∧ wi (u.2 13) (-3) ∧ wi (u.2 14) (7) ∧ wi (u.2 16) (-2) ∧ wi (u.2 19) (-3) ∧ wi (u.2 20) (7) ∧ wi (u.2 22) (-2))
theorem rr_thr {u : cs_St} {w : ms_St} (v : Int32) (h : rr_R u w) : rr_R u (upd w.1 0 v, w.2) := h
theorem cl_256 : (256 : Int32).toNatClampNeg = 256 := by decide
theorem cl_260 : (260 : Int32).toNatClampNeg = 260 := by decide
theorem cl_261 : (261 : Int32).toNatClampNeg = 261 := by decide
theorem cl_262 : (262 : Int32).toNatClampNeg = 262 := by decide
theorem cl_320 : (320 : Int32).toNatClampNeg = 320 := by decide
theorem cl_321 : (321 : Int32).toNatClampNeg = 321 := by decide
theorem cl_322 : (322 : Int32).toNatClampNeg = 322 := by decide
theorem cl_323 : (323 : Int32).toNatClampNeg = 323 := by decide
theorem cl_324 : (324 : Int32).toNatClampNeg = 324 := by decide
theorem cl_384 : (384 : Int32).toNatClampNeg = 384 := by decide
theorem cl_768 : (768 : Int32).toNatClampNeg = 768 := by decide
theorem cl_769 : (769 : Int32).toNatClampNeg = 769 := by decide
theorem cl_770 : (770 : Int32).toNatClampNeg = 770 := by decide
theorem cl_771 : (771 : Int32).toNatClampNeg = 771 := by decide
theorem cl_772 : (772 : Int32).toNatClampNeg = 772 := by decide
theorem cl_773 : (773 : Int32).toNatClampNeg = 773 := by decide
theorem cl_774 : (774 : Int32).toNatClampNeg = 774 := by decide
theorem cl_832 : (832 : Int32).toNatClampNeg = 832 := by decide
theorem cl_833 : (833 : Int32).toNatClampNeg = 833 := by decide
theorem cl_834 : (834 : Int32).toNatClampNeg = 834 := by decide
theorem cl_835 : (835 : Int32).toNatClampNeg = 835 := by decide
theorem cl_836 : (836 : Int32).toNatClampNeg = 836 := by decide
theorem cl_2816 : (2816 : Int32).toNatClampNeg = 2816 := by decide
theorem cl_2818 : (2818 : Int32).toNatClampNeg = 2818 := by decide
theorem cl_3857 : (3857 : Int32).toNatClampNeg = 3857 := by decide
theorem cl_3858 : (3858 : Int32).toNatClampNeg = 3858 := by decide
theorem cl_3859 : (3859 : Int32).toNatClampNeg = 3859 := by decide
theorem cl_3861 : (3861 : Int32).toNatClampNeg = 3861 := by decide
-- one bit, two bits of a masked number
theorem an_1 (x m : Int64) (k : Nat) (hk : k < 64) (hm : ∀ i, i < 64 → bq m i = decide (i = k)) : x &&& m = 0 ↔ bq x k = false := by
  constructor
  · intro h
    have h1 : bq (x &&& m) k = bq 0 k := by rw [h]
    rw [bq_and, hm k hk, bq_0] at h1
    simpa using h1
  · intro h
    refine bq_ext (fun i hi => ?_)
    rw [bq_and, hm i hi, bq_0]
    by_cases e : i = k
    · subst e; simp [h]
    · simp [e]
theorem an_2 (x m c : Int64) (j k : Nat) (cj ck : Bool) (hj : j < 64) (hk : k < 64) (hjk : j ≠ k) (hm : ∀ i, i < 64 → bq m i = (decide (i = j) || decide (i = k))) (hc : ∀ i, i < 64 → bq c i = ((decide (i = j) && cj) || (decide (i = k) && ck))) : x &&& m = c ↔ bq x j = cj ∧ bq x k = ck := by
  constructor
  · intro h
    have h1 : bq (x &&& m) j = bq c j := by rw [h]
    have h2 : bq (x &&& m) k = bq c k := by rw [h]
    rw [bq_and, hm j hj, hc j hj] at h1
    rw [bq_and, hm k hk, hc k hk] at h2
    simp [hjk] at h1
    simp [Ne.symm hjk] at h2
    exact ⟨h1, h2⟩
  · intro h
    refine bq_ext (fun i hi => ?_)
    rw [bq_and, hm i hi, hc i hi]
    by_cases e : i = j
    · subst e; simp [h.1, hjk]
    · by_cases e2 : i = k
      · subst e2; simp [h.2, e]
      · simp [e, e2]
theorem st_b (w : ms_St) (k : Nat) (hk : k < 64) : f_M_status w (nI k) = if bq (w.2.1 768) k then 1 else 0 := by
  unfold f_M_status
  dsimp only
  rw [cl_768, bn_sshr k hk, bn_i]
theorem hs_b (u : cs_St) (m : Int64) (k : Nat) (hk : k < 64) (hm : ∀ i, i < 64 → bq m i = decide (i = k)) : f_X_has u m = if bq (u.2 1) k then 1 else 0 := by
  unfold f_X_has
  dsimp only
  cases h : bq (u.2 1) k
  · rw [if_pos ((lg_cmp_eq _ _).mpr ((an_1 _ _ k hk hm).mpr h))]; rfl
  · rw [if_neg (fun e => by rw [(an_1 _ _ k hk hm).mp ((lg_cmp_eq _ _).mp e)] at h; cases h)]; rfl
theorem st_1 (w : ms_St) : f_M_status w 1 = if bq (w.2.1 768) 1 then 1 else 0 := st_b w 1 (by decide)
theorem st_3 (w : ms_St) : f_M_status w 3 = if bq (w.2.1 768) 3 then 1 else 0 := st_b w 3 (by decide)
theorem st_5 (w : ms_St) : f_M_status w 5 = if bq (w.2.1 768) 5 then 1 else 0 := st_b w 5 (by decide)
theorem st_7 (w : ms_St) : f_M_status w 7 = if bq (w.2.1 768) 7 then 1 else 0 := st_b w 7 (by decide)
theorem st_8 (w : ms_St) : f_M_status w 8 = if bq (w.2.1 768) 8 then 1 else 0 := st_b w 8 (by decide)
theorem st_11 (w : ms_St) : f_M_status w 11 = if bq (w.2.1 768) 11 then 1 else 0 := st_b w 11 (by decide)
theorem st_12 (w : ms_St) : f_M_status w 12 = if bq (w.2.1 768) 12 then 1 else 0 := st_b w 12 (by decide)
theorem st_13 (w : ms_St) : f_M_status w 13 = if bq (w.2.1 768) 13 then 1 else 0 := st_b w 13 (by decide)
theorem st_14 (w : ms_St) : f_M_status w 14 = if bq (w.2.1 768) 14 then 1 else 0 := st_b w 14 (by decide)
theorem st_17 (w : ms_St) : f_M_status w 17 = if bq (w.2.1 768) 17 then 1 else 0 := st_b w 17 (by decide)
theorem st_20 (w : ms_St) : f_M_status w 20 = if bq (w.2.1 768) 20 then 1 else 0 := st_b w 20 (by decide)
theorem st_21 (w : ms_St) : f_M_status w 21 = if bq (w.2.1 768) 21 then 1 else 0 := st_b w 21 (by decide)
theorem st_22 (w : ms_St) : f_M_status w 22 = if bq (w.2.1 768) 22 then 1 else 0 := st_b w 22 (by decide)
theorem hs_1 (u : cs_St) : f_X_has u 2 = if bq (u.2 1) 1 then 1 else 0 := hs_b u 2 1 (by decide) (by decide +kernel)
theorem hs_3 (u : cs_St) : f_X_has u 8 = if bq (u.2 1) 3 then 1 else 0 := hs_b u 8 3 (by decide) (by decide +kernel)
theorem hs_5 (u : cs_St) : f_X_has u 32 = if bq (u.2 1) 5 then 1 else 0 := hs_b u 32 5 (by decide) (by decide +kernel)
theorem hs_7 (u : cs_St) : f_X_has u 128 = if bq (u.2 1) 7 then 1 else 0 := hs_b u 128 7 (by decide) (by decide +kernel)
theorem hs_8 (u : cs_St) : f_X_has u 256 = if bq (u.2 1) 8 then 1 else 0 := hs_b u 256 8 (by decide) (by decide +kernel)
theorem hs_17 (u : cs_St) : f_X_has u 131072 = if bq (u.2 1) 17 then 1 else 0 := hs_b u 131072 17 (by decide) (by decide +kernel)
theorem hs_20 (u : cs_St) : f_X_has u 1048576 = if bq (u.2 1) 20 then 1 else 0 := hs_b u 1048576 20 (by decide) (by decide +kernel)
theorem hs_21 (u : cs_St) : f_X_has u 2097152 = if bq (u.2 1) 21 then 1 else 0 := hs_b u 2097152 21 (by decide) (by decide +kernel)
theorem hs_22 (u : cs_St) : f_X_has u 4194304 = if bq (u.2 1) 22 then 1 else 0 := hs_b u 4194304 22 (by decide) (by decide +kernel)
theorem fs_0 (x : Int64) : x &&& 24576 = 0 ↔ bq x 13 = false ∧ bq x 14 = false := an_2 x 24576 0 13 14 false false (by decide) (by decide) (by decide) (by decide +kernel) (by decide +kernel)
theorem fs_3 (x : Int64) : x &&& 24576 = 24576 ↔ bq x 13 = true ∧ bq x 14 = true := an_2 x 24576 24576 13 14 true true (by decide) (by decide) (by decide) (by decide +kernel) (by decide +kernel)
theorem mp_2 (x : Int64) : x &&& 6144 = 4096 ↔ bq x 11 = false ∧ bq x 12 = true := an_2 x 6144 4096 11 12 false true (by decide) (by decide) (by decide) (by decide +kernel) (by decide +kernel)
theorem hs_fs (u : cs_St) : f_X_has u 24576 = if bq (u.2 1) 13 || bq (u.2 1) 14 then 1 else 0 := by
  unfold f_X_has
  dsimp only
  cases h3 : bq (u.2 1) 13 <;> cases h4 : bq (u.2 1) 14
  · rw [if_pos ((lg_cmp_eq _ _).mpr ((fs_0 _).mpr ⟨h3, h4⟩))]; rfl
  all_goals
    rw [if_neg (fun e => by have := (fs_0 _).mp ((lg_cmp_eq _ _).mp e); simp [h3, h4] at this)]
    rfl
/-- the mode that MPP holds -/
def mpp (x : Int64) : Int32 := (if bq x 11 then 1 else 0) + 2 * (if bq x 12 then 1 else 0)
theorem bel_eq (w : ms_St) : f_M_below w = mpp (w.2.1 768) := by
  unfold f_M_below mpp
  dsimp only
  rw [st_11, st_12]
theorem flo_eq (w : ms_St) : f_M_floating w = (if bq (w.2.1 768) 13 then 1 else 0) + 2 * (if bq (w.2.1 768) 14 then 1 else 0) := by
  unfold f_M_floating
  dsimp only
  rw [st_13, st_14]
theorem pmm_eq (u : cs_St) : f_X_previousMachineMode u = mpp (u.2 1) := by
  unfold f_X_previousMachineMode mpp
  dsimp only
  cases h1 : bq (u.2 1) 11 <;> cases h2 : bq (u.2 1) 12
  · rw [(an_2 (u.2 1) 6144 0 11 12 false false (by decide) (by decide) (by decide) (by decide +kernel) (by decide +kernel)).mpr ⟨h1, h2⟩]; decide
  · rw [(an_2 (u.2 1) 6144 4096 11 12 false true (by decide) (by decide) (by decide) (by decide +kernel) (by decide +kernel)).mpr ⟨h1, h2⟩]; decide
  · rw [(an_2 (u.2 1) 6144 2048 11 12 true false (by decide) (by decide) (by decide) (by decide +kernel) (by decide +kernel)).mpr ⟨h1, h2⟩]; decide
  · rw [(an_2 (u.2 1) 6144 6144 11 12 true true (by decide) (by decide) (by decide) (by decide +kernel) (by decide +kernel)).mpr ⟨h1, h2⟩]; decide
