-- PART: what a register shows
theorem ss_z (w : ms_St) (p : Int32) : ∀ (n : Nat) (x : Int64) (y : Int32), f_M_statusSeen_4 w p n x y = f_M_statusSeen_4 zm p n x y := by
  intro n
  induction n with
  | zero => intro x y; rfl
  | succ n ih =>
    intro x y
    have hf : f_M_statusSeen_4 w p n = f_M_statusSeen_4 zm p n := funext (fun a => funext (fun b => ih a b))
    rw [f_M_statusSeen_4, f_M_statusSeen_4, hf]
    rfl
theorem ss_0 (w : ms_St) : f_M_statusSeen w 0 = 811298 := by
  unfold f_M_statusSeen
  rw [ss_z]
  decide +kernel
theorem ss_1 (w : ms_St) : f_M_statusSeen w 1 = 8288682 := by
  unfold f_M_statusSeen
  rw [ss_z]
  decide +kernel
theorem k_10 : ∀ i, i < 64 → bq 42949672960 i = (decide (i = 33) || decide (i = 35)) := by decide +kernel
theorem k_33 : ∀ i, i < 64 → bq 8589934592 i = decide (i = 33) := by decide +kernel
theorem k_63 : ∀ i, i < 64 → bq (-9223372036854775808) i = decide (i = 63) := by decide +kernel
theorem k_sm : ∀ i, i < 64 → bq (-9223372028264029918) i = (bq 811298 i || decide (i = 33) || decide (i = 63)) := by decide +kernel
theorem k_63n : bq 811298 63 = false ∧ bq 811298 33 = false ∧ bq 811298 35 = false := by decide +kernel
theorem or_0 (x : Int64) : x ||| 0 = x := bq_ext (fun i _ => by rw [bq_or, bq_0]; simp)
theorem ns_b {x : Int64} (h : wi x 8288682) (i : Nat) (hi : i < 64) (hn : bq 8288682 i = false) : bq x i = false := by
  cases hb : bq x i
  · rfl
  · have := h i hi hb; rw [hn] at this; cases this
theorem shs (x : Int64) (h : wi x 8288682) : (x ||| 42949672960) &&& (-9223372028264029918) = (x &&& 811298) ||| 8589934592 := by
  have h33 := ns_b h 33 (by decide) (by decide +kernel)
  have h35 := ns_b h 35 (by decide) (by decide +kernel)
  have h63 := ns_b h 63 (by decide) (by decide +kernel)
  have k := k_63n
  refine bq_ext (fun i hi => ?_)
  rw [bq_and, bq_or, bq_or, bq_and, k_10 i hi, k_33 i hi, k_sm i hi]
  by_cases a : i = 33
  · subst a; simp
  · by_cases b : i = 35
    · subst b; simp [h35, k]
    · by_cases c : i = 63
      · subst c; simp [h63]
      · simp [a, b, c]
theorem shs1 (x : Int64) (h : wi x 8288682) : ((x ||| 42949672960) ||| (-9223372036854775808)) &&& (-9223372028264029918) = ((x &&& 811298) ||| 8589934592) ||| (-9223372036854775808) := by
  rw [← shs x h]
  refine bq_ext (fun i hi => ?_)
  simp only [bq_and, bq_or, k_63 i hi, k_sm i hi]
  by_cases c : i = 63
  · subst c; simp
  · simp [c]
theorem sx_st (u : cs_St) : f_X_shownStatus u = if bq (u.2 1) 13 && bq (u.2 1) 14 then (u.2 1 ||| 42949672960) ||| (-9223372036854775808) else u.2 1 ||| 42949672960 := by
  unfold f_X_shownStatus
  dsimp only
  cases h3 : bq (u.2 1) 13 <;> cases h4 : bq (u.2 1) 14
  · rw [if_neg (fun e => by have := (fs_3 _).mp ((lg_cmp_eq _ _).mp e); simp [h3, h4] at this)]; rfl
  · rw [if_neg (fun e => by have := (fs_3 _).mp ((lg_cmp_eq _ _).mp e); simp [h3, h4] at this)]; rfl
  · rw [if_neg (fun e => by have := (fs_3 _).mp ((lg_cmp_eq _ _).mp e); simp [h3, h4] at this)]; rfl
  · rw [if_pos ((lg_cmp_eq _ _).mpr ((fs_3 _).mpr ⟨h3, h4⟩))]; rfl
theorem sm_fl (w : ms_St) (n : Int32) : f_M_shown w n = f_M_shown_15 w n (if bq (w.2.1 768) 13 && bq (w.2.1 768) 14 then (-9223372036854775808) else 0) := by
  unfold f_M_shown
  dsimp only
  rw [flo_eq]
  cases bq (w.2.1 768) 13 <;> cases bq (w.2.1 768) 14 <;> rfl
theorem sm_256 {u : cs_St} {w : ms_St} (hR : rr_R u w) : f_X_shown u 256 = f_M_shown w 256 := by
  rw [sm_fl, ← hR.2.1.2.1]
  show f_X_shownStatus u &&& (-9223372028264029918) = (w.2.1 (768 : Int32).toNatClampNeg &&& f_M_statusSeen w 0 ||| 8589934592) ||| _
  rw [sx_st, ss_0, cl_768, ← hR.2.1.2.1]
  cases bq (u.2 1) 13 <;> cases bq (u.2 1) 14
  · exact (shs _ hR.2.2.2.2.2.2.2.1.1).trans (or_0 _).symm
  · exact (shs _ hR.2.2.2.2.2.2.2.1.1).trans (or_0 _).symm
  · exact (shs _ hR.2.2.2.2.2.2.2.1.1).trans (or_0 _).symm
  · exact shs1 _ hR.2.2.2.2.2.2.2.1.1
theorem sm_768 {u : cs_St} {w : ms_St} (hR : rr_R u w) : f_X_shown u 768 = f_M_shown w 768 := by
  rw [sm_fl, ← hR.2.1.2.1]
  show f_X_shownStatus u = (w.2.1 (768 : Int32).toNatClampNeg ||| 42949672960) ||| _
  rw [sx_st, cl_768, ← hR.2.1.2.1]
  cases bq (u.2 1) 13 <;> cases bq (u.2 1) 14
  · exact (or_0 _).symm
  · exact (or_0 _).symm
  · exact (or_0 _).symm
  · rfl
theorem sm_260 {u : cs_St} {w : ms_St} (hR : rr_R u w) : f_X_shown u 260 = f_M_shown w 260 := by
  rw [sm_fl]
  show u.2 4 &&& u.2 3 = w.2.1 (772 : Int32).toNatClampNeg &&& w.2.1 (771 : Int32).toNatClampNeg
  rw [cl_772, cl_771, hR.2.1.2.2.2.2.1, hR.2.1.2.2.2.1]
theorem sm_324 {u : cs_St} {w : ms_St} (hR : rr_R u w) : f_X_shown u 324 = f_M_shown w 324 := by
  rw [sm_fl]
  show (u.2 5 ||| u.2 6) &&& u.2 3 = (w.2.1 (836 : Int32).toNatClampNeg ||| f_M_lineBits w) &&& w.2.1 (771 : Int32).toNatClampNeg
  rw [cl_836, cl_771, lb_eq, hR.2.1.2.2.2.2.2.1, hR.2.2.2.2.2.2.1, hR.2.1.2.2.2.1]
theorem sm_836 {u : cs_St} {w : ms_St} (hR : rr_R u w) : f_X_shown u 836 = f_M_shown w 836 := (ps_eq hR).symm
theorem sm_769 (u : cs_St) (w : ms_St) : f_X_shown u 769 = f_M_shown w 769 := by
  rw [sm_fl]
  rfl
theorem sm_770 {u : cs_St} {w : ms_St} (hR : rr_R u w) : f_X_shown u 770 = f_M_shown w 770 := by
  rw [sm_fl]
  show u.2 2 = w.2.1 (770 : Int32).toNatClampNeg
  rw [cl_770]
  exact hR.2.1.2.2.1
theorem sm_771 {u : cs_St} {w : ms_St} (hR : rr_R u w) : f_X_shown u 771 = f_M_shown w 771 := by
  rw [sm_fl]
  show u.2 3 = w.2.1 (771 : Int32).toNatClampNeg
  rw [cl_771]
  exact hR.2.1.2.2.2.1
theorem sm_772 {u : cs_St} {w : ms_St} (hR : rr_R u w) : f_X_shown u 772 = f_M_shown w 772 := by
  rw [sm_fl]
  show u.2 4 = w.2.1 (772 : Int32).toNatClampNeg
  rw [cl_772]
  exact hR.2.1.2.2.2.2.1
theorem sm_384 {u : cs_St} {w : ms_St} (hR : rr_R u w) : f_X_shown u 384 = f_M_shown w 384 := by
  rw [sm_fl]
  show u.2 7 = w.2.1 (384 : Int32).toNatClampNeg
  rw [cl_384]
  exact hR.2.1.2.2.2.2.2.2.1
theorem sm_2816 {u : cs_St} {w : ms_St} (hR : rr_R u w) : f_X_shown u 2816 = f_M_shown w 2816 := by
  rw [sm_fl]
  show u.2 8 = w.2.1 (2816 : Int32).toNatClampNeg
  rw [cl_2816]
  exact hR.2.1.2.2.2.2.2.2.2.1
theorem sm_2818 {u : cs_St} {w : ms_St} (hR : rr_R u w) : f_X_shown u 2818 = f_M_shown w 2818 := by
  rw [sm_fl]
  show u.2 9 = w.2.1 (2818 : Int32).toNatClampNeg
  rw [cl_2818]
  exact hR.2.1.2.2.2.2.2.2.2.2
theorem sm_773 {u : cs_St} {w : ms_St} (hR : rr_R u w) : f_X_shown u 773 = f_M_shown w 773 := by
  rw [sm_fl]
  show u.2 13 = w.2.1 (773 : Int32).toNatClampNeg
  rw [cl_773]
  exact hR.2.2.2.1.1
theorem sm_774 {u : cs_St} {w : ms_St} (hR : rr_R u w) : f_X_shown u 774 = f_M_shown w 774 := by
  rw [sm_fl]
  show u.2 14 = w.2.1 (774 : Int32).toNatClampNeg
  rw [cl_774]
  exact hR.2.2.2.1.2.1
theorem sm_832 {u : cs_St} {w : ms_St} (hR : rr_R u w) : f_X_shown u 832 = f_M_shown w 832 := by
  rw [sm_fl]
  show u.2 15 = w.2.1 (832 : Int32).toNatClampNeg
  rw [cl_832]
  exact hR.2.2.2.1.2.2.1
theorem sm_833 {u : cs_St} {w : ms_St} (hR : rr_R u w) : f_X_shown u 833 = f_M_shown w 833 := by
  rw [sm_fl]
  show u.2 16 = w.2.1 (833 : Int32).toNatClampNeg
  rw [cl_833]
  exact hR.2.2.2.1.2.2.2.1
theorem sm_834 {u : cs_St} {w : ms_St} (hR : rr_R u w) : f_X_shown u 834 = f_M_shown w 834 := by
  rw [sm_fl]
  show u.2 17 = w.2.1 (834 : Int32).toNatClampNeg
  rw [cl_834]
  exact hR.2.2.2.1.2.2.2.2.1
theorem sm_835 {u : cs_St} {w : ms_St} (hR : rr_R u w) : f_X_shown u 835 = f_M_shown w 835 := by
  rw [sm_fl]
  show u.2 18 = w.2.1 (835 : Int32).toNatClampNeg
  rw [cl_835]
  exact hR.2.2.2.1.2.2.2.2.2
theorem sm_261 {u : cs_St} {w : ms_St} (hR : rr_R u w) : f_X_shown u 261 = f_M_shown w 261 := by
  rw [sm_fl]
  show u.2 19 = w.2.1 (261 : Int32).toNatClampNeg
  rw [cl_261]
  exact hR.2.2.2.2.1.1
theorem sm_262 {u : cs_St} {w : ms_St} (hR : rr_R u w) : f_X_shown u 262 = f_M_shown w 262 := by
  rw [sm_fl]
  show u.2 20 = w.2.1 (262 : Int32).toNatClampNeg
  rw [cl_262]
  exact hR.2.2.2.2.1.2.1
theorem sm_320 {u : cs_St} {w : ms_St} (hR : rr_R u w) : f_X_shown u 320 = f_M_shown w 320 := by
  rw [sm_fl]
  show u.2 21 = w.2.1 (320 : Int32).toNatClampNeg
  rw [cl_320]
  exact hR.2.2.2.2.1.2.2.1
theorem sm_321 {u : cs_St} {w : ms_St} (hR : rr_R u w) : f_X_shown u 321 = f_M_shown w 321 := by
  rw [sm_fl]
  show u.2 22 = w.2.1 (321 : Int32).toNatClampNeg
  rw [cl_321]
  exact hR.2.2.2.2.1.2.2.2.1
theorem sm_322 {u : cs_St} {w : ms_St} (hR : rr_R u w) : f_X_shown u 322 = f_M_shown w 322 := by
  rw [sm_fl]
  show u.2 23 = w.2.1 (322 : Int32).toNatClampNeg
  rw [cl_322]
  exact hR.2.2.2.2.1.2.2.2.2.1
theorem sm_323 {u : cs_St} {w : ms_St} (hR : rr_R u w) : f_X_shown u 323 = f_M_shown w 323 := by
  rw [sm_fl]
  show u.2 24 = w.2.1 (323 : Int32).toNatClampNeg
  rw [cl_323]
  exact hR.2.2.2.2.1.2.2.2.2.2
theorem sm_3072 {u : cs_St} {w : ms_St} (hR : rr_R u w) : f_X_shown u 3072 = f_M_shown w 3072 := by
  rw [sm_fl]
  show u.2 8 = w.2.1 (2816 : Int32).toNatClampNeg
  rw [cl_2816]
  exact hR.2.1.2.2.2.2.2.2.2.1
theorem sm_3074 {u : cs_St} {w : ms_St} (hR : rr_R u w) : f_X_shown u 3074 = f_M_shown w 3074 := by
  rw [sm_fl]
  show u.2 9 = w.2.1 (2818 : Int32).toNatClampNeg
  rw [cl_2818]
  exact hR.2.1.2.2.2.2.2.2.2.2
theorem sm_3073 {u : cs_St} {w : ms_St} (hR : rr_R u w) : f_X_shown u 3073 = f_M_shown w 3073 := by
  rw [sm_fl]
  show u.2 10 = w.2.2.2 0
  exact hR.2.2.1.1
theorem sm_3860 {u : cs_St} {w : ms_St} (hR : rr_R u w) : f_X_shown u 3860 = f_M_shown w 3860 := by
  rw [sm_fl]
  show u.2 0 = (w.1 1).toInt64
  exact hR.2.1.1
theorem sm_3857 {u : cs_St} {w : ms_St} (hR : rr_R u w) : f_X_shown u 3857 = f_M_shown w 3857 := by
  rw [sm_fl]
  show 0 = w.2.1 (3857 : Int32).toNatClampNeg
  rw [cl_3857]
  exact hR.2.2.2.2.2.1.1.symm
theorem sm_3858 {u : cs_St} {w : ms_St} (hR : rr_R u w) : f_X_shown u 3858 = f_M_shown w 3858 := by
  rw [sm_fl]
  show 0 = w.2.1 (3858 : Int32).toNatClampNeg
  rw [cl_3858]
  exact hR.2.2.2.2.2.1.2.1.symm
theorem sm_3859 {u : cs_St} {w : ms_St} (hR : rr_R u w) : f_X_shown u 3859 = f_M_shown w 3859 := by
  rw [sm_fl]
  show 0 = w.2.1 (3859 : Int32).toNatClampNeg
  rw [cl_3859]
  exact hR.2.2.2.2.2.1.2.2.1.symm
theorem sm_3861 {u : cs_St} {w : ms_St} (hR : rr_R u w) : f_X_shown u 3861 = f_M_shown w 3861 := by
  rw [sm_fl]
  show 0 = w.2.1 (3861 : Int32).toNatClampNeg
  rw [cl_3861]
  exact hR.2.2.2.2.2.1.2.2.2.symm
theorem sm_Hl {u : cs_St} {w : ms_St} {n : Int32} (hR : rr_R u w) (hn : n ∈ Hl) : f_X_shown u n = f_M_shown w n := by
  simp only [Hl, List.mem_cons, List.not_mem_nil, or_false] at hn
  rcases hn with e | e | e | e | e | e | e | e | e | e | e | e | e | e | e | e | e | e | e | e | e | e | e | e | e | e | e | e | e | e | e | e <;> subst e
  · exact sm_256 hR
  · exact sm_260 hR
  · exact sm_261 hR
  · exact sm_262 hR
  · exact sm_320 hR
  · exact sm_321 hR
  · exact sm_322 hR
  · exact sm_323 hR
  · exact sm_324 hR
  · exact sm_384 hR
  · exact sm_768 hR
  · exact sm_769 u w
  · exact sm_770 hR
  · exact sm_771 hR
  · exact sm_772 hR
  · exact sm_773 hR
  · exact sm_774 hR
  · exact sm_832 hR
  · exact sm_833 hR
  · exact sm_834 hR
  · exact sm_835 hR
  · exact sm_836 hR
  · exact sm_2816 hR
  · exact sm_2818 hR
  · exact sm_3072 hR
  · exact sm_3073 hR
  · exact sm_3074 hR
  · exact sm_3857 hR
  · exact sm_3858 hR
  · exact sm_3859 hR
  · exact sm_3860 hR
  · exact sm_3861 hR
theorem nk (k : Int32) (hk : ¬ f_X_isHere zc k = 0) {n : Int32} (h : f_X_isHere zc n = 0) : ¬ n = k := fun e => hk (e ▸ h)
theorem sh_no (u : cs_St) (n : Int32) (h : f_X_isHere u n = 0) : f_X_shown u n = 0 := by
  have h0 : f_X_isHere zc n = 0 := h
  unfold f_X_shown
  rw [if_neg (nk 256 (by decide) h0), if_neg (nk 260 (by decide) h0), if_neg (nk 261 (by decide) h0), if_neg (nk 262 (by decide) h0), if_neg (nk 320 (by decide) h0), if_neg (nk 321 (by decide) h0), if_neg (nk 322 (by decide) h0), if_neg (nk 323 (by decide) h0), if_neg (nk 324 (by decide) h0), if_neg (nk 384 (by decide) h0), if_neg (nk 768 (by decide) h0), if_neg (nk 769 (by decide) h0), if_neg (nk 770 (by decide) h0), if_neg (nk 771 (by decide) h0), if_neg (nk 772 (by decide) h0), if_neg (nk 773 (by decide) h0), if_neg (nk 774 (by decide) h0), if_neg (nk 832 (by decide) h0), if_neg (nk 833 (by decide) h0), if_neg (nk 834 (by decide) h0), if_neg (nk 835 (by decide) h0), if_neg (nk 836 (by decide) h0), if_neg (nk 2816 (by decide) h0), if_neg (nk 2818 (by decide) h0), if_neg (nk 3072 (by decide) h0), if_neg (nk 3073 (by decide) h0), if_neg (nk 3074 (by decide) h0), if_neg (nk 3860 (by decide) h0)]
theorem sm_no (w : ms_St) (n : Int32) (y : Int64) (h0 : f_X_isHere zc n = 0) : f_M_shown_15 w n y = if f_M_isThere w n = 0 then 0 else if f_M_isElsewhere w n = 0 then w.2.1 n.toNatClampNeg else 0 := by
  unfold f_M_shown_15
  rw [if_neg (nk 256 (by decide) h0), if_neg (nk 260 (by decide) h0), if_neg (nk 324 (by decide) h0), if_neg (nk 768 (by decide) h0), if_neg (nk 769 (by decide) h0), if_neg (nk 836 (by decide) h0), if_neg (nk 3072 (by decide) h0), if_neg (nk 3073 (by decide) h0), if_neg (nk 3074 (by decide) h0), if_neg (nk 3860 (by decide) h0)]
theorem sh_e {u : cs_St} {w : ms_St} {n : Int32} (hR : rr_R u w) (hs : swp n = true) : f_X_shown u n = f_M_shown w n := by
  rcases ih_c u n with h | h
  · rw [sh_no u n h]
    unfold swp at hs
    simp only [Bool.and_eq_true, decide_eq_true_eq] at hs
    obtain ⟨⟨⟨⟨s1, s2⟩, -⟩, -⟩, -⟩ := hs
    have h0 : f_X_isHere zc n = 0 := h
    rw [if_pos h0] at s1
    rw [sm_fl, sm_no w n _ h0]
    rw [z_th w n, z_me w n, ← s2, s1]
    by_cases he : f_X_isElsewhere zc n = 0
    · rw [if_pos he]
    · rw [if_neg he, if_neg he]
  · exact sm_Hl hR h
theorem Hl_in : ∀ k, k ∈ Hl → ¬ k < 0 ∧ k ≤ 4095 := by decide
theorem pl_peek {u : cs_St} {w : ms_St} (n : Int32) (hR : rr_R u w) : f_X_peek u n = (f_M_peek w n).1 ∧ rr_R u (f_M_peek w n).2 := by
  unfold f_M_peek f_X_peek
  dsimp only
  by_cases h1 : n < 0
  · rw [if_pos h1]
    rcases ih_c u n with h | h
    · exact ⟨sh_no u n h, rr_thr 0 hR⟩
    · exact absurd h1 (Hl_in n h).1
  · rw [if_neg h1]
    by_cases h2 : n ≤ 4095
    · rw [if_pos h2]
      exact ⟨sh_e (rr_thr 0 hR) (swp_n h1 h2), rr_thr 0 hR⟩
    · rw [if_neg h2]
      rcases ih_c u n with h | h
      · exact ⟨sh_no u n h, rr_thr 0 hR⟩
      · exact absurd (Hl_in n h).2 h2
