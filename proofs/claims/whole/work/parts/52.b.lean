-- PART: rows about masks, about put, and about what depends on the number alone
theorem wi_0 (M : Int64) : wi 0 M := fun i _ h => by rw [bq_0] at h; cases h
theorem wi_and (v M : Int64) : wi (v &&& M) M := fun i _ h => by rw [bq_and] at h; cases hb : bq M i
                                                                 · rw [hb] at h; simp at h
                                                                 · rfl
theorem wi_thr {x M : Int64} (v : Int64) (h : wi x M) : (x &&& (M ^^^ (-1))) ||| (v &&& M) = v &&& M := by
  refine bq_ext (fun i hi => ?_)
  rw [bq_or, bq_and, bq_not _ hi, bq_and]
  have h1 := h i hi
  cases hx : bq x i <;> cases hm : bq M i <;> simp_all
theorem wi_mrg {x m M : Int64} (v : Int64) (h : wi x M) (hm : wi m M) : wi ((x &&& (m ^^^ (-1))) ||| (v &&& m)) M := by
  intro i hi h1
  rw [bq_or, bq_and, bq_not _ hi, bq_and] at h1
  have h2 := h i hi
  have h3 := hm i hi
  cases hx : bq x i <;> cases hq : bq m i <;> simp_all
theorem wi_or {x y M : Int64} (h : wi x M) (hy : wi y M) : wi (x ||| y) M := by
  intro i hi h1
  rw [bq_or] at h1
  have h2 := h i hi
  have h3 := hy i hi
  cases hx : bq x i <;> simp_all
theorem wi_al {x M : Int64} (v : Int64) (h : wi x M) : wi (x &&& v) M := by
  intro i hi h1
  rw [bq_and] at h1
  have h2 := h i hi
  cases hx : bq x i <;> simp_all
theorem wi_pb {x M : Int64} {j : Nat} (b : Bool) (h : wi x M) (hj : j < 64) (hM : bq M j = true) : wi (pb x j b) M := by
  intro i hi h1
  rw [pb_bit x hj b hi] at h1
  by_cases e : i = j
  · subst e; exact hM
  · rw [if_neg e] at h1; exact h i hi h1
theorem wi_tr {x m M : Int64} (h : wi x m) (hm : wi m M) : wi x M := fun i hi h1 => hm i hi (h i hi h1)
theorem wi_d {x M : Int64} (h : ∀ i, i < 64 → bq x i = true → bq M i = true) : wi x M := h
def ib (b : Bool) : Int32 := if b then 1 else 0
def sst (w : ms_St) (x : Int64) : ms_St := (w.1, vp_updL w.2.1 768 x, w.2.2)
theorem uu_L (f : Nat → Int64) (k : Nat) (x y : Int64) : vp_updL (vp_updL f k x) k y = vp_updL f k y := by
  funext j
  unfold vp_updL
  by_cases h : j = k
  · rw [if_pos h, if_pos h]
  · rw [if_neg h, if_neg h, if_neg h]
theorem sst_sst (w : ms_St) (x y : Int64) : sst (sst w x) y = sst w y := by unfold sst; dsimp only; rw [uu_L]
theorem sst_r (w : ms_St) (x : Int64) : (sst w x).2.1 768 = x := rfl
theorem put_b (w : ms_St) (j : Nat) (b : Bool) : f_M_put w (nI j) (ib b) = sst w (pb (w.2.1 768) j b) := by
  unfold f_M_put sst pb ib
  dsimp only
  rw [cl_768]
theorem put_1 (w : ms_St) (b : Bool) : f_M_put w 1 (ib b) = sst w (pb (w.2.1 768) 1 b) := put_b w 1 b
theorem put_3 (w : ms_St) (b : Bool) : f_M_put w 3 (ib b) = sst w (pb (w.2.1 768) 3 b) := put_b w 3 b
theorem put_5 (w : ms_St) (b : Bool) : f_M_put w 5 (ib b) = sst w (pb (w.2.1 768) 5 b) := put_b w 5 b
theorem put_7 (w : ms_St) (b : Bool) : f_M_put w 7 (ib b) = sst w (pb (w.2.1 768) 7 b) := put_b w 7 b
theorem put_8 (w : ms_St) (b : Bool) : f_M_put w 8 (ib b) = sst w (pb (w.2.1 768) 8 b) := put_b w 8 b
theorem put_11 (w : ms_St) (b : Bool) : f_M_put w 11 (ib b) = sst w (pb (w.2.1 768) 11 b) := put_b w 11 b
theorem put_12 (w : ms_St) (b : Bool) : f_M_put w 12 (ib b) = sst w (pb (w.2.1 768) 12 b) := put_b w 12 b
theorem put_13 (w : ms_St) (b : Bool) : f_M_put w 13 (ib b) = sst w (pb (w.2.1 768) 13 b) := put_b w 13 b
theorem put_14 (w : ms_St) (b : Bool) : f_M_put w 14 (ib b) = sst w (pb (w.2.1 768) 14 b) := put_b w 14 b
theorem put_17 (w : ms_St) (b : Bool) : f_M_put w 17 (ib b) = sst w (pb (w.2.1 768) 17 b) := put_b w 17 b
theorem rr_st {u : cs_St} {w : ms_St} {x y : Int64} (hR : rr_R u w) (he : x = y) (hm : wi x 8288682) (hp : ¬ (bq x 12 = true ∧ bq x 11 = false)) : rr_R (u.1, vp_updL u.2 1 x) (sst w y) := rs_1 hR he hm hp
-- the lines
theorem lb_sb (g : Nat → Int32) (v : Int64) (k : Nat) (hk : k < 64) {i : Nat} (hi : i < 64) : bq (lb_s g v k) i = (bq v i || (decide (i = k) && !decide (g k = 0))) := by
  unfold lb_s
  by_cases h : g k = 0
  · rw [if_pos h]; simp [h]
  · rw [if_neg h, bq_or, bq_shl k hk _ hi, bq_1 (i - k) (by omega)]
    by_cases e : i = k
    · subst e; simp [h]
    · have : ¬ (k ≤ i ∧ i - k = 0) := by omega
      simp [e, this]
theorem lb_bit (g : Nat → Int32) {i : Nat} (hi : i < 64) : bq (lb g) i = (decide (3 ≤ i ∧ i ≤ 11) && !decide (g i = 0)) := by
  unfold lb
  rw [lb_sb _ _ 11 (by decide) hi, lb_sb _ _ 10 (by decide) hi, lb_sb _ _ 9 (by decide) hi, lb_sb _ _ 8 (by decide) hi, lb_sb _ _ 7 (by decide) hi, lb_sb _ _ 6 (by decide) hi, lb_sb _ _ 5 (by decide) hi, lb_sb _ _ 4 (by decide) hi, lb_sb _ _ 3 (by decide) hi, bq_0]
  by_cases h : 3 ≤ i ∧ i ≤ 11
  · obtain ⟨h1, h2⟩ := h
    have : i = 3 ∨ i = 4 ∨ i = 5 ∨ i = 6 ∨ i = 7 ∨ i = 8 ∨ i = 9 ∨ i = 10 ∨ i = 11 := by omega
    rcases this with e | e | e | e | e | e | e | e | e <;> subst e <;> simp
  · have a3 : ¬ i = 3 := by omega
    have a4 : ¬ i = 4 := by omega
    have a5 : ¬ i = 5 := by omega
    have a6 : ¬ i = 6 := by omega
    have a7 : ¬ i = 7 := by omega
    have a8 : ¬ i = 8 := by omega
    have a9 : ¬ i = 9 := by omega
    have aa : ¬ i = 10 := by omega
    have ab : ¬ i = 11 := by omega
    simp [a3, a4, a5, a6, a7, a8, a9, aa, ab, h]
-- what depends on the number alone
def zc : cs_St := (0, fun _ => 0)
def zm : ms_St := (fun _ => 0, fun _ => 0, fun _ => 0, fun _ => 0)
theorem z_he (u : cs_St) (n : Int32) : f_X_isHere u n = f_X_isHere zc n := rfl
theorem z_el (u : cs_St) (n : Int32) : f_X_isElsewhere u n = f_X_isElsewhere zc n := rfl
theorem z_fl (u : cs_St) (n : Int32) : f_X_isFloat u n = f_X_isFloat zc n := rfl
theorem z_oc (u : cs_St) (n : Int32) : f_X_isOpenCount u n = f_X_isOpenCount zc n := rfl
theorem z_th (w : ms_St) (n : Int32) : f_M_isThere w n = f_M_isThere zm n := rfl
theorem z_me (w : ms_St) (n : Int32) : f_M_isElsewhere w n = f_M_isElsewhere zm n := rfl
theorem z_mc (w : ms_St) (n : Int32) : f_M_isCount w n = f_M_isCount zm n := rfl
def Hl : List Int32 := [256, 260, 261, 262, 320, 321, 322, 323, 324, 384, 768, 769, 770, 771, 772, 773, 774, 832, 833, 834, 835, 836, 2816, 2818, 3072, 3073, 3074, 3857, 3858, 3859, 3860, 3861]
theorem ite_c {c P : Prop} [Decidable c] {a b : Int32} (h1 : c → P) (h2 : b = 0 ∨ P) : (if c then a else b) = 0 ∨ P := by
  by_cases h : c
  · exact Or.inr (h1 h)
  · rw [if_neg h]; exact h2
theorem ih_c (u : cs_St) (n : Int32) : f_X_isHere u n = 0 ∨ n ∈ Hl := by
  unfold f_X_isHere
  iterate 32 refine ite_c (fun e => by subst e; decide) ?_
  exact Or.inl rfl
def swp (n : Int32) : Bool :=
  decide (f_M_isThere zm n = if f_X_isHere zc n = 0 then f_X_isElsewhere zc n else 1) &&
  decide (f_X_isElsewhere zc n = f_M_isElsewhere zm n) &&
  decide (f_X_isFloat zc n = if n ≤ 0 then 0 else if 4 ≤ n then 0 else 1) &&
  decide (f_X_isOpenCount zc n = f_M_isCount zm n) &&
  decide (f_X_isElsewhere zc n = 0 ∨ ¬ n ≤ 0)
theorem swp_a : ∀ a, a < 64 → ∀ b, b < 64 → swp (nI (64 * a + b)) = true := by decide +kernel
theorem swp_n {n : Int32} (h1 : ¬ n < 0) (h2 : n ≤ 4095) : swp n = true := by
  rw [Int32.lt_iff_toInt_lt] at h1
  rw [Int32.le_iff_toInt_le] at h2
  have e0 : (0 : Int32).toInt = 0 := by decide
  have e1 : (4095 : Int32).toInt = 4095 := by decide
  rw [e0] at h1
  rw [e1] at h2
  have e : n = nI (64 * (n.toInt.toNat / 64) + n.toInt.toNat % 64) := by
    rw [Nat.div_add_mod]
    refine Int32.toInt_inj.mp ?_
    rw [nI_toInt (by omega)]
    omega
  rw [e]
  exact swp_a _ (by omega) _ (by omega)
