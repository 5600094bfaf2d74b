-- PART: BITS of 64-bit numbers (own rows, after the pattern of kit/laws/BITS.to-paste's for 32 bits)
def bq (x : Int64) (i : Nat) : Bool := x.toBitVec.getLsbD i
theorem bq_ext {x y : Int64} (h : ∀ i, i < 64 → bq x i = bq y i) : x = y := Int64.toBitVec_inj.mp (BitVec.eq_of_getLsbD_eq (fun i hi => h i hi))
theorem bq_or (x y : Int64) (i : Nat) : bq (x ||| y) i = (bq x i || bq y i) := by unfold bq; rw [Int64.toBitVec_or, BitVec.getLsbD_or]
theorem bq_and (x y : Int64) (i : Nat) : bq (x &&& y) i = (bq x i && bq y i) := by unfold bq; rw [Int64.toBitVec_and, BitVec.getLsbD_and]
theorem bq_xor (x y : Int64) (i : Nat) : bq (x ^^^ y) i = (bq x i ^^ bq y i) := by unfold bq; rw [Int64.toBitVec_xor, BitVec.getLsbD_xor]
theorem bq_m1 : ∀ i, i < 64 → bq (-1) i = true := by decide +kernel
theorem bq_not (x : Int64) {i : Nat} (hi : i < 64) : bq (x ^^^ (-1)) i = !bq x i := by rw [bq_xor, bq_m1 i hi]; cases bq x i <;> rfl
theorem bq_0 (i : Nat) : bq 0 i = false := BitVec.getLsbD_zero
theorem sq_l : ∀ n, n < 64 → (((nI n).toInt64 &&& 63).toBitVec.smod 64).toNat = n := by decide +kernel
theorem sq_u : ∀ n, n < 64 → (((nI n).toInt64.toUInt64 &&& Int64.toUInt64 63).toBitVec % 64).toNat = n := by decide +kernel
theorem bq_shl (n : Nat) (hn : n < 64) (x : Int64) {i : Nat} (hi : i < 64) : bq (x <<< ((nI n).toInt64 &&& 63)) i = (decide (n ≤ i) && bq x (i - n)) := by
  unfold bq
  rw [Int64.toBitVec_shiftLeft]
  show (x.toBitVec <<< (((nI n).toInt64 &&& 63).toBitVec.smod 64).toNat).getLsbD i = _
  rw [sq_l n hn, BitVec.getLsbD_shiftLeft]
  rcases Nat.lt_or_ge i n with h | h
  · simp [h, Nat.not_le.mpr h]
  · simp [hi, h, Nat.not_lt.mpr h]
theorem bq_ushr (n : Nat) (hn : n < 64) (x : Int64) (i : Nat) : bq ((x.toUInt64 >>> ((nI n).toInt64.toUInt64 &&& Int64.toUInt64 63)).toInt64) i = bq x (n + i) := by
  show (x.toUInt64 >>> ((nI n).toInt64.toUInt64 &&& Int64.toUInt64 63)).toBitVec.getLsbD i = x.toUInt64.toBitVec.getLsbD (n + i)
  rw [UInt64.toBitVec_shiftRight]
  show (x.toUInt64.toBitVec >>> (((nI n).toInt64.toUInt64 &&& Int64.toUInt64 63).toBitVec % 64).toNat).getLsbD i = _
  rw [sq_u n hn, BitVec.getLsbD_ushiftRight]
theorem bq_sshr (n : Nat) (hn : n < 64) (x : Int64) {i : Nat} (hi : i < 64) : bq (x >>> ((nI n).toInt64 &&& 63)) i = if n + i < 64 then bq x (n + i) else bq x 63 := by
  unfold bq
  rw [Int64.toBitVec_shiftRight]
  show (x.toBitVec.sshiftRight (((nI n).toInt64 &&& 63).toBitVec.smod 64).toNat).getLsbD i = _
  rw [sq_l n hn, BitVec.getLsbD_sshiftRight, BitVec.msb_eq_getLsbD_last]
  simp [hi]
theorem bq_1 : ∀ i, i < 64 → bq 1 i = decide (i = 0) := by decide +kernel
/-- a bit as a number -/
def bn (b : Bool) : Int64 := if b then 1 else 0
theorem bn_bit (b : Bool) {i : Nat} (hi : i < 64) : bq (bn b) i = (decide (i = 0) && b) := by
  cases b
  · show bq 0 i = _; rw [bq_0]; simp
  · show bq 1 i = _; rw [bq_1 i hi]; simp
theorem bn_sshr (n : Nat) (hn : n < 64) (x : Int64) : (x >>> ((nI n).toInt64 &&& 63)) &&& 1 = bn (bq x n) := by
  refine bq_ext (fun i hi => ?_)
  rw [bq_and, bq_sshr n hn x hi, bq_1 i hi, bn_bit _ hi]
  by_cases h : i = 0
  · subst h; simp [hn]
  · simp [h]
theorem bn_ushr (n : Nat) (hn : n < 64) (x : Int64) : (x.toUInt64 >>> ((nI n).toInt64.toUInt64 &&& Int64.toUInt64 63)).toInt64 &&& 1 = bn (bq x n) := by
  refine bq_ext (fun i hi => ?_)
  rw [bq_and, bq_ushr n hn x i, bq_1 i hi, bn_bit _ hi]
  by_cases h : i = 0
  · subst h; simp
  · simp [h]
theorem bn_i (b : Bool) : (bn b).toInt32 = if b then 1 else 0 := by cases b <;> rfl
theorem bn_0 (b : Bool) : bn b = 0 ↔ b = false := by cases b <;> decide
theorem bn_1 (b : Bool) : bn b = 1 ↔ b = true := by cases b <;> decide
/-- one bit of x set to b -/
def pb (x : Int64) (j : Nat) (b : Bool) : Int64 := x &&& (((1 : Int64) <<< ((nI j).toInt64 &&& 63)) ^^^ (-1)) ||| ((if b then (1 : Int32) else 0).toInt64 <<< ((nI j).toInt64 &&& 63))
theorem pb_bit (x : Int64) {j : Nat} (hj : j < 64) (b : Bool) {i : Nat} (hi : i < 64) : bq (pb x j b) i = if i = j then b else bq x i := by
  unfold pb
  have e : (if b then (1 : Int32) else 0).toInt64 = bn b := by cases b <;> rfl
  rw [e, bq_or, bq_and, bq_not _ hi, bq_shl j hj _ hi, bq_shl j hj _ hi, bn_bit b (by omega), bq_1 (i - j) (by omega)]
  rcases Nat.lt_trichotomy i j with h | h | h
  · simp [Nat.not_le.mpr h, Nat.ne_of_lt h]
  · subst h; simp
  · have h2 : ¬ i - j = 0 := by omega
    simp [h2, Nat.ne_of_gt h]
theorem lg_eq0 (x y : Int64) : (lg_cmp x y = 0) = (x = y) := propext (lg_cmp_eq x y)
