/-! bits of cells -/
theorem x_b1 : ∀ i, i < 32 → bt 1 i = decide (i = 0) := by decide +kernel
theorem x_one {n i : Nat} (hn : n < 32) (hi : i < 32) : bt ((1 : Int32) <<< (nI n &&& 31)) i = decide (i = n) := by
  rw [b_shl n hn 1 hi, x_b1 _ (by omega)]
  by_cases h : i = n
  · subst h; simp
  · by_cases h2 : n ≤ i
    · have : ¬ i - n = 0 := by omega
      simp [h, this]
    · simp [h, h2]
theorem x_bit1 (a : Int32) {n : Nat} (hn : n < 32) : ((a >>> (nI n &&& 31)) &&& 1) = if bt a n = true then 1 else 0 := by
  apply b_ext
  intro i hi
  rw [b_and, b_sshr n hn a hi, x_b1 i hi]
  by_cases h0 : i = 0
  · subst h0
    rw [if_pos (by omega)]
    cases h : bt a n
    · simp [h]; rfl
    · simp [h]; rfl
  · have e0 : ∀ j, j < 32 → bt 0 j = false := by decide +kernel
    cases h : bt a n
    · simp [h0, e0 i hi]
    · simp [h0, x_b1 i hi]
theorem x_isInN (a : Int32) {n : Nat} (hn : n < 32) : fX4_isIn a (nI n) = bt a n := by
  unfold fX4_isIn
  rw [x_bit1 a hn]
  cases h : bt a n <;> rfl
