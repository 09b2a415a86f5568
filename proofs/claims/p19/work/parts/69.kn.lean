/-! counting a set's members by taking the lowest away; drawing below a number -/
theorem pS_zero : ∀ (m k : Nat), pS 0 m k = 0
  | 0, _ => by rw [pS]
  | m + 1, k => by rw [pS, pS_zero m (k + 1), Nat.zero_div]
theorem pS_half (n : Nat) : ∀ (m k : Nat), pS n m (k + 1) = pS (n / 2) m k := by
  intro m
  induction m with
  | zero => intro k; rw [pS, pS]
  | succ m ih =>
    intro k
    rw [pS, pS, ih (k + 1), Nat.div_div_eq_div_mul, show (2 : Nat) * 2 ^ k = 2 ^ (k + 1) by rw [Nat.pow_succ]; omega]
theorem pS_2 (n m : Nat) : pS n (m + 1) 0 = n % 2 + pS (n / 2) m 0 := by
  rw [pS, pS_half, Nat.pow_zero, Nat.div_one]
theorem kn_and2 (a b c d : Nat) (ha : a < 2) (hc : c < 2) : (a + 2 * b) &&& (c + 2 * d) = (a &&& c) + 2 * (b &&& d) := by
  have h : (a &&& c) < 2 ^ 1 := Nat.and_lt_two_pow a hc
  apply Nat.eq_of_testBit_eq
  intro i
  rw [Nat.testBit_and, Nat.add_comm a, Nat.add_comm c, Nat.add_comm (a &&& c)]
  rw [Nat.testBit_two_pow_mul_add (i := 1) b ha, Nat.testBit_two_pow_mul_add (i := 1) d hc, Nat.testBit_two_pow_mul_add (i := 1) (b &&& d) h]
  by_cases hi : i < 1
  · rw [if_pos hi, if_pos hi, if_pos hi, Nat.testBit_and]
  · rw [if_neg hi, if_neg hi, if_neg hi, Nat.testBit_and]
theorem kn_odd (q : Nat) : (1 + 2 * q) &&& (1 + 2 * q - 1) = 0 + 2 * q := by
  rw [show 1 + 2 * q - 1 = 0 + 2 * q by omega, kn_and2 1 q 0 q (by omega) (by omega), Nat.and_zero, Nat.and_self]
theorem kn_even (q : Nat) (h : 0 < q) : (0 + 2 * q) &&& (0 + 2 * q - 1) = 0 + 2 * (q &&& (q - 1)) := by
  rw [show 0 + 2 * q - 1 = 1 + 2 * (q - 1) by omega, kn_and2 0 q 1 (q - 1) (by omega) (by omega), Nat.zero_and]
theorem kn_S : ∀ (m a : Nat), 0 < a → a < 2 ^ m → pS (a &&& (a - 1)) m 0 + 1 = pS a m 0 := by
  intro m
  induction m with
  | zero => intro a h1 h2; omega
  | succ m ih =>
    intro a h1 h2
    rw [Nat.pow_succ] at h2
    rcases (show (∃ q, a = 0 + 2 * q) ∨ ∃ q, a = 1 + 2 * q from by
      rcases Nat.mod_two_eq_zero_or_one a with h | h
      · exact Or.inl ⟨a / 2, by omega⟩
      · exact Or.inr ⟨a / 2, by omega⟩) with ⟨q, rfl⟩ | ⟨q, rfl⟩
    · have hq : 0 < q := by omega
      rw [kn_even q hq, pS_2, pS_2, show (0 + 2 * (q &&& (q - 1))) % 2 = 0 by omega, show (0 + 2 * (q &&& (q - 1))) / 2 = q &&& (q - 1) by omega, show (0 + 2 * q) % 2 = 0 by omega, show (0 + 2 * q) / 2 = q by omega]
      have := ih q hq (by omega)
      omega
    · rw [kn_odd, pS_2, pS_2, show (0 + 2 * q) % 2 = 0 by omega, show (0 + 2 * q) / 2 = q by omega, show (1 + 2 * q) % 2 = 1 by omega, show (1 + 2 * q) / 2 = q by omega]
      omega
theorem kn_pS {a : Nat} (h0 : 0 < a) (h : a < 2 ^ 25) : pS (a &&& (a - 1)) 25 0 + 1 = pS a 25 0 := kn_S 25 a h0 h
theorem kn_lt {a : Nat} (h : 0 < a) : a &&& (a - 1) < a := Nat.lt_of_le_of_lt Nat.and_le_right (by omega)
theorem kn_I {a : Nat} (h : 0 < a) : nI a &&& (nI a - 1) = nI (a &&& (a - 1)) := by
  rw [show (1 : Int32) = nI 1 from rfl, pk_sub h, nx_and]
theorem kn_nat (x : Int32) : ∃ n : Nat, n < 2 ^ 32 ∧ x = nI n := by
  refine ⟨x.toBitVec.toNat, x.toBitVec.isLt, ?_⟩
  apply Int32.toBitVec_inj.mp
  show _ = (Int32.ofNat _).toBitVec
  rw [Int32.toBitVec_ofNat']
  apply BitVec.eq_of_toNat_eq
  simp [BitVec.toNat_ofNat]
theorem lg_cmp_self (x : Int64) : lg_cmp x x = 0 := by
  unfold lg_cmp
  rw [if_neg (fun h => Int64.lt_irrefl h), if_pos rfl]
