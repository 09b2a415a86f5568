/-! the library's count of bits is the reference's, on sets of cells -/
theorem y_land (a b c d : Nat) (ha : a < 256) (hc : c < 256) : (a + 256 * b) &&& (c + 256 * d) = (a &&& c) + 256 * (b &&& d) := by
  have h : (a &&& c) < 2 ^ 8 := Nat.and_lt_two_pow a hc
  apply Nat.eq_of_testBit_eq
  intro i
  rw [Nat.testBit_and, Nat.add_comm a, Nat.add_comm c, Nat.add_comm (a &&& c)]
  rw [Nat.testBit_two_pow_mul_add (i := 8) b ha, Nat.testBit_two_pow_mul_add (i := 8) d hc, Nat.testBit_two_pow_mul_add (i := 8) (b &&& d) h]
  by_cases hi : i < 8
  · rw [if_pos hi, if_pos hi, if_pos hi, Nat.testBit_and]
  · rw [if_neg hi, if_neg hi, if_neg hi, Nat.testBit_and]
def uz1 (M n : Nat) : Nat := n - ((n / 2) &&& M)
def uz2 (M n : Nat) : Nat := (n &&& M) + ((n / 4) &&& M)
def uz3 (M n : Nat) : Nat := (n + n / 16) &&& M
theorem y_d1 : ∀ x : Fin 128, ∀ e : Fin 2, (x.val + 128 * e.val) &&& 85 = x.val &&& 85 := by decide +kernel
theorem y_d2 : ∀ x : Fin 64, ∀ e : Fin 4, (x.val + 64 * e.val) &&& 51 = x.val &&& 51 := by decide +kernel
theorem y_d3 (x e : Nat) : (x + 16 * e) &&& 15 = x &&& 15 := by
  rw [show (15 : Nat) = 2 ^ 4 - 1 from rfl, Nat.and_two_pow_sub_one_eq_mod, Nat.and_two_pow_sub_one_eq_mod]
  omega
theorem y_u1 (a b M : Nat) (ha : a < 256) : uz1 (85 + 256 * M) (a + 256 * b) = uz1 85 a + 256 * uz1 M b := by
  unfold uz1
  have e : (a + 256 * b) / 2 = (a / 2 + 128 * (b % 2)) + 256 * (b / 2) := by omega
  have e2 : (a / 2 + 128 * (b % 2)) &&& 85 = (a / 2) &&& 85 := y_d1 ⟨a / 2, by omega⟩ ⟨b % 2, by omega⟩
  rw [e, y_land _ _ _ _ (by omega) (by omega), e2]
  have h1 : ((a / 2) &&& 85) ≤ a / 2 := Nat.and_le_left
  have h2 : ((b / 2) &&& M) ≤ b / 2 := Nat.and_le_left
  generalize (a / 2) &&& 85 = p at *
  generalize (b / 2) &&& M = q at *
  omega
theorem y_u2 (a b M : Nat) (ha : a < 256) : uz2 (51 + 256 * M) (a + 256 * b) = uz2 51 a + 256 * uz2 M b := by
  unfold uz2
  have e : (a + 256 * b) / 4 = (a / 4 + 64 * (b % 4)) + 256 * (b / 4) := by omega
  have e2 : (a / 4 + 64 * (b % 4)) &&& 51 = (a / 4) &&& 51 := y_d2 ⟨a / 4, by omega⟩ ⟨b % 4, by omega⟩
  rw [e, y_land _ _ _ _ ha (by omega), y_land _ _ _ _ (by omega) (by omega), e2]
  generalize (a / 4) &&& 51 = p
  generalize (b / 4) &&& M = q
  generalize a &&& 51 = p2
  generalize b &&& M = q2
  omega
theorem y_u3 (a b M : Nat) (ha : a ≤ 68) (hb : b % 16 ≤ 4) : uz3 (15 + 256 * M) (a + 256 * b) = uz3 15 a + 256 * uz3 M b := by
  unfold uz3
  have e : (a + 256 * b) + (a + 256 * b) / 16 = ((a + a / 16) + 16 * (b % 16)) + 256 * (b + b / 16) := by omega
  rw [e, y_land _ _ _ _ (by omega) (by omega), y_d3]
def pS (n : Nat) : Nat → Nat → Nat
  | 0, _ => 0
  | m + 1, k => n / 2 ^ k % 2 + pS n m (k + 1)
theorem y_byte : ∀ a : Fin 256, uz1 85 a.val < 256 ∧ uz2 51 (uz1 85 a.val) ≤ 68 ∧ uz2 51 (uz1 85 a.val) % 16 ≤ 4 ∧ uz3 15 (uz2 51 (uz1 85 a.val)) = pS a.val 8 0 ∧ pS a.val 8 0 ≤ 8 := by decide +kernel
theorem y_byte1 : ∀ a : Fin 2, pS a.val 8 0 = pS a.val 1 0 := by decide +kernel
theorem pS_add (n : Nat) : ∀ (j m k : Nat), pS n (j + m) k = pS n j k + pS n m (k + j) := by
  intro j
  induction j with
  | zero => intro m k; rw [Nat.zero_add, Nat.add_zero, pS, Nat.zero_add]
  | succ j ih =>
    intro m k
    rw [show j + 1 + m = (j + m) + 1 by omega, pS, pS, ih m (k + 1), show k + 1 + j = k + (j + 1) by omega]
    omega
theorem pS_div (n : Nat) : ∀ (m k : Nat), pS n m (k + 8) = pS (n / 256) m k := by
  intro m
  induction m with
  | zero => intro k; rw [pS, pS]
  | succ m ih =>
    intro k
    rw [pS, pS, show k + 8 + 1 = k + 1 + 8 by omega, ih (k + 1), Nat.div_div_eq_div_mul, show (256 : Nat) * 2 ^ k = 2 ^ (k + 8) by rw [Nat.pow_add]; omega]
theorem pS_low (a b : Nat) (ha : a < 256) : pS (a + 256 * b) 8 0 = pS a 8 0 := by
  have h0 : (a + 256 * b) / 2 ^ 0 % 2 = a / 2 ^ 0 % 2 := by omega
  have h1 : (a + 256 * b) / 2 ^ (0 + 1) % 2 = a / 2 ^ (0 + 1) % 2 := by omega
  have h2 : (a + 256 * b) / 2 ^ (0 + 1 + 1) % 2 = a / 2 ^ (0 + 1 + 1) % 2 := by omega
  have h3 : (a + 256 * b) / 2 ^ (0 + 1 + 1 + 1) % 2 = a / 2 ^ (0 + 1 + 1 + 1) % 2 := by omega
  have h4 : (a + 256 * b) / 2 ^ (0 + 1 + 1 + 1 + 1) % 2 = a / 2 ^ (0 + 1 + 1 + 1 + 1) % 2 := by omega
  have h5 : (a + 256 * b) / 2 ^ (0 + 1 + 1 + 1 + 1 + 1) % 2 = a / 2 ^ (0 + 1 + 1 + 1 + 1 + 1) % 2 := by omega
  have h6 : (a + 256 * b) / 2 ^ (0 + 1 + 1 + 1 + 1 + 1 + 1) % 2 = a / 2 ^ (0 + 1 + 1 + 1 + 1 + 1 + 1) % 2 := by omega
  have h7 : (a + 256 * b) / 2 ^ (0 + 1 + 1 + 1 + 1 + 1 + 1 + 1) % 2 = a / 2 ^ (0 + 1 + 1 + 1 + 1 + 1 + 1 + 1) % 2 := by omega
  unfold pS pS pS pS pS pS pS pS pS
  rw [h0, h1, h2, h3, h4, h5, h6, h7]
theorem pS_split (a b m : Nat) (ha : a < 256) : pS (a + 256 * b) (8 + m) 0 = pS a 8 0 + pS b m 0 := by
  rw [pS_add, pS_low a b ha, pS_div (a + 256 * b) m 0, show (a + 256 * b) / 256 = b by omega]
/-- the count's steps, on numbers -/
theorem y_count {n : Nat} (h : n < 2 ^ 25) : ∃ n3 : Nat, n3 = uz3 252645135 (uz2 858993459 (uz1 1431655765 n)) ∧ n3 < 2 ^ 32 ∧ n3 + n3 / 256 < 2 ^ 32 ∧ ((n3 + n3 / 256) + (n3 + n3 / 256) / 65536) % 64 = pS n 25 0 ∧ pS n 25 0 ≤ 25 := by
  obtain ⟨a, b, c, d, ha, hb, hc, hd, rfl⟩ : ∃ a b c d, a < 256 ∧ b < 256 ∧ c < 256 ∧ d < 2 ∧ n = a + 256 * (b + 256 * (c + 256 * d)) := ⟨n % 256, n / 256 % 256, n / 65536 % 256, n / 16777216, by omega, by omega, by omega, by omega, by omega⟩
  obtain ⟨a1, a2, a3, a4, a5⟩ := y_byte ⟨a, ha⟩
  obtain ⟨b1, b2, b3, b4, b5⟩ := y_byte ⟨b, hb⟩
  obtain ⟨c1, c2, c3, c4, c5⟩ := y_byte ⟨c, hc⟩
  obtain ⟨d1, d2, d3, d4, d5⟩ := y_byte ⟨d, by omega⟩
  have d6 := y_byte1 ⟨d, hd⟩
  have d7 : pS d 1 0 ≤ 1 := by
    rw [pS, pS]
    have : d / 2 ^ 0 % 2 < 2 := Nat.mod_lt _ (by decide)
    omega
  dsimp only at a1 a2 a3 a4 a5 b1 b2 b3 b4 b5 c1 c2 c3 c4 c5 d1 d2 d3 d4 d5 d6
  have e0 : pS (a + 256 * (b + 256 * (c + 256 * d))) 25 0 = pS a 8 0 + (pS b 8 0 + (pS c 8 0 + pS d 1 0)) := by
    rw [show (25 : Nat) = 8 + (8 + (8 + 1)) from rfl, pS_split _ _ _ ha, pS_split _ _ _ hb, pS_split _ _ _ hc]
  have e1 : uz1 1431655765 (a + 256 * (b + 256 * (c + 256 * d))) = uz1 85 a + 256 * (uz1 85 b + 256 * (uz1 85 c + 256 * uz1 85 d)) := by
    rw [show (1431655765 : Nat) = 85 + 256 * (85 + 256 * (85 + 256 * 85)) from rfl, y_u1 _ _ _ ha, y_u1 _ _ _ hb, y_u1 _ _ _ hc]
  have e2 : uz2 858993459 (uz1 85 a + 256 * (uz1 85 b + 256 * (uz1 85 c + 256 * uz1 85 d))) = uz2 51 (uz1 85 a) + 256 * (uz2 51 (uz1 85 b) + 256 * (uz2 51 (uz1 85 c) + 256 * uz2 51 (uz1 85 d))) := by
    rw [show (858993459 : Nat) = 51 + 256 * (51 + 256 * (51 + 256 * 51)) from rfl, y_u2 _ _ _ a1, y_u2 _ _ _ b1, y_u2 _ _ _ c1]
  have e3 : uz3 252645135 (uz2 51 (uz1 85 a) + 256 * (uz2 51 (uz1 85 b) + 256 * (uz2 51 (uz1 85 c) + 256 * uz2 51 (uz1 85 d)))) = pS a 8 0 + 256 * (pS b 8 0 + 256 * (pS c 8 0 + 256 * pS d 8 0)) := by
    rw [show (252645135 : Nat) = 15 + 256 * (15 + 256 * (15 + 256 * 15)) from rfl, y_u3 _ _ _ a2 (by omega), y_u3 _ _ _ b2 (by omega), y_u3 _ _ _ c2 d3, a4, b4, c4, d4]
  refine ⟨_, rfl, ?_⟩
  rw [e1, e2, e3, e0, d6]
  generalize pS a 8 0 = p at *
  generalize pS b 8 0 = q at *
  generalize pS c 8 0 = r at *
  generalize pS d 1 0 = t at *
  clear e0 e1 e2 e3
  refine ⟨by omega, by omega, ?_, by omega⟩
  have f1 : (p + 256 * (q + 256 * (r + 256 * t))) / 256 = q + 256 * (r + 256 * t) := by omega
  rw [f1]
  have f2 : ((p + 256 * (q + 256 * (r + 256 * t))) + (q + 256 * (r + 256 * t))) / 65536 = (r + t) + 256 * t := by omega
  rw [f2]
  omega
theorem nx_and (a b : Nat) : nI a &&& nI b = nI (a &&& b) := by
  apply Int32.toBitVec_inj.1
  show BitVec.ofNat 32 a &&& BitVec.ofNat 32 b = BitVec.ofNat 32 (a &&& b)
  apply BitVec.eq_of_getLsbD_eq
  intro i hi
  simp [hi]
theorem y_ush {n k : Nat} (hn : n < 2 ^ 32) (hk : k < 32) : ((nI n).toUInt32 >>> ((nI k).toUInt32 &&& Int32.toUInt32 31)).toInt32 = nI (n / 2 ^ k) := pk_ushrN hn (nI k) k (s_u k hk)
def jzU (a : Int32) (k : Nat) : Int32 := (a.toUInt32 >>> ((nI k).toUInt32 &&& Int32.toUInt32 31)).toInt32
def jz1 (a : Int32) : Int32 := a - (jzU a 1 &&& 1431655765)
def jz2 (a : Int32) : Int32 := (a &&& 858993459) + (jzU a 2 &&& 858993459)
def jz3 (a : Int32) : Int32 := (a + jzU a 4) &&& 252645135
def jz4 (a : Int32) : Int32 := a + jzU a 8
def jz5 (a : Int32) : Int32 := a + jzU a 16
theorem x_bc (a : Int32) : fJ6_bitCount_0f7a4 a = jz5 (jz4 (jz3 (jz2 (jz1 a)))) &&& 63 := rfl
theorem y_j1 {n : Nat} (h : n < 2 ^ 32) : jz1 (nI n) = nI (uz1 1431655765 n) := by
  unfold jz1 jzU uz1
  rw [y_ush h (by omega), show (1431655765 : Int32) = nI 1431655765 from rfl, nx_and, pk_sub]
  exact Nat.le_trans Nat.and_le_left (Nat.div_le_self _ _)
theorem y_j2 {n : Nat} (h : n < 2 ^ 32) : jz2 (nI n) = nI (uz2 858993459 n) := by
  unfold jz2 jzU uz2
  rw [y_ush h (by omega), show (858993459 : Int32) = nI 858993459 from rfl, nx_and, nx_and, nI_add]
theorem y_j3 {n : Nat} (h : n < 2 ^ 32) : jz3 (nI n) = nI (uz3 252645135 n) := by
  unfold jz3 jzU uz3
  rw [y_ush h (by omega), show (252645135 : Int32) = nI 252645135 from rfl, nI_add, nx_and]
theorem y_j4 {n : Nat} (h : n < 2 ^ 32) : jz4 (nI n) = nI (n + n / 256) := by
  unfold jz4 jzU
  rw [y_ush h (by omega), nI_add]
theorem y_j5 {n : Nat} (h : n < 2 ^ 32) : jz5 (nI n) = nI (n + n / 65536) := by
  unfold jz5 jzU
  rw [y_ush h (by omega), nI_add]
theorem x_bcN {n : Nat} (h : n < 2 ^ 25) : fJ6_bitCount_0f7a4 (nI n) = nI (pS n 25 0) := by
  obtain ⟨n3, e, h3, h4, h5, -⟩ := y_count h
  have k1 : uz1 1431655765 n < 2 ^ 32 := by unfold uz1; omega
  have k2 : uz2 858993459 (uz1 1431655765 n) < 2 ^ 32 := by
    unfold uz2
    have a1 : (uz1 1431655765 n &&& 858993459) ≤ 858993459 := Nat.and_le_right
    have a2 : (uz1 1431655765 n / 4 &&& 858993459) ≤ 858993459 := Nat.and_le_right
    omega
  have k5 : (n3 + n3 / 256) + (n3 + n3 / 256) / 65536 < 2 ^ 33 := by omega
  rw [x_bc, y_j1 (by omega), y_j2 k1, y_j3 k2, ← e, y_j4 h3, y_j5 h4, show (63 : Int32) = nI 63 from rfl, nx_and, show (63 : Nat) = 2 ^ 6 - 1 from rfl, Nat.and_two_pow_sub_one_eq_mod, show (2 : Nat) ^ 6 = 64 from rfl, h5]
theorem x_sizeG {n : Nat} (h : n < 2 ^ 25) : ∀ (m k v : Nat), m + k = 25 → gX5_size (nI n) (m + 1) k (nI v) = nI (v + pS n m k) := by
  intro m
  induction m with
  | zero =>
    intro k v hk
    rw [gX5_size, if_pos (show (25 : Int32) ≤ nI k from nI_le (a := 25) (by omega) (by omega)), pS, Nat.add_zero]
  | succ m ih =>
    intro k v hk
    have hd : n / 2 ^ k < 2 ^ 32 := Nat.lt_of_le_of_lt (Nat.div_le_self _ _) (by omega)
    rw [gX5_size, if_neg (show ¬ (25 : Int32) ≤ nI k from nI_ge (a := k) (b := 25) (by omega) (by omega)), pk_shrN (by omega) (nI k &&& 31) k (s_l k (by omega)), pk_andN hd 1 (show (1 : Int32).toBitVec.toNat = 2 ^ 1 - 1 from rfl), nI_add, ih (k + 1) _ (by omega), pS, Nat.add_assoc]
theorem x_sizeN {n : Nat} (h : n < 2 ^ 25) : fX5_size (nI n) = nI (pS n 25 0) := by
  unfold fX5_size
  have e := x_sizeG h 25 0 0 (by omega)
  rw [Nat.zero_add] at e
  exact e
/-- a set of cells -/
def yBd (a : Int32) : Prop := ∀ i, 25 ≤ i → bt a i = false
theorem yBd_of {n : Nat} (h : n < 2 ^ 25) : yBd (nI n) := by
  intro i hi
  show (nI n).toBitVec.toNat.testBit i = false
  rw [pk_tn (by omega)]
  exact Nat.testBit_lt_two_pow (Nat.lt_of_lt_of_le h (Nat.pow_le_pow_right (by decide) hi))
theorem yBd_to {a : Int32} (h : yBd a) : ∃ n : Nat, n < 2 ^ 25 ∧ a = nI n := by
  refine ⟨a.toBitVec.toNat, Nat.lt_pow_two_of_testBit _ h, ?_⟩
  apply Int32.toBitVec_inj.1
  show a.toBitVec = BitVec.ofNat 32 a.toBitVec.toNat
  simp
theorem x_bcS {a : Int32} (h : yBd a) : fJ6_bitCount_0f7a4 a = fX5_size a := by
  obtain ⟨n, hn, rfl⟩ := yBd_to h
  rw [x_bcN hn, x_sizeN hn]
theorem x_szR {a : Int32} (h : yBd a) : ∃ j : Nat, j ≤ 25 ∧ fX5_size a = nI j := by
  obtain ⟨n, hn, rfl⟩ := yBd_to h
  obtain ⟨n3, -, -, -, -, h5⟩ := y_count hn
  exact ⟨_, h5, x_sizeN hn⟩
theorem x_inB {a : Int32} (h : fX5_in a 1 33554431 = true) : ∃ n : Nat, n < 2 ^ 25 ∧ a = nI n := by
  unfold fX5_in at h
  by_cases h1 : a < 1
  · rw [if_pos h1] at h; cases h
  · rw [if_neg h1] at h
    by_cases h2 : (33554431 : Int32) < a
    · rw [if_pos h2] at h; cases h
    · obtain ⟨j, hj, e⟩ := nI_of2 (x := a) (M := 33554431) (n := 33554431) (by decide) (fun z => h1 (Int32.lt_trans z (by decide))) (Int32.not_lt.mp h2)
      exact ⟨j, by omega, e⟩
/-- who can hold which pieces -/
theorem x_hold (σ : xSg) (h a : Int32) : fX2_canHold h a = fX5_arePieces σ a h := by
  unfold fX2_canHold fX5_arePieces
  cases hb : fX5_in a 1 33554431
  · rw [if_neg x_nf]
    unfold fX5_in at hb
    by_cases h1 : a < 1
    · rw [if_pos h1]
    · rw [if_neg h1] at hb ⊢
      by_cases h2 : (33554431 : Int32) < a
      · rw [if_pos h2]
      · rw [if_neg h2] at hb; cases hb
  · obtain ⟨n, hn, e⟩ := x_inB hb
    rw [if_pos rfl, x_bcS (by rw [e]; exact yBd_of hn)]
    unfold fX5_in at hb
    by_cases h1 : a < 1
    · rw [if_pos h1] at hb; cases hb
    · rw [if_neg h1] at hb ⊢
      by_cases h2 : (33554431 : Int32) < a
      · rw [if_pos h2] at hb; cases hb
      · rw [if_neg h2]
