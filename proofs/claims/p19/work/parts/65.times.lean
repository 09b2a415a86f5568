/-! how often a game was as it is now: by one number each, and by two sets of every second stand -/
theorem wb_tb (n : Nat) : (lN n).toBitVec = BitVec.ofNat 64 n := rfl
theorem wb_inj {a b : Int64} (h : a.toBitVec = b.toBitVec) : a = b := Int64.toBitVec_inj.mp h
theorem wb_c : ∀ k, k < 64 → ((nI k).toInt64 &&& 63) = lN k := by decide +kernel
theorem wb_sm : ∀ k, k < 64 → (BitVec.ofNat 64 k).smod 64 = BitVec.ofNat 64 k := by decide +kernel
theorem wb_shl (n : Nat) {k : Nat} (hk : k < 64) : lN n <<< ((nI k).toInt64 &&& 63) = lN (n * 2 ^ k) := by
  rw [wb_c k hk]
  apply wb_inj
  rw [Int64.toBitVec_shiftLeft, wb_tb, wb_tb, wb_tb, wb_sm k hk]
  apply BitVec.eq_of_toNat_eq
  rw [BitVec.shiftLeft_eq', BitVec.toNat_shiftLeft, BitVec.toNat_ofNat, BitVec.toNat_ofNat, BitVec.toNat_ofNat, Nat.mod_eq_of_lt (show k < 2 ^ 64 by omega), Nat.shiftLeft_eq, Nat.mul_mod, Nat.mod_mod, ← Nat.mul_mod]
theorem fb_orL (a b : Nat) : lN a ||| lN b = lN (a ||| b) := by
  apply Int64.toBitVec_inj.1
  show BitVec.ofNat 64 a ||| BitVec.ofNat 64 b = BitVec.ofNat 64 (a ||| b)
  apply BitVec.eq_of_getLsbD_eq
  intro i hi
  simp [hi]
theorem fb_or_sumL {a k : Nat} (b : Nat) (h : a < 2 ^ k) : lN (2 ^ k * b) ||| lN a = lN (2 ^ k * b + a) := by rw [fb_orL, Nat.two_pow_add_eq_or_of_lt h]
theorem fb_lN_inj {a b : Nat} (ha : a < 2 ^ 63) (hb : b < 2 ^ 63) : lN a = lN b ↔ a = b := by
  constructor
  · intro h
    have h1 : (BitVec.ofNat 64 a).toNat = (BitVec.ofNat 64 b).toNat := congrArg (fun x : Int64 => x.toBitVec.toNat) h
    rw [BitVec.toNat_ofNat, BitVec.toNat_ofNat, Nat.mod_eq_of_lt (by omega), Nat.mod_eq_of_lt (by omega)] at h1
    exact h1
  · rintro rfl; rfl
/-- one number for what is there -/
theorem x_plc {a b : Nat} (ha : a < 2 ^ 25) (hb : b < 2 ^ 25) (s : Bool) : fX1_placing (nI a) (nI b) s = lN (2 ^ 1 * (2 ^ 25 * b + a) + (if s = true then 1 else 0)) := by
  have e1 : (((nI b).toInt64 <<< ((25 : Int32).toInt64 &&& 63)) ||| (nI a).toInt64) = lN (2 ^ 25 * b + a) := by
    rw [nI_l (by omega), nI_l (by omega), show (25 : Int32) = nI 25 from rfl, wb_shl b (by omega), Nat.mul_comm, fb_or_sumL b ha]
  have e2 : ((((nI b).toInt64 <<< ((25 : Int32).toInt64 &&& 63)) ||| (nI a).toInt64) <<< ((1 : Int32).toInt64 &&& 63)) = lN (2 ^ 1 * (2 ^ 25 * b + a)) := by
    rw [e1, show (1 : Int32) = nI 1 from rfl, wb_shl _ (by omega), Nat.mul_comm]
  unfold fX1_placing
  rw [e2]
  cases s
  · rw [if_neg x_nf, if_neg x_nf]
    exact fb_or_sumL (k := 1) (a := 0) _ (by omega)
  · rw [if_pos rfl, if_pos rfl]
    exact fb_or_sumL (k := 1) (a := 1) _ (by omega)
theorem x_plcE {a b a' b' : Nat} (ha : a < 2 ^ 25) (hb : b < 2 ^ 25) (ha' : a' < 2 ^ 25) (hb' : b' < 2 ^ 25) (s s' : Bool) : fX1_placing (nI a) (nI b) s = fX1_placing (nI a') (nI b') s' ↔ (a = a' ∧ b = b' ∧ s = s') := by
  rw [x_plc ha hb, x_plc ha' hb']
  constructor
  · intro h
    have h2 := (fb_lN_inj (by cases s <;> simp <;> omega) (by cases s' <;> simp <;> omega)).mp h
    cases s <;> cases s' <;> simp at h2 ⊢ <;> omega
  · rintro ⟨rfl, rfl, rfl⟩; rfl
/-- how many below n -/
def tcn (p : Nat → Bool) : Nat → Nat
  | 0 => 0
  | n + 1 => tcn p n + (if p n = true then 1 else 0)
/-- every second one below k -/
def rsn (q : Nat → Bool) : Nat → Nat
  | 0 => 0
  | 1 => 0
  | k + 2 => rsn q k + (if q k = true then 1 else 0)
theorem tcn_cong {p q : Nat → Bool} : ∀ n, (∀ j, j < n → p j = q j) → tcn p n = tcn q n
  | 0, _ => rfl
  | n + 1, h => by rw [tcn, tcn, tcn_cong n (fun j hj => h j (by omega)), h n (by omega)]
theorem rsn_tcn (q : Nat → Bool) : ∀ k, tcn (fun j => q j && decide (j % 2 = k % 2)) k = rsn q k
  | 0 => rfl
  | 1 => by simp [tcn, rsn]
  | k + 2 => by
    have e : tcn (fun j => q j && decide (j % 2 = (k + 2) % 2)) k = tcn (fun j => q j && decide (j % 2 = k % 2)) k := tcn_cong k (fun j _ => by
      have : (k + 2) % 2 = k % 2 := by omega
      rw [this])
    rw [tcn, tcn, e, rsn_tcn q k, rsn]
    have e1 : decide (k % 2 = (k + 2) % 2) = true := decide_eq_true (by omega)
    have e2 : decide ((k + 1) % 2 = (k + 2) % 2) = false := decide_eq_false (by omega)
    rw [e1, e2]
    cases q k <;> cases q (k + 1) <;> rfl
theorem rsn_tcn1 (q : Nat → Bool) (d : Nat) : tcn (fun j => q j && decide (j % 2 = d % 2)) (d + 1) = rsn q (d + 2) := by
  have a2 : tcn (fun j => q j && decide (j % 2 = (d + 2) % 2)) (d + 2) = tcn (fun j => q j && decide (j % 2 = (d + 2) % 2)) (d + 1) := by
    have e : decide ((d + 1) % 2 = (d + 2) % 2) = false := decide_eq_false (by omega)
    show tcn (fun j => q j && decide (j % 2 = (d + 2) % 2)) (d + 1) + (if (q (d + 1) && decide ((d + 1) % 2 = (d + 2) % 2)) = true then 1 else 0) = _
    rw [e, Bool.and_false]
    rfl
  rw [← rsn_tcn q (d + 2), a2]
  exact tcn_cong (d + 1) (fun j _ => by rw [show (d + 2) % 2 = d % 2 by omega])
theorem x_sec2 : ∀ j : Fin 62, fX1_isSecondToMove (nI j.val) = decide (j.val % 2 = 1) := by decide +kernel
theorem x_tsG {p1 p2 : Int32} {sq : Nat → Int64} {d : Nat} (hd : d ≤ 60) {now : Int64} (p : Nat → Bool) (hp : ∀ j, j ≤ d → p j = decide (sq j = now)) : ∀ (n k : Nat), n + k = 62 → k ≤ d + 1 → gX1_timesSeen p1 p2 (nI d) sq n k now (nI (tcn p k)) = nI (tcn p (d + 1)) := by
  intro n
  induction n with
  | zero => intro k h1 h2; omega
  | succ n ih =>
    intro k h1 h2
    rw [gX1_timesSeen]
    by_cases c : d < k
    · have : k = d + 1 := by omega
      rw [if_pos (nI_lt c (by omega)), this]
    · rw [if_neg (nI_nlt (by omega) (by omega)), if_neg (show ¬ (61 : Int32) ≤ nI k from nI_ge (a := k) (b := 61) (by omega) (by omega))]
      have e : tcn p (k + 1) = tcn p k + (if p k = true then 1 else 0) := rfl
      rw [hp k (by omega)] at e
      by_cases h : sq k = now
      · rw [if_pos ((lg_cmp_eq _ _).mpr h), nI_1]
        rw [decide_eq_true h, if_pos rfl] at e
        rw [← e]
        exact ih (k + 1) (by omega) (by omega)
      · rw [if_neg (fun z => h ((lg_cmp_eq _ _).mp z))]
        rw [decide_eq_false h, if_neg x_nf] at e
        have e3 : tcn p (k + 1) = tcn p k := e
        rw [← e3]
        exact ih (k + 1) (by omega) (by omega)
def qXY (X Y : Nat → Int32) (d j : Nat) : Bool := if X j = X d then (if Y j = Y d then true else false) else false
theorem x_tmG {σ : xSg} {d v u : Nat} : ∀ (n k x : Nat), k + 1 ≤ n → k < 1000 → gX5_times σ d v u n k (nI x) = nI (x + rsn (fun j => qXY (fun i => σ 17 (61 * u + i)) (fun i => σ 18 (61 * u + i)) d j) k) := by
  intro n
  induction n with
  | zero => intro k x h1 h2; omega
  | succ n ih =>
    intro k x h1 h2
    rw [gX5_times]
    rcases k with _ | _ | k
    · rw [if_pos (show nI 0 - 2 < 0 by decide)]; rfl
    · rw [if_pos (show nI (0 + 1) - 2 < 0 by decide)]; rfl
    · have e : nI (k + 1 + 1) - 2 = nI k := (pk_sub (a := k + 1 + 1) (b := 2) (by omega)).trans (by congr 1)
      rw [if_neg (by rw [e]; exact nI_pos (by omega)), show k + 1 + 1 - 2 = k by omega]
      have e2 : zI (if σ 17 (61 * u + k) = σ 17 (61 * u + d) then (if σ 18 (61 * u + k) = σ 18 (61 * u + d) then true else false) else false) = nI (if qXY (fun i => σ 17 (61 * u + i)) (fun i => σ 18 (61 * u + i)) d k = true then 1 else 0) := by
        show zI (qXY (fun i => σ 17 (61 * u + i)) (fun i => σ 18 (61 * u + i)) d k) = _
        cases qXY (fun i => σ 17 (61 * u + i)) (fun i => σ 18 (61 * u + i)) d k <;> rfl
      rw [e2, nI_add, ih k _ (by omega) (by omega)]
      rw [rsn, Nat.add_assoc, Nat.add_comm (rsn _ k)]
/-- both count the same -/
theorem x_times {σ : xSg} {p1 p2 : Int32} {sq : Nat → Int64} {d v u : Nat} (hd : d ≤ 60) (hb : ∀ j, j ≤ d → ∃ a b : Nat, a < 2 ^ 25 ∧ b < 2 ^ 25 ∧ σ 17 (61 * u + j) = nI a ∧ σ 18 (61 * u + j) = nI b)
    (hq : ∀ j, j ≤ d → sq j = fX1_placing (σ 17 (61 * u + j)) (σ 18 (61 * u + j)) (fX1_isSecondToMove (nI j))) (h1 : p1 = σ 17 (61 * u + d)) (h2 : p2 = σ 18 (61 * u + d)) : fX1_timesSeen p1 p2 (nI d) sq = fX5_times σ d v u := by
  unfold fX1_timesSeen fX5_times
  rw [show fX1_placing p1 p2 (fX1_isSecondToMove (nI d)) = sq d from by rw [h1, h2]; exact (hq d (Nat.le_refl d)).symm]
  have hp : ∀ j, j ≤ d → (qXY (fun i => σ 17 (61 * u + i)) (fun i => σ 18 (61 * u + i)) d j && decide (j % 2 = d % 2)) = decide (sq j = sq d) := by
    intro j hj
    obtain ⟨a, b, ha, hb1, ea, eb⟩ := hb j hj
    obtain ⟨a', b', ha', hb1', ea', eb'⟩ := hb d (Nat.le_refl d)
    have e1 := x_plcE ha hb1 ha' hb1' (fX1_isSecondToMove (nI j)) (fX1_isSecondToMove (nI d))
    rw [← ea, ← eb, ← ea', ← eb', ← hq j hj, ← hq d (Nat.le_refl d), x_sec2 ⟨j, by omega⟩, x_sec2 ⟨d, by omega⟩] at e1
    have e2 : (decide (j % 2 = 1) = decide (d % 2 = 1)) ↔ j % 2 = d % 2 := by
      by_cases z1 : j % 2 = 1 <;> by_cases z2 : d % 2 = 1 <;> simp [z1, z2] <;> omega
    have e3 : (sq j = sq d) = (a = a' ∧ b = b' ∧ j % 2 = d % 2) := propext (e1.trans (and_congr Iff.rfl (and_congr Iff.rfl e2)))
    unfold qXY
    have n1 : (nI a = nI a') = (a = a') := propext (nI_eq (by omega) (by omega))
    have n2 : (nI b = nI b') = (b = b') := propext (nI_eq (by omega) (by omega))
    simp only [ea, eb, ea', eb', n1, n2, e3]
    by_cases z1 : a = a' <;> by_cases z2 : b = b' <;> by_cases z3 : j % 2 = d % 2 <;> simp [z1, z2, z3]
  have k1 := x_tsG (p1 := p1) (p2 := p2) hd (now := sq d) (fun j => qXY (fun i => σ 17 (61 * u + i)) (fun i => σ 18 (61 * u + i)) d j && decide (j % 2 = d % 2)) hp 62 0 (by omega) (by omega)
  have k2 := x_tmG (σ := σ) (d := d) (v := v) (u := u) (d + 3) (d + 2) 0 (by omega) (by omega)
  have k3 := rsn_tcn1 (fun j => qXY (fun i => σ 17 (61 * u + i)) (fun i => σ 18 (61 * u + i)) d j) d
  rw [k3] at k1
  rw [Nat.zero_add] at k2
  exact k1.trans k2.symm
