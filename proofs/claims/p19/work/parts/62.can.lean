/-! who moves; whether the one to move can go from a cell to another: the class's two ways and the reference's -/
section CAN
variable {σ : xSg} {nC u d v f t : Nat} {S h p1 p2 md sta : Int32}
theorem x_sec (h16 : σ 16 u = nI d) : fX5_isSecondsTurn σ d v u = fX1_isSecondToMove (nI d) := by
  unfold fX5_isSecondsTurn fX1_isSecondToMove
  rw [h16]
theorem x_pcT (h16 : σ 16 u = nI d) : fX5_piecesOf σ d v u true = fX1_ofMover (σ 17 (61 * u + d)) (σ 18 (61 * u + d)) (nI d) := by
  unfold fX5_piecesOf fX1_ofMover
  rw [x_sec h16]
  cases fX1_isSecondToMove (nI d) <;> rfl
theorem x_pcF (h16 : σ 16 u = nI d) : fX5_piecesOf σ d v u false = fX1_ofWaiting (σ 17 (61 * u + d)) (σ 18 (61 * u + d)) (nI d) := by
  unfold fX5_piecesOf fX1_ofWaiting
  rw [x_sec h16]
  cases fX1_isSecondToMove (nI d) <;> rfl
theorem x_pp : fX1_ofMover p1 p2 md ||| fX1_ofWaiting p1 p2 md = p1 ||| p2 := by
  unfold fX1_ofMover fX1_ofWaiting
  cases fX1_isSecondToMove md
  · rfl
  · exact Int32.or_comm _ _
/-- the cells to which the one to move goes from a cell -/
def xEn (σ : xSg) (nC : Nat) (S h p1 p2 md : Int32) (k : Nat) : Int32 := fX2_endsFrom σ nC S h (nI k) (fX1_ofMover p1 p2 md) (fX1_ofWaiting p1 p2 md) (fX1_isSecondToMove md)
theorem x_allows (hn : nC ≤ 8) (hg : ∀ k, k < nC → xGc σ k) (hf : f < 25) (ht : t < 25) : fX1_allows σ nC S h p1 p2 md sta (nI f) (nI t) = if sta = 0 then bt (xEn σ nC S h p1 p2 md f) t else false := by
  unfold fX1_allows xEn
  rw [x_some hg hn hf ht, x_pp, x_isInN (n := f) _ (by omega), x_isInN (n := t) _ (by omega)]
  by_cases h0 : sta = 0
  · rw [if_pos h0, if_pos h0]
    cases bt (fX1_ofMover p1 p2 md) f <;> cases bt (fX1_ofMover p1 p2 md) t <;> cases fX2_someCardLeads σ nC S h (nI f) (nI t) (p1 ||| p2) (fX1_isSecondToMove md) <;> rfl
  · rw [if_neg h0, if_neg h0]
theorem x_canNow (h0 : σ 0 0 = nI nC) (hn : nC ≤ 8) (hg : ∀ k, k < nC → xGc σ k) (hf : f < 25) (ht : t < 25) (h16 : σ 16 u = nI d) :
    fX5_canNow σ d v u (nI f) (nI t) = if σ 15 u = 0 then bt (xEn σ nC (σ 12 u) (σ 6 v) (σ 17 (61 * u + d)) (σ 18 (61 * u + d)) (nI d) f) t else false := by
  unfold fX5_canNow xEn
  rw [x_pcT h16, x_pcF h16, x_sec h16, x_goes h0 hn hg hf, x_bit1 (n := f) _ (by omega), x_bit1 (n := t) _ (by omega)]
  by_cases hz : σ 15 u = 0
  · rw [if_pos hz, if_pos hz]
    cases bt (fX1_ofMover (σ 17 (61 * u + d)) (σ 18 (61 * u + d)) (nI d)) f
    · rw [if_neg x_nf, if_neg x_nf, if_neg (by decide), b_0]
    · rw [if_pos rfl, if_pos rfl, if_pos rfl]
      cases bt (fX5_goes σ (σ 12 u) (σ 6 v) (fX1_ofMover (σ 17 (61 * u + d)) (σ 18 (61 * u + d)) (nI d)) (fX1_ofWaiting (σ 17 (61 * u + d)) (σ 18 (61 * u + d)) (nI d)) (fX1_isSecondToMove (nI d)) (nI f)) t <;> rfl
  · rw [if_neg hz, if_neg hz]
theorem x_am2 (hf : f < 25) (ht : t < 25) {k : Nat} (hk : k < 25) (cont : Bool → Bool) : ∀ (n2 k2 : Nat) (v3 : Bool), n2 + k2 = 26 → k2 ≤ 25 →
    g2X4_isAmongAllMoves σ nC S h p1 p2 md (nI f) (nI t) k cont n2 k2 v3 = cont (v3 || (decide (k = f) && (decide (k2 ≤ t) && bt (xEn σ nC S h p1 p2 md k) t))) := by
  intro n2
  induction n2 with
  | zero => intro k2 v3 h1 h2; omega
  | succ n2 ih =>
    intro k2 v3 h1 h2
    rw [g2X4_isAmongAllMoves]
    by_cases c : (25 : Int32) ≤ nI k2
    · have hk2 : ¬ k2 ≤ t := fun z => absurd c (nI_ge (a := k2) (b := 25) (by omega) (by omega))
      rw [if_pos c, decide_eq_false hk2, Bool.false_and, Bool.and_false, Bool.or_false]
    · have hk2 : k2 < 25 := Nat.lt_of_not_le (fun z => c (nI_le z (by omega)))
      have e1 : (nI k = nI f) = (k = f) := propext (nI_eq (by omega) (by omega))
      have e2 : (nI k2 = nI t) = (k2 = t) := propext (nI_eq (by omega) (by omega))
      rw [if_neg c, x_isInN (n := k2) _ (by omega), ih (k2 + 1) true (by omega) (by omega), ih (k2 + 1) v3 (by omega) (by omega)]
      show (if bt (xEn σ nC S h p1 p2 md k) k2 = true then _ else _) = _
      simp only [e1, e2]
      by_cases q : k2 = t
      · rw [q]
        cases bt (xEn σ nC S h p1 p2 md k) t <;> by_cases q1 : k = f <;> simp [q1]
      · have e3 : decide (k2 + 1 ≤ t) = decide (k2 ≤ t) := by
          by_cases z : k2 ≤ t
          · rw [decide_eq_true z, decide_eq_true (by omega)]
          · rw [decide_eq_false z, decide_eq_false (by omega)]
        rw [e3]
        cases bt (xEn σ nC S h p1 p2 md k) k2 <;> by_cases q1 : k = f <;> simp [q1, q]
theorem x_am (hf : f < 25) (ht : t < 25) : ∀ (n k : Nat) (v3 : Bool), n + k = 26 → k ≤ 25 →
    gX4_isAmongAllMoves σ nC S h p1 p2 md (nI f) (nI t) n k v3 = (v3 || (decide (k ≤ f) && bt (xEn σ nC S h p1 p2 md f) t)) := by
  intro n
  induction n with
  | zero => intro k v3 h1 h2; omega
  | succ n ih =>
    intro k v3 h1 h2
    rw [gX4_isAmongAllMoves]
    by_cases c : (25 : Int32) ≤ nI k
    · have hk : ¬ k ≤ f := fun z => absurd c (nI_ge (a := k) (b := 25) (by omega) (by omega))
      rw [if_pos c, decide_eq_false hk, Bool.false_and, Bool.or_false]
    · have hk : k < 25 := Nat.lt_of_not_le (fun z => c (nI_le z (by omega)))
      rw [if_neg c, x_am2 hf ht hk _ 26 0 v3 (by omega) (by omega), ih (k + 1) _ (by omega) (by omega), decide_eq_true (Nat.zero_le t), Bool.true_and]
      by_cases q : k = f
      · rw [q, decide_eq_true rfl, decide_eq_false (show ¬ f + 1 ≤ f by omega), decide_eq_true (Nat.le_refl f)]
        cases v3 <;> cases bt (xEn σ nC S h p1 p2 md f) t <;> rfl
      · have e3 : decide (k + 1 ≤ f) = decide (k ≤ f) := by
          by_cases z : k ≤ f
          · rw [decide_eq_true z, decide_eq_true (by omega)]
          · rw [decide_eq_false z, decide_eq_false (by omega)]
        rw [e3, decide_eq_false q, Bool.false_and, Bool.or_false]
theorem x_among (hf : f < 25) (ht : t < 25) : fX4_isAmongAllMoves σ nC S h p1 p2 md (nI f) (nI t) = bt (xEn σ nC S h p1 p2 md f) t := by
  unfold fX4_isAmongAllMoves
  rw [x_am hf ht 26 0 false (by omega) (by omega), decide_eq_true (Nat.zero_le f), Bool.true_and, Bool.false_or]
theorem x_ixE {n : Nat} {a : Int32} (hn : n < 2 ^ 31) (h : tIx (nI n) a = 0) : ∃ j : Nat, j < n ∧ a = nI j := by
  unfold tIx at h
  by_cases h1 : a < 0
  · rw [if_pos h1] at h; cases h
  · rw [if_neg h1] at h
    by_cases h2 : nI n ≤ a
    · rw [if_pos h2] at h; cases h
    · rcases pk_ix a hn with z | z | z
      · exact absurd z h1
      · exact absurd z h2
      · exact z
end CAN
section MC
variable {G : xG} {E Ec : xE} {o : Nat} {ct vt gt : Nat} {tb vb gb : Nat → Option Nat} {sa : Nat → Nat} {nC nV nG : Nat} {σ : xSg} {r1 : Int32}
theorem m_can {a0 : Int32} {a1 : Int32} {a2 : Int32} (hI : xInv σ nC nV nG) (hCls : xCls G E o ct vt gt tb vb gb sa nC nV nG σ) (hP : wX4_can G E o a0 a1 a2 ct vt gt tb vb gb sa nC nV nG σ r1 Ec) : mX5_can σ (a0.toNatClampNeg) ((σ 16 a0.toNatClampNeg).toNatClampNeg) ((σ 11 a0.toNatClampNeg).toNatClampNeg) a0 a1 a2 = (r1, 0) ∧ xLc G Ec o (σ) ∧ xFr tC E Ec := by
  obtain ⟨ht, rfl, u, d, v, rfl, hu, hv, hg, ho, rfl⟩ := hP
  refine ⟨?_, ⟨ct, vt, gt, tb, vb, gb, sa, nC, nV, nG, hCls, hI⟩, xFr_rf⟩
  rw [nI_clamp (by have := hg.1; omega), hg.2.1, nI_clamp (by have := hg.2.2.1; omega), hg.2.2.2.1, nI_clamp (by have := hg.2.2.2.2; omega)]
  rcases x_canB (x_h10 hCls).2.2.1 (nI u) a1 a2 with ⟨-, hB, -, h1, h2⟩ | ⟨hB, -⟩
  · obtain ⟨f, hf, rfl⟩ := x_ixE (by omega) h1
    obtain ⟨t, ht2, rfl⟩ := x_ixE (by omega) h2
    have e : mX5_can σ u d v (nI u) (nI f) (nI t) = if xCanB σ (nI u) (nI f) (nI t) = true then (if (fX5_canNow (σ) d v u (nI f) (nI t)) = true then (((1 : Int32), 0)) else (((0 : Int32), 0))) else (((0 : Int32), 1)) := rfl
    rw [e, hB, if_pos rfl, x_canNow (x_h10 hCls).1 (x_h10 hCls).2.2.2.1 hI.1 hf ht2 hg.2.1, x_allows (x_h10 hCls).2.2.2.1 hI.1 hf ht2]
    cases (if σ 15 u = 0 then bt (xEn σ nC (σ 12 u) (σ 6 v) (σ 17 (61 * u + d)) (σ 18 (61 * u + d)) (nI d) f) t else false) <;> rfl
  · rw [hB] at ht; cases ht
theorem m_canByAll {a0 : Int32} {a1 : Int32} {a2 : Int32} (hI : xInv σ nC nV nG) (hCls : xCls G E o ct vt gt tb vb gb sa nC nV nG σ) (hP : wX4_canByAll G E o a0 a1 a2 ct vt gt tb vb gb sa nC nV nG σ r1 Ec) : mX5_canByAll σ (a0.toNatClampNeg) ((σ 16 a0.toNatClampNeg).toNatClampNeg) ((σ 11 a0.toNatClampNeg).toNatClampNeg) a0 a1 a2 = (r1, 0) ∧ xLc G Ec o (σ) ∧ xFr tC E Ec := by
  obtain ⟨ht, rfl, u, d, v, rfl, hu, hv, hg, ho, rfl⟩ := hP
  refine ⟨?_, ⟨ct, vt, gt, tb, vb, gb, sa, nC, nV, nG, hCls, hI⟩, xFr_rf⟩
  rw [nI_clamp (by have := hg.1; omega), hg.2.1, nI_clamp (by have := hg.2.2.1; omega), hg.2.2.2.1, nI_clamp (by have := hg.2.2.2.2; omega)]
  rcases x_canB (x_h10 hCls).2.2.1 (nI u) a1 a2 with ⟨-, hB, -, h1, h2⟩ | ⟨hB, -⟩
  · obtain ⟨f, hf, rfl⟩ := x_ixE (by omega) h1
    obtain ⟨t, ht2, rfl⟩ := x_ixE (by omega) h2
    have e : mX5_canByAll σ u d v (nI u) (nI f) (nI t) = if xCanB σ (nI u) (nI f) (nI t) = true then (if (fX5_canNow (σ) d v u (nI f) (nI t)) = true then (((1 : Int32), 0)) else (((0 : Int32), 0))) else (((0 : Int32), 1)) := rfl
    rw [e, hB, if_pos rfl, x_canNow (x_h10 hCls).1 (x_h10 hCls).2.2.2.1 hI.1 hf ht2 hg.2.1, x_among hf ht2]
    unfold fcanBy
    by_cases hz : σ 15 u = 0
    · rw [if_pos hz, if_pos hz]
      cases bt (xEn σ nC (σ 12 u) (σ 6 v) (σ 17 (61 * u + d)) (σ 18 (61 * u + d)) (nI d) f) t <;> rfl
    · rw [if_neg hz, if_neg hz]; rfl
  · rw [show tX4_canByAll nG (nI u) a1 a2 = 3 from hB] at ht; cases ht
end MC
