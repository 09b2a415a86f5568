/-! what both ask of their arguments, and what the shortest calls answer -/
theorem x_tid (t : Nat) : (if t = 0 then 0 else t) = t := by
  split
  · rename_i h; exact h.symm
  · rfl
theorem x_ix3 (n a : Int32) : tIx n a = 0 ∨ tIx n a = 3 := by
  unfold tIx
  split
  · exact Or.inr rfl
  · split
    · exact Or.inr rfl
    · exact Or.inl rfl
theorem x_isIx {x : Int32} {n : Nat} (h : x = nI n) (a : Int32) : (tIx (nI n) a = 0 → (if a < 0 then false else (if x ≤ a then false else true)) = true) ∧ (tIx (nI n) a = 3 → (if a < 0 then false else (if x ≤ a then false else true)) = false) := by
  unfold tIx
  rw [h]
  by_cases h1 : a < 0
  · rw [if_pos h1, if_pos h1]; exact ⟨fun z => absurd z (by decide), fun _ => rfl⟩
  · rw [if_neg h1, if_neg h1]
    by_cases h2 : nI n ≤ a
    · rw [if_pos h2, if_pos h2]; exact ⟨fun z => absurd z (by decide), fun _ => rfl⟩
    · rw [if_neg h2, if_neg h2]; exact ⟨fun _ => rfl, fun z => absurd z (by decide)⟩
theorem x_isG {σ : xSg} {n : Nat} (h : σ 10 0 = nI n) (a : Int32) : (tIx (nI n) a = 0 → fX5_isGame σ a = true) ∧ (tIx (nI n) a = 3 → fX5_isGame σ a = false) := x_isIx h a
theorem x_isV {σ : xSg} {n : Nat} (h : σ 5 0 = nI n) (a : Int32) : (tIx (nI n) a = 0 → fX5_isVariant σ a = true) ∧ (tIx (nI n) a = 3 → fX5_isVariant σ a = false) := x_isIx h a
theorem x_lim (a b : Int32) : (if a < 0 then (3 : Nat) else (if a < b then 0 else 3)) = tIx b a := by
  unfold tIx
  by_cases h1 : a < 0
  · rw [if_pos h1, if_pos h1]
  · rw [if_neg h1, if_neg h1]
    by_cases h2 : a < b
    · rw [if_pos h2, if_neg (Int32.not_le.mpr h2)]
    · rw [if_neg h2, if_pos (Int32.not_lt.mp h2)]
theorem x_cc (a : Int32) : tX4_checkCell a = tIx (nI 25) a := x_lim a 25
theorem x_cp (a : Int32) : tX4_checkPlayer a = tIx (nI 5) a := x_lim a 5
theorem x_isC (a : Int32) : (tIx (nI 25) a = 0 → fX5_isCell a = true) ∧ (tIx (nI 25) a = 3 → fX5_isCell a = false) := x_isIx (x := 25) (n := 25) rfl a
theorem x_isP (a : Int32) : (tIx (nI 5) a = 0 → fX5_isPlayer a = true) ∧ (tIx (nI 5) a = 3 → fX5_isPlayer a = false) := x_isIx (x := 5) (n := 5) rfl a
theorem x_h10 {G : xG} {E : xE} {o ct vt gt : Nat} {tb vb gb : Nat → Option Nat} {sa : Nat → Nat} {nC nV nG : Nat} {σ : xSg} (h : xCls G E o ct vt gt tb vb gb sa nC nV nG σ) : σ 0 0 = nI nC ∧ σ 5 0 = nI nV ∧ σ 10 0 = nI nG ∧ nC ≤ 8 ∧ nV ≤ 4 ∧ nG ≤ 12 := ⟨h.2.1, h.2.2.1, h.2.2.2.1, h.2.2.2.2.1.2.1, h.2.2.2.2.2.1.2.1, h.2.2.2.2.2.2.2.1⟩
/-- what holds of the numbers of a state, in both -/
def xInv (σ : xSg) (nC nV nG : Nat) : Prop :=
  (∀ k, k < nC → (σ 1 k = 0 ∨ σ 1 k = 1 ∨ σ 1 k = 2) ∧ (∃ x : Nat, x ≤ 4 ∧ σ 2 k = nI x - 2) ∧ (∃ y : Nat, y ≤ 4 ∧ σ 3 k = nI y - 2) ∧ ¬ (σ 2 k = 0 ∧ σ 3 k = 0) ∧ ∃ r : Nat, σ 4 k = nI r ∧ 1 ≤ r ∧ r ≤ 4 ∧ (σ 1 k = 0 → r = 1)) ∧
  (∀ v, v < nV → (∃ h : Nat, h < 2 ^ 25 ∧ σ 6 v = nI h) ∧ ∃ w : Nat, w < 32 ∧ σ 8 v = nI w) ∧
  (∀ v, nV ≤ v → σ 8 v = 0 ∧ σ 9 v = 0) ∧
  (∀ u, u < nG → ∀ d, σ 16 u = nI d → d ≤ 60 → ∀ j, j ≤ d → ∃ a b : Nat, a < 2 ^ 25 ∧ b < 2 ^ 25 ∧ σ 17 (61 * u + j) = nI a ∧ σ 18 (61 * u + j) = nI b)
/-- the class at a state that holds -/
def xLc (G : xG) (E : xE) (o : Nat) (σ : xSg) : Prop := ∃ (ct vt gt : Nat) (tb vb gb : Nat → Option Nat) (sa : Nat → Nat) (nC nV nG : Nat), xCls G E o ct vt gt tb vb gb sa nC nV nG σ ∧ xInv σ nC nV nG
section MS
variable {G : xG} {E Ec : xE} {o : Nat} {ct vt gt : Nat} {tb vb gb : Nat → Option Nat} {sa : Nat → Nat} {nC nV nG : Nat} {σ : xSg} {r1 : Int32}
theorem m_state {a0 : Int32} (hI : xInv σ nC nV nG) (hCls : xCls G E o ct vt gt tb vb gb sa nC nV nG σ) (hP : wX4_state G E o a0 ct vt gt tb vb gb sa nC nV nG σ r1 Ec) : mX5_state σ (a0.toNatClampNeg) ((σ 16 a0.toNatClampNeg).toNatClampNeg) ((σ 11 a0.toNatClampNeg).toNatClampNeg) a0 = (r1, 0) ∧ xLc G Ec o (σ) ∧ xFr tC E Ec := by
  obtain ⟨ht, rfl, u, d, v, rfl, hu, hv, hg, ho, rfl⟩ := hP
  refine ⟨?_, ⟨ct, vt, gt, tb, vb, gb, sa, nC, nV, nG, hCls, hI⟩, xFr_rf⟩
  rw [nI_clamp (by have := hg.1; omega)]
  unfold mX5_state
  rw [if_pos ((x_isG (x_h10 hCls).2.2.1 _).1 (by rw [← ht]; exact (x_tid _).symm))]
theorem m_state_3 {a0 : Int32} (hI : xInv σ nC nV nG) (hCls : xCls G E o ct vt gt tb vb gb sa nC nV nG σ) (hT : tX4_state nG a0 = 3) : (mX5_state σ (a0.toNatClampNeg) ((σ 16 a0.toNatClampNeg).toNatClampNeg) ((σ 11 a0.toNatClampNeg).toNatClampNeg) a0).2 = 1 := by
  unfold mX5_state
  rw [if_neg (Bool.eq_false_iff.mp ((x_isG (x_h10 hCls).2.2.1 _).2 (by rw [← hT]; exact (x_tid _).symm)))]
theorem m_made {a0 : Int32} (hI : xInv σ nC nV nG) (hCls : xCls G E o ct vt gt tb vb gb sa nC nV nG σ) (hP : wX4_made G E o a0 ct vt gt tb vb gb sa nC nV nG σ r1 Ec) : mX5_made σ (a0.toNatClampNeg) ((σ 16 a0.toNatClampNeg).toNatClampNeg) ((σ 11 a0.toNatClampNeg).toNatClampNeg) a0 = (r1, 0) ∧ xLc G Ec o (σ) ∧ xFr tC E Ec := by
  obtain ⟨ht, rfl, u, d, v, rfl, hu, hv, hg, ho, rfl⟩ := hP
  refine ⟨?_, ⟨ct, vt, gt, tb, vb, gb, sa, nC, nV, nG, hCls, hI⟩, xFr_rf⟩
  rw [nI_clamp (by have := hg.1; omega)]
  unfold mX5_made
  rw [if_pos ((x_isG (x_h10 hCls).2.2.1 _).1 (by rw [← ht]; exact (x_tid _).symm)), hg.2.1]
theorem m_made_3 {a0 : Int32} (hI : xInv σ nC nV nG) (hCls : xCls G E o ct vt gt tb vb gb sa nC nV nG σ) (hT : tX4_made nG a0 = 3) : (mX5_made σ (a0.toNatClampNeg) ((σ 16 a0.toNatClampNeg).toNatClampNeg) ((σ 11 a0.toNatClampNeg).toNatClampNeg) a0).2 = 1 := by
  unfold mX5_made
  rw [if_neg (Bool.eq_false_iff.mp ((x_isG (x_h10 hCls).2.2.1 _).2 (by rw [← hT]; exact (x_tid _).symm)))]
theorem m_pieces {a0 : Int32} {a1 : Bool} (hI : xInv σ nC nV nG) (hCls : xCls G E o ct vt gt tb vb gb sa nC nV nG σ) (hP : wX4_pieces G E o a0 a1 ct vt gt tb vb gb sa nC nV nG σ r1 Ec) : mX5_pieces σ (a0.toNatClampNeg) ((σ 16 a0.toNatClampNeg).toNatClampNeg) ((σ 11 a0.toNatClampNeg).toNatClampNeg) a0 a1 = (r1, 0) ∧ xLc G Ec o (σ) ∧ xFr tC E Ec := by
  obtain ⟨ht, rfl, u, d, v, rfl, hu, hv, hg, ho, rfl⟩ := hP
  refine ⟨?_, ⟨ct, vt, gt, tb, vb, gb, sa, nC, nV, nG, hCls, hI⟩, xFr_rf⟩
  rw [nI_clamp (by have := hg.1; omega), hg.2.1, nI_clamp (by have := hg.2.2.1; omega)]
  unfold mX5_pieces
  rw [if_pos ((x_isG (x_h10 hCls).2.2.1 _).1 (by rw [← ht]; exact (x_tid _).symm))]
  cases a1 <;> rfl
theorem m_pieces_3 {a0 : Int32} {a1 : Bool} (hI : xInv σ nC nV nG) (hCls : xCls G E o ct vt gt tb vb gb sa nC nV nG σ) (hT : tX4_pieces nG a0 = 3) : (mX5_pieces σ (a0.toNatClampNeg) ((σ 16 a0.toNatClampNeg).toNatClampNeg) ((σ 11 a0.toNatClampNeg).toNatClampNeg) a0 a1).2 = 1 := by
  unfold mX5_pieces
  rw [if_neg (Bool.eq_false_iff.mp ((x_isG (x_h10 hCls).2.2.1 _).2 (by rw [← hT]; exact (x_tid _).symm)))]
theorem m_endless {a0 : Int32} (hI : xInv σ nC nV nG) (hCls : xCls G E o ct vt gt tb vb gb sa nC nV nG σ) (hP : wX4_endless G E o a0 ct vt gt tb vb gb sa nC nV nG σ r1 Ec) : mX5_endless σ (a0.toNatClampNeg) a0 = (r1, 0) ∧ xLc G Ec o (σ) ∧ xFr tC E Ec := by
  obtain ⟨ht, rfl, v, rfl, hv, rfl⟩ := hP
  refine ⟨?_, ⟨ct, vt, gt, tb, vb, gb, sa, nC, nV, nG, hCls, hI⟩, xFr_rf⟩
  rw [nI_clamp (by have := (x_h10 hCls).2.2.2.2.1; omega)]
  unfold mX5_endless
  rw [if_pos ((x_isV (x_h10 hCls).2.1 _).1 (by rw [← ht]; exact (x_tid _).symm))]
theorem m_endless_3 {a0 : Int32} (hI : xInv σ nC nV nG) (hCls : xCls G E o ct vt gt tb vb gb sa nC nV nG σ) (hT : tX4_endless nV a0 = 3) : (mX5_endless σ (a0.toNatClampNeg) a0).2 = 1 := by
  unfold mX5_endless
  rw [if_neg (Bool.eq_false_iff.mp ((x_isV (x_h10 hCls).2.1 _).2 (by rw [← hT]; exact (x_tid _).symm)))]
theorem m_setCards {a0 a1 : Int32} (hI : xInv σ nC nV nG) (hCls : xCls G E o ct vt gt tb vb gb sa nC nV nG σ) (hP : wX4_setCards G E o a0 a1 ct vt gt tb vb gb sa nC nV nG σ r1 Ec) : mX5_setCards σ (a0.toNatClampNeg) a0 a1 = (r1, 0) ∧ xLc G Ec o (sgU σ 7 (a0.toNatClampNeg) a1) ∧ xFr tC E Ec := by
  obtain ⟨ht, v, rfl, hv, rfl, hC, hF⟩ := hP
  rw [nI_clamp (by have := (x_h10 hCls).2.2.2.2.1; omega)]
  refine ⟨?_, ⟨ct, vt, gt, tb, vb, gb, sa, nC, nV, nG, hC, hI⟩, hF⟩
  unfold tX4_setCards at ht
  have h0 : tIx (nI nV) (nI v) = 0 := by
    rcases x_ix3 (nI nV) (nI v) with z | z
    · exact z
    · rw [z, if_neg (by decide)] at ht; cases ht
  rw [if_pos h0] at ht
  unfold mX5_setCards
  rw [if_pos ((x_isV (x_h10 hCls).2.1 _).1 h0)]
  have h1 : fX4_isSetOfCards (nI nC) a1 = true := by
    cases z : fX4_isSetOfCards (nI nC) a1
    · rw [z] at ht; cases ht
    · rfl
  rw [if_pos (show fX5_areCards σ a1 = true from by unfold fX5_areCards; rw [(x_h10 hCls).1]; exact h1)]
theorem m_setCards_3 {a0 a1 : Int32} (hI : xInv σ nC nV nG) (hCls : xCls G E o ct vt gt tb vb gb sa nC nV nG σ) (hT : tX4_setCards nC nV a0 a1 = 3) : (mX5_setCards σ (a0.toNatClampNeg) a0 a1).2 = 1 := by
  unfold tX4_setCards at hT
  rcases x_ix3 (nI nV) a0 with z | z
  · rw [if_pos z] at hT
    exact absurd hT (by split <;> decide)
  · unfold mX5_setCards
    rw [if_neg (Bool.eq_false_iff.mp ((x_isV (x_h10 hCls).2.1 _).2 z))]
theorem m_setCards_1 {a0 a1 : Int32} (hI : xInv σ nC nV nG) (hCls : xCls G E o ct vt gt tb vb gb sa nC nV nG σ) (hT : tX4_setCards nC nV a0 a1 = 1) : (mX5_setCards σ (a0.toNatClampNeg) a0 a1).2 = 2 := by
  unfold tX4_setCards at hT
  rcases x_ix3 (nI nV) a0 with z | z
  · rw [if_pos z] at hT
    unfold mX5_setCards
    rw [if_pos ((x_isV (x_h10 hCls).2.1 _).1 z)]
    have h1 : fX4_isSetOfCards (nI nC) a1 = false := by
      cases z1 : fX4_isSetOfCards (nI nC) a1
      · rfl
      · rw [z1] at hT; cases hT
    rw [if_neg (Bool.eq_false_iff.mp (show fX5_areCards σ a1 = false from by unfold fX5_areCards; rw [(x_h10 hCls).1]; exact h1))]
  · rw [z, if_neg (by decide)] at hT; cases hT
end MS
