/-! points -/
section MP
variable {G : xG} {E Ec : xE} {o : Nat} {ct vt gt : Nat} {tb vb gb : Nat → Option Nat} {sa : Nat → Nat} {nC nV nG : Nat} {σ : xSg} {r1 : Int32}
theorem x_pf (q1 q2 sta a0 : Int32) : (if (if sta = 1 then (if q1 = a0 then (true) else (if sta = 2 then (if q2 = a0 then (true) else (false)) else (false))) else (if sta = 2 then (if q2 = a0 then (true) else (false)) else (false))) = true then ((3 : Int32)) else (if (if sta = 3 then (if q1 = a0 then (true) else (if q2 = a0 then (true) else (false))) else (false)) = true then ((1 : Int32)) else ((0 : Int32)))) = fX1_pointsFor q1 q2 sta a0 := by
  unfold fX1_pointsFor
  have e4 : (a0 = q1) ↔ (q1 = a0) := ⟨Eq.symm, Eq.symm⟩
  have e5 : (a0 = q2) ↔ (q2 = a0) := ⟨Eq.symm, Eq.symm⟩
  by_cases h1 : sta = 1
  · subst h1
    by_cases h4 : q1 = a0 <;> by_cases h5 : q2 = a0 <;> simp [e4, e5, h4, h5]
  · by_cases h2 : sta = 2
    · subst h2
      by_cases h4 : q1 = a0 <;> by_cases h5 : q2 = a0 <;> simp [e4, e5, h4, h5]
    · by_cases h3 : sta = 3
      · subst h3
        by_cases h4 : q1 = a0 <;> by_cases h5 : q2 = a0 <;> simp [e4, e5, h4, h5]
      · simp [h1, h2, h3, e4, e5]
theorem x_ptsEnd (σ : xSg) (nG v : Nat) (a0 : Int32) : ∀ (n k : Nat) (x : Int32), nG ≤ k → k ≤ 12 → n + k = 13 → gX4_points σ nG v a0 n k x = x := by
  intro n
  induction n with
  | zero => intro k x h1 h2 h3; omega
  | succ n ih =>
    intro k x h1 h2 h3
    rw [gX4_points]
    by_cases c : (12 : Int32) ≤ nI k
    · rw [if_pos c]
    · have hk : k < 12 := x_nge (B := 12) c (by omega)
      rw [if_neg c, if_neg (by omega)]
      exact ih (k + 1) x (by omega) (by omega) (by omega)
theorem x_pts (σ : xSg) (nG v : Nat) (a0 : Int32) (h10 : σ 10 0 = nI nG) (hG : nG ≤ 12) : ∀ (n k m : Nat) (x : Int32), k ≤ nG → n + k = nG + 1 → m + k = 13 → gX5_points σ v a0 n k x = gX4_points σ nG v a0 m k x := by
  intro n
  induction n with
  | zero => intro k m x h1 h2 h3; omega
  | succ n ih =>
    intro k m x h1 h2 h3
    rw [gX5_points]
    by_cases c : σ 10 0 ≤ nI k
    · rw [if_pos c]
      rw [h10] at c
      have : nG ≤ k := (nI_leI (by omega) (by omega)).mp c
      exact (x_ptsEnd σ nG v a0 m k x this (by omega) h3).symm
    · rw [if_neg c]
      rw [h10] at c
      have hk : k < nG := x_nge (B := nG) c (by omega)
      obtain ⟨m, rfl⟩ : ∃ j, m = j + 1 := ⟨m - 1, by omega⟩
      rw [x_pf, gX4_points, if_neg (show ¬ (12 : Int32) ≤ nI k from fun z => by have := (nI_leI (a := 12) (b := k) (by omega) (by omega)).mp z; omega), if_pos hk]
      by_cases e : σ 11 k = nI v
      · rw [if_pos e, if_pos e]
        exact ih (k + 1) m _ (by omega) (by omega) (by omega)
      · rw [if_neg e, if_neg e, Int32.add_zero]
        exact ih (k + 1) m _ (by omega) (by omega) (by omega)
theorem m_points {a0 a1 : Int32} (hI : xInv σ nC nV nG) (hCls : xCls G E o ct vt gt tb vb gb sa nC nV nG σ) (hP : wX4_points G E o a0 a1 ct vt gt tb vb gb sa nC nV nG σ r1 Ec) : mX5_points σ nG (a1.toNatClampNeg) a0 a1 = (r1, 0) ∧ xLc G Ec o (σ) ∧ xFr tC E Ec := by
  obtain ⟨ht, rfl, v, rfl, hv, rfl⟩ := hP
  refine ⟨?_, ⟨ct, vt, gt, tb, vb, gb, sa, nC, nV, nG, hCls, hI⟩, xFr_rf⟩
  rw [nI_clamp (by have := (x_h10 hCls).2.2.2.2.1; omega)]
  unfold tX4_points at ht
  rw [x_cp] at ht
  have h0 : tIx (nI 5) a0 = 0 := by
    rcases x_ix3 (nI 5) a0 with z | z
    · exact z
    · rw [z, if_neg (by decide)] at ht; cases ht
  rw [if_pos h0] at ht
  have h1 : tIx (nI nV) (nI v) = 0 := by rw [← ht]; exact (x_tid _).symm
  unfold mX5_points
  rw [(x_isP a0).1 h0, (x_isV (x_h10 hCls).2.1 _).1 h1, x_isOut hI hv, x_pts σ nG v a0 (x_h10 hCls).2.2.1 (x_h10 hCls).2.2.2.2.2 (nG + 1) 0 13 0 (by omega) (by omega) (by omega)]
  cases fX3_isOut (σ 8 v) (σ 9 v) <;> rfl
end MP
