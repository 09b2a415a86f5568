/-! what both refuse -/
section MF
variable {G : xG} {E Ec : xE} {o : Nat} {ct vt gt : Nat} {tb vb gb : Nat → Option Nat} {sa : Nat → Nat} {nC nV nG : Nat} {σ : xSg} {r1 : Int32}
def xCanB (σ : xSg) (a0 a1 a2 : Int32) : Bool := (if (fX5_isGame (σ) a0) = true then (if (fX5_isCell a1) = true then (if (fX5_isCell a2) = true then (true) else (false)) else (false)) else (false))
/-- a game and two cells: both ask the same of them -/
theorem x_canB {σ : xSg} {nG : Nat} (h : σ 10 0 = nI nG) (a0 a1 a2 : Int32) : (tX4_can nG a0 a1 a2 = 0 ∧ xCanB σ a0 a1 a2 = true ∧ tIx (nI nG) a0 = 0 ∧ tIx (nI 25) a1 = 0 ∧ tIx (nI 25) a2 = 0) ∨ (tX4_can nG a0 a1 a2 = 3 ∧ xCanB σ a0 a1 a2 = false) := by
  unfold tX4_can xCanB
  rw [x_cc, x_cc]
  rcases x_ix3 (nI nG) a0 with z | z
  · rw [if_pos z, (x_isG h a0).1 z]
    rcases x_ix3 (nI 25) a1 with y | y
    · rw [if_pos y, (x_isC a1).1 y]
      rcases x_ix3 (nI 25) a2 with w | w
      · rw [if_pos w, (x_isC a2).1 w]; exact Or.inl ⟨rfl, rfl, z, y, w⟩
      · rw [w, (x_isC a2).2 w]; exact Or.inr ⟨rfl, rfl⟩
    · rw [y, (x_isC a1).2 y]; exact Or.inr ⟨rfl, rfl⟩
  · rw [z, (x_isG h a0).2 z]; exact Or.inr ⟨rfl, rfl⟩
theorem m_can_3 {a0 a1 a2 : Int32} (hI : xInv σ nC nV nG) (hCls : xCls G E o ct vt gt tb vb gb sa nC nV nG σ) (hT : tX4_can nG a0 a1 a2 = 3) : (mX5_can σ (a0.toNatClampNeg) ((σ 16 a0.toNatClampNeg).toNatClampNeg) ((σ 11 a0.toNatClampNeg).toNatClampNeg) a0 a1 a2).2 = 1 := by
  rcases x_canB (x_h10 hCls).2.2.1 a0 a1 a2 with ⟨z, -⟩ | ⟨-, z⟩
  · rw [z] at hT; cases hT
  · have z' : (if (fX5_isGame (σ) a0) = true then (if (fX5_isCell a1) = true then (if (fX5_isCell a2) = true then (true) else (false)) else (false)) else (false)) = false := z
    unfold mX5_can
    rw [z']; rfl
theorem m_canByAll_3 {a0 a1 a2 : Int32} (hI : xInv σ nC nV nG) (hCls : xCls G E o ct vt gt tb vb gb sa nC nV nG σ) (hT : tX4_canByAll nG a0 a1 a2 = 3) : (mX5_canByAll σ (a0.toNatClampNeg) ((σ 16 a0.toNatClampNeg).toNatClampNeg) ((σ 11 a0.toNatClampNeg).toNatClampNeg) a0 a1 a2).2 = 1 := by
  rcases x_canB (x_h10 hCls).2.2.1 a0 a1 a2 with ⟨z, -⟩ | ⟨-, z⟩
  · unfold tX4_canByAll at hT; rw [z] at hT; cases hT
  · have z' : (if (fX5_isGame (σ) a0) = true then (if (fX5_isCell a1) = true then (if (fX5_isCell a2) = true then (true) else (false)) else (false)) else (false)) = false := z
    unfold mX5_canByAll
    rw [z']; rfl
theorem x_moveT (σ : xSg) (nC nG u d v : Nat) (a0 a1 a2 : Int32) : (tX4_can nG a0 a1 a2 = 0 → tX4_move σ nC nG u d v a0 a1 a2 = (if (fX3_isOut (σ 8 v) (σ 9 v)) = true then (2) else (if (fX1_allows (σ) nC (σ 12 u) (σ 6 v) (σ 17 (61 * u + d)) (σ 18 (61 * u + d)) (nI d) (σ 15 u) a1 a2) = true then (0) else (2)))) ∧ (tX4_can nG a0 a1 a2 = 3 → tX4_move σ nC nG u d v a0 a1 a2 = 3) := by
  unfold tX4_can tX4_move
  rcases x_ix3 (nI nG) a0 with z | z
  · rw [if_pos z, if_pos z, x_cc, x_cc]
    rcases x_ix3 (nI 25) a1 with y | y
    · rw [if_pos y, if_pos y]
      rcases x_ix3 (nI 25) a2 with w | w
      · rw [if_pos w, if_pos w]; exact ⟨fun _ => rfl, fun h => absurd h (by decide)⟩
      · rw [w]; exact ⟨fun h => absurd h (by decide), fun _ => rfl⟩
    · rw [y]; exact ⟨fun h => absurd (show (3 : Nat) = 0 from h) (by decide), fun _ => rfl⟩
  · rw [z]; exact ⟨fun h => absurd (show (3 : Nat) = 0 from h) (by decide), fun _ => rfl⟩
theorem m_move_3 {a0 a1 a2 : Int32} (hI : xInv σ nC nV nG) (hCls : xCls G E o ct vt gt tb vb gb sa nC nV nG σ) (hT : tX4_move σ nC nG (a0.toNatClampNeg) ((σ 16 a0.toNatClampNeg).toNatClampNeg) ((σ 11 a0.toNatClampNeg).toNatClampNeg) a0 a1 a2 = 3) : (mX5_move σ (a0.toNatClampNeg) ((σ 16 a0.toNatClampNeg).toNatClampNeg) ((σ 11 a0.toNatClampNeg).toNatClampNeg) a0 a1 a2).2.1 = 1 := by
  rcases x_canB (x_h10 hCls).2.2.1 a0 a1 a2 with ⟨z, -⟩ | ⟨-, z⟩
  · rw [(x_moveT σ nC nG _ _ _ a0 a1 a2).1 z] at hT
    split at hT
    · cases hT
    · split at hT <;> cases hT
  · have z' : (if (fX5_isGame (σ) a0) = true then (if (fX5_isCell a1) = true then (if (fX5_isCell a2) = true then (true) else (false)) else (false)) else (false)) = false := z
    unfold mX5_move
    rw [z']; rfl
theorem x_cd (a : Int32) : (tX4_checkDepth a = 0 ∧ fX5_in a 0 2 = true) ∨ (tX4_checkDepth a = 1 ∧ fX5_in a 0 2 = false) := by
  unfold tX4_checkDepth fX5_in
  by_cases h1 : a < 0
  · rw [if_pos h1, if_pos h1]; exact Or.inr ⟨rfl, rfl⟩
  · rw [if_neg h1, if_neg h1]
    by_cases h2 : a ≤ 2
    · rw [if_pos h2, if_neg (Int32.not_lt.mpr h2)]; exact Or.inl ⟨rfl, rfl⟩
    · rw [if_neg h2, if_pos (Int32.not_le.mp h2)]; exact Or.inr ⟨rfl, rfl⟩
theorem m_value_3 {a0 a1 : Int32} (hI : xInv σ nC nV nG) (hCls : xCls G E o ct vt gt tb vb gb sa nC nV nG σ) (hT : tX4_value nG a0 a1 = 3) : (mX5_asksValue σ (a0.toNatClampNeg) ((σ 16 a0.toNatClampNeg).toNatClampNeg) ((σ 11 a0.toNatClampNeg).toNatClampNeg) a0 a1).2 = 1 := by
  unfold tX4_value at hT
  unfold mX5_asksValue
  rcases x_ix3 (nI nG) a0 with z | z
  · rw [if_pos z] at hT
    rcases x_cd a1 with ⟨y, -⟩ | ⟨y, -⟩ <;> (rw [y] at hT; cases hT)
  · rw [(x_isG (x_h10 hCls).2.2.1 a0).2 z]; rfl
theorem m_value_1 {a0 a1 : Int32} (hI : xInv σ nC nV nG) (hCls : xCls G E o ct vt gt tb vb gb sa nC nV nG σ) (hT : tX4_value nG a0 a1 = 1) : (mX5_asksValue σ (a0.toNatClampNeg) ((σ 16 a0.toNatClampNeg).toNatClampNeg) ((σ 11 a0.toNatClampNeg).toNatClampNeg) a0 a1).2 = 2 := by
  unfold tX4_value at hT
  unfold mX5_asksValue
  rcases x_ix3 (nI nG) a0 with z | z
  · rw [if_pos z] at hT
    rcases x_cd a1 with ⟨y, -⟩ | ⟨y, w⟩
    · rw [y] at hT; cases hT
    · rw [(x_isG (x_h10 hCls).2.2.1 a0).1 z, w]; rfl
  · rw [z] at hT; cases hT
theorem m_valueByAll_3 {a0 a1 : Int32} (hI : xInv σ nC nV nG) (hCls : xCls G E o ct vt gt tb vb gb sa nC nV nG σ) (hT : tX4_valueByAll nG a0 a1 = 3) : (mX5_asksValue σ (a0.toNatClampNeg) ((σ 16 a0.toNatClampNeg).toNatClampNeg) ((σ 11 a0.toNatClampNeg).toNatClampNeg) a0 a1).2 = 1 := m_value_3 hI hCls hT
theorem m_valueByAll_1 {a0 a1 : Int32} (hI : xInv σ nC nV nG) (hCls : xCls G E o ct vt gt tb vb gb sa nC nV nG σ) (hT : tX4_valueByAll nG a0 a1 = 1) : (mX5_asksValue σ (a0.toNatClampNeg) ((σ 16 a0.toNatClampNeg).toNatClampNeg) ((σ 11 a0.toNatClampNeg).toNatClampNeg) a0 a1).2 = 2 := m_value_1 hI hCls hT
end MF
