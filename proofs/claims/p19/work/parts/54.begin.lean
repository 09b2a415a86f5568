/-! a new game -/
section MB
variable {G : xG} {E Ec : xE} {o : Nat} {ct vt gt : Nat} {tb vb gb : Nat → Option Nat} {sa : Nat → Nat} {nC nV nG : Nat} {σ : xSg} {r1 : Int32}
theorem m_begin_3 {a0 a1 a2 a3 a4 : Int32} (hI : xInv σ nC nV nG) (hCls : xCls G E o ct vt gt tb vb gb sa nC nV nG σ) (hT : tX4_begin σ nC nV nG (a0.toNatClampNeg) a0 a1 a2 a3 a4 = 3) : (mX5_begin σ nG (a0.toNatClampNeg) a0 a1 a2 a3 a4).2 = 1 := by
  unfold tX4_begin at hT
  rw [x_cp, x_cp] at hT
  unfold mX5_begin
  rcases x_ix3 (nI nV) a0 with z | z
  · rw [if_pos z] at hT
    rw [(x_isV (x_h10 hCls).2.1 a0).1 z]
    rcases x_ix3 (nI 5) a1 with y | y
    · rw [if_pos y] at hT
      rw [(x_isP a1).1 y]
      rcases x_ix3 (nI 5) a2 with w | w
      · rw [if_pos w] at hT
        exfalso
        revert hT
        repeat' split
        all_goals (intro q; cases q)
      · rw [(x_isP a2).2 w]; rfl
    · rw [(x_isP a1).2 y]; rfl
  · rw [(x_isV (x_h10 hCls).2.1 a0).2 z]; rfl
end MB
