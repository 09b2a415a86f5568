/-! a new game: what begin answers -/
theorem x_holdB {h a : Int32} (hh : fX2_canHold h a = true) : ∃ n : Nat, n < 2 ^ 25 ∧ a = nI n := by
  rw [x_hold (fun _ _ => 0)] at hh
  unfold fX5_arePieces at hh
  cases hb : fX5_in a 1 33554431
  · rw [hb] at hh; cases hh
  · exact x_inB hb
theorem x_begH {σ : xSg} {nC nV nG v : Nat} {a0 a1 a2 a3 a4 : Int32} (ht : tX4_begin σ nC nV nG v a0 a1 a2 a3 a4 = 0) : fX2_canHold (σ 6 v) a3 = true ∧ fX2_canHold (σ 6 v) a4 = true := by
  unfold tX4_begin at ht
  by_cases c1 : tIx (nI nV) a0 = 0
  · rw [if_pos c1] at ht
    by_cases c2 : tX4_checkPlayer a1 = 0
    · rw [if_pos c2] at ht
      by_cases c3 : tX4_checkPlayer a2 = 0
      · rw [if_pos c3] at ht
        by_cases c4 : a1 = a2
        · rw [if_pos c4] at ht; cases ht
        · rw [if_neg c4] at ht
          cases h3 : fX2_canHold (σ 6 v) a3
          · rw [h3] at ht; cases ht
          · rw [h3] at ht
            cases h4 : fX2_canHold (σ 6 v) a4
            · rw [h4] at ht; cases ht
            · exact ⟨rfl, rfl⟩
      · rw [if_neg c3] at ht; exact absurd ht c3
    · rw [if_neg c2] at ht; exact absurd ht c2
  · rw [if_neg c1] at ht; exact absurd ht c1
section MB2
variable {G : xG} {E Ec : xE} {o : Nat} {ct vt gt : Nat} {tb vb gb : Nat → Option Nat} {sa : Nat → Nat} {nC nV nG : Nat} {σ : xSg} {r1 : Int32}
theorem x_beg {a0 a1 a2 a3 a4 : Int32} (hI : xInv σ nC nV nG) (hCls : xCls G E o ct vt gt tb vb gb sa nC nV nG σ) :
    mX5_begin σ nG (a0.toNatClampNeg) a0 a1 a2 a3 a4 = (if tX4_begin σ nC nV nG (a0.toNatClampNeg) a0 a1 a2 a3 a4 = 0 then (nI (nG + 1) - 1, 0) else if tX4_begin σ nC nV nG (a0.toNatClampNeg) a0 a1 a2 a3 a4 = 1 then (0, 2) else if tX4_begin σ nC nV nG (a0.toNatClampNeg) a0 a1 a2 a3 a4 = 2 then (0, 3) else (0, 1)) := by
  obtain ⟨h0, h5, h10, hnC, hnV, hnG⟩ := x_h10 hCls
  unfold tX4_begin mX5_begin
  rw [x_cp, x_cp]
  rcases x_ix3 (nI nV) a0 with z | z
  · obtain ⟨v, hv, rfl⟩ := x_ixE (by omega) z
    rw [nI_clamp (by omega), (x_isV h5 _).1 z, if_pos z]
    rcases x_ix3 (nI 5) a1 with y | y
    · rw [(x_isP a1).1 y, if_pos y]
      rcases x_ix3 (nI 5) a2 with w | w
      · rw [(x_isP a2).1 w, if_pos w, ← x_hold σ, ← x_hold σ, x_isOut hI hv, ← x_moves h0 hnC hI.1]
        by_cases e1 : a1 = a2
        · rw [if_pos e1, if_pos e1]; rfl
        · rw [if_neg e1, if_neg e1]
          cases fX2_canHold (σ 6 v) a3
          · rfl
          · cases fX2_canHold (σ 6 v) a4
            · rfl
            · by_cases e2 : (a3 &&& a4) = 0
              · rw [if_pos e2, if_pos e2]
                cases fX3_isOut (σ 8 v) (σ 9 v)
                · by_cases e3 : nG = 12
                  · rw [if_pos (show σ 10 0 = (12 : Int32) by rw [h10, e3]; rfl), if_pos (show (12 : Int32) ≤ nI nG by rw [e3]; decide)]; rfl
                  · rw [if_neg (show ¬ σ 10 0 = (12 : Int32) from by rw [h10]; exact fun q => e3 ((nI_eq (a := nG) (b := 12) (by omega) (by omega)).mp q)), if_neg (show ¬ (12 : Int32) ≤ nI nG from nI_ge (a := nG) (b := 12) (by omega) (by omega))]
                    cases fX2_hasMove σ nC (σ 7 v) (σ 6 v) a3 a4 false <;> rfl
                · rfl
              · rw [if_neg e2, if_neg e2]; rfl
      · rw [(x_isP a2).2 w, w]; rfl
    · rw [(x_isP a1).2 y, y]; rfl
  · rw [(x_isV h5 a0).2 z, z]; rfl
theorem m_begin_1 {a0 a1 a2 a3 a4 : Int32} (hI : xInv σ nC nV nG) (hCls : xCls G E o ct vt gt tb vb gb sa nC nV nG σ) (hT : tX4_begin σ nC nV nG (a0.toNatClampNeg) a0 a1 a2 a3 a4 = 1) : (mX5_begin σ nG (a0.toNatClampNeg) a0 a1 a2 a3 a4).2 = 2 := by
  rw [x_beg hI hCls, hT]; rfl
theorem m_begin_2 {a0 a1 a2 a3 a4 : Int32} (hI : xInv σ nC nV nG) (hCls : xCls G E o ct vt gt tb vb gb sa nC nV nG σ) (hT : tX4_begin σ nC nV nG (a0.toNatClampNeg) a0 a1 a2 a3 a4 = 2) : (mX5_begin σ nG (a0.toNatClampNeg) a0 a1 a2 a3 a4).2 = 3 := by
  rw [x_beg hI hCls, hT]; rfl
theorem m_begin {a0 a1 a2 a3 a4 : Int32} (hI : xInv σ nC nV nG) (hCls : xCls G E o ct vt gt tb vb gb sa nC nV nG σ) (hP : wX4_begin G E o a0 a1 a2 a3 a4 ct vt gt tb vb gb sa nC nV nG σ r1 Ec) : mX5_begin σ nG (a0.toNatClampNeg) a0 a1 a2 a3 a4 = (r1, 0) ∧ xLc G Ec o (sgBegin σ nG (a0.toNatClampNeg) a1 a2 a3 a4) ∧ xFr tC E Ec := by
  obtain ⟨ht, v, rfl, hv, rfl, hg, q, s, hC, hF⟩ := hP
  have e : (nI v).toNatClampNeg = v := nI_clamp (by have := (x_h10 hCls).2.2.2.2.1; omega)
  refine ⟨?_, ?_, hF⟩
  · rw [x_beg hI hCls, ht, if_pos rfl, show nI (nG + 1) - 1 = nI nG from (pk_sub (a := nG + 1) (b := 1) (by omega)).trans (by rw [Nat.add_sub_cancel])]
  · rw [e] at ht ⊢
    refine ⟨ct, vt, gt, tb, vb, _, _, nC, nV, nG + 1, hC, ?_⟩
    obtain ⟨q3, q4⟩ := x_begH ht
    obtain ⟨m3, l3, e3⟩ := x_holdB q3
    obtain ⟨m4, l4, e4⟩ := x_holdB q4
    obtain ⟨i1, i2, i3, i4⟩ := hI
    have o : ∀ k, k < 10 ∨ 18 < k → sgBegin σ nG v a1 a2 a3 a4 k = σ k := fun k => sgBegin_o σ nG v a1 a2 a3 a4
    obtain ⟨-, -, -, -, -, s16, s17, s18, -⟩ := sgBegin_s σ nG v a1 a2 a3 a4
    unfold xInv
    rw [o 1 (by decide), o 2 (by decide), o 3 (by decide), o 4 (by decide), o 6 (by decide), o 8 (by decide), o 9 (by decide), s16, s17, s18]
    refine ⟨i1, i2, i3, fun u hu d hd hd60 j hj => ?_⟩
    by_cases hun : u = nG
    · subst hun
      rw [upd_s] at hd
      have hd0 : 0 = d := (nI_eq (a := 0) (b := d) (by omega) (by omega)).mp hd
      have hj0 : j = 0 := by omega
      subst hj0
      refine ⟨m3, m4, l3, l4, ?_, ?_⟩
      · rw [Nat.add_zero, upd_s, e3]
      · rw [Nat.add_zero, upd_s, e4]
    · rw [upd_n _ _ hun] at hd
      rw [upd_n _ _ (by omega), upd_n _ _ (by omega)]
      exact i4 u (by omega) d hd hd60 j hj
end MB2
