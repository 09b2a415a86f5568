/-! cards, variants, votes, bans -/
def xCardB (a0 a1 a2 a3 : Int32) : Bool := (if (fX5_in a0 0 2) = true then (if (fX5_in a1 (-2) 2) = true then (if (fX5_in a2 (-2) 2) = true then (if (fX5_in a3 1 4) = true then (if a1 = 0 then (if a2 = 0 then (false) else (true)) else (true)) else (false)) else (false)) else (false)) else (false))
theorem x_cardT (nC : Nat) (a0 a1 a2 a3 : Int32) : tX4_card nC a0 a1 a2 a3 = if xCardB a0 a1 a2 a3 = true then (if nI nC < 8 then 0 else 2) else 1 := by
  unfold tX4_card xCardB fX4_isStep fX5_in
  by_cases h1 : a0 < 0
  · simp only [h1, ↓reduceIte, Bool.false_eq_true]
  by_cases h2 : 2 < a0
  · simp only [h1, h2, ↓reduceIte, Bool.false_eq_true]
  by_cases h3 : a1 < -2
  · simp only [h1, h2, h3, ↓reduceIte, Bool.false_eq_true]
  by_cases h4 : 2 < a1
  · simp only [h1, h2, h3, h4, ↓reduceIte, Bool.false_eq_true]
  by_cases h5 : a2 < -2
  · simp only [h1, h2, h3, h4, h5, ↓reduceIte, Bool.false_eq_true]
  by_cases h6 : 2 < a2
  · simp only [h1, h2, h3, h4, h5, h6, ↓reduceIte, Bool.false_eq_true]
  by_cases h9 : a3 < 1
  · simp only [h1, h2, h3, h4, h5, h6, h9, ↓reduceIte, Bool.false_eq_true]
    by_cases h7 : a1 = 0 <;> by_cases h8 : a2 = 0 <;> simp only [h7, h8, ↓reduceIte, Bool.false_eq_true]
  by_cases h10 : a3 ≤ 4
  · have h11 : ¬ 4 < a3 := Int32.not_lt.mpr h10
    simp only [h1, h2, h3, h4, h5, h6, h9, h10, h11, ↓reduceIte, Bool.false_eq_true]
  · have h11 : 4 < a3 := Int32.not_le.mp h10
    simp only [h1, h2, h3, h4, h5, h6, h9, h10, h11, ↓reduceIte, Bool.false_eq_true]
    by_cases h7 : a1 = 0 <;> by_cases h8 : a2 = 0 <;> simp only [h7, h8, ↓reduceIte, Bool.false_eq_true]
theorem x_cardM (σ : xSg) (nC : Nat) (a0 a1 a2 a3 : Int32) : mX5_card σ nC a0 a1 a2 a3 = if xCardB a0 a1 a2 a3 = true then (if (σ 0 0) = (8 : Int32) then (((0 : Int32), 2)) else (((nI (nC + 1)) - 1, 0))) else (((0 : Int32), 1)) := rfl
theorem x_lt8 {n : Nat} (h : n ≤ 12) (k : Nat) (hk : k ≤ 12) : (nI n < nI k) ↔ n < k := nI_ltI (by omega) (by omega)
section MT
variable {G : xG} {E Ec : xE} {o : Nat} {ct vt gt : Nat} {tb vb gb : Nat → Option Nat} {sa : Nat → Nat} {nC nV nG : Nat} {σ : xSg} {r1 : Int32}
theorem m_card_1 {a0 : Int32} {a1 : Int32} {a2 : Int32} {a3 : Int32} (hI : xInv σ nC nV nG) (hCls : xCls G E o ct vt gt tb vb gb sa nC nV nG σ) (hT : tX4_card nC a0 a1 a2 a3 = 1) : (mX5_card σ nC a0 a1 a2 a3).2 = 1 := by
  rw [x_cardT] at hT
  rw [x_cardM]
  cases h : xCardB a0 a1 a2 a3
  · rfl
  · rw [h, if_pos rfl] at hT
    exact absurd hT (by split <;> decide)
theorem m_card_2 {a0 : Int32} {a1 : Int32} {a2 : Int32} {a3 : Int32} (hI : xInv σ nC nV nG) (hCls : xCls G E o ct vt gt tb vb gb sa nC nV nG σ) (hT : tX4_card nC a0 a1 a2 a3 = 2) : (mX5_card σ nC a0 a1 a2 a3).2 = 2 := by
  rw [x_cardT] at hT
  rw [x_cardM]
  cases h : xCardB a0 a1 a2 a3
  · rw [h] at hT; cases hT
  · rw [h, if_pos rfl] at hT
    rw [if_pos rfl]
    have h8 : nC = 8 := by
      have := (x_h10 hCls).2.2.2.1
      rcases Nat.lt_or_ge nC 8 with z | z
      · rw [if_pos (show nI nC < 8 from (x_lt8 (by omega) 8 (by omega)).mpr z)] at hT; cases hT
      · omega
    rw [if_pos (show σ 0 0 = (8 : Int32) from by rw [(x_h10 hCls).1, h8]; rfl)]
def xVarB (σ : xSg) (a0 a1 : Int32) : Bool := (if (fX5_in a0 0 33554431) = true then (if (fX5_areCards (σ) a1) = true then (true) else (false)) else (false))
theorem x_variantM (σ : xSg) (nV : Nat) (a0 a1 : Int32) : mX5_variant σ nV a0 a1 = if xVarB σ a0 a1 = true then (if (σ 5 0) = (4 : Int32) then (((0 : Int32), 2)) else (((nI (nV + 1)) - 1, 0))) else (((0 : Int32), 1)) := rfl
theorem x_variantT (nC nV : Nat) (σ : xSg) (h : σ 0 0 = nI nC) (a0 a1 : Int32) : tX4_variant nC nV a0 a1 = if xVarB σ a0 a1 = true then (if nI nV < 4 then 0 else 2) else 1 := by
  have e : fX5_areCards σ a1 = fX4_isSetOfCards (nI nC) a1 := by unfold fX5_areCards; rw [h]; rfl
  unfold tX4_variant xVarB fX5_in
  rw [e]
  by_cases h1 : a0 < 0
  · simp only [h1, ↓reduceIte, Bool.false_eq_true]
  by_cases h2 : 33554431 < a0
  · simp only [h1, h2, ↓reduceIte, Bool.false_eq_true]
  cases h3 : fX4_isSetOfCards (nI nC) a1 <;> simp only [h1, h2, ↓reduceIte, Bool.false_eq_true]
theorem m_variant_1 {a0 : Int32} {a1 : Int32} (hI : xInv σ nC nV nG) (hCls : xCls G E o ct vt gt tb vb gb sa nC nV nG σ) (hT : tX4_variant nC nV a0 a1 = 1) : (mX5_variant σ nV a0 a1).2 = 1 := by
  rw [x_variantT nC nV σ (x_h10 hCls).1] at hT
  rw [x_variantM]
  cases h : xVarB σ a0 a1
  · rfl
  · rw [h, if_pos rfl] at hT
    exact absurd hT (by split <;> decide)
theorem m_variant_2 {a0 : Int32} {a1 : Int32} (hI : xInv σ nC nV nG) (hCls : xCls G E o ct vt gt tb vb gb sa nC nV nG σ) (hT : tX4_variant nC nV a0 a1 = 2) : (mX5_variant σ nV a0 a1).2 = 2 := by
  rw [x_variantT nC nV σ (x_h10 hCls).1] at hT
  rw [x_variantM]
  cases h : xVarB σ a0 a1
  · rw [h] at hT; cases hT
  · rw [h, if_pos rfl] at hT
    rw [if_pos rfl]
    have h8 : nV = 4 := by
      have := (x_h10 hCls).2.2.2.2.1
      rcases Nat.lt_or_ge nV 4 with z | z
      · rw [if_pos (show nI nV < 4 from (x_lt8 (by omega) 4 (by omega)).mpr z)] at hT; cases hT
      · omega
    rw [if_pos (show σ 5 0 = (4 : Int32) from by rw [(x_h10 hCls).2.1, h8]; rfl)]
theorem m_vote_3 {a0 a1 : Int32} (hI : xInv σ nC nV nG) (hCls : xCls G E o ct vt gt tb vb gb sa nC nV nG σ) (hT : tX4_vote nV a0 a1 = 3) : (mX5_vote σ (a1.toNatClampNeg) a0 a1).2 = 1 := by
  unfold tX4_vote at hT
  rw [x_cp] at hT
  unfold mX5_vote
  rcases x_ix3 (nI 5) a0 with z | z
  · rw [if_pos z] at hT
    rcases x_ix3 (nI nV) a1 with y | y
    · rw [if_pos y] at hT; cases hT
    · rw [if_pos ((x_isP a0).1 z), (x_isV (x_h10 hCls).2.1 _).2 y]; rfl
  · rw [(x_isP a0).2 z]; rfl
theorem m_points_3 {a0 a1 : Int32} (hI : xInv σ nC nV nG) (hCls : xCls G E o ct vt gt tb vb gb sa nC nV nG σ) (hT : tX4_points nV a0 a1 = 3) : (mX5_points σ nG (a1.toNatClampNeg) a0 a1).2 = 1 := by
  unfold tX4_points at hT
  rw [x_cp] at hT
  unfold mX5_points
  rcases x_ix3 (nI 5) a0 with z | z
  · rw [if_pos z] at hT
    rcases x_ix3 (nI nV) a1 with y | y
    · rw [if_pos y] at hT; cases hT
    · rw [if_pos ((x_isP a0).1 z), (x_isV (x_h10 hCls).2.1 _).2 y]; rfl
  · rw [(x_isP a0).2 z]; rfl
theorem m_isBanned_3 {a0 : Int32} (hI : xInv σ nC nV nG) (hCls : xCls G E o ct vt gt tb vb gb sa nC nV nG σ) (hT : tX4_isBanned nV a0 = 3) : (mX5_isBanned σ (a0.toNatClampNeg) a0).2 = 1 := by
  unfold mX5_isBanned
  rw [if_neg (Bool.eq_false_iff.mp ((x_isV (x_h10 hCls).2.1 _).2 (by rw [← hT]; exact (x_tid _).symm)))]
theorem x_banned5 (σ : xSg) (u : Nat) : fX5_isBannedNow σ u = (if 3 ≤ (((((0 + (((σ 8 u) >>> ((nI 0) &&& 31)) &&& 1)) + (((σ 8 u) >>> ((nI 1) &&& 31)) &&& 1)) + (((σ 8 u) >>> ((nI 2) &&& 31)) &&& 1)) + (((σ 8 u) >>> ((nI 3) &&& 31)) &&& 1)) + (((σ 8 u) >>> ((nI 4) &&& 31)) &&& 1)) then true else (if (σ 9 u) < 2 then false else true)) := by
  unfold fX5_isBannedNow
  rw [gX5_isBannedNow, if_neg (by decide), gX5_isBannedNow, if_neg (by decide), gX5_isBannedNow, if_neg (by decide), gX5_isBannedNow, if_neg (by decide), gX5_isBannedNow, if_neg (by decide), gX5_isBannedNow, if_pos (by decide)]
theorem x_bits5 : ∀ w : Fin 32, (((((0 + (((nI w.val) >>> ((nI 0) &&& 31)) &&& 1)) + (((nI w.val) >>> ((nI 1) &&& 31)) &&& 1)) + (((nI w.val) >>> ((nI 2) &&& 31)) &&& 1)) + (((nI w.val) >>> ((nI 3) &&& 31)) &&& 1)) + (((nI w.val) >>> ((nI 4) &&& 31)) &&& 1)) = fJ6_bitCount_0f7a4 (nI w.val) := by decide +kernel
theorem x_bits5s : ∀ w : Fin 32, fX5_size (nI w.val) = fJ6_bitCount_0f7a4 (nI w.val) := by decide +kernel
theorem x_xor5 : ∀ w : Fin 32, ∀ q : Fin 5, ∃ w2 : Fin 32, (nI w.val) ^^^ ((1 : Int32) <<< ((nI q.val) &&& 31)) = nI w2.val := by decide +kernel
theorem x_isOut {σ : xSg} {nC nV nG v : Nat} (hI : xInv σ nC nV nG) (hv : v < nV) : fX5_isBannedNow σ v = fX3_isOut (σ 8 v) (σ 9 v) := by
  obtain ⟨-, w, hw, e⟩ := hI.2.1 v hv
  rw [x_banned5, e, x_bits5 ⟨w, hw⟩]
  rfl
theorem m_isBanned {a0 : Int32} (hI : xInv σ nC nV nG) (hCls : xCls G E o ct vt gt tb vb gb sa nC nV nG σ) (hP : wX4_isBanned G E o a0 ct vt gt tb vb gb sa nC nV nG σ r1 Ec) : mX5_isBanned σ (a0.toNatClampNeg) a0 = (r1, 0) ∧ xLc G Ec o (σ) ∧ xFr tC E Ec := by
  obtain ⟨ht, rfl, v, rfl, hv, rfl⟩ := hP
  refine ⟨?_, ⟨ct, vt, gt, tb, vb, gb, sa, nC, nV, nG, hCls, hI⟩, xFr_rf⟩
  rw [nI_clamp (by have := (x_h10 hCls).2.2.2.2.1; omega)]
  unfold mX5_isBanned
  rw [if_pos ((x_isV (x_h10 hCls).2.1 _).1 (by rw [← ht]; exact (x_tid _).symm)), x_isOut hI hv]
  cases fX3_isOut (σ 8 v) (σ 9 v) <;> rfl
theorem x_pm (a : Int32) (h1 : ¬ a < -2) (h2 : ¬ 2 < a) : ∃ x : Nat, x ≤ 4 ∧ a = nI x - 2 := by
  have l1 : (-2 : Int) ≤ a.toInt := by have := Int32.le_iff_toInt_le.mp (Int32.not_lt.mp h1); exact this
  have l2 : a.toInt ≤ (2 : Int) := by have := Int32.le_iff_toInt_le.mp (Int32.not_lt.mp h2); exact this
  have e : a = Int32.ofInt a.toInt := (Int32.ofInt_toInt a).symm
  rcases (show a.toInt = -2 ∨ a.toInt = -1 ∨ a.toInt = 0 ∨ a.toInt = 1 ∨ a.toInt = 2 by omega) with z | z | z | z | z <;> rw [z] at e
  · exact ⟨0, by omega, by rw [e]; decide⟩
  · exact ⟨1, by omega, by rw [e]; decide⟩
  · exact ⟨2, by omega, by rw [e]; decide⟩
  · exact ⟨3, by omega, by rw [e]; decide⟩
  · exact ⟨4, by omega, by rw [e]; decide⟩
theorem x_inT {a lo hi : Int32} (h : fX5_in a lo hi = true) : ¬ a < lo ∧ ¬ hi < a := by
  unfold fX5_in at h
  by_cases h1 : a < lo
  · rw [if_pos h1] at h; cases h
  · rw [if_neg h1] at h
    by_cases h2 : hi < a
    · rw [if_pos h2] at h; cases h
    · exact ⟨h1, h2⟩
theorem x_cardB {a0 a1 a2 a3 : Int32} (h : xCardB a0 a1 a2 a3 = true) : (a0 = 0 ∨ a0 = 1 ∨ a0 = 2) ∧ (∃ x : Nat, x ≤ 4 ∧ a1 = nI x - 2) ∧ (∃ y : Nat, y ≤ 4 ∧ a2 = nI y - 2) ∧ ¬ (a1 = 0 ∧ a2 = 0) ∧ ∃ r : Nat, a3 = nI r ∧ 1 ≤ r ∧ r ≤ 4 := by
  unfold xCardB at h
  have q0 := x_if1 h; have h := x_if2 h
  have q1 := x_if1 h; have h := x_if2 h
  have q2 := x_if1 h; have h := x_if2 h
  have q3 := x_if1 h; have h := x_if2 h
  refine ⟨?_, x_pm a1 (x_inT q1).1 (x_inT q1).2, x_pm a2 (x_inT q2).1 (x_inT q2).2, ?_, ?_⟩
  · obtain ⟨j, hj, rfl⟩ := nI_of (x_inT q0).1
    have : j ≤ 2 := by
      have := (x_inT q0).2
      rcases Nat.lt_or_ge 2 j with z | z
      · exact absurd ((nI_ltI (a := 2) (by omega) hj).mpr z) this
      · exact z
    rcases (show j = 0 ∨ j = 1 ∨ j = 2 by omega) with rfl | rfl | rfl
    · exact Or.inl rfl
    · exact Or.inr (Or.inl rfl)
    · exact Or.inr (Or.inr rfl)
  · rintro ⟨z1, z2⟩
    rw [if_pos z1, if_pos z2] at h
    cases h
  · obtain ⟨l1, l2⟩ := x_inT q3
    obtain ⟨j, hj, rfl⟩ := nI_of (x := a3) (fun z => l1 (Int32.lt_trans z (by decide)))
    refine ⟨j, rfl, ?_, ?_⟩
    · rcases Nat.lt_or_ge j 1 with z | z
      · exact absurd ((nI_ltI (b := 1) hj (by omega)).mpr z) l1
      · exact z
    · rcases Nat.lt_or_ge 4 j with z | z
      · exact absurd ((nI_ltI (a := 4) (by omega) hj).mpr z) l2
      · exact z
theorem m_card {a0 : Int32} {a1 : Int32} {a2 : Int32} {a3 : Int32} (hI : xInv σ nC nV nG) (hCls : xCls G E o ct vt gt tb vb gb sa nC nV nG σ) (hP : wX4_card G E o a0 a1 a2 a3 ct vt gt tb vb gb sa nC nV nG σ r1 Ec) : mX5_card σ nC a0 a1 a2 a3 = (r1, 0) ∧ xLc G Ec o (sgCard σ nC a0 a1 a2 (if a0 = 0 then (1 : Int32) else a3)) ∧ xFr tC E Ec := by
  obtain ⟨ht, rfl, hn, q, hC, hF⟩ := hP
  rw [x_cardT] at ht
  have hB : xCardB a0 a1 a2 a3 = true := by
    cases h : xCardB a0 a1 a2 a3
    · rw [h] at ht; cases ht
    · rfl
  obtain ⟨b0, b1, b2, b3, r, b4, b5, b6⟩ := x_cardB hB
  refine ⟨?_, ⟨ct, vt, gt, _, vb, gb, sa, nC + 1, nV, nG, hC, ?_⟩, hF⟩
  · rw [x_cardM, hB, if_pos rfl, if_neg (show ¬ σ 0 0 = (8 : Int32) from by rw [(x_h10 hCls).1]; exact fun z => by have := (nI_eq (a := nC) (b := 8) (by omega) (by omega)).mp z; omega)]
    rw [show nI (nC + 1) - 1 = nI nC from (pk_sub (a := nC + 1) (b := 1) (by omega)).trans (by rw [Nat.add_sub_cancel])]
  · obtain ⟨i1, i2, i3, i4⟩ := hI
    refine ⟨fun k hk => ?_, i2, i3, i4⟩
    show (upd (σ 1) nC a0 k = 0 ∨ upd (σ 1) nC a0 k = 1 ∨ upd (σ 1) nC a0 k = 2) ∧ (∃ x : Nat, x ≤ 4 ∧ upd (σ 2) nC a1 k = nI x - 2) ∧ (∃ y : Nat, y ≤ 4 ∧ upd (σ 3) nC a2 k = nI y - 2) ∧ ¬ (upd (σ 2) nC a1 k = 0 ∧ upd (σ 3) nC a2 k = 0) ∧ ∃ r : Nat, upd (σ 4) nC (if a0 = 0 then (1 : Int32) else a3) k = nI r ∧ 1 ≤ r ∧ r ≤ 4 ∧ (upd (σ 1) nC a0 k = 0 → r = 1)
    by_cases hkn : k = nC
    · subst hkn
      simp only [upd_s]
      refine ⟨b0, b1, b2, b3, ?_⟩
      by_cases z : a0 = 0
      · rw [if_pos z]; exact ⟨1, rfl, by omega, by omega, fun _ => rfl⟩
      · rw [if_neg z]; exact ⟨r, b4, b5, b6, fun y => absurd y z⟩
    · simp only [upd_n _ _ hkn]
      exact i1 k (by omega)
theorem m_vote {a0 : Int32} {a1 : Int32} (hI : xInv σ nC nV nG) (hCls : xCls G E o ct vt gt tb vb gb sa nC nV nG σ) (hP : wX4_vote G E o a0 a1 ct vt gt tb vb gb sa nC nV nG σ r1 Ec) : mX5_vote σ (a1.toNatClampNeg) a0 a1 = (r1, 0) ∧ xLc G Ec o (sgU σ 8 (a1.toNatClampNeg) ((σ 8 a1.toNatClampNeg) ^^^ ((1 : Int32) <<< (a0 &&& 31)))) ∧ xFr tC E Ec := by
  obtain ⟨ht, v, rfl, hv, rfl, hC, hF⟩ := hP
  have hv4 := (x_h10 hCls).2.2.2.2.1
  rw [nI_clamp (by omega)]
  unfold tX4_vote at ht
  rw [x_cp] at ht
  have h0 : tIx (nI 5) a0 = 0 := by
    rcases x_ix3 (nI 5) a0 with z | z
    · exact z
    · rw [z, if_neg (by decide)] at ht; cases ht
  rw [if_pos h0] at ht
  have h1 : tIx (nI nV) (nI v) = 0 := by rw [← ht]; exact (x_tid _).symm
  obtain ⟨p, hp, hp5⟩ : ∃ p : Nat, a0 = nI p ∧ p < 5 := x_mIx (n := 5) (by omega) rfl ((x_isP a0).1 h0)
  obtain ⟨⟨h, hh, eh⟩, w, hw, ew⟩ := hI.2.1 v hv
  obtain ⟨w2, e2⟩ := x_xor5 ⟨w, hw⟩ ⟨p, hp5⟩
  have e3 : (σ 8 v) ^^^ ((1 : Int32) <<< (a0 &&& 31)) = nI w2.val := by rw [ew, hp]; exact e2
  refine ⟨?_, ⟨ct, vt, gt, tb, vb, gb, sa, nC, nV, nG, hC, ?_⟩, hF⟩
  · unfold mX5_vote
    rw [(x_isP a0).1 h0, (x_isV (x_h10 hCls).2.1 _).1 h1, upd_s, e3, x_bits5s]
    rfl
  · obtain ⟨i1, i2, i3, i4⟩ := hI
    refine ⟨i1, fun k hk => ⟨(i2 k hk).1, ?_⟩, fun k hk => ?_, i4⟩
    · show ∃ w : Nat, w < 32 ∧ upd (σ 8) v _ k = nI w
      by_cases hkv : k = v
      · rw [hkv, upd_s, e3]; exact ⟨w2.val, w2.isLt, rfl⟩
      · rw [upd_n _ _ hkv]; exact (i2 k hk).2
    · show upd (σ 8) v _ k = 0 ∧ σ 9 k = 0
      rw [upd_n _ _ (by omega)]; exact i3 k hk
theorem m_variant {a0 : Int32} {a1 : Int32} (hI : xInv σ nC nV nG) (hCls : xCls G E o ct vt gt tb vb gb sa nC nV nG σ) (hP : wX4_variant G E o a0 a1 ct vt gt tb vb gb sa nC nV nG σ r1 Ec) : mX5_variant σ nV a0 a1 = (r1, 0) ∧ xLc G Ec o (sgVar σ nV a0 a1) ∧ xFr tC E Ec := by
  obtain ⟨ht, rfl, hn, q, hC, hF⟩ := hP
  rw [x_variantT nC nV σ (x_h10 hCls).1] at ht
  have hB : xVarB σ a0 a1 = true := by
    cases h : xVarB σ a0 a1
    · rw [h] at ht; cases ht
    · rfl
  refine ⟨?_, ⟨ct, vt, gt, tb, _, gb, sa, nC, nV + 1, nG, hC, ?_⟩, hF⟩
  · rw [x_variantM, hB, if_pos rfl, if_neg (show ¬ σ 5 0 = (4 : Int32) from by rw [(x_h10 hCls).2.1]; exact fun z => by have := (nI_eq (a := nV) (b := 4) (by omega) (by omega)).mp z; omega)]
    rw [show nI (nV + 1) - 1 = nI nV from (pk_sub (a := nV + 1) (b := 1) (by omega)).trans (by rw [Nat.add_sub_cancel])]
  · obtain ⟨i1, i2, i3, i4⟩ := hI
    unfold xVarB at hB
    have q0 := x_if1 hB
    refine ⟨i1, fun k hk => ?_, fun k hk => i3 k (by omega), i4⟩
    show (∃ h : Nat, h < 2 ^ 25 ∧ upd (σ 6) nV a0 k = nI h) ∧ ∃ w : Nat, w < 32 ∧ σ 8 k = nI w
    by_cases hkn : k = nV
    · subst hkn
      rw [upd_s]
      refine ⟨?_, 0, by omega, (i3 k (Nat.le_refl _)).1⟩
      obtain ⟨l1, l2⟩ := x_inT q0
      obtain ⟨j, hj, rfl⟩ := nI_of l1
      refine ⟨j, ?_, rfl⟩
      rcases Nat.lt_or_ge 33554431 j with z | z
      · exact absurd ((nI_ltI (a := 33554431) (by omega) hj).mpr z) l2
      · omega
    · rw [upd_n _ _ hkn]
      exact i2 k (by omega)
end MT
