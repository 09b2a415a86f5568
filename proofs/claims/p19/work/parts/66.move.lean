/-! a move: its state, its bans, its sets of cells -/
theorem yBd_and {a b : Int32} (h : yBd a) : yBd (a &&& b) := by
  intro i hi
  rw [b_and, h i hi, Bool.false_and]
theorem yBd_oC {a : Int32} {c : Nat} (h : yBd a) (hc : c < 25) : yBd (a ||| oC c) := by
  intro i hi
  rw [b_or, h i hi, Bool.false_or]
  by_cases h32 : i < 32
  · rw [x_oC (by omega) h32]
    exact decide_eq_false (by omega)
  · exact b_big (by omega)
theorem yBd_mv {a : Int32} {f t : Nat} (h : yBd a) (ht : t < 25) : yBd (fX4_moved a (nI f) (nI t)) := yBd_oC (yBd_and h) ht
theorem yBd_wt {a : Int32} {t : Nat} (h : yBd a) : yBd (a &&& (((1 : Int32) <<< (nI t &&& 31)) ^^^ (-1))) := yBd_and h
theorem x_endsSame {σ σ' : xSg} (h1 : σ' 1 = σ 1) (h2 : σ' 2 = σ 2) (h3 : σ' 3 = σ 3) (h4 : σ' 4 = σ 4) (nC : Nat) (S h a0 a1 a2 : Int32) (a3 : Bool) : ∀ (n k : Nat) (w : Int32), gX2_endsFrom σ' nC S h a0 a1 a2 a3 n k w = gX2_endsFrom σ nC S h a0 a1 a2 a3 n k w := by
  intro n
  induction n with
  | zero => intro k w; rfl
  | succ n ih =>
    intro k w
    rw [gX2_endsFrom, gX2_endsFrom, h1, h2, h3, h4, ih, ih]
theorem x_ends2Same {σ σ' : xSg} (h1 : σ' 1 = σ 1) (h2 : σ' 2 = σ 2) (h3 : σ' 3 = σ 3) (h4 : σ' 4 = σ 4) (nC : Nat) (S h a0 a1 a2 : Int32) (a3 : Bool) : fX2_endsFrom σ' nC S h a0 a1 a2 a3 = fX2_endsFrom σ nC S h a0 a1 a2 a3 := by
  unfold fX2_endsFrom
  rw [x_endsSame h1 h2 h3 h4]
theorem x_hasSame {σ σ' : xSg} (h1 : σ' 1 = σ 1) (h2 : σ' 2 = σ 2) (h3 : σ' 3 = σ 3) (h4 : σ' 4 = σ 4) (nC : Nat) (S h a0 a1 : Int32) (a2 : Bool) : fX2_hasMove σ' nC S h a0 a1 a2 = fX2_hasMove σ nC S h a0 a1 a2 := by
  unfold fX2_hasMove
  have e : ∀ (n k : Nat), gX2_hasMove σ' nC S h a0 a1 a2 n k = gX2_hasMove σ nC S h a0 a1 a2 n k := by
    intro n
    induction n with
    | zero => intro k; rfl
    | succ n ih =>
      intro k
      rw [gX2_hasMove, gX2_hasMove, x_ends2Same h1 h2 h3 h4, ih]
  exact e 26 0
theorem x_secN : ∀ d : Fin 61, fX1_isSecondToMove (nI (d.val + 1)) = !(fX1_isSecondToMove (nI d.val)) := by decide +kernel
section MV
variable {G : xG} {E Ec : xE} {o : Nat} {ct vt gt : Nat} {tb vb gb : Nat → Option Nat} {sa : Nat → Nat} {nC nV nG : Nat} {σ : xSg} {r1 : Int32}
/-- a game of the state -/
theorem x_gm (hCls : xCls G E o ct vt gt tb vb gb sa nC nV nG σ) {u : Nat} (hu : u < nG) : ∃ d v, xGm σ u d v ∧ v < nV := by
  obtain ⟨-, -, -, -, -, hV, hG⟩ := hCls
  obtain ⟨a, -, va, gr, v, d, sq, -, e1, e2, e3, e4, -⟩ := hG.2.2.2.1 u hu
  exact ⟨d, v, ⟨by have := hG.2.1; omega, e1, e2, e3, by have := hV.2.1; omega⟩, e4⟩
theorem x_moAB {u d v : Nat} {a1 a2 : Int32} (h16 : σ 16 u = nI d) : moA σ u d v a1 a2 = goA (σ 17 (61 * u + d)) (σ 18 (61 * u + d)) d a1 a2 ∧ moB σ u d v a1 a2 = goB (σ 17 (61 * u + d)) (σ 18 (61 * u + d)) d a1 a2 := by
  unfold moA moB goA goB
  rw [x_sec h16, x_pcT h16, x_pcF h16]
  exact ⟨rfl, rfl⟩
theorem x_goMover {p1 p2 a1 a2 : Int32} {d : Nat} (hd : d < 60) : fX1_ofMover (goA p1 p2 d a1 a2) (goB p1 p2 d a1 a2) (nI (d + 1)) = ((fX1_ofWaiting p1 p2 (nI d)) &&& (((1 : Int32) <<< (a2 &&& 31)) ^^^ (-1))) ∧
    fX1_ofWaiting (goA p1 p2 d a1 a2) (goB p1 p2 d a1 a2) (nI (d + 1)) = fX4_moved (fX1_ofMover p1 p2 (nI d)) a1 a2 := by
  have e := x_secN ⟨d, by omega⟩
  dsimp only at e
  unfold goA goB
  generalize hM : fX1_ofMover p1 p2 (nI d) = M
  generalize hW : fX1_ofWaiting p1 p2 (nI d) = W
  unfold fX1_ofMover fX1_ofWaiting
  rw [e]
  cases fX1_isSecondToMove (nI d) <;> exact ⟨rfl, rfl⟩
/-- what a move answers, and how many games were endless then -/
theorem x_settle (hI : xInv σ nC nV nG) (hCls : xCls G E o ct vt gt tb vb gb sa nC nV nG σ) {u d v f t : Nat} {sq : Nat → Int64} (hu : u < nG) (hv : v < nV) (hg : xGm σ u d v) (hd : d < 60) (hf : f < 25) (ht : t < 25)
    (hq : ∀ j, j ≤ d → sq j = fX1_placing (σ 17 (61 * u + j)) (σ 18 (61 * u + j)) (fX1_isSecondToMove (nI j)))
    (hB : xCanB σ (nI u) (nI f) (nI t) = true) (hO : fX3_isOut (σ 8 v) (σ 9 v) = false) (hA : fX1_allows σ nC (σ 12 u) (σ 6 v) (σ 17 (61 * u + d)) (σ 18 (61 * u + d)) (nI d) (σ 15 u) (nI f) (nI t) = true)
    (A B : Int32) (hAe : A = goA (σ 17 (61 * u + d)) (σ 18 (61 * u + d)) d (nI f) (nI t)) (hBe : B = goB (σ 17 (61 * u + d)) (σ 18 (61 * u + d)) d (nI f) (nI t)) :
    yBd A ∧ yBd B ∧ mX5_move σ u d v (nI u) (nI f) (nI t) = ((fX1_settle σ nC (σ 12 u) (σ 6 v) A B (nI (d + 1)) (σ 15 u) (σ 9 v) (vp_updL sq (d + 1) (fX1_placing A B (fX1_isSecondToMove (nI (d + 1)))))).1, 0, (fX1_settle σ nC (σ 12 u) (σ 6 v) A B (nI (d + 1)) (σ 15 u) (σ 9 v) (vp_updL sq (d + 1) (fX1_placing A B (fX1_isSecondToMove (nI (d + 1)))))).2) := by
  obtain ⟨h0, h5, h10, hnC, hnV, hnG⟩ := x_h10 hCls
  have h16 := hg.2.1
  obtain ⟨mA, mB⟩ := x_moAB (σ := σ) (u := u) (d := d) (v := v) (a1 := nI f) (a2 := nI t) h16
  rw [← hAe] at mA
  rw [← hBe] at mB
  obtain ⟨gM, gW⟩ := x_goMover (p1 := σ 17 (61 * u + d)) (p2 := σ 18 (61 * u + d)) (a1 := nI f) (a2 := nI t) hd
  rw [← hAe, ← hBe] at gM gW
  obtain ⟨a, b, ha, hb, ea, eb⟩ := hI.2.2.2 u hu d h16 hg.2.2.1 d (Nat.le_refl d)
  have b1 : yBd (σ 17 (61 * u + d)) := by rw [ea]; exact yBd_of ha
  have b2 : yBd (σ 18 (61 * u + d)) := by rw [eb]; exact yBd_of hb
  have bM : yBd (fX1_ofMover (σ 17 (61 * u + d)) (σ 18 (61 * u + d)) (nI d)) := by
    unfold fX1_ofMover
    cases fX1_isSecondToMove (nI d)
    · exact b1
    · exact b2
  have bW : yBd (fX1_ofWaiting (σ 17 (61 * u + d)) (σ 18 (61 * u + d)) (nI d)) := by
    unfold fX1_ofWaiting
    cases fX1_isSecondToMove (nI d)
    · exact b2
    · exact b1
  have bA : yBd A := by
    rw [hAe]
    unfold goA
    cases fX1_isSecondToMove (nI d)
    · exact yBd_mv bM ht
    · exact yBd_wt bW
  have bB : yBd B := by
    rw [hBe]
    unfold goB
    cases fX1_isSecondToMove (nI d)
    · exact yBd_wt bW
    · exact yBd_mv bM ht
  refine ⟨bA, bB, ?_⟩
  have hC : fX5_canNow σ d v u (nI f) (nI t) = true := by
    rw [x_canNow h0 hnC hI.1 hf ht h16, ← x_allows hnC hI.1 hf ht]
    exact hA
  have hS := x_sec (σ := σ) (u := u) (d := d) (v := v) h16
  have hT := x_pcT (σ := σ) (u := u) (d := d) (v := v) h16
  have hF := x_pcF (σ := σ) (u := u) (d := d) (v := v) h16
  obtain ⟨τ, hτ⟩ : ∃ τ : xSg, τ = sgU (sgU (sgU σ 16 u (nI (d + 1))) 17 (61 * u + (d + 1)) A) 18 (61 * u + (d + 1)) B := ⟨_, rfl⟩
  have t16 : τ 16 = upd (σ 16) u (nI (d + 1)) := by rw [hτ, sgU_n _ _ _ (by decide), sgU_n _ _ _ (by decide), sgU_f]
  have t17 : τ 17 = upd (σ 17) (61 * u + (d + 1)) A := by rw [hτ, sgU_n _ _ _ (by decide), sgU_f, sgU_n _ _ _ (by decide)]
  have t18 : τ 18 = upd (σ 18) (61 * u + (d + 1)) B := by rw [hτ, sgU_f, sgU_n _ _ _ (by decide), sgU_n _ _ _ (by decide)]
  have tO : ∀ k, k < 5 → τ k = σ k := fun k hk => by rw [hτ, sgU_n _ _ _ (by omega), sgU_n _ _ _ (by omega), sgU_n _ _ _ (by omega)]
  have tg : ∀ k, k < nC → xGc τ k := fun k hk => by
    unfold xGc
    rw [tO 1 (by omega), tO 2 (by omega), tO 3 (by omega), tO 4 (by omega)]
    exact hI.1 k hk
  have hm : fX5_moves τ (σ 12 u) (σ 6 v) (fX1_ofMover A B (nI (d + 1))) (fX1_ofWaiting A B (nI (d + 1))) (fX1_isSecondToMove (nI (d + 1))) = fX2_hasMove σ nC (σ 12 u) (σ 6 v) (fX1_ofMover A B (nI (d + 1))) (fX1_ofWaiting A B (nI (d + 1))) (fX1_isSecondToMove (nI (d + 1))) := by
    rw [← x_moves (by rw [tO 0 (by omega)]; exact h0) hnC tg, x_hasSame (tO 1 (by omega)) (tO 2 (by omega)) (tO 3 (by omega)) (tO 4 (by omega))]
  have hsN := x_secN ⟨d, by omega⟩
  dsimp only at hsN
  have htm : fX1_timesSeen A B (nI (d + 1)) (vp_updL sq (d + 1) (fX1_placing A B (fX1_isSecondToMove (nI (d + 1))))) = fX5_times τ (d + 1) v u := by
    have uj : ∀ j, j ≤ d → τ 17 (61 * u + j) = σ 17 (61 * u + j) ∧ τ 18 (61 * u + j) = σ 18 (61 * u + j) := fun j hj => by
      rw [t17, t18, upd_n _ _ (by omega), upd_n _ _ (by omega)]
      exact ⟨rfl, rfl⟩
    have us : τ 17 (61 * u + (d + 1)) = A ∧ τ 18 (61 * u + (d + 1)) = B := by
      rw [t17, t18, upd_s, upd_s]
      exact ⟨rfl, rfl⟩
    refine x_times (by omega) ?_ ?_ us.1.symm us.2.symm
    · intro j hj
      by_cases hjd : j = d + 1
      · rw [hjd, us.1, us.2]
        obtain ⟨na, la, ea2⟩ := yBd_to bA
        obtain ⟨nb, lb, eb2⟩ := yBd_to bB
        exact ⟨na, nb, la, lb, ea2, eb2⟩
      · rw [(uj j (by omega)).1, (uj j (by omega)).2]
        exact hI.2.2.2 u hu d h16 hg.2.2.1 j (by omega)
    · intro j hj
      by_cases hjd : j = d + 1
      · rw [hjd, us.1, us.2]
        exact pk_uLs
      · rw [(uj j (by omega)).1, (uj j (by omega)).2, pk_uLn hjd]
        exact hq j (by omega)
  have hB' : (if (fX5_isGame (σ) (nI u)) = true then (if (fX5_isCell (nI f)) = true then (if (fX5_isCell (nI t)) = true then (true) else (false)) else (false)) else (false)) = true := hB
  unfold mX5_move fX1_settle
  rw [hB', if_pos rfl, x_isOut hI hv, hO, if_neg x_nf, hC, if_pos rfl, mA, mB, ← hτ, hS, hT, hF, upd_s, htm, ← hm, hsN, gM, gW]
  have eb : (if fX1_isSecondToMove (nI d) = true then false else true) = !(fX1_isSecondToMove (nI d)) := by cases fX1_isSecondToMove (nI d) <;> rfl
  rw [eb]
  show (if fX5_moves τ (σ 12 u) (σ 6 v) (fX1_ofWaiting (σ 17 (61 * u + d)) (σ 18 (61 * u + d)) (nI d) &&& (((1 : Int32) <<< (nI t &&& 31)) ^^^ (-1))) (fX4_moved (fX1_ofMover (σ 17 (61 * u + d)) (σ 18 (61 * u + d)) (nI d)) (nI f) (nI t)) (!(fX1_isSecondToMove (nI d))) = true then _ else _) = _
  cases fX5_moves τ (σ 12 u) (σ 6 v) (fX1_ofWaiting (σ 17 (61 * u + d)) (σ 18 (61 * u + d)) (nI d) &&& (((1 : Int32) <<< (nI t &&& 31)) ^^^ (-1))) (fX4_moved (fX1_ofMover (σ 17 (61 * u + d)) (σ 18 (61 * u + d)) (nI d)) (nI f) (nI t)) (!(fX1_isSecondToMove (nI d)))
  · cases fX1_isSecondToMove (nI d) <;> rfl
  · rw [if_pos rfl, if_pos rfl]
    by_cases e1 : fX5_times τ (d + 1) v u < 3
    · rw [if_pos e1, if_pos e1]
      by_cases e2 : d + 1 = 60
      · rw [if_pos (show nI (d + 1) = (60 : Int32) by rw [e2]; rfl), if_neg (show ¬ nI (d + 1) < (60 : Int32) by rw [e2]; decide)]
      · rw [if_neg (show ¬ nI (d + 1) = (60 : Int32) from fun z => e2 ((nI_eq (a := d + 1) (b := 60) (by omega) (by omega)).mp z)), if_pos (show nI (d + 1) < (60 : Int32) from nI_lt (a := d + 1) (b := 60) (by omega) (by omega))]
    · rw [if_neg e1, if_neg e1]
theorem x_mvAns {u d v f t : Nat} {a0 : Int32} (hA : (fX1_allows σ nC (σ 12 u) (σ 6 v) (σ 17 (61 * u + d)) (σ 18 (61 * u + d)) (nI d) (σ 15 u) (nI f) (nI t)) = false) (h0 : σ 0 0 = nI nC) (hnC : nC ≤ 8) (hg : ∀ k, k < nC → xGc σ k) (hf : f < 25) (ht : t < 25) (h16 : σ 16 u = nI d) (hB : xCanB σ a0 (nI f) (nI t) = true) :
    (mX5_move σ u d v a0 (nI f) (nI t)).2.1 = 2 := by
  have hB' : (if (fX5_isGame (σ) a0) = true then (if (fX5_isCell (nI f)) = true then (if (fX5_isCell (nI t)) = true then (true) else (false)) else (false)) else (false)) = true := hB
  have hC : fX5_canNow σ d v u (nI f) (nI t) = false := by
    rw [x_canNow h0 hnC hg hf ht h16, ← x_allows hnC hg hf ht]
    exact hA
  unfold mX5_move
  rw [hB', if_pos rfl, hC, if_neg x_nf]
  cases fX5_isBannedNow σ v <;> rfl
theorem m_move_2 {a0 a1 a2 : Int32} (hI : xInv σ nC nV nG) (hCls : xCls G E o ct vt gt tb vb gb sa nC nV nG σ) (hT : tX4_move σ nC nG (a0.toNatClampNeg) ((σ 16 a0.toNatClampNeg).toNatClampNeg) ((σ 11 a0.toNatClampNeg).toNatClampNeg) a0 a1 a2 = 2) : (mX5_move σ (a0.toNatClampNeg) ((σ 16 a0.toNatClampNeg).toNatClampNeg) ((σ 11 a0.toNatClampNeg).toNatClampNeg) a0 a1 a2).2.1 = 2 := by
  obtain ⟨h0, h5, h10, hnC, hnV, hnG⟩ := x_h10 hCls
  rcases x_canB h10 a0 a1 a2 with ⟨z, hB, hz, h1, h2⟩ | ⟨z, -⟩
  · obtain ⟨u, hu, rfl⟩ := x_ixE (by omega) hz
    obtain ⟨f, hf, rfl⟩ := x_ixE (by omega) h1
    obtain ⟨t, ht, rfl⟩ := x_ixE (by omega) h2
    obtain ⟨d, v, hg, hv⟩ := x_gm hCls hu
    rw [nI_clamp (by omega), hg.2.1, nI_clamp (by have := hg.2.2.1; omega), hg.2.2.2.1, nI_clamp (by have := hg.2.2.2.2; omega)] at hT ⊢
    rw [(x_moveT σ nC nG u d v (nI u) (nI f) (nI t)).1 z] at hT
    cases hO : fX3_isOut (σ 8 v) (σ 9 v)
    · rw [hO, if_neg x_nf] at hT
      cases hA : fX1_allows σ nC (σ 12 u) (σ 6 v) (σ 17 (61 * u + d)) (σ 18 (61 * u + d)) (nI d) (σ 15 u) (nI f) (nI t)
      · exact x_mvAns hA h0 hnC hI.1 hf ht hg.2.1 hB
      · rw [hA] at hT; cases hT
    · have hB' : (if (fX5_isGame (σ) (nI u)) = true then (if (fX5_isCell (nI f)) = true then (if (fX5_isCell (nI t)) = true then (true) else (false)) else (false)) else (false)) = true := hB
      unfold mX5_move
      rw [hB', if_pos rfl, x_isOut hI hv, hO]
      rfl
  · rw [(x_moveT σ nC nG _ _ _ a0 a1 a2).2 z] at hT; cases hT
theorem m_move {a0 a1 a2 : Int32} (hI : xInv σ nC nV nG) (hCls : xCls G E o ct vt gt tb vb gb sa nC nV nG σ) (hP : wX4_move G E o a0 a1 a2 ct vt gt tb vb gb sa nC nV nG σ r1 Ec) : ∃ en : Int32, mX5_move σ (a0.toNatClampNeg) ((σ 16 a0.toNatClampNeg).toNatClampNeg) ((σ 11 a0.toNatClampNeg).toNatClampNeg) a0 a1 a2 = (r1, 0, en) ∧ xLc G Ec o (sgMove σ (a0.toNatClampNeg) ((σ 16 a0.toNatClampNeg).toNatClampNeg) ((σ 11 a0.toNatClampNeg).toNatClampNeg) (moA σ (a0.toNatClampNeg) ((σ 16 a0.toNatClampNeg).toNatClampNeg) ((σ 11 a0.toNatClampNeg).toNatClampNeg) a1 a2) (moB σ (a0.toNatClampNeg) ((σ 16 a0.toNatClampNeg).toNatClampNeg) ((σ 11 a0.toNatClampNeg).toNatClampNeg) a1 a2) r1 en) ∧ xFr tC E Ec := by
  obtain ⟨hT, u, d, v, sq, rfl, hu, hv, hg, hd, hq, rfl, hC, hF⟩ := hP
  obtain ⟨h0, h5, h10, hnC, hnV, hnG⟩ := x_h10 hCls
  rw [nI_clamp (by have := hg.1; omega), hg.2.1, nI_clamp (by omega), hg.2.2.2.1, nI_clamp (by have := hg.2.2.2.2; omega)] at hT ⊢
  rcases x_canB h10 (nI u) a1 a2 with ⟨z, hB, hz, h1, h2⟩ | ⟨z, -⟩
  · obtain ⟨f, hf, rfl⟩ := x_ixE (by omega) h1
    obtain ⟨t, ht, rfl⟩ := x_ixE (by omega) h2
    rw [(x_moveT σ nC nG u d v (nI u) (nI f) (nI t)).1 z] at hT
    have hO : fX3_isOut (σ 8 v) (σ 9 v) = false := by
      cases q : fX3_isOut (σ 8 v) (σ 9 v)
      · rfl
      · rw [q] at hT; cases hT
    rw [hO, if_neg x_nf] at hT
    have hA : fX1_allows σ nC (σ 12 u) (σ 6 v) (σ 17 (61 * u + d)) (σ 18 (61 * u + d)) (nI d) (σ 15 u) (nI f) (nI t) = true := by
      cases q : fX1_allows σ nC (σ 12 u) (σ 6 v) (σ 17 (61 * u + d)) (σ 18 (61 * u + d)) (nI d) (σ 15 u) (nI f) (nI t)
      · rw [q] at hT; cases hT
      · rfl
    obtain ⟨bA, bB, hM⟩ := x_settle hI hCls hu hv hg hd hf ht hq hB hO hA _ _ rfl rfl
    obtain ⟨mA, mB⟩ := x_moAB (σ := σ) (u := u) (d := d) (v := v) (a1 := nI f) (a2 := nI t) hg.2.1
    refine ⟨_, hM, ?_, hF⟩
    rw [mA, mB]
    refine ⟨ct, vt, gt, tb, vb, gb, sa, nC, nV, nG, hC, ?_⟩
    obtain ⟨i1, i2, i3, i4⟩ := hI
    clear hM hC hF
    generalize (fX1_settle σ nC (σ 12 u) (σ 6 v) (goA (σ 17 (61 * u + d)) (σ 18 (61 * u + d)) d (nI f) (nI t)) (goB (σ 17 (61 * u + d)) (σ 18 (61 * u + d)) d (nI f) (nI t)) (nI (d + 1)) (σ 15 u) (σ 9 v) (vp_updL sq (d + 1) (fX1_placing (goA (σ 17 (61 * u + d)) (σ 18 (61 * u + d)) d (nI f) (nI t)) (goB (σ 17 (61 * u + d)) (σ 18 (61 * u + d)) d (nI f) (nI t)) (fX1_isSecondToMove (nI (d + 1)))))) = se
    obtain ⟨na, la, ea⟩ := yBd_to bA
    obtain ⟨nb, lb, eb⟩ := yBd_to bB
    rw [ea, eb]
    have o : ∀ k, k ≠ 16 ∧ k ≠ 17 ∧ k ≠ 18 ∧ k ≠ 15 ∧ k ≠ 9 → sgMove σ u d v (nI na) (nI nb) se.1 se.2 k = σ k := fun k => sgMove_o σ u d v (nI na) (nI nb) se.1 se.2
    obtain ⟨s16, s17, s18, s15, s9⟩ := sgMove_s σ u d v (nI na) (nI nb) se.1 se.2
    unfold xInv
    rw [o 1 (by decide), o 2 (by decide), o 3 (by decide), o 4 (by decide), o 6 (by decide), o 8 (by decide), s9, s16, s17, s18]
    refine ⟨i1, i2, fun k hk => ⟨(i3 k hk).1, by rw [upd_n _ _ (by omega)]; exact (i3 k hk).2⟩, fun w hw d' hd' hd60 j hj => ?_⟩
    by_cases hwu : w = u
    · subst hwu
      rw [upd_s] at hd'
      have hdd : d + 1 = d' := (nI_eq (by omega) (by omega)).mp hd'
      subst hdd
      by_cases hjd : j = d + 1
      · subst hjd
        exact ⟨na, nb, la, lb, upd_s _ _ _, upd_s _ _ _⟩
      · rw [upd_n _ _ (by omega), upd_n _ _ (by omega)]
        exact i4 w hw d hg.2.1 hg.2.2.1 j (by omega)
    · rw [upd_n _ _ hwu] at hd'
      rw [upd_n _ _ (by omega), upd_n _ _ (by omega)]
      exact i4 w hw d' hd' hd60 j hj
  · rw [(x_moveT σ nC nG u d v (nI u) a1 a2).2 z] at hT; cases hT
end MV
