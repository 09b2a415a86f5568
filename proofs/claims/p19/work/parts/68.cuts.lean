/-! the search that cuts finds what the search of all finds -/
theorem y_neg {r : Int32} (h1 : -100 ≤ r.toInt) (h2 : r.toInt ≤ 100) : (-r).toInt = -r.toInt := by
  rw [Int32.toInt_neg, Int.bmod_def]
  omega
theorem y_mx (x y : Int32) : ((if x < y then y else x).toInt = y.toInt ∧ x.toInt < y.toInt) ∨ ((if x < y then y else x).toInt = x.toInt ∧ y.toInt ≤ x.toInt) := by
  by_cases c : x < y
  · rw [if_pos c]; exact Or.inl ⟨rfl, Int32.lt_iff_toInt_lt.mp c⟩
  · rw [if_neg c]; exact Or.inr ⟨rfl, Int.not_lt.mp (fun z => c (Int32.lt_iff_toInt_lt.mpr z))⟩
/-- while it goes on: what the search that cuts has found, and what the other one has -/
def cIn (lo hi b a : Int) : Prop := -100 ≤ b ∧ b ≤ 100 ∧ -100 ≤ a ∧ a ≤ b ∧ (lo < b → a = b) ∧ b < hi
/-- at the end -/
def cCn (lo hi r a : Int) : Prop := -100 ≤ r ∧ r ≤ 100 ∧ -100 ≤ a ∧ a ≤ 100 ∧ (r ≤ lo → a ≤ r) ∧ (hi ≤ r → r ≤ a) ∧ (lo < r → r < hi → r = a)
/-- a pair of searches one depth less -/
def cRn (rc : Int32 → Int32 → Bool → Int32 → Int32 → Int32) (ra : Int32 → Int32 → Bool → Int32) : Prop := ∀ (a b : Int32) (s : Bool) (lo hi : Int32), yBd a → yBd b → -100 ≤ lo.toInt → lo.toInt < hi.toInt → hi.toInt ≤ 100 → cCn lo.toInt hi.toInt (rc a b s lo hi).toInt (ra a b s).toInt
section CU
variable {σ : xSg} {nC : Nat} {S h own other lo hi : Int32} {s : Bool} {k : Nat} {rc : Int32 → Int32 → Bool → Int32 → Int32 → Int32} {ra : Int32 → Int32 → Bool → Int32}
theorem y_raB (hr : cRn rc ra) {a b : Int32} {s : Bool} (ba : yBd a) (bb : yBd b) : -100 ≤ (ra a b s).toInt ∧ (ra a b s).toInt ≤ 100 := by
  have := hr a b s (-100) 100 ba bb (by decide) (by decide) (by decide)
  exact ⟨this.2.2.1, this.2.2.2.1⟩
theorem y_ge2 {cont : Int32 → Int32} (hr : cRn rc ra) (bo : yBd own) (bw : yBd other) (hc : ∀ x : Int32, -100 ≤ x.toInt → x.toInt ≤ 100 → x.toInt ≤ (cont x).toInt ∧ (cont x).toInt ≤ 100) : ∀ (n2 k2 : Nat) (x : Int32), n2 + k2 = 26 → k2 ≤ 25 → -100 ≤ x.toInt → x.toInt ≤ 100 →
    x.toInt ≤ (g2X4_searchAll σ nC S h ra own other s k cont n2 k2 x).toInt ∧ (g2X4_searchAll σ nC S h ra own other s k cont n2 k2 x).toInt ≤ 100 := by
  intro n2
  induction n2 with
  | zero => intro k2 x h1 h2; omega
  | succ n2 ih =>
    intro k2 x h1 h2 hx1 hx2
    by_cases c : k2 < 25
    · rw [y_all2 c]
      cases bt (fX2_endsFrom σ nC S h (nI k) own other s) k2
      · rw [if_neg x_nf]
        exact ih (k2 + 1) x (by omega) (by omega) hx1 hx2
      · rw [if_pos rfl]
        have q : -100 ≤ (cRe ra own other s k k2).toInt ∧ (cRe ra own other s k k2).toInt ≤ 100 := y_raB hr (yBd_wt bw) (yBd_mv bo c)
        have q2 := y_neg q.1 q.2
        have q3 := y_mx x (-(cRe ra own other s k k2))
        have q4 := ih (k2 + 1) (if x < -(cRe ra own other s k k2) then -(cRe ra own other s k k2) else x) (by omega) (by omega) (by omega) (by omega)
        omega
    · rw [y_all2E c h2]
      exact hc x hx1 hx2
theorem y_ge (hr : cRn rc ra) (bo : yBd own) (bw : yBd other) : ∀ (n k : Nat) (x : Int32), n + k = 26 → k ≤ 25 → -100 ≤ x.toInt → x.toInt ≤ 100 →
    x.toInt ≤ (gX4_searchAll σ nC S h ra own other s n k x).toInt ∧ (gX4_searchAll σ nC S h ra own other s n k x).toInt ≤ 100 := by
  intro n
  induction n with
  | zero => intro k x h1 h2; omega
  | succ n ih =>
    intro k x h1 h2 hx1 hx2
    rw [gX4_searchAll]
    by_cases c : (25 : Int32) ≤ nI k
    · rw [if_pos c]; omega
    · have hk : k < 25 := Nat.lt_of_not_le (fun z => c (nI_le z (by omega)))
      rw [if_neg c]
      exact y_ge2 hr bo bw (fun x p1 p2 => ih (k + 1) x (by omega) (by omega) p1 p2) 26 0 x (by omega) (by omega) hx1 hx2
/-- what the search that cuts finds behind a move -/
def cCu (rc : Int32 → Int32 → Bool → Int32 → Int32 → Int32) (own other : Int32) (s : Bool) (lo hi : Int32) (k k2 : Nat) (x : Int32) : Int32 := -(rc (other &&& (((1 : Int32) <<< ((nI k2) &&& 31)) ^^^ (-1))) (fX4_moved own (nI k) (nI k2)) (if s = true then (false) else (true)) (-hi) (-(if lo < x then x else lo)))
theorem y_cu2 {cont : Int32 → Int32} {n2 k2 : Nat} {x : Int32} (hk : k2 < 25) : g2X4_searchWithCuts σ nC S h rc own other s lo hi k cont (n2 + 1) k2 x =
    if bt (fX2_endsFrom σ nC S h (nI k) own other s) k2 = true then (if (if x < cCu rc own other s lo hi k k2 x then cCu rc own other s lo hi k k2 x else x) < hi then g2X4_searchWithCuts σ nC S h rc own other s lo hi k cont n2 (k2 + 1) (if x < cCu rc own other s lo hi k k2 x then cCu rc own other s lo hi k k2 x else x) else (if x < cCu rc own other s lo hi k k2 x then cCu rc own other s lo hi k k2 x else x)) else g2X4_searchWithCuts σ nC S h rc own other s lo hi k cont n2 (k2 + 1) x := by
  rw [g2X4_searchWithCuts, if_neg (show ¬ (25 : Int32) ≤ nI k2 from nI_ge (a := k2) (b := 25) (by omega) (by omega)), x_isInN (n := k2) _ (by omega)] <;> rfl
theorem y_cu2E {cont : Int32 → Int32} {n2 k2 : Nat} {x : Int32} (hk : ¬ k2 < 25) (hk2 : k2 ≤ 25) : g2X4_searchWithCuts σ nC S h rc own other s lo hi k cont (n2 + 1) k2 x = cont x := by
  rw [g2X4_searchWithCuts, if_pos (show (25 : Int32) ≤ nI k2 from nI_le (a := 25) (b := k2) (by omega) (by omega))]
theorem y_cut2 {cont cont' : Int32 → Int32} (hr : cRn rc ra) (bo : yBd own) (bw : yBd other) (hl : -100 ≤ lo.toInt) (hlh : lo.toInt < hi.toInt) (hh : hi.toInt ≤ 100)
    (hc : ∀ x y : Int32, cIn lo.toInt hi.toInt x.toInt y.toInt → cCn lo.toInt hi.toInt (cont x).toInt (cont' y).toInt) (hc2 : ∀ x : Int32, -100 ≤ x.toInt → x.toInt ≤ 100 → x.toInt ≤ (cont' x).toInt ∧ (cont' x).toInt ≤ 100) : ∀ (n2 k2 : Nat) (x y : Int32), n2 + k2 = 26 → k2 ≤ 25 → cIn lo.toInt hi.toInt x.toInt y.toInt →
    cCn lo.toInt hi.toInt (g2X4_searchWithCuts σ nC S h rc own other s lo hi k cont n2 k2 x).toInt (g2X4_searchAll σ nC S h ra own other s k cont' n2 k2 y).toInt := by
  intro n2
  induction n2 with
  | zero => intro k2 x y h1 h2; omega
  | succ n2 ih =>
    intro k2 x y h1 h2 hI
    by_cases c : k2 < 25
    · rw [y_cu2 c, y_all2 c]
      cases bt (fX2_endsFrom σ nC S h (nI k) own other s) k2
      · rw [if_neg x_nf, if_neg x_nf]
        exact ih (k2 + 1) x y (by omega) (by omega) hI
      · rw [if_pos rfl, if_pos rfl]
        obtain ⟨i1, i2, i3, i4, i5, i6⟩ := hI
        have m1 := y_mx lo x
        have hh1 : -100 ≤ hi.toInt := by omega
        have n1 := y_neg hh1 hh
        have n2' : (-(if lo < x then x else lo)).toInt = -(if lo < x then x else lo).toInt := y_neg (by omega) (by omega)
        have q := hr (other &&& (((1 : Int32) <<< ((nI k2) &&& 31)) ^^^ (-1))) (fX4_moved own (nI k) (nI k2)) (if s = true then (false) else (true)) (-hi) (-(if lo < x then x else lo)) (yBd_wt bw) (yBd_mv bo c) (by omega) (by omega) (by omega)
        obtain ⟨q1, q2, q3, q4, q5, q6, q7⟩ := q
        have e1 : (cCu rc own other s lo hi k k2 x).toInt = -(rc (other &&& (((1 : Int32) <<< ((nI k2) &&& 31)) ^^^ (-1))) (fX4_moved own (nI k) (nI k2)) (if s = true then (false) else (true)) (-hi) (-(if lo < x then x else lo))).toInt := y_neg q1 q2
        have e2 : (-(cRe ra own other s k k2)).toInt = -(ra (other &&& (((1 : Int32) <<< ((nI k2) &&& 31)) ^^^ (-1))) (fX4_moved own (nI k) (nI k2)) (if s = true then (false) else (true))).toInt := y_neg q3 q4
        have m2 := y_mx x (cCu rc own other s lo hi k k2 x)
        have m3 := y_mx y (-(cRe ra own other s k k2))
        generalize (rc (other &&& (((1 : Int32) <<< ((nI k2) &&& 31)) ^^^ (-1))) (fX4_moved own (nI k) (nI k2)) (if s = true then (false) else (true)) (-hi) (-(if lo < x then x else lo))).toInt = R at *
        generalize (ra (other &&& (((1 : Int32) <<< ((nI k2) &&& 31)) ^^^ (-1))) (fX4_moved own (nI k) (nI k2)) (if s = true then (false) else (true))).toInt = A at *
        generalize (if x < cCu rc own other s lo hi k k2 x then cCu rc own other s lo hi k k2 x else x) = nb at *
        generalize (if y < -(cRe ra own other s k k2) then -(cRe ra own other s k k2) else y) = na at *
        generalize (cCu rc own other s lo hi k k2 x).toInt = cu at *
        generalize (-(cRe ra own other s k k2)).toInt = cr at *
        generalize (-(if lo < x then x else lo)).toInt = nm at *
        generalize (if lo < x then x else lo).toInt = mm at *
        by_cases d : nb < hi
        · have d1 := Int32.lt_iff_toInt_lt.mp d
          rw [if_pos d]
          refine ih (k2 + 1) nb na (by omega) (by omega) ⟨by omega, by omega, by omega, by omega, fun z => ?_, d1⟩
          omega
        · have d1 : hi.toInt ≤ nb.toInt := Int.not_lt.mp (fun z => d (Int32.lt_iff_toInt_lt.mpr z))
          rw [if_neg d]
          have g := y_ge2 (σ := σ) (nC := nC) (S := S) (h := h) (s := s) (k := k) hr bo bw hc2 n2 (k2 + 1) na (by omega) (by omega) (by omega) (by omega)
          exact ⟨by omega, by omega, by omega, by omega, fun z => by omega, fun z => by omega, fun z1 z2 => by omega⟩
    · rw [y_cu2E c h2, y_all2E c h2]
      exact hc x y hI
theorem y_cut1 (hr : cRn rc ra) (bo : yBd own) (bw : yBd other) (hl : -100 ≤ lo.toInt) (hlh : lo.toInt < hi.toInt) (hh : hi.toInt ≤ 100) : ∀ (n k : Nat) (x y : Int32), n + k = 26 → k ≤ 25 → cIn lo.toInt hi.toInt x.toInt y.toInt →
    cCn lo.toInt hi.toInt (gX4_searchWithCuts σ nC S h rc own other s lo hi n k x).toInt (gX4_searchAll σ nC S h ra own other s n k y).toInt := by
  intro n
  induction n with
  | zero => intro k x y h1 h2; omega
  | succ n ih =>
    intro k x y h1 h2 hI
    rw [gX4_searchWithCuts, gX4_searchAll]
    by_cases c : (25 : Int32) ≤ nI k
    · rw [if_pos c, if_pos c]
      obtain ⟨i1, i2, i3, i4, i5, i6⟩ := hI
      exact ⟨i1, i2, i3, by omega, fun z => i4, fun z => by omega, fun z1 z2 => by omega⟩
    · have hk : k < 25 := Nat.lt_of_not_le (fun z => c (nI_le z (by omega)))
      rw [if_neg c, if_neg c]
      exact y_cut2 hr bo bw hl hlh hh (fun x y p => ih (k + 1) x y (by omega) (by omega) p) (fun x p1 p2 => y_ge hr bo bw n (k + 1) x (by omega) (by omega) p1 p2) 26 0 x y (by omega) (by omega) hI
theorem y_cutF (hr : cRn rc ra) : cRn (fun a b s lo hi => fX4_searchWithCuts σ nC S h rc a b s lo hi) (fun a b s => fX4_searchAll σ nC S h ra a b s) := by
  intro a b s lo hi ba bb hl hlh hh
  show cCn lo.toInt hi.toInt (fX4_searchWithCuts σ nC S h rc a b s lo hi).toInt (fX4_searchAll σ nC S h ra a b s).toInt
  unfold fX4_searchWithCuts fX4_searchAll
  have e : (-100 : Int32).toInt = -100 := by decide
  cases fX2_hasMove σ nC S h a b s
  · rw [if_neg x_nf, if_neg x_nf, e]
    exact ⟨by omega, by omega, by omega, by omega, fun z => by omega, fun z => by omega, fun z1 z2 => by omega⟩
  · rw [if_pos rfl, if_pos rfl]
    refine y_cut1 hr ba bb hl hlh hh 26 0 (-100) (-100) (by omega) (by omega) ?_
    rw [e]
    exact ⟨by omega, by omega, by omega, by omega, fun z => rfl, by omega⟩
theorem y_cut0 : cRn (fun a b s lo hi => fX4_searchWithCuts_0 σ nC S h a b s lo hi) (fun a b s => fX4_searchAll_0 σ nC S h a b s) := by
  intro a b s lo hi ba bb hl hlh hh
  show cCn lo.toInt hi.toInt (fX4_searchWithCuts_0 σ nC S h a b s lo hi).toInt (fX4_searchAll_0 σ nC S h a b s).toInt
  have e : fX4_searchWithCuts_0 σ nC S h a b s lo hi = fX4_searchAll_0 σ nC S h a b s := rfl
  have r : -100 ≤ (fX4_searchAll_0 σ nC S h a b s).toInt ∧ (fX4_searchAll_0 σ nC S h a b s).toInt ≤ 100 := by
    unfold fX4_searchAll_0
    cases fX2_hasMove σ nC S h a b s
    · rw [if_neg x_nf]; decide
    · rw [if_pos rfl, x_bcS ba, x_bcS bb]
      obtain ⟨i, hi', ei⟩ := x_szR ba
      obtain ⟨j, hj, ej⟩ := x_szR bb
      rw [ei, ej, pk_sub_toInt (by omega) (by omega)]
      omega
  rw [e]
  exact ⟨r.1, r.2, r.1, r.2, fun z => Int.le_refl _, fun z => Int.le_refl _, fun z1 z2 => rfl⟩
theorem y_cutV : ∀ d : Nat, cRn (vX4_searchWithCuts σ nC S h d) (vX4_searchAll σ nC S h d)
  | 0 => y_cut0
  | d + 1 => y_cutF (y_cutV d)
/-- the value found with cuts -/
theorem y_cuts (d : Nat) (bo : yBd own) (bw : yBd other) : vX4_searchWithCuts σ nC S h d own other s (-100) 100 = vX4_searchAll σ nC S h d own other s := by
  have q := y_cutV (σ := σ) (nC := nC) (S := S) (h := h) d own other s (-100) 100 bo bw (by decide) (by decide) (by decide)
  have e : (-100 : Int32).toInt = -100 := by decide
  have e2 : (100 : Int32).toInt = 100 := by decide
  rw [e, e2] at q
  obtain ⟨q1, q2, q3, q4, q5, q6, q7⟩ := q
  apply Int32.toInt_inj.mp
  omega
end CU
section MVL
variable {G : xG} {E Ec : xE} {o : Nat} {ct vt gt : Nat} {tb vb gb : Nat → Option Nat} {sa : Nat → Nat} {nC nV nG : Nat} {σ : xSg} {r1 : Int32}
theorem x_valT {a0 a1 : Int32} (ht : tX4_value nG a0 a1 = 0) : tIx (nI nG) a0 = 0 ∧ fX5_in a1 0 2 = true := by
  unfold tX4_value at ht
  rcases x_ix3 (nI nG) a0 with z | z
  · rw [if_pos z] at ht
    rcases x_cd a1 with ⟨y, y2⟩ | ⟨y, y2⟩
    · exact ⟨z, y2⟩
    · rw [y] at ht; cases ht
  · rw [z] at ht; cases ht
theorem x_valA (hI : xInv σ nC nV nG) (hCls : xCls G E o ct vt gt tb vb gb sa nC nV nG σ) {u d v : Nat} {a1 : Int32} (hu : u < nG) (hg : xGm σ u d v) (hin : fX5_in a1 0 2 = true) :
    yBd (fX1_ofMover (σ 17 (61 * u + d)) (σ 18 (61 * u + d)) (nI d)) ∧ yBd (fX1_ofWaiting (σ 17 (61 * u + d)) (σ 18 (61 * u + d)) (nI d)) ∧
    fX5_valueAt σ d v u a1 = vX4_searchAll σ nC (σ 12 u) (σ 6 v) (a1.toNatClampNeg) (fX1_ofMover (σ 17 (61 * u + d)) (σ 18 (61 * u + d)) (nI d)) (fX1_ofWaiting (σ 17 (61 * u + d)) (σ 18 (61 * u + d)) (nI d)) (fX1_isSecondToMove (nI d)) := by
  obtain ⟨h0, h5, h10, hnC, hnV, hnG⟩ := x_h10 hCls
  have h16 := hg.2.1
  obtain ⟨a, b, ha, hb, ea, eb⟩ := hI.2.2.2 u hu d h16 hg.2.2.1 d (Nat.le_refl d)
  have b1 : yBd (σ 17 (61 * u + d)) := by rw [ea]; exact yBd_of ha
  have b2 : yBd (σ 18 (61 * u + d)) := by rw [eb]; exact yBd_of hb
  have bM : yBd (fX1_ofMover (σ 17 (61 * u + d)) (σ 18 (61 * u + d)) (nI d)) := by
    unfold fX1_ofMover
    cases fX1_isSecondToMove (nI d)
    · exact b1
    · exact b2
  have bW : yBd (fX1_ofWaiting (σ 17 (61 * u + d)) (σ 18 (61 * u + d)) (nI d)) := by
    unfold fX1_ofWaiting
    cases fX1_isSecondToMove (nI d)
    · exact b2
    · exact b1
  refine ⟨bM, bW, ?_⟩
  obtain ⟨l1, l2⟩ := x_inT hin
  obtain ⟨j, hj, rfl⟩ := nI_of2 (x := a1) (M := 2) (n := 2) (by decide) l1 (Int32.not_lt.mp l2)
  rw [nI_clamp (by omega)]
  unfold fX5_valueAt
  rw [x_pcT h16, x_pcF h16, x_sec h16]
  rcases j with _ | _ | _ | j
  · rw [if_pos (show nI 0 = 0 from rfl)]
    exact (y_v0 h0 hnC hI.1 bM bW).symm
  · rw [if_neg (show ¬ nI (0 + 1) = 0 by decide), if_pos (show nI (0 + 1) = 1 from rfl)]
    exact (y_v1 h0 hnC hI.1 bM bW).symm
  · rw [if_neg (show ¬ nI (0 + 1 + 1) = 0 by decide), if_neg (show ¬ nI (0 + 1 + 1) = 1 by decide)]
    exact (y_v2 h0 hnC hI.1 bM bW).symm
  · omega
theorem m_valueByAll {a0 a1 : Int32} (hI : xInv σ nC nV nG) (hCls : xCls G E o ct vt gt tb vb gb sa nC nV nG σ) (hP : wX4_valueByAll G E o a0 a1 ct vt gt tb vb gb sa nC nV nG σ r1 Ec) : mX5_asksValue σ (a0.toNatClampNeg) ((σ 16 a0.toNatClampNeg).toNatClampNeg) ((σ 11 a0.toNatClampNeg).toNatClampNeg) a0 a1 = (r1, 0) ∧ xLc G Ec o (σ) ∧ xFr tC E Ec := by
  obtain ⟨ht, rfl, u, d, v, rfl, hu, hv, hg, ho, rfl⟩ := hP
  refine ⟨?_, ⟨ct, vt, gt, tb, vb, gb, sa, nC, nV, nG, hCls, hI⟩, xFr_rf⟩
  obtain ⟨hz, hin⟩ := x_valT (a1 := a1) ht
  obtain ⟨bM, bW, e⟩ := x_valA hI hCls hu hg hin
  rw [nI_clamp (by have := hg.1; omega), hg.2.1, nI_clamp (by have := hg.2.2.1; omega), hg.2.2.2.1, nI_clamp (by have := hg.2.2.2.2; omega)]
  unfold mX5_asksValue
  rw [(x_isG (x_h10 hCls).2.2.1 _).1 hz, if_pos rfl, hin, if_pos rfl, e]
theorem m_value {a0 a1 : Int32} (hI : xInv σ nC nV nG) (hCls : xCls G E o ct vt gt tb vb gb sa nC nV nG σ) (hP : wX4_value G E o a0 a1 ct vt gt tb vb gb sa nC nV nG σ r1 Ec) : mX5_asksValue σ (a0.toNatClampNeg) ((σ 16 a0.toNatClampNeg).toNatClampNeg) ((σ 11 a0.toNatClampNeg).toNatClampNeg) a0 a1 = (r1, 0) ∧ xLc G Ec o (σ) ∧ xFr tC E Ec := by
  obtain ⟨ht, rfl, u, d, v, rfl, hu, hv, hg, ho, rfl⟩ := hP
  refine ⟨?_, ⟨ct, vt, gt, tb, vb, gb, sa, nC, nV, nG, hCls, hI⟩, xFr_rf⟩
  obtain ⟨hz, hin⟩ := x_valT (a1 := a1) ht
  obtain ⟨bM, bW, e⟩ := x_valA hI hCls hu hg hin
  rw [nI_clamp (by have := hg.1; omega), hg.2.1, nI_clamp (by have := hg.2.2.1; omega), hg.2.2.2.1, nI_clamp (by have := hg.2.2.2.2; omega)]
  unfold mX5_asksValue
  rw [(x_isG (x_h10 hCls).2.2.1 _).1 hz, if_pos rfl, hin, if_pos rfl, e, y_cuts _ bM bW]
end MVL
