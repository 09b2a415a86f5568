/-- a new game -/
theorem xCls_begin {G : xG} {E E' : xE} {x ct vt gt : Nat} {tb vb gb : Nat → Option Nat} {sa : Nat → Nat} {nC nV nG : Nat} {σ : xSg} (h : xCls G E x ct vt gt tb vb gb sa nC nV nG σ) {q s v va vr : Nat} (hn : nG < 12) (hv : v < nV) (hvb : vb v = some va) (hvr : E vr = some (.inr (2, [.ref ct, .int (σ 7 v), .int (σ 6 v)]))) (h1 : E q = none) (h2 : E s = none) (hsq : s ≠ q) (f f2 a b : Int32)
    (hE' : E' = xU (xU (xU (xU E q (.inr (1, [.ref va, .ref vr, .int f, .int f2, .ref s, .int a, .int b, .int 0, .int 0]))) s (.inl (G.2.1 1, 61, .inr (.inl (vp_updL (fun _ => 0) 0 (fX1_placing a b false)))))) gt (.inl (G.2.1 4, 12, .inr (.inr (.inr (.inr (va_up gb nG (some q)))))))) x (.inr (4, [.ref ct, .ref vt, .ref gt, .int (nI nC), .int (nI nV), .int (nI (nG + 1))]))) :
    xCls G E' x ct vt gt tb vb (va_up gb nG (some q)) (va_up sa nG s) nC nV (nG + 1) (sgBegin σ nG v f f2 a b) ∧ xFr tC E E' := by
  subst hE'
  obtain ⟨g1, g2, g3, g4, g5, g6, g7⟩ := h
  have hgt := g7.1
  generalize hEq : xU (xU E q (.inr (1, [.ref va, .ref vr, .int f, .int f2, .ref s, .int a, .int b, .int 0, .int 0]))) s (.inl (G.2.1 1, 61, .inr (.inl (vp_updL (fun _ => 0) 0 (fX1_placing a b false))))) = E3
  have old : ∀ (b : Nat) (f : va_E), E b = some f → E3 b = some f := fun b f hb => by
    have n1 : b ≠ q := fun z => by rw [z, h1] at hb; cases hb
    have n2 : b ≠ s := fun z => by rw [z, h2] at hb; cases hb
    rw [← hEq, xU_ne _ _ n2, xU_ne _ _ n1, hb]
  have e31 : E3 q = some (.inr (1, [.ref va, .ref vr, .int f, .int f2, .ref s, .int a, .int b, .int 0, .int 0])) := by rw [← hEq, xU_ne _ _ (Ne.symm hsq), xU_self]
  have e32 : E3 s = some (.inl (G.2.1 1, 61, .inr (.inl (vp_updL (fun _ => 0) 0 (fX1_placing a b false))))) := by rw [← hEq, xU_self]
  have hfr3 : xFr tC E E3 := by
    rw [← hEq]
    exact xFr_new (xFr_new xFr_rf h1 _) (by rw [xU_ne _ _ hsq]; exact h2) _
  have hx1 : xU E3 gt (.inl (G.2.1 4, 12, .inr (.inr (.inr (.inr (va_up gb nG (some q))))))) x = some (.inr (4, [.ref ct, .ref vt, .ref gt, .int (nI nC), .int (nI nV), .int (nI nG)])) := xU_of (old _ _ g1) (old _ _ hgt) (by intro z; simp at z)
  refine ⟨?_, xFr_put (xFr_put hfr3 (old _ _ hgt) rfl _) hx1 rfl _⟩
  have keep : ∀ (y : Nat) (f : va_E), E3 y = some f → f ≠ (.inl (G.2.1 4, 12, .inr (.inr (.inr (.inr gb))))) → f ≠ (.inr (4, [.ref ct, .ref vt, .ref gt, .int (nI nC), .int (nI nV), .int (nI nG)])) → xU (xU E3 gt (.inl (G.2.1 4, 12, .inr (.inr (.inr (.inr (va_up gb nG (some q)))))))) x (.inr (4, [.ref ct, .ref vt, .ref gt, .int (nI nC), .int (nI nV), .int (nI (nG + 1))])) y = some f := fun y f hb hf hg => xU_of (xU_of hb (old _ _ hgt) hf) hx1 hg
  have hvx : gt ≠ x := fun z => by rw [z, g1] at hgt; cases hgt
  have o : ∀ k, k < 10 ∨ 18 < k → sgBegin σ nG v f f2 a b k = σ k := fun k => sgBegin_o σ nG v f f2 a b
  obtain ⟨s11, s12, s13, s14, s15, s16, s17, s18, s10⟩ := sgBegin_s σ nG v f f2 a b
  refine ⟨xU_self _ _ _, by rw [o 0 (by omega)]; exact g2, by rw [o 5 (by omega)]; exact g3, s10, ?_, ?_, ?_⟩
  · obtain ⟨c1, c2, c3, c4⟩ := g5
    unfold xCardsAt
    rw [o 1 (by omega), o 2 (by omega), o 3 (by omega), o 4 (by omega)]
    refine ⟨keep _ _ (old _ _ c1) (by intro z; simp at z) (by intro z; simp at z), c2, c3, fun k hk => ?_⟩
    obtain ⟨cd, re, d1, d2, d3, d4⟩ := c4 k hk
    exact ⟨cd, re, d1, keep _ _ (old _ _ d2) (by intro z; simp at z) (by intro z; simp at z), d3, d4⟩
  · obtain ⟨c1, c2, c3, c4, c5⟩ := g6
    unfold xVars
    rw [o 8 (by omega), o 9 (by omega), o 6 (by omega), o 7 (by omega)]
    refine ⟨keep _ _ (old _ _ c1) (by intro z; simp at z) (by intro z; simp at z), c2, c3, fun k hk => ?_, c5⟩
    obtain ⟨a2, r2, d1, d2, d3⟩ := c4 k hk
    exact ⟨a2, r2, d1, keep _ _ (old _ _ d2) (by intro z; simp at z) (by intro z; simp at z), keep _ _ (old _ _ d3) (by intro z; simp at z) (by intro z; simp at z)⟩
  · obtain ⟨c1, c2, c3, c4, c5, c6⟩ := g7
    have ns : ∀ k, k < nG → sa k ≠ s := fun k hk z => by
      obtain ⟨a2, d1, va', gr', v2', d', sq', e1, e2, e3, e4, e5, e6, e7, e8, e9, e10⟩ := c4 k hk
      rw [z, h2] at e8; cases e8
    refine ⟨by rw [xU_ne _ _ hvx, xU_self], by omega, fun k hk => by rw [va_up_n _ _ (by omega)]; exact c3 k (by omega), fun k hk => ?_, ?_, ?_⟩
    · by_cases hkn : k = nG
      · subst hkn
        refine ⟨q, va_up_self _ _ _, ?_⟩
        unfold xGame
        rw [s11, s12, s13, s14, s15, s16, s17, s18, va_up_self, o 6 (by omega)]
        refine ⟨va, vr, v, 0, _, ?_, ?_, by omega, upd_s _ _ _, hv, hvb, ?_, keep _ _ e32 (by intro z; simp at z) (by intro z; simp at z), ?_, ?_⟩
        · rw [upd_s, upd_s, upd_s, show 61 * k + 0 = 61 * k from rfl, upd_s, upd_s]
          exact keep _ _ e31 (by intro z; simp at z) (by intro z; simp at z)
        · rw [upd_s]; rfl
        · rw [upd_s]; exact keep _ _ (old _ _ hvr) (by intro z; simp at z) (by intro z; simp at z)
        · intro j hj
          rw [show j = 0 by omega, show 61 * k + 0 = 61 * k from rfl, upd_s, upd_s]
          rfl
        · intro _; omega
      · obtain ⟨a2, d1, va', gr', v2', d', sq', e1, e2, e3, e4, e5, e6, e7, e8, e9, e10⟩ := c4 k (by omega)
        refine ⟨a2, by rw [va_up_n _ _ hkn]; exact d1, ?_⟩
        unfold xGame
        rw [s11, s12, s13, s14, s15, s16, s17, s18, va_up_n _ _ hkn, o 6 (by omega)]
        have hk' : k < nG := by omega
        have n7 : ∀ j, j ≤ 60 → 61 * k + j ≠ 61 * nG := fun j hj => by omega
        refine ⟨va', gr', v2', d', sq', ?_, by rw [upd_n _ _ hkn]; exact e2, e3, by rw [upd_n _ _ hkn]; exact e4, e5, e6, ?_, keep _ _ (old _ _ e8) (by intro z; simp at z) (by intro z; simp at z), ?_, by rw [upd_n _ _ hkn]; exact e10⟩
        · rw [upd_n _ _ hkn, upd_n _ _ hkn, upd_n _ _ hkn, upd_n _ _ (n7 d' e3), upd_n _ _ (n7 d' e3)]
          exact keep _ _ (old _ _ e1) (by intro z; simp at z) (by intro z; simp at z)
        · rw [upd_n _ _ hkn]; exact keep _ _ (old _ _ e7) (by intro z; simp at z) (by intro z; simp at z)
        · intro j hj
          rw [upd_n _ _ (n7 j (by omega)), upd_n _ _ (n7 j (by omega))]
          exact e9 j hj
    · have nq : ∀ k a, gb k = some a → a ≠ q := fun k a hk z => by
        rcases Nat.lt_or_ge k nG with w | w
        · obtain ⟨a2, d1, va', gr', v2', d', sq', e1, -⟩ := c4 k w
          rw [hk] at d1; cases d1
          rw [z, h1] at e1; cases e1
        · rw [c3 k w] at hk; cases hk
      intro j k a hj hk
      by_cases hjn : j = nG <;> by_cases hkn : k = nG
      · rw [hjn, hkn]
      · exfalso
        rw [hjn, va_up_self] at hj
        rw [va_up_n _ _ hkn] at hk
        cases hj
        exact nq k _ hk rfl
      · exfalso
        rw [hkn, va_up_self] at hk
        rw [va_up_n _ _ hjn] at hj
        cases hk
        exact nq j _ hj rfl
      · rw [va_up_n _ _ hjn] at hj
        rw [va_up_n _ _ hkn] at hk
        exact c5 j k a hj hk
    · intro j k hj hk he
      by_cases hjn : j = nG <;> by_cases hkn : k = nG
      · rw [hjn, hkn]
      · exfalso
        rw [hjn, va_up_self, va_up_n _ _ hkn] at he
        exact ns k (by omega) he.symm
      · exfalso
        rw [hkn, va_up_self, va_up_n _ _ hjn] at he
        exact ns j (by omega) he
      · rw [va_up_n _ _ hjn, va_up_n _ _ hkn] at he
        exact c6 j k (by omega) (by omega) he
def sgMove (σ : xSg) (u d v : Nat) (a b st en : Int32) : xSg := sgU (sgU (sgU (sgU (sgU σ 16 u (nI (d + 1))) 17 (61 * u + (d + 1)) a) 18 (61 * u + (d + 1)) b) 15 u st) 9 v en
theorem sgMove_o (σ : xSg) (u d v : Nat) (a b st en : Int32) {k : Nat} (h : k ≠ 16 ∧ k ≠ 17 ∧ k ≠ 18 ∧ k ≠ 15 ∧ k ≠ 9) : sgMove σ u d v a b st en k = σ k := by
  unfold sgMove
  rw [sgU_n _ _ _ h.2.2.2.2, sgU_n _ _ _ h.2.2.2.1, sgU_n _ _ _ h.2.2.1, sgU_n _ _ _ h.2.1, sgU_n _ _ _ h.1]
theorem sgMove_s (σ : xSg) (u d v : Nat) (a b st en : Int32) : sgMove σ u d v a b st en 16 = upd (σ 16) u (nI (d + 1)) ∧ sgMove σ u d v a b st en 17 = upd (σ 17) (61 * u + (d + 1)) a ∧ sgMove σ u d v a b st en 18 = upd (σ 18) (61 * u + (d + 1)) b ∧ sgMove σ u d v a b st en 15 = upd (σ 15) u st ∧ sgMove σ u d v a b st en 9 = upd (σ 9) v en := by
  unfold sgMove
  refine ⟨?_, ?_, ?_, ?_, ?_⟩ <;> simp [sgU]
/-- a move -/
theorem xCls_move {G : xG} {E E' : xE} {x ct vt gt : Nat} {tb vb gb : Nat → Option Nat} {sa : Nat → Nat} {nC nV nG : Nat} {σ : xSg} (h : xCls G E x ct vt gt tb vb gb sa nC nV nG σ) {u ga va gr vr v d : Nat} {sq : Nat → Int64} (hu : u < nG) (hg : gb u = some ga)
    (e1 : E ga = some (.inr (1, [.ref va, .ref gr, .int (σ 13 u), .int (σ 14 u), .ref (sa u), .int (σ 17 (61 * u + d)), .int (σ 18 (61 * u + d)), .int (nI d), .int (σ 15 u)]))) (hd : d < 60) (e4 : σ 11 u = nI v) (hv : v < nV) (e6 : vb v = some va) (e7 : E gr = some (.inr (2, [.ref ct, .int (σ 12 u), .int (σ 6 v)]))) (e8 : E (sa u) = some (.inl (G.2.1 1, 61, .inr (.inl sq))))
    (e9 : ∀ j, j ≤ d → sq j = fX1_placing (σ 17 (61 * u + j)) (σ 18 (61 * u + j)) (fX1_isSecondToMove (nI j))) (hva : E va = some (.inr (3, [.ref vr, .int (σ 8 v), .int (σ 9 v)]))) (a b st en : Int32) (hst : st = 0 → d + 1 < 60)
    (hE' : E' = xU (xU (xU (xU E ga (.inr (1, [.ref va, .ref gr, .int (σ 13 u), .int (σ 14 u), .ref (sa u), .int a, .int b, .int (nI (d + 1)), .int (σ 15 u)]))) (sa u) (.inl (G.2.1 1, 61, .inr (.inl (vp_updL sq (d + 1) (fX1_placing a b (fX1_isSecondToMove (nI (d + 1))))))))) ga (.inr (1, [.ref va, .ref gr, .int (σ 13 u), .int (σ 14 u), .ref (sa u), .int a, .int b, .int (nI (d + 1)), .int st]))) va (.inr (3, [.ref vr, .int (σ 8 v), .int en]))) :
    xCls G E' x ct vt gt tb vb gb sa nC nV nG (sgMove σ u d v a b st en) ∧ xFr tC E E' := by
  subst hE'
  have nsg : sa u ≠ ga := fun z => by rw [z, e1] at e8; cases e8
  have nvg : va ≠ ga := fun z => by rw [z, e1] at hva; simp at hva
  have nvs : va ≠ sa u := fun z => by rw [z, e8] at hva; cases hva
  generalize hE4 : xU (xU (xU (xU E ga (.inr (1, [.ref va, .ref gr, .int (σ 13 u), .int (σ 14 u), .ref (sa u), .int a, .int b, .int (nI (d + 1)), .int (σ 15 u)]))) (sa u) (.inl (G.2.1 1, 61, .inr (.inl (vp_updL sq (d + 1) (fX1_placing a b (fX1_isSecondToMove (nI (d + 1))))))))) ga (.inr (1, [.ref va, .ref gr, .int (σ 13 u), .int (σ 14 u), .ref (sa u), .int a, .int b, .int (nI (d + 1)), .int st]))) va (.inr (3, [.ref vr, .int (σ 8 v), .int en])) = E4
  have keep : ∀ (y : Nat) (f : va_E), E y = some f → y ≠ ga → y ≠ sa u → y ≠ va → E4 y = some f := fun y f hb n1 n2 n3 => by
    rw [← hE4, xU_ne _ _ n3, xU_ne _ _ n1, xU_ne _ _ n2, xU_ne _ _ n1, hb]
  have kg : E4 ga = some (.inr (1, [.ref va, .ref gr, .int (σ 13 u), .int (σ 14 u), .ref (sa u), .int a, .int b, .int (nI (d + 1)), .int st])) := by rw [← hE4, xU_ne _ _ (Ne.symm nvg), xU_self]
  have ks : E4 (sa u) = some (.inl (G.2.1 1, 61, .inr (.inl (vp_updL sq (d + 1) (fX1_placing a b (fX1_isSecondToMove (nI (d + 1)))))))) := by rw [← hE4, xU_ne _ _ (Ne.symm nvs), xU_ne _ _ nsg, xU_self]
  have kv : E4 va = some (.inr (3, [.ref vr, .int (σ 8 v), .int en])) := by rw [← hE4, xU_self]
  have hfr : xFr tC E E4 := by
    rw [← hE4]
    exact xFr_put (g := .inr (3, [.ref vr, .int (σ 8 v), .int (σ 9 v)])) (xFr_put (g := .inr (1, [.ref va, .ref gr, .int (σ 13 u), .int (σ 14 u), .ref (sa u), .int a, .int b, .int (nI (d + 1)), .int (σ 15 u)])) (xFr_put (g := .inl (G.2.1 1, 61, .inr (.inl sq))) (xFr_put xFr_rf e1 rfl _) (by rw [xU_ne _ _ nsg]; exact e8) rfl _) (by rw [xU_ne _ _ (Ne.symm nsg), xU_self]) rfl _) (by rw [xU_ne _ _ nvg, xU_ne _ _ nvs, xU_ne _ _ nvg]; exact hva) rfl _
  refine ⟨?_, hfr⟩
  obtain ⟨g1, g2, g3, g4, g5, g6, g7⟩ := h
  -- what of another kind, or not these three, stays
  have keepK : ∀ (y : Nat) (f : va_E), E y = some f → (∀ l, f ≠ .inr (1, l)) → (∀ l, f ≠ .inl (G.2.1 1, 61, .inr (.inl l))) → (∀ l, f ≠ .inr (3, l)) → E4 y = some f := fun y f hb n1 n2 n3 =>
    keep y f hb (fun z => by rw [z, e1] at hb; exact n1 _ (Option.some.inj hb).symm) (fun z => by rw [z, e8] at hb; exact n2 _ (Option.some.inj hb).symm) (fun z => by rw [z, hva] at hb; exact n3 _ (Option.some.inj hb).symm)
  have o : ∀ k, k ≠ 16 ∧ k ≠ 17 ∧ k ≠ 18 ∧ k ≠ 15 ∧ k ≠ 9 → sgMove σ u d v a b st en k = σ k := fun k => sgMove_o σ u d v a b st en
  obtain ⟨s16, s17, s18, s15, s9⟩ := sgMove_s σ u d v a b st en
  refine ⟨keepK _ _ g1 (by intro l z; simp at z) (by intro l z; simp at z) (by intro l z; simp at z), by rw [o 0 (by decide)]; exact g2, by rw [o 5 (by decide)]; exact g3, by rw [o 10 (by decide)]; exact g4, ?_, ?_, ?_⟩
  · obtain ⟨c1, c2, c3, c4⟩ := g5
    unfold xCardsAt
    rw [o 1 (by decide), o 2 (by decide), o 3 (by decide), o 4 (by decide)]
    refine ⟨keepK _ _ c1 (by intro l z; simp at z) (by intro l z; simp at z) (by intro l z; simp at z), c2, c3, fun k hk => ?_⟩
    obtain ⟨cd, re, d1, d2, d3, d4⟩ := c4 k hk
    exact ⟨cd, re, d1, keepK _ _ d2 (by intro l z; simp at z) (by intro l z; simp at z) (by intro l z; simp at z), d3, d4⟩
  · obtain ⟨c1, c2, c3, c4, c5⟩ := g6
    unfold xVars
    rw [o 8 (by decide), o 6 (by decide), o 7 (by decide), s9]
    refine ⟨keepK _ _ c1 (by intro l z; simp at z) (by intro l z; simp at z) (by intro l z; simp at z), c2, c3, fun k hk => ?_, c5⟩
    obtain ⟨a2, r2, d1, d2, d3⟩ := c4 k hk
    by_cases hkv : k = v
    · subst hkv
      have x1' : va = a2 := Option.some.inj (e6.symm.trans d1)
      subst x1'
      have x2' := hva.symm.trans d2
      simp at x2'
      subst x2'
      exact ⟨va, vr, d1, by rw [upd_s]; exact kv, keepK _ _ d3 (by intro l z; simp at z) (by intro l z; simp at z) (by intro l z; simp at z)⟩
    · refine ⟨a2, r2, d1, ?_, keepK _ _ d3 (by intro l z; simp at z) (by intro l z; simp at z) (by intro l z; simp at z)⟩
      rw [upd_n _ _ hkv]
      exact keep _ _ d2 (fun z => by rw [z, e1] at d2; simp at d2) (fun z => by rw [z, e8] at d2; cases d2) (fun z => hkv (c5 k v va (by rw [← z]; exact d1) e6))
  · obtain ⟨c1, c2, c3, c4, c5, c6⟩ := g7
    refine ⟨keepK _ _ c1 (by intro l z; simp at z) (by intro l z; simp at z) (by intro l z; simp at z), c2, c3, fun k hk => ?_, c5, c6⟩
    by_cases hku : k = u
    · subst hku
      refine ⟨ga, hg, ?_⟩
      unfold xGame
      rw [o 13 (by decide), o 14 (by decide), o 11 (by decide), o 12 (by decide), o 6 (by decide), s16, s17, s18, s15]
      refine ⟨va, gr, v, d + 1, _, ?_, upd_s _ _ _, by omega, e4, hv, e6, keepK _ _ e7 (by intro l z; simp at z) (by intro l z; simp at z) (by intro l z; simp at z), ks, ?_, ?_⟩
      · rw [upd_s, upd_s, upd_s]; exact kg
      · intro j hj
        by_cases hjd : j = d + 1
        · subst hjd
          rw [upd_s, upd_s]
          simp [vp_updL]
        · rw [upd_n _ _ (by omega), upd_n _ _ (by omega)]
          simp only [vp_updL, if_neg hjd]
          exact e9 j (by omega)
      · rw [upd_s]; exact hst
    · obtain ⟨a2, d1, va', gr', v2', d', sq', f1, f2, f3, f4, f5, f6, f7, f8, f9, f10⟩ := c4 k hk
      refine ⟨a2, d1, ?_⟩
      unfold xGame
      rw [o 13 (by decide), o 14 (by decide), o 11 (by decide), o 12 (by decide), o 6 (by decide), s16, s17, s18, s15]
      have n7 : ∀ j, j ≤ 60 → 61 * k + j ≠ 61 * u + (d + 1) := fun j hj z => hku (by omega)
      refine ⟨va', gr', v2', d', sq', ?_, by rw [upd_n _ _ hku]; exact f2, f3, f4, f5, f6, keepK _ _ f7 (by intro l z; simp at z) (by intro l z; simp at z) (by intro l z; simp at z), ?_, ?_, by rw [upd_n _ _ hku]; exact f10⟩
      · rw [upd_n _ _ (n7 d' f3), upd_n _ _ (n7 d' f3), upd_n _ _ hku]
        exact keep _ _ f1 (fun z => hku (c5 k u ga (by rw [← z]; exact d1) hg)) (fun z => by rw [z, e8] at f1; cases f1) (fun z => by rw [z, hva] at f1; simp at f1)
      · exact keep _ _ f8 (fun z => by rw [z, e1] at f8; cases f8) (fun z => hku (c6 k u hk hu z)) (fun z => by rw [z, hva] at f8; cases f8)
      · intro j hj
        rw [upd_n _ _ (n7 j (by omega)), upd_n _ _ (n7 j (by omega))]
        exact f9 j hj
