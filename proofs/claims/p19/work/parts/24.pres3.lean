def sgVar (σ : xSg) (k : Nat) (ho ca : Int32) : xSg := sgU (sgU (sgU σ 6 k ho) 7 k ca) 5 0 (nI (k + 1))
/-- a new variant -/
theorem xCls_variant {G : xG} {E E' : xE} {x ct vt gt : Nat} {tb vb gb : Nat → Option Nat} {sa : Nat → Nat} {nC nV nG : Nat} {σ : xSg} (h : xCls G E x ct vt gt tb vb gb sa nC nV nG σ) {q1 q2 : Nat} {v0 : va_E} (hn : nV < 4) (h1 : E q1 = none) (h2 : E q2 = none) (hqq : q2 ≠ q1) (ho ca : Int32) (hz8 : σ 8 nV = 0) (hz9 : σ 9 nV = 0)
    (hE' : E' = xU (xU (xU (xU (xU E q1 v0) q2 (.inr (2, [.ref ct, .int ca, .int ho]))) q1 (.inr (3, [.ref q2, .int 0, .int 0]))) vt (.inl (G.2.1 3, 4, .inr (.inr (.inr (.inr (va_up vb nV (some q1)))))))) x (.inr (4, [.ref ct, .ref vt, .ref gt, .int (nI nC), .int (nI (nV + 1)), .int (nI nG)]))) (hv0 : tC v0 = true) :
    xCls G E' x ct vt gt tb (va_up vb nV (some q1)) gb sa nC (nV + 1) nG (sgVar σ nV ho ca) ∧ xFr tC E E' := by
  subst hE'
  obtain ⟨g1, g2, g3, g4, g5, g6, g7⟩ := h
  have hvt := g6.1
  generalize hEq : xU (xU (xU E q1 v0) q2 (.inr (2, [.ref ct, .int ca, .int ho]))) q1 (.inr (3, [.ref q2, .int 0, .int 0])) = E3
  have old : ∀ (b : Nat) (f : va_E), E b = some f → E3 b = some f := fun b f hb => by
    have n1 : b ≠ q1 := fun z => by rw [z, h1] at hb; cases hb
    have n2 : b ≠ q2 := fun z => by rw [z, h2] at hb; cases hb
    rw [← hEq, xU_ne _ _ n1, xU_ne _ _ n2, xU_ne _ _ n1, hb]
  have e31 : E3 q1 = some (.inr (3, [.ref q2, .int 0, .int 0])) := by rw [← hEq, xU_self]
  have e32 : E3 q2 = some (.inr (2, [.ref ct, .int ca, .int ho])) := by rw [← hEq, xU_ne _ _ hqq, xU_self]
  have hfr3 : xFr tC E E3 := by
    rw [← hEq]
    exact xFr_put (xFr_new (xFr_new xFr_rf h1 _) (by rw [xU_ne _ _ hqq]; exact h2) _) (by rw [xU_ne _ _ (Ne.symm hqq), xU_self]) hv0 _
  have hx1 : xU E3 vt (.inl (G.2.1 3, 4, .inr (.inr (.inr (.inr (va_up vb nV (some q1))))))) x = some (.inr (4, [.ref ct, .ref vt, .ref gt, .int (nI nC), .int (nI nV), .int (nI nG)])) := xU_of (old _ _ g1) (old _ _ hvt) (by intro z; simp at z)
  refine ⟨?_, xFr_put (xFr_put hfr3 (old _ _ hvt) rfl _) hx1 rfl _⟩
  have keep : ∀ (y : Nat) (f : va_E), E3 y = some f → f ≠ (.inl (G.2.1 3, 4, .inr (.inr (.inr (.inr vb))))) → f ≠ (.inr (4, [.ref ct, .ref vt, .ref gt, .int (nI nC), .int (nI nV), .int (nI nG)])) → xU (xU E3 vt (.inl (G.2.1 3, 4, .inr (.inr (.inr (.inr (va_up vb nV (some q1)))))))) x (.inr (4, [.ref ct, .ref vt, .ref gt, .int (nI nC), .int (nI (nV + 1)), .int (nI nG)])) y = some f := fun y f hb hf hg => xU_of (xU_of hb (old _ _ hvt) hf) hx1 hg
  have hvx : vt ≠ x := fun z => by rw [z, g1] at hvt; cases hvt
  have o : ∀ f, f ≠ 6 → f ≠ 7 → f ≠ 5 → sgVar σ nV ho ca f = σ f := fun f w6 w7 w5 => by
    unfold sgVar; rw [sgU_n _ _ _ w5, sgU_n _ _ _ w7, sgU_n _ _ _ w6]
  have s6 : sgVar σ nV ho ca 6 = upd (σ 6) nV ho := by unfold sgVar; rw [sgU_n _ _ _ (by decide), sgU_n _ _ _ (by decide), sgU_f]
  have s7 : sgVar σ nV ho ca 7 = upd (σ 7) nV ca := by unfold sgVar; rw [sgU_n _ _ _ (by decide), sgU_f, sgU_n _ _ _ (by decide)]
  refine ⟨xU_self _ _ _, by rw [o 0 (by decide) (by decide) (by decide)]; exact g2, by unfold sgVar; rw [sgU_f, upd_s], by rw [o 10 (by decide) (by decide) (by decide)]; exact g4, ?_, ?_, ?_⟩
  · obtain ⟨c1, c2, c3, c4⟩ := g5
    unfold xCardsAt
    rw [o 1 (by decide) (by decide) (by decide), o 2 (by decide) (by decide) (by decide), o 3 (by decide) (by decide) (by decide), o 4 (by decide) (by decide) (by decide)]
    refine ⟨keep _ _ (old _ _ c1) (by intro z; simp at z) (by intro z; simp at z), c2, c3, fun k hk => ?_⟩
    obtain ⟨cd, re, d1, d2, d3, d4⟩ := c4 k hk
    exact ⟨cd, re, d1, keep _ _ (old _ _ d2) (by intro z; simp at z) (by intro z; simp at z), d3, d4⟩
  · obtain ⟨c1, c2, c3, c4, c5⟩ := g6
    unfold xVars
    rw [o 8 (by decide) (by decide) (by decide), o 9 (by decide) (by decide) (by decide), s6, s7]
    refine ⟨by rw [xU_ne _ _ hvx, xU_self], by omega, fun k hk => by rw [va_up_n _ _ (by omega)]; exact c3 k (by omega), fun k hk => ?_, ?_⟩
    · by_cases hkn : k = nV
      · subst hkn
        refine ⟨q1, q2, va_up_self _ _ _, ?_, ?_⟩
        · rw [hz8, hz9]; exact keep _ _ e31 (by intro z; simp at z) (by intro z; simp at z)
        · rw [upd_s, upd_s]; exact keep _ _ e32 (by intro z; simp at z) (by intro z; simp at z)
      · obtain ⟨a2, r2, d1, d2, d3⟩ := c4 k (by omega)
        refine ⟨a2, r2, by rw [va_up_n _ _ hkn]; exact d1, keep _ _ (old _ _ d2) (by intro z; simp at z) (by intro z; simp at z), ?_⟩
        rw [upd_n _ _ hkn, upd_n _ _ hkn]
        exact keep _ _ (old _ _ d3) (by intro z; simp at z) (by intro z; simp at z)
    · intro j k a hj hk
      by_cases hjn : j = nV <;> by_cases hkn : k = nV
      · rw [hjn, hkn]
      · exfalso
        rw [hjn, va_up_self] at hj
        rw [va_up_n _ _ hkn] at hk
        cases hj
        rcases Nat.lt_or_ge k nV with z | z
        · obtain ⟨a2, r2, d1, d2, -⟩ := c4 k z
          rw [hk] at d1; cases d1
          rw [h1] at d2; cases d2
        · rw [c3 k z] at hk; cases hk
      · exfalso
        rw [hkn, va_up_self] at hk
        rw [va_up_n _ _ hjn] at hj
        cases hk
        rcases Nat.lt_or_ge j nV with z | z
        · obtain ⟨a2, r2, d1, d2, -⟩ := c4 j z
          rw [hj] at d1; cases d1
          rw [h1] at d2; cases d2
        · rw [c3 j z] at hj; cases hj
      · rw [va_up_n _ _ hjn] at hj
        rw [va_up_n _ _ hkn] at hk
        exact c5 j k a hj hk
  · obtain ⟨c1, c2, c3, c4, c5, c6⟩ := g7
    refine ⟨keep _ _ (old _ _ c1) (by intro z; simp at z) (by intro z; simp at z), c2, c3, fun k hk => ?_, c5, c6⟩
    obtain ⟨a2, d1, va, gr, v2, d', sq, e1, e2, e3, e4, e5, e6, e7, e8, e9, e10⟩ := c4 k hk
    refine ⟨a2, d1, ?_⟩
    unfold xGame
    rw [o 13 (by decide) (by decide) (by decide), o 14 (by decide) (by decide) (by decide), o 17 (by decide) (by decide) (by decide), o 18 (by decide) (by decide) (by decide), o 15 (by decide) (by decide) (by decide), o 16 (by decide) (by decide) (by decide), o 11 (by decide) (by decide) (by decide), o 12 (by decide) (by decide) (by decide), s6]
    refine ⟨va, gr, v2, d', sq, keep _ _ (old _ _ e1) (by intro z; simp at z) (by intro z; simp at z), e2, e3, e4, by omega, by rw [va_up_n _ _ (by omega)]; exact e6, ?_, keep _ _ (old _ _ e8) (by intro z; simp at z) (by intro z; simp at z), e9, e10⟩
    rw [upd_n _ _ (by omega)]
    exact keep _ _ (old _ _ e7) (by intro z; simp at z) (by intro z; simp at z)
def sgBegin (σ : xSg) (g v : Nat) (f s a b : Int32) : xSg := sgU (sgU (sgU (sgU (sgU (sgU (sgU (sgU (sgU σ 11 g (nI v)) 12 g (σ 7 v)) 13 g f) 14 g s) 15 g 0) 16 g 0) 17 (61 * g) a) 18 (61 * g) b) 10 0 (nI (g + 1))
theorem sgBegin_o (σ : xSg) (g v : Nat) (f s a b : Int32) {k : Nat} (h : k < 10 ∨ 18 < k) : sgBegin σ g v f s a b k = σ k := by
  unfold sgBegin
  rw [sgU_n _ _ _ (by omega), sgU_n _ _ _ (by omega), sgU_n _ _ _ (by omega), sgU_n _ _ _ (by omega), sgU_n _ _ _ (by omega), sgU_n _ _ _ (by omega), sgU_n _ _ _ (by omega), sgU_n _ _ _ (by omega), sgU_n _ _ _ (by omega)]
theorem sgBegin_s (σ : xSg) (g v : Nat) (f s a b : Int32) : sgBegin σ g v f s a b 11 = upd (σ 11) g (nI v) ∧ sgBegin σ g v f s a b 12 = upd (σ 12) g (σ 7 v) ∧ sgBegin σ g v f s a b 13 = upd (σ 13) g f ∧ sgBegin σ g v f s a b 14 = upd (σ 14) g s ∧ sgBegin σ g v f s a b 15 = upd (σ 15) g 0 ∧ sgBegin σ g v f s a b 16 = upd (σ 16) g 0 ∧ sgBegin σ g v f s a b 17 = upd (σ 17) (61 * g) a ∧ sgBegin σ g v f s a b 18 = upd (σ 18) (61 * g) b ∧ sgBegin σ g v f s a b 10 0 = nI (g + 1) := by
  unfold sgBegin
  refine ⟨?_, ?_, ?_, ?_, ?_, ?_, ?_, ?_, ?_⟩ <;> simp [sgU, upd]
