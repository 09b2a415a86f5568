/-- the cards of a variant set anew -/
theorem xCls_set {G : xG} {E E' : xE} {x ct vt gt : Nat} {tb vb gb : Nat → Option Nat} {sa : Nat → Nat} {nC nV nG : Nat} {σ : xSg} (h : xCls G E x ct vt gt tb vb gb sa nC nV nG σ) {v a r q : Nat} (hv : v < nV) (ha : vb v = some a) (hE : E a = some (.inr (3, [.ref r, .int (σ 8 v), .int (σ 9 v)]))) (hq : E q = none) (w : Int32)
    (hE' : E' = xU (xU E q (.inr (2, [.ref ct, .int w, .int (σ 6 v)]))) a (.inr (3, [.ref q, .int (σ 8 v), .int (σ 9 v)]))) : xCls G E' x ct vt gt tb vb gb sa nC nV nG (sgU σ 7 v w) ∧ xFr tC E E' := by
  subst hE'
  have hqa : a ≠ q := fun z => by rw [← z, hE] at hq; cases hq
  refine ⟨?_, xFr_put (xFr_new xFr_rf hq _) (xU_old hq hE) rfl _⟩
  obtain ⟨h1, h2, h3, h4, h5, h6, h7⟩ := h
  have keep : ∀ (b : Nat) (f : va_E), E b = some f → f ≠ (.inr (3, [.ref r, .int (σ 8 v), .int (σ 9 v)])) → xU (xU E q (.inr (2, [.ref ct, .int w, .int (σ 6 v)]))) a (.inr (3, [.ref q, .int (σ 8 v), .int (σ 9 v)])) b = some f := fun b f hb hf => xU_of (xU_old hq hb) (xU_old hq hE) hf
  refine ⟨keep _ _ h1 (by intro q; simp at q), h2, h3, h4, ?_, ?_, ?_⟩
  · obtain ⟨c1, c2, c3, c4⟩ := h5
    refine ⟨keep _ _ c1 (by intro q; simp at q), c2, c3, fun k hk => ?_⟩
    obtain ⟨ca, re, d1, d2, d3, d4⟩ := c4 k hk
    exact ⟨ca, re, d1, keep _ _ d2 (by intro q; simp at q), d3, d4⟩
  · obtain ⟨c1, c2, c3, c4, c5⟩ := h6
    refine ⟨keep _ _ c1 (by intro q; simp at q), c2, c3, fun k hk => ?_, c5⟩
    obtain ⟨a2, r2, d1, d2, d3⟩ := c4 k hk
    by_cases hkv : k = v
    · subst hkv
      have e1 : a = a2 := Option.some.inj (ha.symm.trans d1)
      subst e1
      refine ⟨a, q, d1, ?_, ?_⟩
      · rw [xU_self]; rfl
      · rw [xU_ne _ _ (Ne.symm hqa), xU_self, sgU_f, upd_s]
        rfl
    · refine ⟨a2, r2, d1, ?_, ?_⟩
      · rw [xU_ne _ _ (fun z => hkv (c5 k v a (by rw [← z]; exact d1) ha)), xU_old hq d2]
        rfl
      · rw [keep _ _ d3 (by intro q; simp at q), sgU_f, upd_n _ _ hkv]
        rfl
  · obtain ⟨c1, c2, c3, c4, c5, c6⟩ := h7
    refine ⟨keep _ _ c1 (by intro q; simp at q), c2, c3, fun k hk => ?_, c5, c6⟩
    obtain ⟨a2, d1, va, gr, v2, d, sq, e1, e2, e3, e4, e5, e6, e7, e8, e9, e10⟩ := c4 k hk
    exact ⟨a2, d1, va, gr, v2, d, sq, keep _ _ e1 (by intro q; simp at q), e2, e3, e4, e5, e6, keep _ _ e7 (by intro q; simp at q), keep _ _ e8 (by intro q; simp at q), e9, e10⟩
def sgCard (σ : xSg) (k : Nat) (a b c d : Int32) : xSg := sgU (sgU (sgU (sgU (sgU σ 1 k a) 2 k b) 3 k c) 4 k d) 0 0 (nI (k + 1))
/-- a new card -/
theorem xCls_card {G : xG} {E E' : xE} {x ct vt gt : Nat} {tb vb gb : Nat → Option Nat} {sa : Nat → Nat} {nC nV nG : Nat} {σ : xSg} (h : xCls G E x ct vt gt tb vb gb sa nC nV nG σ) {q : Nat} (hn : nC < 8) (hq : E q = none) (a b c d : Int32) {r : Nat} (hr : d = nI r) (h4 : r ≤ 4)
    (hE' : E' = xU (xU (xU E q (.inr (0, [.int a, .int b, .int c, .int d]))) ct (.inl (G.2.1 2, 8, .inr (.inr (.inr (.inr (va_up tb nC (some q)))))))) x (.inr (4, [.ref ct, .ref vt, .ref gt, .int (nI (nC + 1)), .int (nI nV), .int (nI nG)]))) :
    xCls G E' x ct vt gt (va_up tb nC (some q)) vb gb sa (nC + 1) nV nG (sgCard σ nC a b c d) ∧ xFr tC E E' := by
  subst hE'
  obtain ⟨h1, h2, h3, h4', h5, h6, h7⟩ := h
  have hct := h5.1
  have hx1 : xU (xU E q (.inr (0, [.int a, .int b, .int c, .int d]))) ct (.inl (G.2.1 2, 8, .inr (.inr (.inr (.inr (va_up tb nC (some q))))))) x = some (.inr (4, [.ref ct, .ref vt, .ref gt, .int (nI nC), .int (nI nV), .int (nI nG)])) := xU_of (xU_old hq h1) (xU_old hq hct) (by intro z; simp at z)
  refine ⟨?_, xFr_put (xFr_put (xFr_new xFr_rf hq _) (xU_old hq hct) rfl _) hx1 rfl _⟩
  have keep : ∀ (y : Nat) (f : va_E), E y = some f → f ≠ (.inl (G.2.1 2, 8, .inr (.inr (.inr (.inr tb))))) → f ≠ (.inr (4, [.ref ct, .ref vt, .ref gt, .int (nI nC), .int (nI nV), .int (nI nG)])) → xU (xU (xU E q (.inr (0, [.int a, .int b, .int c, .int d]))) ct (.inl (G.2.1 2, 8, .inr (.inr (.inr (.inr (va_up tb nC (some q)))))))) x (.inr (4, [.ref ct, .ref vt, .ref gt, .int (nI (nC + 1)), .int (nI nV), .int (nI nG)])) y = some f := fun y f hb hf hg => xU_of (xU_of (xU_old hq hb) (xU_old hq hct) hf) hx1 hg
  have hqc : q ≠ ct := fun z => by rw [z, hct] at hq; cases hq
  have hqx : q ≠ x := fun z => by rw [z, h1] at hq; cases hq
  have hcx : ct ≠ x := fun z => by rw [z, h1] at hct; cases hct
  have o5 : ∀ f, f ≠ 1 → f ≠ 2 → f ≠ 3 → f ≠ 4 → f ≠ 0 → sgCard σ nC a b c d f = σ f := fun f w1 w2 w3 w4 w0 => by
    unfold sgCard; rw [sgU_n _ _ _ w0, sgU_n _ _ _ w4, sgU_n _ _ _ w3, sgU_n _ _ _ w2, sgU_n _ _ _ w1]
  have s1 : sgCard σ nC a b c d 1 = upd (σ 1) nC a := by unfold sgCard; rw [sgU_n _ _ _ (by decide), sgU_n _ _ _ (by decide), sgU_n _ _ _ (by decide), sgU_n _ _ _ (by decide), sgU_f]
  have s2 : sgCard σ nC a b c d 2 = upd (σ 2) nC b := by unfold sgCard; rw [sgU_n _ _ _ (by decide), sgU_n _ _ _ (by decide), sgU_n _ _ _ (by decide), sgU_f, sgU_n _ _ _ (by decide)]
  have s3 : sgCard σ nC a b c d 3 = upd (σ 3) nC c := by unfold sgCard; rw [sgU_n _ _ _ (by decide), sgU_n _ _ _ (by decide), sgU_f, sgU_n _ _ _ (by decide), sgU_n _ _ _ (by decide)]
  have s4 : sgCard σ nC a b c d 4 = upd (σ 4) nC d := by unfold sgCard; rw [sgU_n _ _ _ (by decide), sgU_f, sgU_n _ _ _ (by decide), sgU_n _ _ _ (by decide), sgU_n _ _ _ (by decide)]
  refine ⟨xU_self _ _ _, by unfold sgCard; rw [sgU_f, upd_s], by rw [o5 5 (by decide) (by decide) (by decide) (by decide) (by decide)]; exact h3, by rw [o5 10 (by decide) (by decide) (by decide) (by decide) (by decide)]; exact h4', ?_, ?_, ?_⟩
  · obtain ⟨c1, c2, c3, c4⟩ := h5
    refine ⟨?_, by omega, fun k hk => ?_, fun k hk => ?_⟩
    · rw [xU_ne _ _ hcx, xU_self]
    · rw [va_up_n _ _ (by omega)]; exact c3 k (by omega)
    · rw [s1, s2, s3, s4]
      by_cases hkn : k = nC
      · subst hkn
        refine ⟨q, r, va_up_self _ _ _, ?_, ?_, h4⟩
        · rw [xU_ne _ _ hqx, xU_ne _ _ hqc, xU_self, upd_s, upd_s, upd_s, upd_s]
        · rw [upd_s]; exact hr
      · obtain ⟨ca, re, d1, d2, d3, d4⟩ := c4 k (by omega)
        refine ⟨ca, re, by rw [va_up_n _ _ hkn]; exact d1, ?_, ?_, d4⟩
        · rw [upd_n _ _ hkn, upd_n _ _ hkn, upd_n _ _ hkn, upd_n _ _ hkn]
          exact keep _ _ d2 (by intro z; simp at z) (by intro z; simp at z)
        · rw [upd_n _ _ hkn]; exact d3
  · obtain ⟨c1, c2, c3, c4, c5⟩ := h6
    unfold xVars
    rw [o5 8 (by decide) (by decide) (by decide) (by decide) (by decide), o5 9 (by decide) (by decide) (by decide) (by decide) (by decide), o5 7 (by decide) (by decide) (by decide) (by decide) (by decide), o5 6 (by decide) (by decide) (by decide) (by decide) (by decide)]
    refine ⟨keep _ _ c1 (by intro z; simp at z) (by intro z; simp at z), c2, c3, fun k hk => ?_, c5⟩
    obtain ⟨a2, r2, d1, d2, d3⟩ := c4 k hk
    exact ⟨a2, r2, d1, keep _ _ d2 (by intro z; simp at z) (by intro z; simp at z), keep _ _ d3 (by intro z; simp at z) (by intro z; simp at z)⟩
  · obtain ⟨c1, c2, c3, c4, c5, c6⟩ := h7
    refine ⟨keep _ _ c1 (by intro z; simp at z) (by intro z; simp at z), c2, c3, fun k hk => ?_, c5, c6⟩
    obtain ⟨a2, d1, va, gr, v2, d', sq, e1, e2, e3, e4, e5, e6, e7, e8, e9, e10⟩ := c4 k hk
    refine ⟨a2, d1, ?_⟩
    unfold xGame
    rw [o5 13 (by decide) (by decide) (by decide) (by decide) (by decide), o5 14 (by decide) (by decide) (by decide) (by decide) (by decide), o5 17 (by decide) (by decide) (by decide) (by decide) (by decide), o5 18 (by decide) (by decide) (by decide) (by decide) (by decide), o5 15 (by decide) (by decide) (by decide) (by decide) (by decide), o5 16 (by decide) (by decide) (by decide) (by decide) (by decide), o5 11 (by decide) (by decide) (by decide) (by decide) (by decide), o5 12 (by decide) (by decide) (by decide) (by decide) (by decide), o5 6 (by decide) (by decide) (by decide) (by decide) (by decide)]
    exact ⟨va, gr, v2, d', sq, keep _ _ e1 (by intro z; simp at z) (by intro z; simp at z), e2, e3, e4, e5, e6, keep _ _ e7 (by intro z; simp at z) (by intro z; simp at z), keep _ _ e8 (by intro z; simp at z) (by intro z; simp at z), e9, e10⟩
