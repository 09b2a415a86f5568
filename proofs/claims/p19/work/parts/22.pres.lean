/-! what the class's writes make of its numbers -/
def sgU (σ : xSg) (f i : Nat) (x : Int32) : xSg := fun g => if g = f then upd (σ f) i x else σ g
theorem sgU_f (σ : xSg) (f i : Nat) (x : Int32) : sgU σ f i x f = upd (σ f) i x := by unfold sgU; rw [if_pos rfl]
theorem sgU_n (σ : xSg) {f g : Nat} (i : Nat) (x : Int32) (h : g ≠ f) : sgU σ f i x g = σ g := by unfold sgU; rw [if_neg h]
theorem upd_s (f : Nat → Int32) (k : Nat) (x : Int32) : upd f k x k = x := by unfold upd; rw [if_pos rfl]
theorem upd_n (f : Nat → Int32) {k j : Nat} (x : Int32) (h : j ≠ k) : upd f k x j = f j := by unfold upd; rw [if_neg h]
theorem xU_noneE {E E1 : xE} {a b : Nat} {e : va_E} (h : E1 = xU E a e) (hb : E1 b = none) : E b = none ∧ b ≠ a := by
  have hn : b ≠ a := fun q => by rw [h, q, xU_self] at hb; cases hb
  rw [h, xU_ne E e hn] at hb
  exact ⟨hb, hn⟩
theorem xU_old {E : xE} {q b : Nat} {e f : va_E} (hq : E q = none) (hb : E b = some f) : xU E q e b = some f := by
  rw [xU_ne E e (fun h => by rw [h, hq] at hb; cases hb), hb]
theorem va_up_n {α : Type} (f : Nat → α) {k j : Nat} (v : α) (h : j ≠ k) : va_up f k v j = f j := va_up_ne f v h
/-- a vote -/
theorem xCls_vote {G : xG} {E : xE} {x ct vt gt : Nat} {tb vb gb : Nat → Option Nat} {sa : Nat → Nat} {nC nV nG : Nat} {σ : xSg} (h : xCls G E x ct vt gt tb vb gb sa nC nV nG σ) {v a r : Nat} (hv : v < nV) (ha : vb v = some a) (hE : E a = some (.inr (3, [.ref r, .int (σ 8 v), .int (σ 9 v)]))) (w : Int32) :
    xCls G (xU E a (.inr (3, [.ref r, .int w, .int (σ 9 v)]))) x ct vt gt tb vb gb sa nC nV nG (sgU σ 8 v w) ∧ xFr tC E (xU E a (.inr (3, [.ref r, .int w, .int (σ 9 v)]))) := by
  refine ⟨?_, xFr_put xFr_rf hE rfl _⟩
  obtain ⟨h1, h2, h3, h4, h5, h6, h7⟩ := h
  have keep : ∀ (b : Nat) (f : va_E), E b = some f → f ≠ (.inr (3, [.ref r, .int (σ 8 v), .int (σ 9 v)])) → xU E a (.inr (3, [.ref r, .int w, .int (σ 9 v)])) b = some f := fun b f hb hf => xU_of hb hE hf
  refine ⟨keep _ _ h1 (by intro q; simp at q), h2, h3, h4, ?_, ?_, ?_⟩
  · obtain ⟨c1, c2, c3, c4⟩ := h5
    refine ⟨keep _ _ c1 (by intro q; simp at q), c2, c3, fun k hk => ?_⟩
    obtain ⟨ca, re, d1, d2, d3, d4⟩ := c4 k hk
    exact ⟨ca, re, d1, keep _ _ d2 (by intro q; simp at q), d3, d4⟩
  · obtain ⟨c1, c2, c3, c4, c5⟩ := h6
    refine ⟨keep _ _ c1 (by intro q; simp at q), c2, c3, fun k hk => ?_, c5⟩
    obtain ⟨a2, r2, d1, d2, d3⟩ := c4 k hk
    by_cases hkv : k = v
    · subst hkv
      have e1 : a = a2 := Option.some.inj (ha.symm.trans d1)
      subst e1
      have e2 := hE.symm.trans d2
      simp at e2
      subst e2
      refine ⟨a, r, d1, ?_, keep _ _ d3 (by intro q; simp at q)⟩
      rw [xU_self]
      show some _ = some _
      rw [sgU_f, upd_s]
      rfl
    · refine ⟨a2, r2, d1, ?_, keep _ _ d3 (by intro q; simp at q)⟩
      rw [xU_ne E _ (fun q => hkv (c5 k v a (by rw [← q]; exact d1) ha)), d2, sgU_f, upd_n _ _ hkv]
      rfl
  · obtain ⟨c1, c2, c3, c4, c5, c6⟩ := h7
    refine ⟨keep _ _ c1 (by intro q; simp at q), c2, c3, fun k hk => ?_, c5, c6⟩
    obtain ⟨a2, d1, va, gr, v2, d, sq, e1, e2, e3, e4, e5, e6, e7, e8, e9, e10⟩ := c4 k hk
    exact ⟨a2, d1, va, gr, v2, d, sq, keep _ _ e1 (by intro q; simp at q), e2, e3, e4, e5, e6, keep _ _ e7 (by intro q; simp at q), keep _ _ e8 (by intro q; simp at q), e9, e10⟩
