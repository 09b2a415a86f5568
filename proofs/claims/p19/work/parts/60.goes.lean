/-! a card's cells, a set of cards' cells, whether there is a move: class and reference -/
/-- a card of a state is in its ranges -/
def xGc (σ : xSg) (k : Nat) : Prop := (σ 1 k = 0 ∨ σ 1 k = 1 ∨ σ 1 k = 2) ∧ (∃ x : Nat, x ≤ 4 ∧ σ 2 k = nI x - 2) ∧ (∃ y : Nat, y ≤ 4 ∧ σ 3 k = nI y - 2) ∧ ¬ (σ 2 k = 0 ∧ σ 3 k = 0) ∧ ∃ r : Nat, σ 4 k = nI r ∧ 1 ≤ r ∧ r ≤ 4 ∧ (σ 1 k = 0 → r = 1)
theorem x_z_and (a : Int32) : (0 : Int32) &&& a = 0 := by
  apply b_ext
  intro i hi
  rw [b_and, b_0]
  rfl
theorem x_byEnds {σ : xSg} {q c0 : Nat} {h own other : Int32} {s : Bool} (hg : xGc σ q) (hc : c0 < 25) :
    fX5_by σ q h own other s (nI c0) = (fX0_endsFrom (σ 1 q) (σ 2 q) (σ 3 q) (σ 4 q) (nI c0) h (own ||| other) s) &&& (own ^^^ (-1)) := by
  obtain ⟨hk, ⟨x, hx, h2⟩, ⟨y, hy, h3⟩, -, r, h4, hr1, hr, hr0⟩ := hg
  have e : fX5_by σ q h own other s (nI c0) = gX5_by σ q h own other s (nI c0) 5 1 ((0 : Int32) &&& (own ^^^ (-1))) (pX c0 x) (pY c0 y s) 0 false := by
    rw [x_z_and]
    unfold fX5_by pX pY pD
    rw [h2, h3]
  rw [e]
  unfold fX0_endsFrom
  rcases hk with h1 | h1 | h1
  · rw [if_neg (by rw [h1]; decide)]
    rw [hr0 h1] at h4
    exact x_sim0 (n := 3) h1 h2 h3 h4 (by omega) (by omega) hc
  · rw [if_neg (by rw [h1]; decide)]
    exact x_sim1 h1 h2 h3 h4 hr (by omega) (by omega) 5 1 c0 0 false (by omega) (by omega) (by omega) hc
  · rw [if_pos h1]
    exact x_sim2A h1 h2 h3 h4 hr (by omega) (by omega) 5 1 c0 0 (by omega) (by omega) (by omega) hc
section GOES
variable {σ : xSg} {nC c0 : Nat} {S h own other : Int32} {s : Bool}
theorem x_goesEnd : ∀ (m k : Nat) (w : Int32), nC ≤ k → m + k = 9 → k ≤ 8 → gX2_endsFrom σ nC S h (nI c0) own other s m k w = w &&& (own ^^^ (-1)) := by
  intro m
  induction m with
  | zero => intro k w h1 h2 h3; omega
  | succ m ih =>
    intro k w h1 h2 h3
    rw [gX2_endsFrom]
    by_cases c : (8 : Int32) ≤ nI k
    · rw [if_pos c]
    · have : k < 8 := Nat.lt_of_not_le (fun z => c (nI_le z (by omega)))
      rw [if_neg c, if_neg (by omega)]
      exact ih (k + 1) w (by omega) (by omega) (by omega)
theorem x_goesG (h0 : σ 0 0 = nI nC) (hn : nC ≤ 8) (hg : ∀ k, k < nC → xGc σ k) (hc : c0 < 25) : ∀ (n k : Nat) (w : Int32), n + k = 9 → k ≤ nC → gX5_goes σ S h own other s (nI c0) n k (w &&& (own ^^^ (-1))) = gX2_endsFrom σ nC S h (nI c0) own other s n k w := by
  intro n
  induction n with
  | zero => intro k w h1 h2; omega
  | succ n ih =>
    intro k w h1 h2
    by_cases c : nC ≤ k
    · rw [x_goesEnd (n + 1) k w c h1 (by omega), gX5_goes, if_pos (by rw [h0]; exact nI_le c (by omega))]
    · have hk : k < nC := Nat.lt_of_not_le c
      have c8 : ¬ (8 : Int32) ≤ nI k := nI_ge (a := k) (b := 8) (by omega) (by omega)
      have cn : ¬ σ 0 0 ≤ nI k := by rw [h0]; exact nI_ge hk (by omega)
      rw [gX5_goes, if_neg cn, gX2_endsFrom, if_neg c8, if_pos hk, x_isInN (n := k) S (by omega), x_bit1 (n := k) S (by omega), x_byEnds (hg k hk) hc]
      cases bt S k
      · rw [if_neg x_nf, if_neg x_nf, if_neg (by decide), Int32.or_zero]
        exact ih (k + 1) w (by omega) (by omega)
      · rw [if_pos rfl, if_pos rfl, if_pos rfl, ← x_dist]
        exact ih (k + 1) _ (by omega) (by omega)
/-- the cells to which a piece goes: the class's are the reference's -/
theorem x_goes (h0 : σ 0 0 = nI nC) (hn : nC ≤ 8) (hg : ∀ k, k < nC → xGc σ k) (hc : c0 < 25) :
    fX2_endsFrom σ nC S h (nI c0) own other s = if bt own c0 = true then fX5_goes σ S h own other s (nI c0) else 0 := by
  unfold fX2_endsFrom
  rw [x_isInN (n := c0) own (by omega)]
  cases bt own c0
  · rw [if_neg x_nf, if_neg x_nf, x_z_and]
  · rw [if_pos rfl, if_pos rfl]
    unfold fX5_goes
    have e := x_goesG (S := S) (h := h) (own := own) (other := other) (s := s) h0 hn hg hc 9 0 0 (by omega) (by omega)
    rw [x_z_and] at e
    exact e.symm
theorem x_movesT {a0 a1 a2 a3 : Int32} {a4 : Bool} {n k : Nat} : gX5_moves σ a0 a1 a2 a3 a4 (n + 1) k true = true := by
  rw [gX5_moves]
  by_cases c : (25 : Int32) ≤ nI k
  · rw [if_pos c]
  · rw [if_neg c, if_pos rfl]
theorem x_movesG (h0 : σ 0 0 = nI nC) (hn : nC ≤ 8) (hg : ∀ k, k < nC → xGc σ k) : ∀ (n k : Nat), n + k = 26 → k ≤ 25 → gX2_hasMove σ nC S h own other s n k = gX5_moves σ S h own other s n k false := by
  intro n
  induction n with
  | zero => intro k h1 h2; omega
  | succ n ih =>
    intro k h1 h2
    rw [gX2_hasMove, gX5_moves]
    by_cases c : (25 : Int32) ≤ nI k
    · rw [if_pos c, if_pos c]
    · have hk : k < 25 := Nat.lt_of_not_le (fun z => c (nI_le z (by omega)))
      rw [if_neg c, if_neg c, if_neg x_nf, x_goes h0 hn hg hk, x_bit1 (n := k) own (by omega)]
      obtain ⟨m, rfl⟩ : ∃ j, n = j + 1 := ⟨n - 1, by omega⟩
      cases bt own k
      · rw [if_neg x_nf, if_neg x_nf, if_pos rfl, if_neg (by decide)]
        exact ih (k + 1) (by omega) (by omega)
      · rw [if_pos rfl, if_pos rfl, if_pos rfl]
        by_cases e : fX5_goes σ S h own other s (nI k) = 0
        · rw [if_pos e, if_pos e]
          exact ih (k + 1) (by omega) (by omega)
        · rw [if_neg e, if_neg e]
          exact x_movesT.symm
/-- whether there is a move -/
theorem x_moves (h0 : σ 0 0 = nI nC) (hn : nC ≤ 8) (hg : ∀ k, k < nC → xGc σ k) : fX2_hasMove σ nC S h own other s = fX5_moves σ S h own other s := x_movesG h0 hn hg 26 0 (by omega) (by omega)
end GOES
