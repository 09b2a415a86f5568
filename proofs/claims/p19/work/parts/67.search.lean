/-! the search: class and reference -/
/-- the value behind a move -/
def cRe (rec : Int32 → Int32 → Bool → Int32) (own other : Int32) (s : Bool) (k k2 : Nat) : Int32 := rec (other &&& (((1 : Int32) <<< ((nI k2) &&& 31)) ^^^ (-1))) (fX4_moved own (nI k) (nI k2)) (if s = true then (false) else (true))
section SE
variable {σ : xSg} {nC : Nat} {S h own other : Int32} {s : Bool} {k : Nat}
theorem y_all2 {rec : Int32 → Int32 → Bool → Int32} {cont : Int32 → Int32} {n2 k2 : Nat} {x : Int32} (hk : k2 < 25) : g2X4_searchAll σ nC S h rec own other s k cont (n2 + 1) k2 x =
    if bt (fX2_endsFrom σ nC S h (nI k) own other s) k2 = true then g2X4_searchAll σ nC S h rec own other s k cont n2 (k2 + 1) (if x < -(cRe rec own other s k k2) then -(cRe rec own other s k k2) else x) else g2X4_searchAll σ nC S h rec own other s k cont n2 (k2 + 1) x := by
  rw [g2X4_searchAll, if_neg (show ¬ (25 : Int32) ≤ nI k2 from nI_ge (a := k2) (b := 25) (by omega) (by omega)), x_isInN (n := k2) _ (by omega)] <;> rfl
theorem y_all2E {rec : Int32 → Int32 → Bool → Int32} {cont : Int32 → Int32} {n2 k2 : Nat} {x : Int32} (hk : ¬ k2 < 25) (hk2 : k2 ≤ 25) : g2X4_searchAll σ nC S h rec own other s k cont (n2 + 1) k2 x = cont x := by
  rw [g2X4_searchAll, if_pos (show (25 : Int32) ≤ nI k2 from nI_le (a := 25) (b := k2) (by omega) (by omega))]
theorem y_max (x r : Int32) : (if r ≤ x then x else r) = (if x < r then r else x) := by
  by_cases c : x < r
  · rw [if_pos c, if_neg (fun z => absurd c (Int32.not_lt.mpr z))]
  · rw [if_neg c, if_pos (Int32.not_lt.mp c)]
theorem y_noMove : ∀ (n k : Nat), n + k = 26 → gX2_hasMove σ nC S h own other s n k = false → ∀ j, k ≤ j → j < 25 → fX2_endsFrom σ nC S h (nI j) own other s = 0 := by
  intro n
  induction n with
  | zero => intro k h1 h2 j h3 h4; omega
  | succ n ih =>
    intro k h1 h2 j h3 h4
    rw [gX2_hasMove, if_neg (show ¬ (25 : Int32) ≤ nI k from nI_ge (a := k) (b := 25) (by omega) (by omega))] at h2
    by_cases c : fX2_endsFrom σ nC S h (nI k) own other s = 0
    · rw [if_pos c] at h2
      by_cases e : j = k
      · rw [e]; exact c
      · exact ih (k + 1) (by omega) h2 j (by omega) h4
    · rw [if_neg c] at h2; cases h2
theorem y_none2 {rec : Int32 → Int32 → Bool → Int32} {cont : Int32 → Int32} {x : Int32} (h0 : fX2_endsFrom σ nC S h (nI k) own other s = 0) : ∀ (n2 k2 : Nat), n2 + k2 = 26 → k2 ≤ 25 → g2X4_searchAll σ nC S h rec own other s k cont n2 k2 x = cont x := by
  intro n2
  induction n2 with
  | zero => intro k2 h1 h2; omega
  | succ n2 ih =>
    intro k2 h1 h2
    by_cases c : k2 < 25
    · rw [y_all2 c, h0, b_0, if_neg x_nf]
      exact ih (k2 + 1) (by omega) (by omega)
    · rw [y_all2E c h2]
theorem y_none {rec : Int32 → Int32 → Bool → Int32} {x : Int32} (h0 : fX2_hasMove σ nC S h own other s = false) : ∀ (n k : Nat), n + k = 26 → k ≤ 25 → gX4_searchAll σ nC S h rec own other s n k x = x := by
  intro n
  induction n with
  | zero => intro k h1 h2; omega
  | succ n ih =>
    intro k h1 h2
    rw [gX4_searchAll]
    by_cases c : (25 : Int32) ≤ nI k
    · rw [if_pos c]
    · have hk : k < 25 := Nat.lt_of_not_le (fun z => c (nI_le z (by omega)))
      rw [if_neg c, y_none2 (y_noMove 26 0 (by omega) h0 k (by omega) hk) 26 0 (by omega) (by omega)]
      exact ih (k + 1) (by omega) (by omega)
theorem y_onward2 {d v g : Nat} {rec : Int32 → Int32 → Bool → Int32} {cont cont' : Int32 → Int32} (h0 : σ 0 0 = nI nC) (hn : nC ≤ 8) (hg : ∀ k, k < nC → xGc σ k) (hr : ∀ a b s, yBd a → yBd b → rec a b s = fX5_standing σ d v g a b s) (bo : yBd own) (bw : yBd other) (hk : k < 25) (hc : ∀ x, cont x = cont' x) : ∀ (n2 k2 : Nat) (x : Int32), n2 + k2 = 26 → k2 ≤ 25 →
    g2X4_searchAll σ nC (σ 12 g) (σ 6 v) rec own other s k cont n2 k2 x = g2X5_onward σ d v g own other s k cont' n2 k2 x := by
  intro n2
  induction n2 with
  | zero => intro k2 x h1 h2; omega
  | succ n2 ih =>
    intro k2 x h1 h2
    by_cases c : k2 < 25
    · have eE : (if ((own >>> ((nI k) &&& 31)) &&& 1) = 1 then ((fX5_goes (σ) (σ 12 g) (σ 6 v) own other s (nI k))) else ((0 : Int32))) = fX2_endsFrom σ nC (σ 12 g) (σ 6 v) (nI k) own other s := by
        rw [x_goes h0 hn hg hk, x_bit1 (n := k) own (by omega)]
        cases bt own k <;> rfl
      have eR : cRe rec own other s k k2 = fX5_standing σ d v g (other &&& (((1 : Int32) <<< ((nI k2) &&& 31)) ^^^ (-1))) ((own &&& (((1 : Int32) <<< ((nI k) &&& 31)) ^^^ (-1))) ||| ((1 : Int32) <<< ((nI k2) &&& 31))) (if s = true then (false) else (true)) := hr _ _ _ (yBd_wt bw) (yBd_mv bo c)
      rw [y_all2 c, g2X5_onward, if_neg (show ¬ (25 : Int32) ≤ nI k2 from nI_ge (a := k2) (b := 25) (by omega) (by omega)), eE, x_bit1 (n := k2) _ (by omega), eR, y_max]
      cases bt (fX2_endsFrom σ nC (σ 12 g) (σ 6 v) (nI k) own other s) k2
      · rw [if_neg x_nf, if_neg x_nf, if_neg (by decide)]
        exact ih (k2 + 1) x (by omega) (by omega)
      · rw [if_pos rfl, if_pos rfl, if_pos rfl]
        exact ih (k2 + 1) _ (by omega) (by omega)
    · rw [y_all2E c h2, g2X5_onward, if_pos (show (25 : Int32) ≤ nI k2 from nI_le (a := 25) (b := k2) (by omega) (by omega))]
      exact hc x
theorem y_onward1 {d v g : Nat} {rec : Int32 → Int32 → Bool → Int32} (h0 : σ 0 0 = nI nC) (hn : nC ≤ 8) (hg : ∀ k, k < nC → xGc σ k) (hr : ∀ a b s, yBd a → yBd b → rec a b s = fX5_standing σ d v g a b s) (bo : yBd own) (bw : yBd other) : ∀ (n k : Nat) (x : Int32), n + k = 26 → k ≤ 25 →
    gX4_searchAll σ nC (σ 12 g) (σ 6 v) rec own other s n k x = gX5_onward σ d v g own other s n k x := by
  intro n
  induction n with
  | zero => intro k x h1 h2; omega
  | succ n ih =>
    intro k x h1 h2
    rw [gX4_searchAll, gX5_onward]
    by_cases c : (25 : Int32) ≤ nI k
    · rw [if_pos c, if_pos c]
    · have hk : k < 25 := Nat.lt_of_not_le (fun z => c (nI_le z (by omega)))
      rw [if_neg c, if_neg c]
      exact y_onward2 h0 hn hg hr bo bw hk (fun x => ih (k + 1) x (by omega) (by omega)) 26 0 x (by omega) (by omega)
theorem y_onward {d v g : Nat} {rec : Int32 → Int32 → Bool → Int32} (h0 : σ 0 0 = nI nC) (hn : nC ≤ 8) (hg : ∀ k, k < nC → xGc σ k) (hr : ∀ a b s, yBd a → yBd b → rec a b s = fX5_standing σ d v g a b s) (bo : yBd own) (bw : yBd other) :
    fX4_searchAll σ nC (σ 12 g) (σ 6 v) rec own other s = fX5_onward σ d v g own other s := by
  unfold fX4_searchAll fX5_onward
  rw [← y_onward1 h0 hn hg hr bo bw 26 0 (-100) (by omega) (by omega)]
  cases e : fX2_hasMove σ nC (σ 12 g) (σ 6 v) own other s
  · rw [if_neg x_nf, y_none e 26 0 (by omega) (by omega)]
  · rw [if_pos rfl]
theorem y_farther2 {d v g : Nat} {rec : Int32 → Int32 → Bool → Int32} {cont cont' : Int32 → Int32} (h0 : σ 0 0 = nI nC) (hn : nC ≤ 8) (hg : ∀ k, k < nC → xGc σ k) (hr : ∀ a b s, yBd a → yBd b → rec a b s = fX5_onward σ d v g a b s) (bo : yBd own) (bw : yBd other) (hk : k < 25) (hc : ∀ x, cont x = cont' x) : ∀ (n2 k2 : Nat) (x : Int32), n2 + k2 = 26 → k2 ≤ 25 →
    g2X4_searchAll σ nC (σ 12 g) (σ 6 v) rec own other s k cont n2 k2 x = g2X5_farther σ d v g own other s k cont' n2 k2 x := by
  intro n2
  induction n2 with
  | zero => intro k2 x h1 h2; omega
  | succ n2 ih =>
    intro k2 x h1 h2
    by_cases c : k2 < 25
    · have eE : (if ((own >>> ((nI k) &&& 31)) &&& 1) = 1 then ((fX5_goes (σ) (σ 12 g) (σ 6 v) own other s (nI k))) else ((0 : Int32))) = fX2_endsFrom σ nC (σ 12 g) (σ 6 v) (nI k) own other s := by
        rw [x_goes h0 hn hg hk, x_bit1 (n := k) own (by omega)]
        cases bt own k <;> rfl
      have eR : cRe rec own other s k k2 = fX5_onward σ d v g (other &&& (((1 : Int32) <<< ((nI k2) &&& 31)) ^^^ (-1))) ((own &&& (((1 : Int32) <<< ((nI k) &&& 31)) ^^^ (-1))) ||| ((1 : Int32) <<< ((nI k2) &&& 31))) (if s = true then (false) else (true)) := hr _ _ _ (yBd_wt bw) (yBd_mv bo c)
      rw [y_all2 c, g2X5_farther, if_neg (show ¬ (25 : Int32) ≤ nI k2 from nI_ge (a := k2) (b := 25) (by omega) (by omega)), eE, x_bit1 (n := k2) _ (by omega), eR, y_max]
      cases bt (fX2_endsFrom σ nC (σ 12 g) (σ 6 v) (nI k) own other s) k2
      · rw [if_neg x_nf, if_neg x_nf, if_neg (by decide)]
        exact ih (k2 + 1) x (by omega) (by omega)
      · rw [if_pos rfl, if_pos rfl, if_pos rfl]
        exact ih (k2 + 1) _ (by omega) (by omega)
    · rw [y_all2E c h2, g2X5_farther, if_pos (show (25 : Int32) ≤ nI k2 from nI_le (a := 25) (b := k2) (by omega) (by omega))]
      exact hc x
theorem y_farther1 {d v g : Nat} {rec : Int32 → Int32 → Bool → Int32} (h0 : σ 0 0 = nI nC) (hn : nC ≤ 8) (hg : ∀ k, k < nC → xGc σ k) (hr : ∀ a b s, yBd a → yBd b → rec a b s = fX5_onward σ d v g a b s) (bo : yBd own) (bw : yBd other) : ∀ (n k : Nat) (x : Int32), n + k = 26 → k ≤ 25 →
    gX4_searchAll σ nC (σ 12 g) (σ 6 v) rec own other s n k x = gX5_farther σ d v g own other s n k x := by
  intro n
  induction n with
  | zero => intro k x h1 h2; omega
  | succ n ih =>
    intro k x h1 h2
    rw [gX4_searchAll, gX5_farther]
    by_cases c : (25 : Int32) ≤ nI k
    · rw [if_pos c, if_pos c]
    · have hk : k < 25 := Nat.lt_of_not_le (fun z => c (nI_le z (by omega)))
      rw [if_neg c, if_neg c]
      exact y_farther2 h0 hn hg hr bo bw hk (fun x => ih (k + 1) x (by omega) (by omega)) 26 0 x (by omega) (by omega)
theorem y_farther {d v g : Nat} {rec : Int32 → Int32 → Bool → Int32} (h0 : σ 0 0 = nI nC) (hn : nC ≤ 8) (hg : ∀ k, k < nC → xGc σ k) (hr : ∀ a b s, yBd a → yBd b → rec a b s = fX5_onward σ d v g a b s) (bo : yBd own) (bw : yBd other) :
    fX4_searchAll σ nC (σ 12 g) (σ 6 v) rec own other s = fX5_farther σ d v g own other s := by
  unfold fX4_searchAll fX5_farther
  rw [← y_farther1 h0 hn hg hr bo bw 26 0 (-100) (by omega) (by omega)]
  cases e : fX2_hasMove σ nC (σ 12 g) (σ 6 v) own other s
  · rw [if_neg x_nf, y_none e 26 0 (by omega) (by omega)]
  · rw [if_pos rfl]
theorem y_v0 {d v g : Nat} (h0 : σ 0 0 = nI nC) (hn : nC ≤ 8) (hg : ∀ k, k < nC → xGc σ k) (bo : yBd own) (bw : yBd other) : vX4_searchAll σ nC (σ 12 g) (σ 6 v) 0 own other s = fX5_standing σ d v g own other s := by
  show fX4_searchAll_0 σ nC (σ 12 g) (σ 6 v) own other s = _
  unfold fX4_searchAll_0 fX5_standing
  rw [x_moves h0 hn hg, x_bcS bo, x_bcS bw]
theorem y_v1 {d v g : Nat} (h0 : σ 0 0 = nI nC) (hn : nC ≤ 8) (hg : ∀ k, k < nC → xGc σ k) (bo : yBd own) (bw : yBd other) : vX4_searchAll σ nC (σ 12 g) (σ 6 v) 1 own other s = fX5_onward σ d v g own other s :=
  y_onward h0 hn hg (fun _ _ _ ba bb => y_v0 h0 hn hg ba bb) bo bw
theorem y_v2 {d v g : Nat} (h0 : σ 0 0 = nI nC) (hn : nC ≤ 8) (hg : ∀ k, k < nC → xGc σ k) (bo : yBd own) (bw : yBd other) : vX4_searchAll σ nC (σ 12 g) (σ 6 v) 2 own other s = fX5_farther σ d v g own other s :=
  y_farther h0 hn hg (fun _ _ _ ba bb => y_v1 h0 hn hg ba bb) bo bw
end SE
