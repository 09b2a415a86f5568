/-! p19's math, tools: where cards lead stays on the board; the search finds no less than behind any move; counts of sets -/
theorem yBd_0 : yBd 0 := fun i _ => b_0 i
theorem yBd_or {a b : Int32} (ha : yBd a) (hb : yBd b) : yBd (a ||| b) := by
  intro i hi
  rw [b_or, ha i hi, hb i hi]; rfl
theorem e_ahead (a b c : Int32) : fX4_cellAhead a b c = -1 ∨ ∃ k : Nat, k < 25 ∧ fX4_cellAhead a b c = nI k := by
  unfold fX4_cellAhead
  generalize (a - a / 5 * 5) + b = x
  generalize a / 5 + c = y
  by_cases h1 : x < 0
  · exact Or.inl (if_pos h1)
  · rw [if_neg h1]
    by_cases h2 : (5 : Int32) ≤ x
    · exact Or.inl (if_pos h2)
    · rw [if_neg h2]
      by_cases h3 : y < 0
      · exact Or.inl (if_pos h3)
      · rw [if_neg h3]
        by_cases h4 : (5 : Int32) ≤ y
        · exact Or.inl (if_pos h4)
        · rw [if_neg h4]
          obtain ⟨i, hi, rfl⟩ := nI_of h1
          obtain ⟨j, hj, rfl⟩ := nI_of h3
          have hi5 : i < 5 := x_nge (B := 5) h2 hi
          have hj5 : j < 5 := x_nge (B := 5) h4 hj
          exact Or.inr ⟨5 * j + i, by omega, by rw [show (5 : Int32) = nI 5 from rfl, pk_mul, nI_add]⟩
theorem e_X0 {kd dx dy re a0 h P : Int32} {s : Bool} : ∀ (n k : Nat) (w v6 v7 : Int32), yBd w → yBd (gX0_endsFrom kd dx dy re a0 h P s n k w v6 v7) := by
  intro n
  induction n with
  | zero => intro k w v6 v7 _; rw [gX0_endsFrom]; exact yBd_0
  | succ n ih =>
    intro k w v6 v7 hw
    rcases e_ahead v6 dx (fX0_rows kd dx dy re s) with z | ⟨c, hc, z⟩
    · rw [x_ceOut z]; exact hw
    · by_cases hre : re < nI k
      · rw [x_ceRe hre]; exact hw
      · rw [x_ce z hc hre]
        have ho : yBd (w ||| oC c) := yBd_oC hw hc
        split
        · exact hw
        · split
          · split
            · exact ih _ _ _ _ hw
            · exact ho
          · split
            · split
              · exact hw
              · exact ho
            · refine ih _ _ _ _ ?_
              split
              · exact hw
              · exact ho
theorem e_X2 {σ : xSg} {nC : Nat} {S h c0 own other : Int32} {s : Bool} : ∀ (n k : Nat) (w : Int32), yBd w → yBd (gX2_endsFrom σ nC S h c0 own other s n k w) := by
  intro n
  induction n with
  | zero => intro k w _; rw [gX2_endsFrom]; exact yBd_0
  | succ n ih =>
    intro k w hw
    rw [gX2_endsFrom]
    split
    · exact yBd_and hw
    · split
      · split
        · refine ih _ _ (yBd_or hw ?_)
          unfold fX0_endsFrom
          split
          · exact e_X0 _ _ _ _ _ yBd_0
          · exact e_X0 _ _ _ _ _ yBd_0
        · exact ih _ _ hw
      · exact ih _ _ hw
theorem e_ends {σ : xSg} {nC : Nat} {S h c0 own other : Int32} {s : Bool} : yBd (fX2_endsFrom σ nC S h c0 own other s) := by
  unfold fX2_endsFrom
  split
  · exact e_X2 _ _ _ yBd_0
  · exact yBd_and yBd_0
theorem e_bit {a : Int32} (h : yBd a) (h0 : ¬ a = 0) : ∃ t : Nat, t < 25 ∧ bt a t = true := by
  refine Classical.byContradiction fun hn => h0 (b_ext fun i hi => ?_)
  rw [b_0]
  by_cases c : i < 25
  · cases q : bt a i
    · rfl
    · exact absurd ⟨i, c, q⟩ hn
  · exact h i (by omega)
theorem e_some {σ : xSg} {nC : Nat} {S h own other : Int32} {s : Bool} : ∀ (n k : Nat), n + k = 26 → gX2_hasMove σ nC S h own other s n k = true → ∃ j, j < 25 ∧ ¬ fX2_endsFrom σ nC S h (nI j) own other s = 0 := by
  intro n
  induction n with
  | zero => intro k _ h; rw [gX2_hasMove] at h; cases h
  | succ n ih =>
    intro k h1 h2
    rw [gX2_hasMove] at h2
    by_cases c : (25 : Int32) ≤ nI k
    · rw [if_pos c] at h2; cases h2
    · rw [if_neg c] at h2
      by_cases z : fX2_endsFrom σ nC S h (nI k) own other s = 0
      · rw [if_pos z] at h2
        exact ih (k + 1) (by omega) h2
      · exact ⟨k, x_nge (B := 25) c (by omega), z⟩
/-- who has a move has one from a cell to a cell -/
theorem e_move {σ : xSg} {nC : Nat} {S h own other : Int32} {s : Bool} (hm : fX2_hasMove σ nC S h own other s = true) : ∃ f t : Nat, f < 25 ∧ t < 25 ∧ bt (fX2_endsFrom σ nC S h (nI f) own other s) t = true := by
  obtain ⟨f, hf, h0⟩ := e_some 26 0 (by omega) hm
  obtain ⟨t, ht, h1⟩ := e_bit e_ends h0
  exact ⟨f, t, hf, ht, h1⟩
theorem e_own {σ : xSg} {nC f t : Nat} {S h own other : Int32} {s : Bool} (hf : f < 25) (he : bt (fX2_endsFrom σ nC S h (nI f) own other s) t = true) : bt own f = true := by
  unfold fX2_endsFrom at he
  rw [x_isInN (n := f) _ (by omega)] at he
  cases q : bt own f
  · rw [q, if_neg x_nf, x_z_and, b_0] at he; cases he
  · rfl
theorem e_no {σ : xSg} {nC : Nat} {S h own other : Int32} {s : Bool} (hm : fX2_hasMove σ nC S h own other s = false) {f t : Nat} (hf : f < 25) : bt (fX2_endsFrom σ nC S h (nI f) own other s) t = false := by
  rw [y_noMove 26 0 (by omega) hm f (by omega) hf, b_0]
/-- no piece, no move -/
theorem e_none {σ : xSg} {nC : Nat} {S h other : Int32} {s : Bool} : fX2_hasMove σ nC S h 0 other s = false := by
  cases q : fX2_hasMove σ nC S h 0 other s
  · rfl
  · obtain ⟨f, t, hf, ht, h1⟩ := e_move q
    have := e_own hf h1
    rw [b_0] at this; cases this
section SG9
variable {σ : xSg} {nC : Nat} {S h own other : Int32} {s : Bool} {rc : Int32 → Int32 → Bool → Int32 → Int32 → Int32} {ra : Int32 → Int32 → Bool → Int32}
theorem s_cont {k : Nat} {cont : Int32 → Int32} (hr : cRn rc ra) (bo : yBd own) (bw : yBd other) : ∀ (n2 k2 : Nat) (x : Int32), n2 + k2 = 26 → k2 ≤ 25 → -100 ≤ x.toInt → x.toInt ≤ 100 → ∃ y : Int32, -100 ≤ y.toInt ∧ y.toInt ≤ 100 ∧ g2X4_searchAll σ nC S h ra own other s k cont n2 k2 x = cont y := by
  intro n2
  induction n2 with
  | zero => intro k2 x h1 h2; omega
  | succ n2 ih =>
    intro k2 x h1 h2 hx1 hx2
    by_cases c : k2 < 25
    · rw [y_all2 c]
      cases bt (fX2_endsFrom σ nC S h (nI k) own other s) k2
      · rw [if_neg x_nf]
        exact ih (k2 + 1) x (by omega) (by omega) hx1 hx2
      · rw [if_pos rfl]
        have q : -100 ≤ (cRe ra own other s k k2).toInt ∧ (cRe ra own other s k k2).toInt ≤ 100 := y_raB hr (yBd_wt bw) (yBd_mv bo c)
        have q2 := y_neg q.1 q.2
        have q3 := y_mx x (-(cRe ra own other s k k2))
        exact ih (k2 + 1) _ (by omega) (by omega) (by omega) (by omega)
    · rw [y_all2E c h2]
      exact ⟨x, hx1, hx2, rfl⟩
theorem s_ge2 {f t : Nat} {cont : Int32 → Int32} (hr : cRn rc ra) (bo : yBd own) (bw : yBd other) (hc : ∀ x : Int32, -100 ≤ x.toInt → x.toInt ≤ 100 → x.toInt ≤ (cont x).toInt ∧ (cont x).toInt ≤ 100) (ht : t < 25) (hb : bt (fX2_endsFrom σ nC S h (nI f) own other s) t = true) : ∀ (n2 k2 : Nat) (x : Int32), n2 + k2 = 26 → k2 ≤ t → -100 ≤ x.toInt → x.toInt ≤ 100 →
    (-(cRe ra own other s f t)).toInt ≤ (g2X4_searchAll σ nC S h ra own other s f cont n2 k2 x).toInt := by
  intro n2
  induction n2 with
  | zero => intro k2 x h1 h2; omega
  | succ n2 ih =>
    intro k2 x h1 h2 hx1 hx2
    have c : k2 < 25 := by omega
    have q : -100 ≤ (cRe ra own other s f k2).toInt ∧ (cRe ra own other s f k2).toInt ≤ 100 := y_raB hr (yBd_wt bw) (yBd_mv bo c)
    have q2 := y_neg q.1 q.2
    have q3 := y_mx x (-(cRe ra own other s f k2))
    rw [y_all2 c]
    by_cases e : k2 = t
    · subst e
      rw [hb, if_pos rfl]
      have q4 := y_ge2 (σ := σ) (nC := nC) (S := S) (h := h) (s := s) (k := f) hr bo bw hc n2 (k2 + 1) (if x < -(cRe ra own other s f k2) then -(cRe ra own other s f k2) else x) (by omega) (by omega) (by omega) (by omega)
      omega
    · cases bt (fX2_endsFrom σ nC S h (nI f) own other s) k2
      · rw [if_neg x_nf]
        exact ih (k2 + 1) x (by omega) (by omega) hx1 hx2
      · rw [if_pos rfl]
        exact ih (k2 + 1) _ (by omega) (by omega) (by omega) (by omega)
theorem s_ge {f t : Nat} (hr : cRn rc ra) (bo : yBd own) (bw : yBd other) (hf : f < 25) (ht : t < 25) (hb : bt (fX2_endsFrom σ nC S h (nI f) own other s) t = true) : ∀ (n k : Nat) (x : Int32), n + k = 26 → k ≤ f → -100 ≤ x.toInt → x.toInt ≤ 100 →
    (-(cRe ra own other s f t)).toInt ≤ (gX4_searchAll σ nC S h ra own other s n k x).toInt := by
  intro n
  induction n with
  | zero => intro k x h1 h2; omega
  | succ n ih =>
    intro k x h1 h2 hx1 hx2
    rw [gX4_searchAll, if_neg (show ¬ (25 : Int32) ≤ nI k from nI_ge (a := k) (b := 25) (by omega) (by omega))]
    by_cases e : k = f
    · subst e
      exact s_ge2 hr bo bw (fun y p1 p2 => y_ge hr bo bw n (k + 1) y (by omega) (by omega) p1 p2) ht hb 26 0 x (by omega) (by omega) hx1 hx2
    · obtain ⟨y, y1, y2, y3⟩ := s_cont (σ := σ) (nC := nC) (S := S) (h := h) (s := s) (k := k) (cont := fun v5 => gX4_searchAll σ nC S h ra own other s n (k + 1) v5) hr bo bw 26 0 x (by omega) (by omega) hx1 hx2
      rw [y3]
      exact ih (k + 1) y (by omega) (by omega) y1 y2
/-- a search one deep finds no less than what stands behind a move -/
theorem s_one {f t : Nat} (bo : yBd own) (bw : yBd other) (hf : f < 25) (ht : t < 25) (hb : bt (fX2_endsFrom σ nC S h (nI f) own other s) t = true) (hm : fX2_hasMove σ nC S h own other s = true) :
    (-(cRe (fun x y z => fX4_searchAll_0 σ nC S h x y z) own other s f t)).toInt ≤ (vX4_searchAll σ nC S h 1 own other s).toInt := by
  show _ ≤ (fX4_searchAll σ nC S h (vX4_searchAll σ nC S h 0) own other s).toInt
  unfold fX4_searchAll
  rw [hm, if_pos rfl]
  exact s_ge (y_cut0 (σ := σ) (nC := nC) (S := S) (h := h)) bo bw hf ht hb 26 0 (-100) (by omega) (by omega) (by decide) (by decide)
end SG9
/-- how many members below m -/
def cB (a : Int32) : Nat → Nat
  | 0 => 0
  | m + 1 => cB a m + (if bt a m = true then 1 else 0)
theorem pS_end (n : Nat) : ∀ (m k : Nat), pS n (m + 1) k = pS n m k + n / 2 ^ (k + m) % 2 := by
  intro m
  induction m with
  | zero => intro k; rw [pS, pS, pS, Nat.add_zero, Nat.zero_add, Nat.add_zero]
  | succ m ih =>
    intro k
    rw [pS, ih (k + 1), pS, show k + 1 + m = k + (m + 1) by omega]
    omega
theorem bt_nI {n i : Nat} (hi : i < 32) : bt (nI n) i = n.testBit i := by
  show (Int32.ofNat n).toBitVec.getLsbD i = _
  rw [Int32.toBitVec_ofNat', BitVec.getLsbD_ofNat, decide_eq_true hi, Bool.true_and]
theorem cB_pS (n : Nat) : ∀ m, m ≤ 32 → pS n m 0 = cB (nI n) m := by
  intro m
  induction m with
  | zero => intro _; rw [pS, cB]
  | succ m ih =>
    intro hm
    rw [pS_end, cB, ih (by omega), bt_nI (by omega), Nat.testBit_eq_decide_div_mod_eq, Nat.zero_add]
    by_cases q : n / 2 ^ m % 2 = 1
    · rw [decide_eq_true q, if_pos rfl, q]
    · rw [decide_eq_false q, if_neg x_nf]; omega
theorem bt_del (a : Int32) {t i : Nat} (ht : t < 25) (hi : i < 32) : bt (a &&& (((1 : Int32) <<< (nI t &&& 31)) ^^^ (-1))) i = (bt a i && !(decide (i = t))) := by
  rw [b_and, x_not _ hi, x_one (by omega) hi]
theorem bt_mv (a : Int32) {f t i : Nat} (hf : f < 25) (ht : t < 25) (hi : i < 32) : bt (fX4_moved a (nI f) (nI t)) i = ((bt a i && !(decide (i = f))) || decide (i = t)) := by
  unfold fX4_moved
  rw [b_or, bt_del a hf hi, x_one (by omega) hi]
theorem cB_del (a : Int32) {t : Nat} (ht : t < 25) : ∀ m, m ≤ 32 → cB (a &&& (((1 : Int32) <<< (nI t &&& 31)) ^^^ (-1))) m + (if t < m ∧ bt a t = true then 1 else 0) = cB a m := by
  intro m
  induction m with
  | zero => intro _; rw [cB, cB, if_neg (fun h => Nat.not_lt_zero _ h.1)]
  | succ m ih =>
    intro hm
    have := ih (by omega)
    rw [cB, cB, bt_del a ht (by omega)]
    by_cases e : m = t
    · subst e
      rw [if_neg (fun h => Nat.lt_irrefl _ h.1)] at this
      rw [decide_eq_true rfl, Bool.not_true, Bool.and_false, if_neg x_nf]
      cases q : bt a m
      · rw [if_neg (fun h => by cases h.2), if_neg x_nf]; omega
      · rw [if_pos ⟨Nat.lt_succ_self _, rfl⟩, if_pos rfl]; omega
    · rw [decide_eq_false e, Bool.not_false, Bool.and_true]
      by_cases z : t < m ∧ bt a t = true
      · have z9 : t < m + 1 ∧ bt a t = true := ⟨by omega, z.2⟩
        rw [if_pos z] at this; rw [if_pos z9]; omega
      · have z9 : ¬ (t < m + 1 ∧ bt a t = true) := fun h => z ⟨by omega, h.2⟩
        rw [if_neg z] at this; rw [if_neg z9]; omega
theorem cB_mv (a : Int32) {f t : Nat} (hf : f < 25) (ht : t < 25) (hbf : bt a f = true) (hbt : bt a t = false) : ∀ m, m ≤ 32 → cB (fX4_moved a (nI f) (nI t)) m + (if f < m then 1 else 0) = cB a m + (if t < m then 1 else 0) := by
  have hft : f ≠ t := fun e => by rw [e, hbt] at hbf; cases hbf
  intro m
  induction m with
  | zero => intro _; rw [cB, cB, if_neg (Nat.not_lt_zero _), if_neg (Nat.not_lt_zero _)]
  | succ m ih =>
    intro hm
    have := ih (by omega)
    rw [cB, cB, bt_mv a hf ht (by omega)]
    by_cases e1 : m = f
    · subst e1
      rw [if_neg (Nat.lt_irrefl _)] at this
      rw [decide_eq_true rfl, decide_eq_false hft, Bool.not_true, Bool.and_false, Bool.or_false, if_neg x_nf, hbf, if_pos rfl, if_pos (Nat.lt_succ_self _)]
      by_cases z : t < m
      · rw [if_pos z] at this; rw [if_pos (by omega)]; omega
      · rw [if_neg z] at this; rw [if_neg (by omega)]; omega
    · by_cases e2 : m = t
      · subst e2
        rw [if_neg (Nat.lt_irrefl _)] at this
        rw [decide_eq_true rfl, Bool.or_true, if_pos rfl, hbt, if_neg x_nf, if_pos (Nat.lt_succ_self _)]
        by_cases z : f < m
        · rw [if_pos z] at this; rw [if_pos (by omega)]; omega
        · rw [if_neg z] at this; rw [if_neg (by omega)]; omega
      · rw [decide_eq_false e1, decide_eq_false e2, Bool.not_false, Bool.and_true, Bool.or_false]
        have z1 : (f < m + 1) = (f < m) := propext (by omega)
        have z2 : (t < m + 1) = (t < m) := propext (by omega)
        simp only [z1, z2]
        omega
