/-! one cell's set; bits of a set without another -/
def oC (c : Nat) : Int32 := (1 : Int32) <<< (nI c &&& 31)
theorem x_nf : ¬ (false = true) := by decide
theorem x_1n0 : ¬ ((1 : Int32) = 0) := by decide
theorem x_oC {c i : Nat} (hc : c < 32) (hi : i < 32) : bt (oC c) i = decide (i = c) := x_one hc hi
theorem x_not (a : Int32) {i : Nat} (hi : i < 32) : bt (a ^^^ (-1)) i = !(bt a i) := by
  rw [b_xor, b_m1 i hi]
  cases bt a i <;> rfl
theorem x_drop (w own : Int32) {c : Nat} (hc : c < 32) : (w ||| oC c) &&& (own ^^^ (-1)) = (w &&& (own ^^^ (-1))) ||| (if bt own c = true then 0 else oC c) := by
  apply b_ext
  intro i hi
  have e0 : bt (if bt own c = true then 0 else oC c) i = (decide (i = c) && !(bt own c)) := by
    cases h : bt own c
    · rw [if_neg x_nf, x_oC hc hi]; simp
    · rw [if_pos rfl, b_0]; simp
  rw [b_and, b_or, b_or, b_and, x_not own hi, x_oC hc hi, e0]
  by_cases e : i = c
  · rw [e]; cases bt w c <;> cases bt own c <;> simp
  · rw [decide_eq_false e]; cases bt w i <;> cases bt own i <;> simp
theorem x_dist (w v own : Int32) : (w ||| v) &&& (own ^^^ (-1)) = (w &&& (own ^^^ (-1))) ||| (v &&& (own ^^^ (-1))) := by
  apply b_ext
  intro i hi
  rw [b_and, b_or, b_or, b_and, b_and]
  cases bt w i <;> cases bt v i <;> cases bt (own ^^^ (-1)) i <;> rfl
/-! the reference's walk over a card's cells, in short -/
def bMay (kd b : Int32) (v : Bool) : Bool := if kd = 0 then (true) else (if kd = 1 then (if b = 0 then (true) else (if kd = 2 then (if b = 1 then (if v = true then (true) else (false)) else (false)) else (false))) else (if kd = 2 then (if b = 1 then (if v = true then (true) else (false)) else (false)) else (false)))
theorem x_gX5 (σ : xSg) (q : Nat) (a1 a2 a3 : Int32) (a4 : Bool) (a5 : Int32) (n k : Nat) (v7 v8 v9 v10 : Int32) (v11 : Bool) : gX5_by σ q a1 a2 a3 a4 a5 (n + 1) k v7 v8 v9 v10 v11 =
    if σ 4 q < nI k then v7 else if fX5_in v8 0 4 = true then if fX5_in v9 0 4 = true then
      if ((a1 >>> ((((5 : Int32) * v9) + v8) &&& 31)) &&& 1) = 0 then gX5_by σ q a1 a2 a3 a4 a5 n (k + 1) (v7 ||| (if bMay (σ 1 q) v10 v11 = true then (if ((a2 >>> ((((5 : Int32) * v9) + v8) &&& 31)) &&& 1) = 0 then ((1 : Int32) <<< ((((5 : Int32) * v9) + v8) &&& 31)) else 0) else 0)) (v8 + σ 2 q) (v9 + (if a4 = true then -(σ 3 q) else σ 3 q))
          (v10 + zI (if (if (((a2 ||| a3) >>> ((((5 : Int32) * v9) + v8) &&& 31)) &&& 1) = 1 then true else false) = true then true else false)) (if (((a2 ||| a3) >>> ((((5 : Int32) * v9) + v8) &&& 31)) &&& 1) = 1 then true else false)
      else v7 else v7 else v7 := by
  rw [gX5_by]
  rfl
theorem x_mayStuck {kd : Int32} {b : Nat} {v : Bool} (hb : b ≤ 10) (hs : (kd = 1 ∧ 1 ≤ b) ∨ (kd = 2 ∧ (2 ≤ b ∨ (b = 1 ∧ v = false)))) : bMay kd (nI b) v = false := by
  unfold bMay
  rcases hs with ⟨rfl, h1⟩ | ⟨rfl, h2⟩
  · rw [if_neg (by decide), if_pos rfl, if_neg (nI_ne0 h1 (by omega)), if_neg (by decide)]
  · rw [if_neg (by decide), if_neg (by decide), if_pos rfl]
    rcases h2 with h2 | ⟨rfl, rfl⟩
    · rw [if_neg (show ¬ nI b = 1 from fun z => by have := (nI_eq (a := b) (b := 1) (by omega) (by omega)).mp z; omega)]
    · rfl
theorem x_may1 (v : Bool) : bMay 1 0 v = true := by cases v <;> rfl
theorem x_may0 (b : Int32) (v : Bool) : bMay 0 b v = true := by unfold bMay; rw [if_pos rfl]
theorem x_may2 : bMay 2 0 false = false := rfl
theorem x_may2b : bMay 2 (nI 1) true = true := rfl
section SIM
variable {σ : xSg} {q x y r : Nat} {h own other a0 a5 : Int32} {s : Bool}
theorem x_byRe {n k : Nat} {v7 v8 v9 v10 : Int32} {v11 : Bool} (hre : σ 4 q < nI k) : gX5_by σ q h own other s a5 (n + 1) k v7 v8 v9 v10 v11 = v7 := by
  rw [x_gX5, if_pos hre]
theorem x_byOut {n k : Nat} {v7 v8 v9 v10 : Int32} {v11 : Bool} (ho : fX5_in v8 0 4 = false ∨ fX5_in v9 0 4 = false) : gX5_by σ q h own other s a5 (n + 1) k v7 v8 v9 v10 v11 = v7 := by
  rw [x_gX5]
  by_cases hre : σ 4 q < nI k
  · rw [if_pos hre]
  · rw [if_neg hre]
    rcases ho with ho | ho
    · rw [if_neg (by rw [ho]; decide)]
    · by_cases h8 : fX5_in v8 0 4 = true
      · rw [if_pos h8, if_neg (by rw [ho]; decide)]
      · rw [if_neg h8]
theorem x_by {n k c : Nat} {v7 v8 v9 v10 : Int32} {v11 : Bool} (hn : ((5 : Int32) * v9) + v8 = nI c) (hl : c < 25) (h8 : fX5_in v8 0 4 = true) (h9 : fX5_in v9 0 4 = true) (hre : ¬ σ 4 q < nI k) :
    gX5_by σ q h own other s a5 (n + 1) k v7 v8 v9 v10 v11 = if bt h c = true then v7 else gX5_by σ q h own other s a5 n (k + 1) (v7 ||| (if bMay (σ 1 q) v10 v11 = true then (if bt own c = true then 0 else oC c) else 0)) (v8 + σ 2 q) (v9 + (if s = true then -(σ 3 q) else σ 3 q)) (v10 + zI (bt own c || bt other c)) (bt own c || bt other c) := by
  rw [x_gX5, if_neg hre, if_pos h8, if_pos h9, hn, x_bit1 (n := c) h (by omega), x_bit1 (n := c) own (by omega), x_bit1 (n := c) (own ||| other) (by omega), b_or]
  cases bt h c
  · cases bt own c <;> cases bt other c <;> rfl
  · rfl
theorem x_ceRe {kd dx dy re P w v6 v7 : Int32} {n k : Nat} (hre : re < nI k) : gX0_endsFrom kd dx dy re a0 h P s (n + 1) k w v6 v7 = w := by
  rw [x_gX0, if_pos hre]
theorem x_ceOut {kd dx dy re P w v6 v7 : Int32} {n k : Nat} (ho : fX4_cellAhead v6 dx (fX0_rows kd dx dy re s) = -1) : gX0_endsFrom kd dx dy re a0 h P s (n + 1) k w v6 v7 = w := by
  rw [x_gX0]
  by_cases hre : re < nI k
  · rw [if_pos hre]
  · rw [if_neg hre, if_pos ho]
theorem x_ce {kd dx dy re P w v6 v7 : Int32} {n k c : Nat} (hc : fX4_cellAhead v6 dx (fX0_rows kd dx dy re s) = nI c) (hl : c < 25) (hre : ¬ re < nI k) :
    gX0_endsFrom kd dx dy re a0 h P s (n + 1) k w v6 v7 = if bt h c = true then w else if kd = 2 then (if v7 = 0 then gX0_endsFrom kd dx dy re a0 h P s n (k + 1) w (nI c) (if bt P c = true then 1 else 0) else w ||| oC c)
      else (if bt P c = true then (if v7 = 0 then w else w ||| oC c) else gX0_endsFrom kd dx dy re a0 h P s n (k + 1) (if v7 = 0 then w else w ||| oC c) (nI c) 1) := by
  have hm : ¬ nI c = -1 := x_cell0 ⟨c, hl⟩
  rw [x_gX0, if_neg hre, hc, if_neg hm, x_isInN (n := c) h (by omega), x_isInN (n := c) P (by omega)] <;> rfl
/-- a step ahead: on the board, or not -/
theorem x_geo {c0 : Nat} (hc : c0 < 25) (hx : x < 5) (hy : y < 5) :
    (fX5_in (pX c0 x) 0 4 = true ∧ fX5_in (pY c0 y s) 0 4 = true ∧ ∃ c, c < 25 ∧ fX4_cellAhead (nI c0) (nI x - 2) (pD y s) = nI c ∧ ((5 : Int32) * pY c0 y s) + pX c0 x = nI c ∧ pX c0 x = (nI c - nI c / 5 * 5) ∧ pY c0 y s = nI c / 5 ∧ c = pN c0 x y s) ∨
    ((fX5_in (pX c0 x) 0 4 = false ∨ fX5_in (pY c0 y s) 0 4 = false) ∧ fX4_cellAhead (nI c0) (nI x - 2) (pD y s) = -1) := by
  cases h8 : fX5_in (pX c0 x) 0 4
  · exact Or.inr ⟨Or.inl rfl, x_stepOut ⟨c0, hc⟩ ⟨x, hx⟩ ⟨y, hy⟩ s (Or.inl h8)⟩
  · cases h9 : fX5_in (pY c0 y s) 0 4
    · exact Or.inr ⟨Or.inr rfl, x_stepOut ⟨c0, hc⟩ ⟨x, hx⟩ ⟨y, hy⟩ s (Or.inr h9)⟩
    · obtain ⟨e1, e2, e3, e4, e5⟩ := x_stepIn ⟨c0, hc⟩ ⟨x, hx⟩ ⟨y, hy⟩ s h8 h9
      exact Or.inl ⟨rfl, rfl, pN c0 x y s, e2, e1, e3, e4.symm, e5.symm, rfl⟩
theorem x_ha {c0 : Nat} {z : Int32} (h2 : σ 2 q = nI x - 2) (h3 : σ 3 q = nI y - 2) (ha : fX4_cellAhead (nI c0) (nI x - 2) (pD y s) = z) : fX4_cellAhead (nI c0) (σ 2 q) (fX0_rows (σ 1 q) (σ 2 q) (σ 3 q) (σ 4 q) s) = z := by
  unfold fX0_rows
  rw [h2, h3]
  exact ha
theorem x_e8 {c0 c : Nat} (h2 : σ 2 q = nI x - 2) (ex : pX c0 x = (nI c - nI c / 5 * 5)) : pX c0 x + σ 2 q = pX c x := by
  rw [ex, h2]
  rfl
theorem x_e9 {c0 c : Nat} (h3 : σ 3 q = nI y - 2) (ey : pY c0 y s = nI c / 5) : pY c0 y s + (if s = true then -(σ 3 q) else σ 3 q) = pY c y s := by
  rw [ey, h3]
  rfl
theorem x_kr {k : Nat} (h4 : σ 4 q = nI r) (hk : k < 100) (hre : ¬ σ 4 q < nI k) : k ≤ r := by
  rw [h4] at hre
  exact Nat.le_of_not_lt (fun z => hre (nI_lt z (by omega)))
theorem x_byStuck (h4 : σ 4 q = nI r) (hr : r ≤ 4) : ∀ (n k b : Nat) (v7 v8 v9 : Int32) (v11 : Bool), n + k = 6 → k ≤ 5 → b ≤ k → ((σ 1 q = 1 ∧ 1 ≤ b) ∨ (σ 1 q = 2 ∧ (2 ≤ b ∨ (b = 1 ∧ v11 = false)))) → gX5_by σ q h own other s a5 n k v7 v8 v9 (nI b) v11 = v7 := by
  intro n
  induction n with
  | zero => intro k b v7 v8 v9 v11 hk hk5; omega
  | succ n ih =>
    intro k b v7 v8 v9 v11 hk hk5 hb hs
    by_cases hre : σ 4 q < nI k
    · exact x_byRe hre
    · have hkr : k ≤ r := x_kr h4 (by omega) hre
      rw [x_gX5, if_neg hre, x_mayStuck (by omega) hs]
      by_cases e8 : fX5_in v8 0 4 = true
      · rw [if_pos e8]
        by_cases e9 : fX5_in v9 0 4 = true
        · rw [if_pos e9]
          by_cases eh : ((h >>> ((((5 : Int32) * v9) + v8) &&& 31)) &&& 1) = 0
          · rw [if_pos eh, if_neg x_nf, Int32.or_zero]
            generalize (if (((own ||| other) >>> ((((5 : Int32) * v9) + v8) &&& 31)) &&& 1) = 1 then true else false) = pc
            cases pc
            · have e : nI b + zI (if false = true then true else false) = nI b := Int32.add_zero _
              rw [e]
              refine ih (k + 1) b v7 _ _ false (by omega) (by omega) (by omega) ?_
              rcases hs with ⟨p, p2⟩ | ⟨p, p2 | ⟨p2, p3⟩⟩
              · exact Or.inl ⟨p, p2⟩
              · exact Or.inr ⟨p, Or.inl p2⟩
              · exact Or.inr ⟨p, Or.inr ⟨p2, rfl⟩⟩
            · have e : nI b + zI (if true = true then true else false) = nI (b + 1) := nI_1 b
              rw [e]
              refine ih (k + 1) (b + 1) v7 _ _ true (by omega) (by omega) (by omega) ?_
              rcases hs with ⟨p, p2⟩ | ⟨p, p2⟩
              · exact Or.inl ⟨p, by omega⟩
              · exact Or.inr ⟨p, Or.inl (by rcases p2 with p2 | p2 <;> omega)⟩
          · rw [if_neg eh]
        · rw [if_neg e9]
      · rw [if_neg e8]
theorem x_sim1 (h1 : σ 1 q = 1) (h2 : σ 2 q = nI x - 2) (h3 : σ 3 q = nI y - 2) (h4 : σ 4 q = nI r) (hr : r ≤ 4) (hx : x < 5) (hy : y < 5) : ∀ (n k c0 : Nat) (w : Int32) (v : Bool), n + k = 6 → 1 ≤ k → k ≤ 5 → c0 < 25 →
    gX5_by σ q h own other s a5 n k (w &&& (own ^^^ (-1))) (pX c0 x) (pY c0 y s) 0 v = (gX0_endsFrom (σ 1 q) (σ 2 q) (σ 3 q) (σ 4 q) a0 h (own ||| other) s n k w (nI c0) 1) &&& (own ^^^ (-1)) := by
  intro n
  induction n with
  | zero => intro k c0 w v hk hk1 hk5; omega
  | succ n ih =>
    intro k c0 w v hk hk1 hk5 hc
    by_cases hre : σ 4 q < nI k
    · rw [x_byRe hre, x_ceRe hre]
    · have hkr : k ≤ r := x_kr h4 (by omega) hre
      rcases x_geo (s := s) hc hx hy with ⟨h8, h9, c, hl, ha, hn, ex, ey, -⟩ | ⟨ho, ha⟩
      · have hm : bMay (σ 1 q) 0 v = true := by rw [h1]; exact x_may1 v
        have hk2 : ¬ σ 1 q = 2 := by rw [h1]; decide
        rw [x_by hn hl h8 h9 hre, x_ce (x_ha h2 h3 ha) hl hre, x_e8 h2 ex, x_e9 h3 ey, hm, b_or]
        cases bt h c
        · rw [if_neg x_nf, if_neg x_nf, if_pos rfl, if_neg hk2, if_neg x_1n0, ← x_drop w own (c := c) (by omega)]
          cases ep : (bt own c || bt other c)
          · rw [if_neg x_nf, show (0 : Int32) + zI false = 0 from rfl]
            exact ih (k + 1) c (w ||| oC c) false (by omega) (by omega) (by omega) hl
          · rw [if_pos rfl, show (0 : Int32) + zI true = nI 1 from rfl]
            exact x_byStuck h4 hr n (k + 1) 1 _ _ _ true (by omega) (by omega) (by omega) (Or.inl ⟨h1, by omega⟩)
        · rfl
      · rw [x_byOut ho, x_ceOut (x_ha h2 h3 ha)]
theorem x_sim0 (h1 : σ 1 q = 0) (h2 : σ 2 q = nI x - 2) (h3 : σ 3 q = nI y - 2) (h4 : σ 4 q = nI 1) (hx : x < 5) (hy : y < 5) {n c0 : Nat} {w : Int32} {v : Bool} (hc : c0 < 25) :
    gX5_by σ q h own other s a5 (n + 1 + 1) 1 (w &&& (own ^^^ (-1))) (pX c0 x) (pY c0 y s) 0 v = (gX0_endsFrom (σ 1 q) (σ 2 q) (σ 3 q) (σ 4 q) a0 h (own ||| other) s (n + 1 + 1) 1 w (nI c0) 1) &&& (own ^^^ (-1)) := by
  have hre : ¬ σ 4 q < nI 1 := by rw [h4]; decide
  have hre2 : σ 4 q < nI (1 + 1) := by rw [h4]; decide
  rcases x_geo (s := s) hc hx hy with ⟨h8, h9, c, hl, ha, hn, ex, ey, -⟩ | ⟨ho, ha⟩
  · have hm : bMay (σ 1 q) 0 v = true := by rw [h1]; exact x_may0 0 v
    have hk2 : ¬ σ 1 q = 2 := by rw [h1]; decide
    rw [x_by hn hl h8 h9 hre, x_ce (x_ha h2 h3 ha) hl hre, hm]
    cases bt h c
    · rw [if_neg x_nf, if_neg x_nf, if_pos rfl, if_neg hk2, if_neg x_1n0, ← x_drop w own (c := c) (by omega), x_byRe hre2, x_ceRe hre2]
      cases bt (own ||| other) c <;> rfl
    · rfl
  · rw [x_byOut ho, x_ceOut (x_ha h2 h3 ha)]
theorem x_sim2B (h1 : σ 1 q = 2) (h2 : σ 2 q = nI x - 2) (h3 : σ 3 q = nI y - 2) (h4 : σ 4 q = nI r) (hr : r ≤ 4) (hx : x < 5) (hy : y < 5) {n k c0 : Nat} {w : Int32} (hk : n + k = 6) (hk1 : 1 ≤ k) (hk5 : k ≤ 5) (hc : c0 < 25) :
    gX5_by σ q h own other s a5 n k (w &&& (own ^^^ (-1))) (pX c0 x) (pY c0 y s) (nI 1) true = (gX0_endsFrom (σ 1 q) (σ 2 q) (σ 3 q) (σ 4 q) a0 h (own ||| other) s n k w (nI c0) 1) &&& (own ^^^ (-1)) := by
  obtain ⟨n, rfl⟩ : ∃ j, n = j + 1 := ⟨n - 1, by omega⟩
  by_cases hre : σ 4 q < nI k
  · rw [x_byRe hre, x_ceRe hre]
  · have hkr : k ≤ r := x_kr h4 (by omega) hre
    rcases x_geo (s := s) hc hx hy with ⟨h8, h9, c, hl, ha, hn, ex, ey, -⟩ | ⟨ho, ha⟩
    · have hm : bMay (σ 1 q) (nI 1) true = true := by rw [h1]; rfl
      rw [x_by hn hl h8 h9 hre, x_ce (x_ha h2 h3 ha) hl hre, x_e8 h2 ex, x_e9 h3 ey, hm]
      cases bt h c
      · rw [if_neg x_nf, if_neg x_nf, if_pos rfl, if_pos h1, if_neg x_1n0, ← x_drop w own (c := c) (by omega)]
        cases ep : (bt own c || bt other c)
        · rw [show nI 1 + zI false = nI 1 from rfl]
          exact x_byStuck h4 hr n (k + 1) 1 _ _ _ false (by omega) (by omega) (by omega) (Or.inr ⟨h1, Or.inr ⟨rfl, rfl⟩⟩)
        · rw [show nI 1 + zI true = nI 2 from rfl]
          exact x_byStuck h4 hr n (k + 1) 2 _ _ _ true (by omega) (by omega) (by omega) (Or.inr ⟨h1, Or.inl (by omega)⟩)
      · rfl
    · rw [x_byOut ho, x_ceOut (x_ha h2 h3 ha)]
theorem x_sim2A (h1 : σ 1 q = 2) (h2 : σ 2 q = nI x - 2) (h3 : σ 3 q = nI y - 2) (h4 : σ 4 q = nI r) (hr : r ≤ 4) (hx : x < 5) (hy : y < 5) : ∀ (n k c0 : Nat) (w : Int32), n + k = 6 → 1 ≤ k → k ≤ 5 → c0 < 25 →
    gX5_by σ q h own other s a5 n k (w &&& (own ^^^ (-1))) (pX c0 x) (pY c0 y s) 0 false = (gX0_endsFrom (σ 1 q) (σ 2 q) (σ 3 q) (σ 4 q) a0 h (own ||| other) s n k w (nI c0) 0) &&& (own ^^^ (-1)) := by
  intro n
  induction n with
  | zero => intro k c0 w hk hk1 hk5; omega
  | succ n ih =>
    intro k c0 w hk hk1 hk5 hc
    by_cases hre : σ 4 q < nI k
    · rw [x_byRe hre, x_ceRe hre]
    · have hkr : k ≤ r := x_kr h4 (by omega) hre
      rcases x_geo (s := s) hc hx hy with ⟨h8, h9, c, hl, ha, hn, ex, ey, -⟩ | ⟨ho, ha⟩
      · have hm : bMay (σ 1 q) 0 false = false := by rw [h1]; rfl
        rw [x_by hn hl h8 h9 hre, x_ce (x_ha h2 h3 ha) hl hre, x_e8 h2 ex, x_e9 h3 ey, hm, b_or]
        cases bt h c
        · rw [if_neg x_nf, if_neg x_nf, if_neg x_nf, Int32.or_zero, if_pos h1, if_pos rfl]
          cases ep : (bt own c || bt other c)
          · rw [if_neg x_nf, show (0 : Int32) + zI false = 0 from rfl]
            exact ih (k + 1) c w (by omega) (by omega) (by omega) hl
          · rw [if_pos rfl, show (0 : Int32) + zI true = nI 1 from rfl]
            exact x_sim2B h1 h2 h3 h4 hr hx hy (by omega) (by omega) (by omega) hl
        · rfl
      · rw [x_byOut ho, x_ceOut (x_ha h2 h3 ha)]
end SIM
