/-! the class's second way: whether a card leads from one cell to another -/
/-- whether a step goes up in the cells' numbers -/
def pU (x y : Nat) (s : Bool) : Bool := if s = true then decide (5 * y < 8 + x) else decide (12 < 5 * y + x)
theorem x_stepUp : ∀ c : Fin 25, ∀ x : Fin 5, ∀ y : Fin 5, ∀ s : Bool, fX5_in (pX c.val x.val) 0 4 = true → fX5_in (pY c.val y.val s) 0 4 = true → ¬ (x.val = 2 ∧ y.val = 2) →
    (if pU x.val y.val s = true then c.val < pN c.val x.val y.val s else pN c.val x.val y.val s < c.val) := by decide +kernel
/-- one cell is strictly ahead of another -/
def pB (u : Bool) (a b : Nat) : Prop := if u = true then a < b else b < a
theorem pB_tr {u : Bool} {a b c : Nat} (h1 : pB u a b) (h2 : pB u b c) : pB u a c := by
  unfold pB at *
  cases u
  · rw [if_neg x_nf] at *; omega
  · rw [if_pos rfl] at *; omega
theorem pB_ne {u : Bool} {a b : Nat} (h1 : pB u a b) : a ≠ b := by
  unfold pB at h1
  cases u
  · rw [if_neg x_nf] at h1; omega
  · rw [if_pos rfl] at h1; omega
theorem x_or_oC {w : Int32} {c t : Nat} (hc : c < 25) (ht : t < 25) : bt (w ||| oC c) t = (bt w t || decide (t = c)) := by
  rw [b_or, x_oC (by omega) (by omega)]
section LEADS
variable {x y r t : Nat} {kd dx dy re h P a0 a1 a5 : Int32} {s : Bool}
/-- a step of the walk: off the board, or to a cell that is strictly ahead -/
theorem x_step (h2 : dx = nI x - 2) (h3 : dy = nI y - 2) (hx : x < 5) (hy : y < 5) (hxy : ¬ (x = 2 ∧ y = 2)) {c0 : Nat} (hc : c0 < 25) :
    (∃ c, c < 25 ∧ fX4_cellAhead (nI c0) dx (fX0_rows kd dx dy re s) = nI c ∧ pB (pU x y s) c0 c) ∨ fX4_cellAhead (nI c0) dx (fX0_rows kd dx dy re s) = -1 := by
  have e : fX0_rows kd dx dy re s = pD y s := by
    unfold fX0_rows
    rw [h3]
    rfl
  rw [e, h2]
  rcases x_geo (s := s) hc hx hy with ⟨h8, h9, c, hl, ha, -, -, -, hp⟩ | ⟨-, ha⟩
  · refine Or.inl ⟨c, hl, ha, ?_⟩
    have := x_stepUp ⟨c0, hc⟩ ⟨x, hx⟩ ⟨y, hy⟩ s h8 h9 hxy
    rw [hp]
    exact this
  · exact Or.inr ha
/-- a cell that lies behind is not met again -/
theorem x_noMore (h2 : dx = nI x - 2) (h3 : dy = nI y - 2) (hx : x < 5) (hy : y < 5) (hxy : ¬ (x = 2 ∧ y = 2)) (h4 : re = nI r) (hr : r ≤ 4) (ht : t < 25) : ∀ (n k c0 : Nat) (w v : Int32), n + k = 6 → k ≤ 5 → c0 < 25 → (t = c0 ∨ pB (pU x y s) t c0) →
    bt (gX0_endsFrom kd dx dy re a0 h P s n k w (nI c0) v) t = bt w t := by
  intro n
  induction n with
  | zero => intro k c0 w v hk hk5; omega
  | succ n ih =>
    intro k c0 w v hk hk5 hc hb
    by_cases hre : re < nI k
    · rw [x_ceRe hre]
    · have hkr : k ≤ r := by rw [h4] at hre; exact Nat.le_of_not_lt (fun z => hre (nI_lt z (by omega)))
      rcases x_step (kd := kd) (re := re) (s := s) h2 h3 hx hy hxy hc with ⟨c, hl, ha, hp⟩ | ha
      · have hb2 : pB (pU x y s) t c := by
          rcases hb with rfl | hb
          · exact hp
          · exact pB_tr hb hp
        have hw : bt (w ||| oC c) t = bt w t := by rw [x_or_oC hl ht, decide_eq_false (pB_ne hb2), Bool.or_false]
        rw [x_ce ha hl hre]
        cases bt h c
        · rw [if_neg x_nf]
          by_cases hk2 : kd = 2
          · rw [if_pos hk2]
            by_cases hv : v = 0
            · rw [if_pos hv]
              exact ih (k + 1) c w _ (by omega) (by omega) hl (Or.inr hb2)
            · rw [if_neg hv]
              exact hw
          · rw [if_neg hk2]
            have hz : bt (if v = 0 then w else w ||| oC c) t = bt w t := by
              by_cases hv : v = 0
              · rw [if_pos hv]
              · rw [if_neg hv]; exact hw
            cases bt P c
            · rw [if_neg x_nf, ih (k + 1) c _ 1 (by omega) (by omega) hl (Or.inr hb2)]
              exact hz
            · rw [if_pos rfl]
              exact hz
        · rw [if_pos rfl]
      · rw [x_ceOut ha]
theorem x_leStep {n k c : Nat} {v6 v7 v8 : Int32} (ha : fX4_cellAhead v8 dx (fX0_rows kd dx dy re s) = nI c) (hl : c < 25) (ht : t < 25) (hre : ¬ re < nI k) :
    gX0_leads kd dx dy re a0 (nI t) h P s (n + 1) k v6 v7 v8 = if bt h c = true then false else if c = t then fX0_isRightPath kd dx dy re v6 v7 P else gX0_leads kd dx dy re a0 (nI t) h P s n (k + 1) (v6 ||| oC c) (nI c) (nI c) := by
  have hm : ¬ nI c = -1 := x_cell0 ⟨c, hl⟩
  rw [gX0_leads, if_neg hre, ha, if_neg hm, x_isInN (n := c) h (by omega)]
  by_cases e : c = t
  · rw [if_pos e, if_pos (show nI c = nI t by rw [e])]
  · rw [if_neg e, if_neg (show ¬ nI c = nI t from fun z => e ((nI_eq (by omega) (by omega)).mp z))]
    rfl
theorem x_leRe {n k : Nat} {v6 v7 v8 : Int32} (hre : re < nI k) : gX0_leads kd dx dy re a0 a1 h P s (n + 1) k v6 v7 v8 = false := by
  rw [gX0_leads, if_pos hre]
theorem x_leOut {n k : Nat} {v6 v7 v8 : Int32} (ha : fX4_cellAhead v8 dx (fX0_rows kd dx dy re s) = -1) : gX0_leads kd dx dy re a0 a1 h P s (n + 1) k v6 v7 v8 = false := by
  rw [gX0_leads]
  by_cases hre : re < nI k
  · rw [if_pos hre]
  · rw [if_neg hre, if_pos ha]
/-- a piece is in the way: no more -/
theorem x_leBad (h2 : dx = nI x - 2) (h3 : dy = nI y - 2) (hx : x < 5) (hy : y < 5) (hxy : ¬ (x = 2 ∧ y = 2)) (h4 : re = nI r) (hr : r ≤ 4) (ht : t < 25) : ∀ (n k c0 p : Nat) (v6 : Int32), n + k = 6 → k ≤ 5 → c0 < 25 → p < 25 → bt (v6 &&& P) p = true → (kd = 2 → pB (pU x y s) p c0) →
    gX0_leads kd dx dy re a0 (nI t) h P s n k v6 (nI c0) (nI c0) = false := by
  intro n
  induction n with
  | zero => intro k c0 p v6 hk hk5; omega
  | succ n ih =>
    intro k c0 p v6 hk hk5 hc hp hb hpk
    by_cases hre : re < nI k
    · exact x_leRe hre
    · have hkr : k ≤ r := by rw [h4] at hre; exact Nat.le_of_not_lt (fun z => hre (nI_lt z (by omega)))
      rcases x_step (kd := kd) (re := re) (s := s) h2 h3 hx hy hxy hc with ⟨c, hl, ha, hpp⟩ | ha
      · rw [x_leStep ha hl ht hre]
        cases bt h c
        · rw [if_neg x_nf]
          by_cases e : c = t
          · rw [if_pos e]
            unfold fX0_isRightPath
            by_cases hk2 : kd = 2
            · rw [if_pos hk2, if_neg (x_cell0 ⟨c0, hc⟩), if_neg]
              intro z
              have z2 : bt (v6 &&& P) p = bt (oC c0) p := by rw [z]; rfl
              rw [hb, x_oC (by omega) (by omega), decide_eq_false (pB_ne (hpk hk2))] at z2
              cases z2
            · rw [if_neg hk2, if_neg]
              intro z
              rw [z, b_0] at hb
              cases hb
          · rw [if_neg e]
            refine ih (k + 1) c p (v6 ||| oC c) (by omega) (by omega) hl hp ?_ (fun z => pB_tr (hpk z) hpp)
            rw [b_and] at hb ⊢
            rw [b_or]
            cases h6 : bt v6 p
            · rw [h6] at hb; cases hb
            · rw [h6] at hb; exact hb
        · rfl
      · exact x_leOut ha
theorem x_and_oC (v6 : Int32) {c : Nat} (hc : c < 32) (hp : bt P c = false) : (v6 ||| oC c) &&& P = v6 &&& P := by
  apply b_ext
  intro i hi
  rw [b_and, b_and, b_or, x_oC hc hi]
  by_cases e : i = c
  · rw [e, hp, Bool.and_false, Bool.and_false]
  · rw [decide_eq_false e, Bool.or_false]
theorem x_and_oC1 (v6 : Int32) {c : Nat} (hc : c < 32) (hp : bt P c = true) (h0 : v6 &&& P = 0) : (v6 ||| oC c) &&& P = oC c := by
  apply b_ext
  intro i hi
  have hi0 : (bt v6 i && bt P i) = false := by rw [← b_and, h0, b_0]
  rw [b_and, b_or, x_oC hc hi]
  by_cases e : i = c
  · rw [e, hp, decide_eq_true rfl, Bool.or_true]; rfl
  · rw [decide_eq_false e, Bool.or_false, hi0]
theorem x_lead1 (h2 : dx = nI x - 2) (h3 : dy = nI y - 2) (hx : x < 5) (hy : y < 5) (hxy : ¬ (x = 2 ∧ y = 2)) (h4 : re = nI r) (hr : r ≤ 4) (ht : t < 25) (hkd : ¬ kd = 2) : ∀ (n k c0 : Nat) (w v6 v7 : Int32), n + k = 6 → k ≤ 5 → c0 < 25 → bt w t = false → v6 &&& P = 0 →
    gX0_leads kd dx dy re a0 (nI t) h P s n k v6 v7 (nI c0) = bt (gX0_endsFrom kd dx dy re a5 h P s n k w (nI c0) 1) t := by
  intro n
  induction n with
  | zero => intro k c0 w v6 v7 hk hk5; omega
  | succ n ih =>
    intro k c0 w v6 v7 hk hk5 hc hw h0
    by_cases hre : re < nI k
    · rw [x_leRe hre, x_ceRe hre, hw]
    · have hkr : k ≤ r := by rw [h4] at hre; exact Nat.le_of_not_lt (fun z => hre (nI_lt z (by omega)))
      rcases x_step (kd := kd) (re := re) (s := s) h2 h3 hx hy hxy hc with ⟨c, hl, ha, hp⟩ | ha
      · rw [x_leStep ha hl ht hre, x_ce ha hl hre]
        cases bt h c
        · rw [if_neg x_nf, if_neg x_nf, if_neg hkd, if_neg x_1n0]
          have hz : bt (w ||| oC c) t = decide (t = c) := by rw [x_or_oC hl ht, hw, Bool.false_or]
          by_cases e : c = t
          · rw [if_pos e]
            have e1 : fX0_isRightPath kd dx dy re v6 v7 P = true := by
              unfold fX0_isRightPath
              rw [if_neg hkd, if_pos h0]
            rw [e1]
            cases bt P c
            · rw [if_neg x_nf, x_noMore h2 h3 hx hy hxy h4 hr ht n (k + 1) c (w ||| oC c) 1 (by omega) (by omega) hl (Or.inl e.symm), hz]
              exact (decide_eq_true e.symm).symm
            · rw [if_pos rfl, hz]
              exact (decide_eq_true e.symm).symm
          · have hz2 : bt (w ||| oC c) t = false := by rw [hz]; exact decide_eq_false (fun z => e z.symm)
            rw [if_neg e]
            cases hP : bt P c
            · rw [if_neg x_nf]
              exact ih (k + 1) c (w ||| oC c) (v6 ||| oC c) (nI c) (by omega) (by omega) hl hz2 (by rw [x_and_oC v6 (by omega) hP, h0])
            · rw [if_pos rfl, hz2]
              refine x_leBad h2 h3 hx hy hxy h4 hr ht n (k + 1) c c (v6 ||| oC c) (by omega) (by omega) hl hl ?_ (fun z => absurd z hkd)
              rw [x_and_oC1 v6 (by omega) hP h0, x_oC (by omega) (by omega)]
              exact decide_eq_true rfl
        · rw [if_pos rfl, if_pos rfl, hw]
      · rw [x_leOut ha, x_ceOut ha, hw]
theorem x_lead2B (h2 : dx = nI x - 2) (h3 : dy = nI y - 2) (hx : x < 5) (hy : y < 5) (hxy : ¬ (x = 2 ∧ y = 2)) (h4 : re = nI r) (hr : r ≤ 4) (ht : t < 25) (hkd : kd = 2) {n k c0 : Nat} {w v6 : Int32} (hk : n + k = 6) (hk5 : k ≤ 5) (hc : c0 < 25) (hw : bt w t = false) (h0 : v6 &&& P = oC c0) :
    gX0_leads kd dx dy re a0 (nI t) h P s n k v6 (nI c0) (nI c0) = bt (gX0_endsFrom kd dx dy re a5 h P s n k w (nI c0) 1) t := by
  obtain ⟨n, rfl⟩ : ∃ j, n = j + 1 := ⟨n - 1, by omega⟩
  by_cases hre : re < nI k
  · rw [x_leRe hre, x_ceRe hre, hw]
  · have hkr : k ≤ r := by rw [h4] at hre; exact Nat.le_of_not_lt (fun z => hre (nI_lt z (by omega)))
    rcases x_step (kd := kd) (re := re) (s := s) h2 h3 hx hy hxy hc with ⟨c, hl, ha, hp⟩ | ha
    · rw [x_leStep ha hl ht hre, x_ce ha hl hre]
      cases bt h c
      · rw [if_neg x_nf, if_neg x_nf, if_pos hkd, if_neg x_1n0]
        have hz : bt (w ||| oC c) t = decide (t = c) := by rw [x_or_oC hl ht, hw, Bool.false_or]
        rw [hz]
        by_cases e : c = t
        · rw [if_pos e, decide_eq_true e.symm]
          unfold fX0_isRightPath
          rw [if_pos hkd, if_neg (x_cell0 ⟨c0, hc⟩), if_pos (show v6 &&& P = (1 : Int32) <<< (nI c0 &&& 31) from h0)]
        · rw [if_neg e, decide_eq_false (fun z => e z.symm)]
          refine x_leBad h2 h3 hx hy hxy h4 hr ht n (k + 1) c c0 (v6 ||| oC c) (by omega) (by omega) hl hc ?_ (fun _ => hp)
          have h1 : bt (v6 &&& P) c0 = true := by
            rw [h0, x_oC (by omega) (by omega)]
            exact decide_eq_true rfl
          rw [b_and] at h1 ⊢
          rw [b_or]
          cases h6 : bt v6 c0
          · rw [h6] at h1; cases h1
          · rw [h6] at h1; exact h1
      · rw [if_pos rfl, if_pos rfl, hw]
    · rw [x_leOut ha, x_ceOut ha, hw]
theorem x_lead2A (h2 : dx = nI x - 2) (h3 : dy = nI y - 2) (hx : x < 5) (hy : y < 5) (hxy : ¬ (x = 2 ∧ y = 2)) (h4 : re = nI r) (hr : r ≤ 4) (ht : t < 25) (hkd : kd = 2) : ∀ (n k c0 : Nat) (w v6 v7 : Int32), n + k = 6 → k ≤ 5 → c0 < 25 → bt w t = false → v6 &&& P = 0 → (v7 = -1 ∨ v7 = nI c0) →
    gX0_leads kd dx dy re a0 (nI t) h P s n k v6 v7 (nI c0) = bt (gX0_endsFrom kd dx dy re a5 h P s n k w (nI c0) 0) t := by
  intro n
  induction n with
  | zero => intro k c0 w v6 v7 hk hk5; omega
  | succ n ih =>
    intro k c0 w v6 v7 hk hk5 hc hw h0 h7
    by_cases hre : re < nI k
    · rw [x_leRe hre, x_ceRe hre, hw]
    · have hkr : k ≤ r := by rw [h4] at hre; exact Nat.le_of_not_lt (fun z => hre (nI_lt z (by omega)))
      rcases x_step (kd := kd) (re := re) (s := s) h2 h3 hx hy hxy hc with ⟨c, hl, ha, hp⟩ | ha
      · rw [x_leStep ha hl ht hre, x_ce ha hl hre]
        cases bt h c
        · rw [if_neg x_nf, if_neg x_nf, if_pos hkd, if_pos rfl]
          by_cases e : c = t
          · rw [if_pos e, x_noMore h2 h3 hx hy hxy h4 hr ht n (k + 1) c w _ (by omega) (by omega) hl (Or.inl e.symm), hw]
            unfold fX0_isRightPath
            rw [if_pos hkd]
            rcases h7 with h7 | h7
            · rw [if_pos h7]
            · rw [if_neg (by rw [h7]; exact x_cell0 ⟨c0, hc⟩), h0, h7, if_neg]
              intro z
              have z2 : bt 0 c0 = bt (oC c0) c0 := by rw [z]; rfl
              rw [b_0, x_oC (by omega) (by omega), decide_eq_true rfl] at z2
              cases z2
          · rw [if_neg e]
            cases hP : bt P c
            · rw [if_neg x_nf]
              exact ih (k + 1) c w (v6 ||| oC c) (nI c) (by omega) (by omega) hl hw (by rw [x_and_oC v6 (by omega) hP, h0]) (Or.inr rfl)
            · rw [if_pos rfl]
              exact x_lead2B h2 h3 hx hy hxy h4 hr ht hkd (by omega) (by omega) hl hw (x_and_oC1 v6 (by omega) hP h0)
        · rw [if_pos rfl, if_pos rfl, hw]
      · rw [x_leOut ha, x_ceOut ha, hw]
end LEADS
/-- a card leads to a cell just where it is among the card's cells -/
theorem x_leads {σ : xSg} {q f t : Nat} {h P : Int32} {s : Bool} (hg : xGc σ q) (hf : f < 25) (ht : t < 25) :
    fX0_leads (σ 1 q) (σ 2 q) (σ 3 q) (σ 4 q) (nI f) (nI t) h P s = bt (fX0_endsFrom (σ 1 q) (σ 2 q) (σ 3 q) (σ 4 q) (nI f) h P s) t := by
  obtain ⟨hk, ⟨x, hx, h2⟩, ⟨y, hy, h3⟩, hne, r, h4, hr1, hr, hr0⟩ := hg
  have hxy : ¬ (x = 2 ∧ y = 2) := by
    rintro ⟨rfl, rfl⟩
    exact hne ⟨by rw [h2]; decide, by rw [h3]; decide⟩
  unfold fX0_leads fX0_endsFrom
  by_cases hkd : σ 1 q = 2
  · rw [if_pos hkd]
    exact x_lead2A h2 h3 (by omega) (by omega) hxy h4 hr ht hkd 5 1 f 0 0 (-1) (by omega) (by omega) hf (b_0 t) (x_z_and P) (Or.inl rfl)
  · rw [if_neg hkd]
    exact x_lead1 h2 h3 (by omega) (by omega) hxy h4 hr ht hkd 5 1 f 0 0 (-1) (by omega) (by omega) hf (b_0 t) (x_z_and P)
section CARDS
variable {σ : xSg} {nC f t : Nat} {S h own other : Int32} {s : Bool}
theorem x_slG (hg : ∀ k, k < nC → xGc σ k) (hn : nC ≤ 8) (hf : f < 25) (ht : t < 25) : ∀ (n k : Nat) (w : Int32), n + k = 9 → k ≤ 8 → bt (gX2_endsFrom σ nC S h (nI f) own other s n k w) t = ((bt w t || gX2_someCardLeads σ nC S h (nI f) (nI t) (own ||| other) s n k) && !(bt own t)) := by
  intro n
  induction n with
  | zero => intro k w h1 h2; omega
  | succ n ih =>
    intro k w h1 h2
    rw [gX2_endsFrom, gX2_someCardLeads]
    by_cases c : (8 : Int32) ≤ nI k
    · rw [if_pos c, if_pos c, b_and, x_not own (by omega), Bool.or_false]
    · have hk : k < 8 := Nat.lt_of_not_le (fun z => c (nI_le z (by omega)))
      rw [if_neg c, if_neg c]
      by_cases hkn : k < nC
      · rw [if_pos hkn, if_pos hkn]
        by_cases hS : fX4_isIn S (nI k) = true
        · rw [if_pos hS, if_pos hS, ih (k + 1) _ (by omega) (by omega), x_leads (hg k hkn) hf ht, b_or]
          cases bt (fX0_endsFrom (σ 1 k) (σ 2 k) (σ 3 k) (σ 4 k) (nI f) h (own ||| other) s) t <;> simp
        · rw [if_neg hS, if_neg hS, ih (k + 1) _ (by omega) (by omega)]
      · rw [if_neg hkn, if_neg hkn, ih (k + 1) _ (by omega) (by omega)]
/-- some card leads to a cell just where it is among the cells of all cards -/
theorem x_some (hg : ∀ k, k < nC → xGc σ k) (hn : nC ≤ 8) (hf : f < 25) (ht : t < 25) : bt (fX2_endsFrom σ nC S h (nI f) own other s) t = (bt own f && (fX2_someCardLeads σ nC S h (nI f) (nI t) (own ||| other) s && !(bt own t))) := by
  unfold fX2_endsFrom fX2_someCardLeads
  rw [x_isInN (n := f) own (by omega)]
  cases bt own f
  · rw [if_neg x_nf, x_z_and, b_0, Bool.false_and]
  · rw [if_pos rfl, x_slG hg hn hf ht 9 0 0 (by omega) (by omega), b_0, Bool.false_or, Bool.true_and]
end CARDS
