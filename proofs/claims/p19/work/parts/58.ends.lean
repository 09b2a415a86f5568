/-! the class's walk over a card's cells, in short -/
theorem x_gX0 (kd dx dy re a0 a1 a2 : Int32) (a3 : Bool) (n k : Nat) (v5 v6 v7 : Int32) : gX0_endsFrom kd dx dy re a0 a1 a2 a3 (n + 1) k v5 v6 v7 =
    if re < nI k then v5 else if fX4_cellAhead v6 dx (fX0_rows kd dx dy re a3) = -1 then v5 else if fX4_isIn a1 (fX4_cellAhead v6 dx (fX0_rows kd dx dy re a3)) = true then v5 else
      if kd = 2 then (if v7 = 0 then gX0_endsFrom kd dx dy re a0 a1 a2 a3 n (k + 1) v5 (fX4_cellAhead v6 dx (fX0_rows kd dx dy re a3)) (if fX4_isIn a2 (fX4_cellAhead v6 dx (fX0_rows kd dx dy re a3)) = true then 1 else 0)
        else v5 ||| ((1 : Int32) <<< ((fX4_cellAhead v6 dx (fX0_rows kd dx dy re a3)) &&& 31)))
      else (if fX4_isIn a2 (fX4_cellAhead v6 dx (fX0_rows kd dx dy re a3)) = true then (if v7 = 0 then v5 else v5 ||| ((1 : Int32) <<< ((fX4_cellAhead v6 dx (fX0_rows kd dx dy re a3)) &&& 31)))
        else gX0_endsFrom kd dx dy re a0 a1 a2 a3 n (k + 1) (if v7 = 0 then v5 else v5 ||| ((1 : Int32) <<< ((fX4_cellAhead v6 dx (fX0_rows kd dx dy re a3)) &&& 31))) (fX4_cellAhead v6 dx (fX0_rows kd dx dy re a3)) 1) := by
  rw [gX0_endsFrom]
  generalize fX4_cellAhead v6 dx (fX0_rows kd dx dy re a3) = q
  by_cases h1 : re < nI k
  · rw [if_pos h1, if_pos h1]
  · rw [if_neg h1, if_neg h1]
    by_cases h2 : q = -1
    · rw [if_pos h2, if_pos h2]
    · rw [if_neg h2, if_neg h2]
      cases h3 : fX4_isIn a1 q
      · by_cases h4 : kd = 2 <;> by_cases h5 : v7 = 0 <;> cases h6 : fX4_isIn a2 q <;> simp only [h4, h5, h6, ↓reduceIte, Bool.false_eq_true]
      · rfl
