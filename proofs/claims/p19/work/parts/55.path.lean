/-! a step ahead: the class's cell, the reference's row and column -/
def pX (c x : Nat) : Int32 := (nI c - nI c / 5 * 5) + (nI x - 2)
def pD (y : Nat) (s : Bool) : Int32 := if s = true then (-(nI y - 2)) else (nI y - 2)
def pY (c y : Nat) (s : Bool) : Int32 := (nI c / 5) + pD y s
def pN (c x y : Nat) (s : Bool) : Nat := (((5 : Int32) * pY c y s) + pX c x).toNatClampNeg
theorem x_stepIn : ∀ c : Fin 25, ∀ x : Fin 5, ∀ y : Fin 5, ∀ s : Bool, fX5_in (pX c.val x.val) 0 4 = true → fX5_in (pY c.val y.val s) 0 4 = true →
    fX4_cellAhead (nI c.val) (nI x.val - 2) (pD y.val s) = nI (pN c.val x.val y.val s) ∧ pN c.val x.val y.val s < 25 ∧ ((5 : Int32) * pY c.val y.val s) + pX c.val x.val = nI (pN c.val x.val y.val s) ∧
    (nI (pN c.val x.val y.val s)) - (nI (pN c.val x.val y.val s)) / 5 * 5 = pX c.val x.val ∧ (nI (pN c.val x.val y.val s)) / 5 = pY c.val y.val s := by decide +kernel
theorem x_stepOut : ∀ c : Fin 25, ∀ x : Fin 5, ∀ y : Fin 5, ∀ s : Bool, (fX5_in (pX c.val x.val) 0 4 = false ∨ fX5_in (pY c.val y.val s) 0 4 = false) → fX4_cellAhead (nI c.val) (nI x.val - 2) (pD y.val s) = -1 := by decide +kernel
theorem x_cell0 : ∀ c : Fin 25, ¬ nI c.val = -1 := by decide +kernel
theorem x_isInB : ∀ a : Int32, ∀ c : Int32, fX4_isIn a c = true ↔ ¬ ((a >>> (c &&& 31)) &&& 1) = 0 := by
  intro a c
  unfold fX4_isIn
  by_cases h : ((a >>> (c &&& 31)) &&& 1) = 0
  · rw [if_pos h]; exact ⟨fun z => (by cases z), fun z => absurd h z⟩
  · rw [if_neg h]; exact ⟨fun _ => h, fun _ => rfl⟩
