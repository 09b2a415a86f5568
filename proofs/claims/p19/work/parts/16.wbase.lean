/-! exceptions by their numbers: 1, 2, 3 as in xExc -/
def xEx (n : String) (j : Nat) : Prop := (j = 1 ∧ n = "java/lang/IllegalArgumentException") ∨ (j = 2 ∧ n = "java/lang/IllegalStateException") ∨ (j = 3 ∧ n = "java/lang/IndexOutOfBoundsException")
theorem xEx_ne {n : String} {j : Nat} (h : xEx n j) : ¬ j = 0 := by
  rcases h with ⟨h, -⟩ | ⟨h, -⟩ | ⟨h, -⟩ <;> omega
theorem xU_id {E : xE} {a : Nat} {e : va_E} (h : E a = some e) : xU E a e = E := by
  funext b
  by_cases q : b = a
  · rw [q, xU_self, h]
  · rw [xU_ne E e q]
/-- whose a cell is: the reference's, the class's -/
def tM : va_E → Bool
  | .inr (n, _) => n == 5
  | .inl (_, _, .inl _) => true
  | _ => false
def tC : va_E → Bool
  | .inr (n, _) => decide (n < 5)
  | .inl (_, _, .inr (.inr (.inr (.inr _)))) => true
  | .inl (_, n, .inr (.inl _)) => n == 61
  | _ => false
/-- what isn't of that kind stays -/
def xFr (T : va_E → Bool) (E E' : xE) : Prop := ∀ (b : Nat) (e : va_E), E b = some e → T e = false → E' b = some e
theorem xFr_rf {T : va_E → Bool} {E : xE} : xFr T E E := fun _ _ h _ => h
theorem xFr_put {T : va_E → Bool} {E E1 : xE} (h : xFr T E E1) {a : Nat} {g : va_E} (ha : E1 a = some g) (hg : T g = true) (f : va_E) : xFr T E (xU E1 a f) := fun b e hb ht => xU_of (h b e hb ht) ha (fun q => by rw [q, hg] at ht; cases ht)
theorem xFr_new {T : va_E → Bool} {E E1 : xE} (h : xFr T E E1) {a : Nat} (ha : E1 a = none) (f : va_E) : xFr T E (xU E1 a f) := fun b e hb ht => by
  have h1 := h b e hb ht
  rw [xU_ne E1 f (fun q => by rw [q, ha] at h1; cases h1)]
  exact h1
theorem xFr.trans {T : va_E → Bool} {E E1 E2 : xE} (h1 : xFr T E E1) (h2 : xFr T E1 E2) : xFr T E E2 := fun b e hb ht => h2 b e (h1 b e hb ht) ht
