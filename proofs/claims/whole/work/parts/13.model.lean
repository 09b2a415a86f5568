/-! the reference's object: by the numbers of a state, its rows at the addresses A -/
def xMod (G : xG) (E : xE) (o : Nat) (A : Nat → Nat) (σ : xSg) : Prop :=
  E o = some (.inr (5, [.int (σ 0 0), .ref (A 1), .ref (A 2), .ref (A 3), .ref (A 4), .int (σ 5 0), .ref (A 6), .ref (A 7), .ref (A 8), .ref (A 9), .int (σ 10 0), .ref (A 11), .ref (A 12), .ref (A 13), .ref (A 14), .ref (A 15), .ref (A 16), .ref (A 17), .ref (A 18), .int (σ 19 0)])) ∧
  E (A 1) = some (.inl (G.2.1 0, 8, .inl (σ 1))) ∧ E (A 2) = some (.inl (G.2.1 0, 8, .inl (σ 2))) ∧ E (A 3) = some (.inl (G.2.1 0, 8, .inl (σ 3))) ∧ E (A 4) = some (.inl (G.2.1 0, 8, .inl (σ 4))) ∧ E (A 6) = some (.inl (G.2.1 0, 4, .inl (σ 6))) ∧ E (A 7) = some (.inl (G.2.1 0, 4, .inl (σ 7))) ∧ E (A 8) = some (.inl (G.2.1 0, 4, .inl (σ 8))) ∧ E (A 9) = some (.inl (G.2.1 0, 4, .inl (σ 9))) ∧ E (A 11) = some (.inl (G.2.1 0, 12, .inl (σ 11))) ∧ E (A 12) = some (.inl (G.2.1 0, 12, .inl (σ 12))) ∧ E (A 13) = some (.inl (G.2.1 0, 12, .inl (σ 13))) ∧ E (A 14) = some (.inl (G.2.1 0, 12, .inl (σ 14))) ∧ E (A 15) = some (.inl (G.2.1 0, 12, .inl (σ 15))) ∧ E (A 16) = some (.inl (G.2.1 0, 12, .inl (σ 16))) ∧ E (A 17) = some (.inl (G.2.1 0, 732, .inl (σ 17))) ∧ E (A 18) = some (.inl (G.2.1 0, 732, .inl (σ 18)))
/-- the cards of a state: how many, and reaches of at most 4 -/
def xCd (σ : xSg) (nC : Nat) : Prop := σ 0 0 = nI nC ∧ nC ≤ 8 ∧ ∀ k, k < nC → ∃ r : Nat, σ 4 k = nI r ∧ r ≤ 4
/-- a game of a state: d moves were made, it is of the variant v -/
def xGm (σ : xSg) (g d v : Nat) : Prop := g < 12 ∧ σ 16 g = nI d ∧ d ≤ 60 ∧ σ 11 g = nI v ∧ v < 4
