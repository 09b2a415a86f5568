/-! pure functions of a state, as the math of whole has them -/
/-- the cards of a state: how many, and reaches of at most 4 -/
def xCd (σ : xSg) (nC : Nat) : Prop := σ 0 0 = nI nC ∧ nC ≤ 8 ∧ ∀ k, k < nC → ∃ r : Nat, σ 4 k = nI r ∧ r ≤ 4
/-- a game of a state: d moves were made, it is of the variant v -/
def xGm (σ : xSg) (g d v : Nat) : Prop := g < 12 ∧ σ 16 g = nI d ∧ d ≤ 60 ∧ σ 11 g = nI v ∧ v < 4
def gX5_size (a0 : Int32) : Nat → Nat → Int32 → Int32
  | 0, _, _ => 0
  | n + 1, k, v1 => if 25 ≤ (nI k) then v1 else (gX5_size a0 n (k + 1) (v1 + ((a0 >>> ((nI k) &&& 31)) &&& 1)))
def fX5_size (a0 : Int32) : Int32 := gX5_size a0 26 0 0
def fX5_thrown (A : Nat → Nat) : Int32 := nI (A 19)
def fX5_isVariant (σ : xSg) (a0 : Int32) : Bool := if a0 < 0 then false else (if (σ 5 0) ≤ a0 then false else true)
def fX5_isGame (σ : xSg) (a0 : Int32) : Bool := if a0 < 0 then false else (if (σ 10 0) ≤ a0 then false else true)
def fX5_areCards (σ : xSg) (a0 : Int32) : Bool := if a0 < 1 then false else (if ((1 : Int32) <<< ((σ 0 0) &&& 31)) ≤ a0 then false else true)
def fX5_arePieces (σ : xSg) (a0 : Int32) (a1 : Int32) : Bool := if (fX5_in a0 1 33554431) = true then (if 6 < (fX5_size a0) then false else (if (a0 &&& a1) = 0 then true else false)) else false
def fX5_isSecondsTurn (σ : xSg) (d : Nat) (v : Nat) (g : Nat) : Bool := if ((σ 16 g) - (σ 16 g) / 2 * 2) = 1 then true else false
def fX5_at (σ : xSg) (d : Nat) (v : Nat) (g : Nat) : Int32 := ((61 : Int32) * (nI g)) + (σ 16 g)
def fX5_piecesOf (σ : xSg) (d : Nat) (v : Nat) (g : Nat) (a1 : Bool) : Int32 := if (zI a1) = (zI (fX5_isSecondsTurn (σ) d v g)) then (σ 18 (61 * g + d)) else (σ 17 (61 * g + d))
def gX5_by (σ : xSg) (q : Nat) (a1 : Int32) (a2 : Int32) (a3 : Int32) (a4 : Bool) (a5 : Int32) : Nat → Nat → Int32 → Int32 → Int32 → Int32 → Bool → Int32
  | 0, _, _, _, _, _, _ => 0
  | n + 1, k, v7, v8, v9, v10, v11 => if (σ 4 q) < (nI k) then v7 else (if (fX5_in v8 0 4) = true then (if (fX5_in v9 0 4) = true then (if ((a1 >>> ((((5 : Int32) * v9) + v8) &&& 31)) &&& 1) = 0 then (gX5_by σ q a1 a2 a3 a4 a5 n (k + 1) (v7 ||| (if (if (σ 1 q) = 0 then (true) else (if (σ 1 q) = 1 then (if v10 = 0 then (true) else (if (σ 1 q) = 2 then (if v10 = 1 then (if v11 = true then (true) else (false)) else (false)) else (false))) else (if (σ 1 q) = 2 then (if v10 = 1 then (if v11 = true then (true) else (false)) else (false)) else (false)))) = true then (if ((a2 >>> ((((5 : Int32) * v9) + v8) &&& 31)) &&& 1) = 0 then (((1 : Int32) <<< ((((5 : Int32) * v9) + v8) &&& 31))) else ((0 : Int32))) else ((0 : Int32)))) (v8 + (σ 2 q)) (v9 + (if a4 = true then ((-(σ 3 q))) else ((σ 3 q)))) (v10 + (zI (if (if (((a2 ||| a3) >>> ((((5 : Int32) * v9) + v8) &&& 31)) &&& 1) = 1 then (true) else (false)) = true then (true) else (false)))) (if (((a2 ||| a3) >>> ((((5 : Int32) * v9) + v8) &&& 31)) &&& 1) = 1 then (true) else (false))) else v7) else v7) else v7)
def fX5_by (σ : xSg) (q : Nat) (a1 : Int32) (a2 : Int32) (a3 : Int32) (a4 : Bool) (a5 : Int32) : Int32 := gX5_by σ q a1 a2 a3 a4 a5 5 1 0 ((a5 - a5 / 5 * 5) + (σ 2 q)) ((a5 / 5) + (if a4 = true then ((-(σ 3 q))) else ((σ 3 q)))) 0 false
def gX5_goes (σ : xSg) (a0 : Int32) (a1 : Int32) (a2 : Int32) (a3 : Int32) (a4 : Bool) (a5 : Int32) : Nat → Nat → Int32 → Int32
  | 0, _, _ => 0
  | n + 1, k, v7 => if (σ 0 0) ≤ (nI k) then v7 else (gX5_goes σ a0 a1 a2 a3 a4 a5 n (k + 1) (v7 ||| (if ((a0 >>> ((nI k) &&& 31)) &&& 1) = 1 then ((fX5_by (σ) k a1 a2 a3 a4 a5)) else ((0 : Int32)))))
def fX5_goes (σ : xSg) (a0 : Int32) (a1 : Int32) (a2 : Int32) (a3 : Int32) (a4 : Bool) (a5 : Int32) : Int32 := gX5_goes σ a0 a1 a2 a3 a4 a5 9 0 0
def gX5_moves (σ : xSg) (a0 : Int32) (a1 : Int32) (a2 : Int32) (a3 : Int32) (a4 : Bool) : Nat → Nat → Bool → Bool
  | 0, _, _ => false
  | n + 1, k, v6 => if 25 ≤ (nI k) then v6 else (if v6 = true then v6 else (gX5_moves σ a0 a1 a2 a3 a4 n (k + 1) (if ((a2 >>> ((nI k) &&& 31)) &&& 1) = 1 then (if (fX5_goes (σ) a0 a1 a2 a3 a4 (nI k)) = 0 then (false) else (true)) else (false))))
def fX5_moves (σ : xSg) (a0 : Int32) (a1 : Int32) (a2 : Int32) (a3 : Int32) (a4 : Bool) : Bool := gX5_moves σ a0 a1 a2 a3 a4 26 0 false
def gX5_isBannedNow (σ : xSg) (u : Nat) : Nat → Nat → Int32 → Bool
  | 0, _, _ => false
  | n + 1, k, v2 => if 5 ≤ (nI k) then (if 3 ≤ v2 then true else (if (σ 9 u) < 2 then false else true)) else (gX5_isBannedNow σ u n (k + 1) (v2 + (((σ 8 u) >>> ((nI k) &&& 31)) &&& 1)))
def fX5_isBannedNow (σ : xSg) (u : Nat) : Bool := gX5_isBannedNow σ u 6 0 0
def fX5_canNow (σ : xSg) (d : Nat) (v : Nat) (g : Nat) (a1 : Int32) (a2 : Int32) : Bool := if (σ 15 g) = 0 then (if (((fX5_piecesOf (σ) d v g true) >>> (a1 &&& 31)) &&& 1) = 1 then (if (((fX5_goes (σ) (σ 12 g) (σ 6 v) (fX5_piecesOf (σ) d v g true) (fX5_piecesOf (σ) d v g false) (fX5_isSecondsTurn (σ) d v g) a1) >>> (a2 &&& 31)) &&& 1) = 1 then true else false) else false) else false
def fX5_standing (σ : xSg) (d : Nat) (v : Nat) (g : Nat) (a1 : Int32) (a2 : Int32) (a3 : Bool) : Int32 := if (fX5_moves (σ) (σ 12 g) (σ 6 v) a1 a2 a3) = true then ((fX5_size a1) - (fX5_size a2)) else (-100)
def g2X5_onward (σ : xSg) (d : Nat) (v : Nat) (g : Nat) (a1 : Int32) (a2 : Int32) (a3 : Bool) (k : Nat) (cont : Int32 → Int32) : Nat → Nat → Int32 → Int32
  | 0, _, _ => 0
  | n2 + 1, k2, v5 => if 25 ≤ (nI k2) then (cont v5) else (if (((if ((a1 >>> ((nI k) &&& 31)) &&& 1) = 1 then ((fX5_goes (σ) (σ 12 g) (σ 6 v) a1 a2 a3 (nI k))) else ((0 : Int32))) >>> ((nI k2) &&& 31)) &&& 1) = 1 then (g2X5_onward σ d v g a1 a2 a3 k cont n2 (k2 + 1) (if (-(fX5_standing (σ) d v g (a2 &&& (((1 : Int32) <<< ((nI k2) &&& 31)) ^^^ (-1))) ((a1 &&& (((1 : Int32) <<< ((nI k) &&& 31)) ^^^ (-1))) ||| ((1 : Int32) <<< ((nI k2) &&& 31))) (if a3 = true then (false) else (true)))) ≤ v5 then (v5) else ((-(fX5_standing (σ) d v g (a2 &&& (((1 : Int32) <<< ((nI k2) &&& 31)) ^^^ (-1))) ((a1 &&& (((1 : Int32) <<< ((nI k) &&& 31)) ^^^ (-1))) ||| ((1 : Int32) <<< ((nI k2) &&& 31))) (if a3 = true then (false) else (true))))))) else (g2X5_onward σ d v g a1 a2 a3 k cont n2 (k2 + 1) v5))
def gX5_onward (σ : xSg) (d : Nat) (v : Nat) (g : Nat) (a1 : Int32) (a2 : Int32) (a3 : Bool) : Nat → Nat → Int32 → Int32
  | 0, _, _ => 0
  | n + 1, k, v5 => if 25 ≤ (nI k) then v5 else (g2X5_onward σ d v g a1 a2 a3 k (fun v5 => gX5_onward σ d v g a1 a2 a3 n (k + 1) v5) 26 0 v5)
def fX5_onward (σ : xSg) (d : Nat) (v : Nat) (g : Nat) (a1 : Int32) (a2 : Int32) (a3 : Bool) : Int32 := gX5_onward σ d v g a1 a2 a3 26 0 (-100)
def g2X5_farther (σ : xSg) (d : Nat) (v : Nat) (g : Nat) (a1 : Int32) (a2 : Int32) (a3 : Bool) (k : Nat) (cont : Int32 → Int32) : Nat → Nat → Int32 → Int32
  | 0, _, _ => 0
  | n2 + 1, k2, v5 => if 25 ≤ (nI k2) then (cont v5) else (if (((if ((a1 >>> ((nI k) &&& 31)) &&& 1) = 1 then ((fX5_goes (σ) (σ 12 g) (σ 6 v) a1 a2 a3 (nI k))) else ((0 : Int32))) >>> ((nI k2) &&& 31)) &&& 1) = 1 then (g2X5_farther σ d v g a1 a2 a3 k cont n2 (k2 + 1) (if (-(fX5_onward (σ) d v g (a2 &&& (((1 : Int32) <<< ((nI k2) &&& 31)) ^^^ (-1))) ((a1 &&& (((1 : Int32) <<< ((nI k) &&& 31)) ^^^ (-1))) ||| ((1 : Int32) <<< ((nI k2) &&& 31))) (if a3 = true then (false) else (true)))) ≤ v5 then (v5) else ((-(fX5_onward (σ) d v g (a2 &&& (((1 : Int32) <<< ((nI k2) &&& 31)) ^^^ (-1))) ((a1 &&& (((1 : Int32) <<< ((nI k) &&& 31)) ^^^ (-1))) ||| ((1 : Int32) <<< ((nI k2) &&& 31))) (if a3 = true then (false) else (true))))))) else (g2X5_farther σ d v g a1 a2 a3 k cont n2 (k2 + 1) v5))
def gX5_farther (σ : xSg) (d : Nat) (v : Nat) (g : Nat) (a1 : Int32) (a2 : Int32) (a3 : Bool) : Nat → Nat → Int32 → Int32
  | 0, _, _ => 0
  | n + 1, k, v5 => if 25 ≤ (nI k) then v5 else (g2X5_farther σ d v g a1 a2 a3 k (fun v5 => gX5_farther σ d v g a1 a2 a3 n (k + 1) v5) 26 0 v5)
def fX5_farther (σ : xSg) (d : Nat) (v : Nat) (g : Nat) (a1 : Int32) (a2 : Int32) (a3 : Bool) : Int32 := gX5_farther σ d v g a1 a2 a3 26 0 (-100)
def fX5_valueAt (σ : xSg) (d : Nat) (v : Nat) (g : Nat) (a1 : Int32) : Int32 := if a1 = 0 then (fX5_standing (σ) d v g (fX5_piecesOf (σ) d v g true) (fX5_piecesOf (σ) d v g false) (fX5_isSecondsTurn (σ) d v g)) else (if a1 = 1 then (fX5_onward (σ) d v g (fX5_piecesOf (σ) d v g true) (fX5_piecesOf (σ) d v g false) (fX5_isSecondsTurn (σ) d v g)) else (fX5_farther (σ) d v g (fX5_piecesOf (σ) d v g true) (fX5_piecesOf (σ) d v g false) (fX5_isSecondsTurn (σ) d v g)))
