/-! the table of cards: by the numbers of a state (1 to 4: kind, dx, dy, reach of the card k) -/
abbrev xSg : Type := Nat → Nat → Int32
def xCardsAt (G : xG) (E : xE) (ta : Nat) (tb : Nat → Option Nat) (nC : Nat) (σ : xSg) : Prop :=
  E ta = some (.inl (G.2.1 2, 8, .inr (.inr (.inr (.inr tb))))) ∧ nC ≤ 8 ∧ (∀ k, nC ≤ k → tb k = none) ∧ ∀ k, k < nC → ∃ ca r : Nat, tb k = some ca ∧ E ca = some (.inr (0, [.int (σ 1 k), .int (σ 2 k), .int (σ 3 k), .int (σ 4 k)])) ∧ σ 4 k = nI r ∧ r ≤ 4
section XQ
variable {p : Program} {l : Launch} {e : Env} {R : Room} {s : State} {m : MethodId} {args : Array Value} {below : List Frame} {meth : Method} {c : Code} {H : Heap} {locs : List Loc} {cells slots : Nat} {Q : State → Prop}
variable {cc : ByteArray} {pc : Nat} {ls : Array Slot} {rest : List Value} {G : xG} {E : xE} {a : Nat}
theorem x_qldS {n : Nat} {f : Nat → Option Nat} {i : Int32} {k t0 v : Nat} {cA : ClassId} {C : String} (hexec : p.tables.exec = Jvm.exec) (hb : c.code = cc) (hK : va_K G.1 vwCl (xtys G) s) (hW : xW G E H) (ha : E a = some (.inl (cA, n, .inr (.inr (.inr (.inr f)))))) (ht : (xtys G)[t0]? = some (cA, .object C)) (hin : vp_in i n) (hk : i.toNatClampNeg = k) (hf : f k = some v) (hdg : decode cc pc = .ok (.aaload, 1))
    (kk : W p l e R s m args below meth c H locs cells slots Q (F0 m (pc + 1) ls (.ref v :: rest))) : W p l e R s m args below meth c H locs cells slots Q (F0 m pc ls (.int i :: .ref a :: rest)) :=
  x_qld hexec hb hK hW ha ht hin hk hdg (by rw [hf]; exact kk)
theorem x_qldN {n : Nat} {f : Nat → Option Nat} {i : Int32} {k t0 : Nat} {cA : ClassId} {C : String} (hexec : p.tables.exec = Jvm.exec) (hb : c.code = cc) (hK : va_K G.1 vwCl (xtys G) s) (hW : xW G E H) (ha : E a = some (.inl (cA, n, .inr (.inr (.inr (.inr f)))))) (ht : (xtys G)[t0]? = some (cA, .object C)) (hin : vp_in i n) (hk : i.toNatClampNeg = k) (hf : f k = none) (hdg : decode cc pc = .ok (.aaload, 1))
    (kk : W p l e R s m args below meth c H locs cells slots Q (F0 m (pc + 1) ls (.null :: rest))) : W p l e R s m args below meth c H locs cells slots Q (F0 m pc ls (.int i :: .ref a :: rest)) :=
  x_qld hexec hb hK hW ha ht hin hk hdg (by rw [hf]; exact kk)
end XQ
