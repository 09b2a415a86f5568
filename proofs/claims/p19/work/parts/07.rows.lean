/-! rows of branches on truth values, of arrays by a natural index, of calls whose answer is a function -/
def zI (b : Bool) : Int32 := if b = true then 1 else 0
theorem zI_inj {a b : Bool} : zI a = zI b ↔ a = b := by cases a <;> cases b <;> decide
theorem xz_nar (b : Bool) : narrow .boolean (.int (zI b)) = .int (zI b) := by cases b <;> rfl
section XI
variable {p : Program} {l : Launch} {e : Env} {R : Room} {s : State} {m : MethodId} {args : Array Value} {below : List Frame} {meth : Method} {c : Code} {H : Heap} {locs : List Loc} {cells slots : Nat} {Q : State → Prop}
variable {cc : ByteArray} {pc : Nat} {ls : Array Slot} {rest st0 : List Value} {G : xG} {E : xE} {a : Nat} {ar : Array Value}
theorem x_ifz_eq (hexec : p.tables.exec = Jvm.exec) (hb : c.code = cc) {b : Bool} {off : Int} {tgt : Nat} (hdg : decode cc pc = .ok (.ifCond .eq off, 3)) (ht : (pc : Int) + off = (tgt : Int))
    (kt : b = false → W p l e R s m args below meth c H locs cells slots Q (F0 m tgt ls rest)) (kf : b = true → W p l e R s m args below meth c H locs cells slots Q (F0 m (pc + 3) ls rest)) : W p l e R s m args below meth c H locs cells slots Q (F0 m pc ls (.int (zI b) :: rest)) :=
  lv_if_eq hexec hb hdg ht (fun h => kt (by cases b; rfl; exact absurd h (by decide))) (fun h => kf (by cases b; exact absurd rfl h; rfl))
theorem x_ifz_ne (hexec : p.tables.exec = Jvm.exec) (hb : c.code = cc) {b : Bool} {off : Int} {tgt : Nat} (hdg : decode cc pc = .ok (.ifCond .ne off, 3)) (ht : (pc : Int) + off = (tgt : Int))
    (kt : b = true → W p l e R s m args below meth c H locs cells slots Q (F0 m tgt ls rest)) (kf : b = false → W p l e R s m args below meth c H locs cells slots Q (F0 m (pc + 3) ls rest)) : W p l e R s m args below meth c H locs cells slots Q (F0 m pc ls (.int (zI b) :: rest)) :=
  lv_if_ne hexec hb hdg ht (fun h => kt (by cases b; exact absurd rfl h; rfl)) (fun h => kf (by cases b; rfl; exact absurd h (by decide)))
theorem x_ild {n : Nat} {f : Nat → Int32} {i : Int32} {k : Nat} (hexec : p.tables.exec = Jvm.exec) (hb : c.code = cc) (hK : va_K G.1 vwCl (xtys G) s) (hW : xW G E H) (ha : E a = some (.inl (G.2.1 0, n, .inl f))) (hin : vp_in i n) (hk : i.toNatClampNeg = k) (hdg : decode cc pc = .ok (.iaload, 1))
    (kk : W p l e R s m args below meth c H locs cells slots Q (F0 m (pc + 1) ls (.int (f k) :: rest))) : W p l e R s m args below meth c H locs cells slots Q (F0 m pc ls (.int i :: .ref a :: rest)) := by
  subst hk
  exact va_iald hexec hb hK (x1 hW ha) 0 0 rfl rfl hin hdg kk
theorem x_lld {n : Nat} {f : Nat → Int64} {i : Int32} {k : Nat} (hexec : p.tables.exec = Jvm.exec) (hb : c.code = cc) (hK : va_K G.1 vwCl (xtys G) s) (hW : xW G E H) (ha : E a = some (.inl (G.2.1 1, n, .inr (.inl f)))) (hin : vp_in i n) (hk : i.toNatClampNeg = k) (hdg : decode cc pc = .ok (.laload, 1))
    (kk : W p l e R s m args below meth c H locs cells slots Q (F0 m (pc + 1) ls (.long (f k) :: rest))) : W p l e R s m args below meth c H locs cells slots Q (F0 m pc ls (.int i :: .ref a :: rest)) := by
  subst hk
  exact va_lald hexec hb hK (x1 hW ha) 0 1 rfl rfl hin hdg kk
theorem x_qld {n : Nat} {f : Nat → Option Nat} {i : Int32} {k t0 : Nat} {cA : ClassId} {C : String} (hexec : p.tables.exec = Jvm.exec) (hb : c.code = cc) (hK : va_K G.1 vwCl (xtys G) s) (hW : xW G E H) (ha : E a = some (.inl (cA, n, .inr (.inr (.inr (.inr f)))))) (ht : (xtys G)[t0]? = some (cA, .object C)) (hin : vp_in i n) (hk : i.toNatClampNeg = k) (hdg : decode cc pc = .ok (.aaload, 1))
    (kk : W p l e R s m args below meth c H locs cells slots Q (F0 m (pc + 1) ls (va_rf (f k) :: rest))) : W p l e R s m args below meth c H locs cells slots Q (F0 m pc ls (.int i :: .ref a :: rest)) := by
  subst hk
  exact va_aldq hexec hb hK (x1 hW ha) 0 t0 rfl ht hin hdg kk
theorem x_callSe {x : Int32} (hr : va_Run p l e R s m args below meth c H locs cells slots 0 0 (F0 m pc ls st0) rest (vp_Si (fun r => r = x) ar) (fun _ => False))
    (kk : W p l e R s m args below meth c H locs cells slots Q (F0 m (pc + 3) ls (.int x :: rest))) : W p l e R s m args below meth c H locs cells slots Q (F0 m pc ls st0) := x_callSi hr (fun r h => by rw [h]; exact kk)
theorem x_callSle {x : Int64} (hr : va_Run p l e R s m args below meth c H locs cells slots 0 0 (F0 m pc ls st0) rest (vp_Sl (fun r => r = x) ar) (fun _ => False))
    (kk : W p l e R s m args below meth c H locs cells slots Q (F0 m (pc + 3) ls (.long x :: rest))) : W p l e R s m args below meth c H locs cells slots Q (F0 m pc ls st0) := x_callSl hr (fun r h => by rw [h]; exact kk)
/-- branches that come together with an int -/
theorem x_join {g : JFrame} {ls' : Array Slot} {rest' : List Value} (pcJ : Nat) (x : Int32) (h : ∀ v, v = x → W p l e R s m args below meth c H locs cells slots Q (F0 m pcJ ls' (.int v :: rest')))
    (k : (∀ v, v = x → W p l e R s m args below meth c H locs cells slots Q (F0 m pcJ ls' (.int v :: rest'))) → W p l e R s m args below meth c H locs cells slots Q g) : W p l e R s m args below meth c H locs cells slots Q g := k h
/-- a loop that writes no cell: the locals out of the state, a measure that falls -/
theorem x_loop {σ : Type} (pc0 nL : Nat) (lv : σ → List (Nat × Value)) (I : σ → Prop) (μ : σ → Nat)
    (step : ∀ (x : σ) (ls : Array Slot), I x → lv_has ls nL (lv x) → (∀ (y : σ) (ls' : Array Slot), μ y < μ x → I y → lv_has ls' nL (lv y) → W p l e R s m args below meth c H locs cells slots Q (F0 m pc0 ls' [])) → W p l e R s m args below meth c H locs cells slots Q (F0 m pc0 ls []))
    (x : σ) (ls : Array Slot) (h0 : I x) (hl : lv_has ls nL (lv x)) : W p l e R s m args below meth c H locs cells slots Q (F0 m pc0 ls []) := by
  have key : ∀ (n : Nat) (x : σ) (ls : Array Slot), μ x < n → I x → lv_has ls nL (lv x) → W p l e R s m args below meth c H locs cells slots Q (F0 m pc0 ls []) := by
    intro n
    induction n with
    | zero => intro x ls h; omega
    | succ n ih => exact fun x ls h hI hl => step x ls hI hl (fun y ls' hy hIy hly => ih y ls' (by omega) hIy hly)
  exact key (μ x + 1) x ls (Nat.lt_succ_self _) h0 hl
end XI
section XJ
variable {p : Program} {l : Launch} {e : Env} {R : Room} {s : State} {m : MethodId} {args : Array Value} {below : List Frame} {meth : Method} {c : Code} {H : Heap} {locs : List Loc} {cells slots : Nat} {Q : State → Prop}
/-- .. the loop ahead of the code that comes to it -/
theorem x_loopK {σ : Type} {g : JFrame} (pc0 nL : Nat) (lv : σ → List (Nat × Value)) (I : σ → Prop) (μ : σ → Nat)
    (step : ∀ (x : σ) (ls : Array Slot), I x → lv_has ls nL (lv x) → (∀ (y : σ) (ls' : Array Slot), μ y < μ x → I y → lv_has ls' nL (lv y) → W p l e R s m args below meth c H locs cells slots Q (F0 m pc0 ls' [])) → W p l e R s m args below meth c H locs cells slots Q (F0 m pc0 ls []))
    (k : (∀ (x : σ) (ls : Array Slot), I x → lv_has ls nL (lv x) → W p l e R s m args below meth c H locs cells slots Q (F0 m pc0 ls [])) → W p l e R s m args below meth c H locs cells slots Q g) : W p l e R s m args below meth c H locs cells slots Q g :=
  k (fun x ls h0 hl => x_loop pc0 nL lv I μ step x ls h0 hl)
end XJ
theorem x_nge {k B : Nat} (c : ¬ nI B ≤ nI k) (hk : k < 2 ^ 31) : k < B := by
  rcases Nat.lt_or_ge k B with h | h
  · exact h
  · exact absurd (nI_le h hk) c
theorem x_nlt {k B : Nat} (c : ¬ nI B < nI k) (hk : k < 2 ^ 31) (hB : B < 2 ^ 31) : k ≤ B := by
  rcases Nat.lt_or_ge B k with h | h
  · exact absurd (nI_lt h hk) c
  · exact h
