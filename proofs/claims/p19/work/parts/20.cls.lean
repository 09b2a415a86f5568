/-! the class's object by the same numbers of a state as the reference's: variants, games -/
def xVars (G : xG) (E : xE) (ct vt : Nat) (vb : Nat → Option Nat) (nV : Nat) (σ : xSg) : Prop :=
  E vt = some (.inl (G.2.1 3, 4, .inr (.inr (.inr (.inr vb))))) ∧ nV ≤ 4 ∧ (∀ k, nV ≤ k → vb k = none) ∧
  (∀ k, k < nV → ∃ a r : Nat, vb k = some a ∧ E a = some (.inr (3, [.ref r, .int (σ 8 k), .int (σ 9 k)])) ∧ E r = some (.inr (2, [.ref ct, .int (σ 7 k), .int (σ 6 k)]))) ∧
  ∀ j k a : Nat, vb j = some a → vb k = some a → j = k
def xGame (G : xG) (E : xE) (ct : Nat) (vb : Nat → Option Nat) (nV : Nat) (σ : xSg) (k a s : Nat) : Prop :=
  ∃ (va gr v d : Nat) (sq : Nat → Int64), E a = some (.inr (1, [.ref va, .ref gr, .int (σ 13 k), .int (σ 14 k), .ref s, .int (σ 17 (61 * k + d)), .int (σ 18 (61 * k + d)), .int (nI d), .int (σ 15 k)])) ∧
    σ 16 k = nI d ∧ d ≤ 60 ∧ σ 11 k = nI v ∧ v < nV ∧ vb v = some va ∧ E gr = some (.inr (2, [.ref ct, .int (σ 12 k), .int (σ 6 v)])) ∧ E s = some (.inl (G.2.1 1, 61, .inr (.inl sq))) ∧
    (∀ j, j ≤ d → sq j = fX1_placing (σ 17 (61 * k + j)) (σ 18 (61 * k + j)) (fX1_isSecondToMove (nI j))) ∧ (σ 15 k = 0 → d < 60)
def xGames (G : xG) (E : xE) (ct gt : Nat) (vb gb : Nat → Option Nat) (sa : Nat → Nat) (nV nG : Nat) (σ : xSg) : Prop :=
  E gt = some (.inl (G.2.1 4, 12, .inr (.inr (.inr (.inr gb))))) ∧ nG ≤ 12 ∧ (∀ k, nG ≤ k → gb k = none) ∧
  (∀ k, k < nG → ∃ a : Nat, gb k = some a ∧ xGame G E ct vb nV σ k a (sa k)) ∧
  (∀ j k a : Nat, gb j = some a → gb k = some a → j = k) ∧ ∀ j k : Nat, j < nG → k < nG → sa j = sa k → j = k
def xCls (G : xG) (E : xE) (x ct vt gt : Nat) (tb vb gb : Nat → Option Nat) (sa : Nat → Nat) (nC nV nG : Nat) (σ : xSg) : Prop :=
  E x = some (.inr (4, [.ref ct, .ref vt, .ref gt, .int (nI nC), .int (nI nV), .int (nI nG)])) ∧ σ 0 0 = nI nC ∧ σ 5 0 = nI nV ∧ σ 10 0 = nI nG ∧
  xCardsAt G E ct tb nC σ ∧ xVars G E ct vt vb nV σ ∧ xGames G E ct gt vb gb sa nV nG σ
theorem xVars.some {G : xG} {E : xE} {ct vt : Nat} {vb : Nat → Option Nat} {nV : Nat} {σ : xSg} (h : xVars G E ct vt vb nV σ) : ∀ k, k < nV → ∃ a, vb k = some a := fun k hk => by
  obtain ⟨a, r, h1, -⟩ := h.2.2.2.1 k hk
  exact ⟨a, h1⟩
theorem xGames.some {G : xG} {E : xE} {ct gt : Nat} {vb gb : Nat → Option Nat} {sa : Nat → Nat} {nV nG : Nat} {σ : xSg} (h : xGames G E ct gt vb gb sa nV nG σ) : ∀ k, k < nG → ∃ a, gb k = some a := fun k hk => by
  obtain ⟨a, h1, -⟩ := h.2.2.2.1 k hk
  exact ⟨a, h1⟩
theorem x_depth {a : Int32} (h : tX4_checkDepth a = 0) : a = 0 ∨ a = 1 ∨ a = 2 := by
  unfold tX4_checkDepth at h
  by_cases h1 : a < 0
  · rw [if_pos h1] at h; cases h
  · rw [if_neg h1] at h
    obtain ⟨j, hj, rfl⟩ := nI_of h1
    by_cases h2 : nI j ≤ 2
    · have : j ≤ 2 := (nI_leI hj (by omega : 2 < 2 ^ 31)).mp h2
      rcases (show j = 0 ∨ j = 1 ∨ j = 2 by omega) with rfl | rfl | rfl
      · exact Or.inl rfl
      · exact Or.inr (Or.inl rfl)
      · exact Or.inr (Or.inr rfl)
    · exfalso
      revert h
      first
        | (rw [if_neg h2]; intro h; cases h)
        | (intro h; simp [h2] at h)
section XRf
variable {p : Program} {l : Launch} {e : Env} {R : Room} {s : State} {m : MethodId} {args : Array Value} {below : List Frame} {meth : Method} {c : Code} {H : Heap} {locs : List Loc} {cells slots : Nat} {Q : State → Prop}
variable {mc ms : Nat} {free : Addr → Prop} {A0 A1 : Nat → Prop} {H0 : Heap} {a : Array Value} {pc : Nat} {ls : Array Slot} {st0 rest : List Value}
/-- a call that answers an object, or throws (after vx_calli) -/
theorem vx_callr {S SX : Type} {post : S → Prop} {px : SX → Prop} {B : S → Nat → State → Prop} {BX : String → SX → State → Prop} {AX : Nat → Prop} (hr : vx_Run p l e R s m args below meth c H locs cells slots mc ms (F0 m pc ls st0) rest (va_Qr post B A1 a) (vx_X px BX AX) free) (hS : va_S A0 H0 H locs) (hA : ∀ q, q < H.size → A1 q → A0 q) (hf : ∀ q, free q → A0 q) (hAX : ∀ q, q < H.size → AX q → A0 q)
    (kx : ∀ (E : String) (ce : Cell) (q9 : Addr) (u : SX) (t : State) (H1 : Heap) (locs1 : List Loc), t.heap = H1 → s.vm.Alike t.vm → px u → BX E u t → H.size ≤ H1.size → (∀ q : Nat, q < H.size → ¬ AX q → H1[q]? = H[q]?) → va_S A0 H0 H1 locs1 → H1[q9]? = some ce → ce.vm = .none → s.vm.findClass E = some ce.cls → vx_W p l e R s m args below meth c H1 locs1 (cells + mc) (slots + ms) Q (F0 m pc ls rest) q9)
    (kk : ∀ (u : S) (r : Nat) (t : State) (H1 : Heap) (locs1 : List Loc), t.heap = H1 → s.vm.Alike t.vm → post u → B u r t → H.size ≤ H1.size → (∀ q : Nat, q < H.size → ¬ A1 q → H1[q]? = H[q]?) → va_S A0 H0 H1 locs1 → W p l e R s m args below meth c H1 locs1 (cells + mc) (slots + ms) Q (F0 m (pc + 3) ls (.ref r :: rest))) : W p l e R s m args below meth c H locs cells slots Q (F0 m pc ls st0) := by
  intro T hT X
  rcases hr T hT X with ⟨v, st₀, t, T', L, h0, X', hL, e1, e2, ⟨⟨u, r, hv, hp, hb⟩, hF⟩, st⟩ | ⟨q, st₀, t, T', L, E, ce, h0, X', hL, e1, e2, ⟨u, hp, hb, hF⟩, hce, hcv, hcl, st⟩
  · cases hv
    obtain ⟨k1, k2, k3⟩ := vx_keep h0 e1 hS hA hf hL hF
    obtain ⟨t2, a1, b1⟩ := kk u r t T'.heap (locs ++ L) e1.symm (by rw [← e2]; exact X'.warmed.alike) hp hb k1 k2 k3 T' rfl X'
    exact ⟨t2, st t2 a1, b1⟩
  · obtain ⟨k1, k2, k3⟩ := vx_keep h0 e1 hS hAX hf hL hF
    obtain ⟨t2, a1, b1⟩ := kx E ce q u t T'.heap (locs ++ L) e1.symm (by rw [← e2]; exact X'.warmed.alike) hp hb k1 k2 k3 (by rw [e1]; exact hce) hcv hcl T' rfl X'
    exact ⟨t2, st.trans a1, b1⟩
end XRf
