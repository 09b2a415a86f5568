/-! p19: the class's object at a state, its calls; rows of calls whose answer is known -/
def pOb (G : xG) (E : xE) (o : Nat) (σ : xSg) (nC nV nG : Nat) : Prop := ∃ (ct vt gt : Nat) (tb vb gb : Nat → Option Nat) (sa : Nat → Nat), xCls G E o ct vt gt tb vb gb sa nC nV nG σ
theorem pOb.at {G : xG} {E : xE} {o : Nat} {σ : xSg} {nC nV nG : Nat} (h : pOb G E o σ nC nV nG) : ∃ fs, E o = some (.inr (4, fs)) := by
  obtain ⟨ct, vt, gt, tb, vb, gb, sa, h1, -⟩ := h
  exact ⟨_, h1⟩
theorem pOb.nums {G : xG} {E : xE} {o : Nat} {σ : xSg} {nC nV nG : Nat} (h : pOb G E o σ nC nV nG) : σ 0 0 = nI nC ∧ σ 5 0 = nI nV ∧ σ 10 0 = nI nG ∧ nC ≤ 8 ∧ nV ≤ 4 ∧ nG ≤ 12 := by
  obtain ⟨ct, vt, gt, tb, vb, gb, sa, h1, h0, h5, h10, hT, hV, hGs⟩ := h
  exact ⟨h0, h5, h10, hT.2.1, hV.2.1, hGs.2.1⟩
def pRd (x : Int32) (E : xE) : Int32 → xE → Prop := fun r E' => r = x ∧ E' = E
theorem p_mono {l : Launch} {y : MethodName} {ws : List Cond} {rm : Room} {av : List Value} {B B' : State → Prop} {G : xG} {E : xE} {post post' : Int32 → xE → Prop} {px px' : String → Prop} {mc ms : Nat}
    (h : vx_Met l y ws rm (va_Pc av B) (va_Qi (S := xE) post (fun E' t => xW G E' t.heap) (xA G)) (xX G E px) mc ms (xA G)) (hB : ∀ U, B' U → B U) (hp : ∀ r E', post r E' → post' r E') (hx : ∀ n, px n → px' n) :
    vx_Met l y ws rm (va_Pc av B') (va_Qi (S := xE) post' (fun E' t => xW G E' t.heap) (xA G)) (xX G E px') mc ms (xA G) := by
  refine MetFree.mono h (fun a s q => ⟨q.1, hB _ q.2⟩) (fun _ _ _ _ _ h => h) (fun a s o s' _ q => ?_)
  rcases q with ⟨⟨⟨r, u, q1, q2, q3⟩, qF⟩, qL⟩ | ⟨q, ho, E9, ce, L, ⟨u, hu, ⟨hn, hw⟩, hF⟩, rest⟩
  · exact Or.inl ⟨⟨⟨r, u, q1, hp _ _ q2, q3⟩, qF⟩, qL⟩
  · exact Or.inr ⟨q, ho, E9, ce, L, ⟨u, hu, ⟨hx _ hn, hw⟩, hF⟩, rest⟩
section PR
variable {p : Program} {l : Launch} {e : Env} {R : Room} {s : State} {m : MethodId} {args : Array Value} {below : List Frame} {meth : Method} {c : Code} {H : Heap} {locs : List Loc} {cells slots : Nat} {Q : State → Prop}
variable {pc mc ms : Nat} {ls : Array Slot} {rest st0 : List Value} {G : xG} {E : xE} {a : Array Value} {H0 : Heap}
/-- a call whose answer is known, that changes nothing -/
theorem p_rd {x : Int32} (hr : vx_Run p l e R s m args below meth c H locs cells slots mc ms (F0 m pc ls st0) rest (va_Qi (S := xE) (pRd x E) (fun E' t => xW G E' t.heap) (xA G) a) (xX G E (fun _ => False)) (xA G)) (hS : va_S (xA G) H0 H locs)
    (kk : ∀ (H1 : Heap) (locs1 : List Loc), xW G E H1 → va_S (xA G) H0 H1 locs1 → W p l e R s m args below meth c H1 locs1 (cells + mc) (slots + ms) Q (F0 m (pc + 3) ls (.int x :: rest))) : W p l e R s m args below meth c H locs cells slots Q (F0 m pc ls st0) := by
  refine vx_calli hr hS (fun _ _ h => h) (fun _ h => h) (fun _ _ h => h) (fun Ex ce q9 ux t H1 locs1 ht hvm hpx hB hz1 hk1 hS1 hce hcv hcl => hB.1.elim) (fun r E1 t H1 locs1 ht hvm hw hB hz1 hk1 hS1 => ?_)
  obtain ⟨h1, h2⟩ := hw
  rw [ht, h2] at hB
  rw [h1]
  exact kk H1 locs1 hB hS1
theorem p_rdn {x : Int32} (hr : vx_Run p l e R s m args below meth c H locs cells slots mc ms (F0 m pc ls st0) rest (va_Qi (S := xE) (pRd x E) (fun E' t => xW G E' t.heap) (xA G) a) (xX G E (fun _ => False)) (xA G)) (hS : va_S (xA G) H0 H locs)
    (kk : ∀ (v : Int32), v = x → ∀ (H1 : Heap) (locs1 : List Loc), xW G E H1 → va_S (xA G) H0 H1 locs1 → W p l e R s m args below meth c H1 locs1 (cells + mc) (slots + ms) Q (F0 m (pc + 3) ls (.int v :: rest))) : W p l e R s m args below meth c H locs cells slots Q (F0 m pc ls st0) := p_rd hr hS (kk x rfl)
theorem p_wr {post : Int32 → xE → Prop} (hr : vx_Run p l e R s m args below meth c H locs cells slots mc ms (F0 m pc ls st0) rest (va_Qi (S := xE) post (fun E' t => xW G E' t.heap) (xA G) a) (xX G E (fun _ => False)) (xA G)) (hS : va_S (xA G) H0 H locs)
    (kk : ∀ (r : Int32) (E1 : xE) (H1 : Heap) (locs1 : List Loc), post r E1 → xW G E1 H1 → va_S (xA G) H0 H1 locs1 → W p l e R s m args below meth c H1 locs1 (cells + mc) (slots + ms) Q (F0 m (pc + 3) ls (.int r :: rest))) : W p l e R s m args below meth c H locs cells slots Q (F0 m pc ls st0) := by
  refine vx_calli hr hS (fun _ _ h => h) (fun _ h => h) (fun _ _ h => h) (fun Ex ce q9 ux t H1 locs1 ht hvm hpx hB hz1 hk1 hS1 hce hcv hcl => hB.1.elim) (fun r E1 t H1 locs1 ht hvm hw hB hz1 hk1 hS1 => ?_)
  rw [ht] at hB
  exact kk r E1 H1 locs1 hw hB hS1
theorem p_rdl {x : Int64} (hr : vx_Run p l e R s m args below meth c H locs cells slots mc ms (F0 m pc ls st0) rest (va_Ql (S := xE) (fun r E' => r = x ∧ E' = E) (fun E' t => xW G E' t.heap) (xA G) a) (xX G E (fun _ => False)) (xA G)) (hS : va_S (xA G) H0 H locs)
    (kk : ∀ (H1 : Heap) (locs1 : List Loc), xW G E H1 → va_S (xA G) H0 H1 locs1 → W p l e R s m args below meth c H1 locs1 (cells + mc) (slots + ms) Q (F0 m (pc + 3) ls (.long x :: rest))) : W p l e R s m args below meth c H locs cells slots Q (F0 m pc ls st0) := by
  refine vx_calll hr hS (fun _ _ h => h) (fun _ h => h) (fun _ _ h => h) (fun Ex ce q9 ux t H1 locs1 ht hvm hpx hB hz1 hk1 hS1 hce hcv hcl => hB.1.elim) (fun r E1 t H1 locs1 ht hvm hw hB hz1 hk1 hS1 => ?_)
  obtain ⟨h1, h2⟩ := hw
  rw [ht, h2] at hB
  rw [h1]
  exact kk H1 locs1 hB hS1
/-- a loop of readers: at most N rounds, at most ec cells and es slots a round -/
theorem p_loop (pc0 nL : Nat) (lv : Nat → List (Nat × Value)) (I : Nat → Prop) (N ec es C S : Nat)
    (step : ∀ (k : Nat) (ls : Array Slot) (H : Heap) (locs : List Loc) (cells slots : Nat), k ≤ N → I k → cells + ec * (N - k) ≤ C → slots + es * (N - k) ≤ S → xW G E H → va_S (xA G) H0 H locs → lv_has ls nL (lv k) →
      (∀ (ls' : Array Slot) (H' : Heap) (locs' : List Loc) (cells' slots' : Nat), k < N → I (k + 1) → cells' ≤ cells + ec → slots' ≤ slots + es → xW G E H' → va_S (xA G) H0 H' locs' → lv_has ls' nL (lv (k + 1)) → W p l e R s m args below meth c H' locs' cells' slots' Q (F0 m pc0 ls' [])) →
      W p l e R s m args below meth c H locs cells slots Q (F0 m pc0 ls []))
    (k : Nat) (ls : Array Slot) (H : Heap) (locs : List Loc) (cells slots : Nat) (hk : k ≤ N) (hI : I k) (hc : cells + ec * (N - k) ≤ C) (hs : slots + es * (N - k) ≤ S) (hW : xW G E H) (hS : va_S (xA G) H0 H locs) (hl : lv_has ls nL (lv k)) :
    W p l e R s m args below meth c H locs cells slots Q (F0 m pc0 ls []) := by
  have key : ∀ (n k : Nat) (ls : Array Slot) (H : Heap) (locs : List Loc) (cells slots : Nat), N - k ≤ n → k ≤ N → I k → cells + ec * (N - k) ≤ C → slots + es * (N - k) ≤ S → xW G E H → va_S (xA G) H0 H locs → lv_has ls nL (lv k) → W p l e R s m args below meth c H locs cells slots Q (F0 m pc0 ls []) := by
    intro n
    induction n with
    | zero => exact fun k ls H locs cells slots h1 h2 h3 h4 h5 h6 h7 h8 => step k ls H locs cells slots h2 h3 h4 h5 h6 h7 h8 (fun ls' H' locs' cells' slots' q => absurd q (by omega))
    | succ n ih =>
      refine fun k ls H locs cells slots h1 h2 h3 h4 h5 h6 h7 h8 => step k ls H locs cells slots h2 h3 h4 h5 h6 h7 h8 (fun ls' H' locs' cells' slots' q1 q2 q3 q4 q5 q6 q7 => ?_)
      have e1 : N - k = N - (k + 1) + 1 := by omega
      have e2 : ec * (N - k) = ec * (N - (k + 1)) + ec := by rw [e1, Nat.mul_add, Nat.mul_one]
      have e3 : es * (N - k) = es * (N - (k + 1)) + es := by rw [e1, Nat.mul_add, Nat.mul_one]
      exact ih (k + 1) ls' H' locs' cells' slots' (by omega) q1 q2 (by omega) (by omega) q5 q6 q7
  exact key (N - k) k ls H locs cells slots (Nat.le_refl _) hk hI hc hs hW hS hl
/-- a place where branches meet -/
theorem p_jn {g : JFrame} (pcJ : Nat) {ls' : Array Slot} {rest' : List Value} (h : W p l e R s m args below meth c H locs cells slots Q (F0 m pcJ ls' rest'))
    (k : W p l e R s m args below meth c H locs cells slots Q (F0 m pcJ ls' rest') → W p l e R s m args below meth c H locs cells slots Q g) : W p l e R s m args below meth c H locs cells slots Q g := k h
end PR

def d_card (G : xG) (E : xE) (o : Nat) (a0 : Int32) (a1 : Int32) (a2 : Int32) (a3 : Int32) (nC nV nG : Nat) (σ : xSg) : Int32 → xE → Prop := fun r E' => tX4_card nC a0 a1 a2 a3 = 0 ∧ r = nI nC ∧ nC < 8 ∧ pOb G E' o (sgCard σ nC a0 a1 a2 (if a0 = 0 then (1 : Int32) else a3)) (nC + 1) nV nG ∧ xFr tC E E'
theorem k_card (l : Launch) (hl9 : l.stackTraces = false) (G : xG) (E : xE) (o : Nat) (a0 : Int32) (a1 : Int32) (a2 : Int32) (a3 : Int32) (nC nV nG : Nat) (σ : xSg) (hO : pOb G E o σ nC nV nG) : vx_Met l yX4_card wsX4_card ({ frames := 6, cells := 1, slots := 6, locals := 90 }) (va_Pc [.ref o, .int a0, .int a1, .int a2, .int a3] (xB G E)) (va_Qi (S := xE) (d_card G E o a0 a1 a2 a3 nC nV nG σ) (fun E' t => xW G E' t.heap) (xA G)) (xX G E (fun n => xEx n (tX4_card nC a0 a1 a2 a3))) 1 6 (xA G) := by
  obtain ⟨ct, vt, gt, tb, vb, gb, sa, hCls⟩ := hO
  refine p_mono (kX4_card l hl9 G E o a0 a1 a2 a3 ct vt gt tb vb gb sa nC nV nG σ hCls) (fun _ h => h) (fun r E' h => ?_) (fun _ h => h)
  obtain ⟨h0, h1, h2, e0, hC, hF⟩ := h
  exact ⟨h0, h1, h2, ⟨_, _, _, _, _, _, _, hC⟩, hF⟩
def d_variant (G : xG) (E : xE) (o : Nat) (a0 : Int32) (a1 : Int32) (nC nV nG : Nat) (σ : xSg) : Int32 → xE → Prop := fun r E' => tX4_variant nC nV a0 a1 = 0 ∧ r = nI nV ∧ nV < 4 ∧ pOb G E' o (sgVar σ nV a0 a1) nC (nV + 1) nG ∧ xFr tC E E'
theorem k_variant (l : Launch) (hl9 : l.stackTraces = false) (G : xG) (E : xE) (o : Nat) (a0 : Int32) (a1 : Int32) (nC nV nG : Nat) (σ : xSg) (hO : pOb G E o σ nC nV nG) (hZ : σ 8 nV = 0 ∧ σ 9 nV = 0) : vx_Met l yX4_variant wsX4_variant ({ frames := 6, cells := 2, slots := 6, locals := 90 }) (va_Pc [.ref o, .int a0, .int a1] (xB G E)) (va_Qi (S := xE) (d_variant G E o a0 a1 nC nV nG σ) (fun E' t => xW G E' t.heap) (xA G)) (xX G E (fun n => xEx n (tX4_variant nC nV a0 a1))) 2 6 (xA G) := by
  obtain ⟨ct, vt, gt, tb, vb, gb, sa, hCls⟩ := hO
  refine p_mono (kX4_variant l hl9 G E o a0 a1 ct vt gt tb vb gb sa nC nV nG σ hCls hZ) (fun _ h => h) (fun r E' h => ?_) (fun _ h => h)
  obtain ⟨h0, h1, h2, e0, hC, hF⟩ := h
  exact ⟨h0, h1, h2, ⟨_, _, _, _, _, _, _, hC⟩, hF⟩
def d_setCards (G : xG) (E : xE) (o : Nat) (a0 : Int32) (a1 : Int32) (nC nV nG : Nat) (σ : xSg) : Int32 → xE → Prop := fun r E' => tX4_setCards nC nV a0 a1 = 0 ∧ ∃ v : Nat, a0 = nI v ∧ v < nV ∧ r = σ 7 v ∧ pOb G E' o (sgU σ 7 v a1) nC nV nG ∧ xFr tC E E'
theorem k_setCards (l : Launch) (hl9 : l.stackTraces = false) (G : xG) (E : xE) (o : Nat) (a0 : Int32) (a1 : Int32) (nC nV nG : Nat) (σ : xSg) (hO : pOb G E o σ nC nV nG) : vx_Met l yX4_setCards wsX4_setCards ({ frames := 7, cells := 2, slots := 12, locals := 112 }) (va_Pc [.ref o, .int a0, .int a1] (xB G E)) (va_Qi (S := xE) (d_setCards G E o a0 a1 nC nV nG σ) (fun E' t => xW G E' t.heap) (xA G)) (xX G E (fun n => xEx n (tX4_setCards nC nV a0 a1))) 2 12 (xA G) := by
  obtain ⟨ct, vt, gt, tb, vb, gb, sa, hCls⟩ := hO
  refine p_mono (kX4_setCards l hl9 G E o a0 a1 ct vt gt tb vb gb sa nC nV nG σ hCls) (fun _ h => h) (fun r E' h => ?_) (fun _ h => h)
  obtain ⟨h0, h1, h2, h3, h4, hC, hF⟩ := h
  exact ⟨h0, h1, h2, h3, h4, ⟨_, _, _, _, _, _, _, hC⟩, hF⟩
def d_begin (G : xG) (E : xE) (o : Nat) (a0 : Int32) (a1 : Int32) (a2 : Int32) (a3 : Int32) (a4 : Int32) (nC nV nG : Nat) (σ : xSg) : Int32 → xE → Prop := fun r E' => tX4_begin σ nC nV nG (a0.toNatClampNeg) a0 a1 a2 a3 a4 = 0 ∧ ∃ v : Nat, a0 = nI v ∧ v < nV ∧ r = nI nG ∧ nG < 12 ∧ pOb G E' o (sgBegin σ nG v a1 a2 a3 a4) nC nV (nG + 1) ∧ xFr tC E E'
theorem k_begin (l : Launch) (hl9 : l.stackTraces = false) (G : xG) (E : xE) (o : Nat) (a0 : Int32) (a1 : Int32) (a2 : Int32) (a3 : Int32) (a4 : Int32) (nC nV nG : Nat) (σ : xSg) (hO : pOb G E o σ nC nV nG) : vx_Met l yX4_begin wsX4_begin ({ frames := 7, cells := 5, slots := 88, locals := 112 }) (va_Pc [.ref o, .int a0, .int a1, .int a2, .int a3, .int a4] (xB G E)) (va_Qi (S := xE) (d_begin G E o a0 a1 a2 a3 a4 nC nV nG σ) (fun E' t => xW G E' t.heap) (xA G)) (xX G E (fun n => xEx n (tX4_begin σ nC nV nG (a0.toNatClampNeg) a0 a1 a2 a3 a4))) 5 88 (xA G) := by
  obtain ⟨ct, vt, gt, tb, vb, gb, sa, hCls⟩ := hO
  refine p_mono (kX4_begin l hl9 G E o a0 a1 a2 a3 a4 ct vt gt tb vb gb sa nC nV nG σ hCls) (fun _ h => h) (fun r E' h => ?_) (fun _ h => h)
  obtain ⟨h0, h1, h2, h3, h4, h5, e0, e1, hC, hF⟩ := h
  exact ⟨h0, h1, h2, h3, h4, h5, ⟨_, _, _, _, _, _, _, hC⟩, hF⟩
def d_can (G : xG) (E : xE) (o : Nat) (a0 : Int32) (a1 : Int32) (a2 : Int32) (nC nV nG : Nat) (σ : xSg) : Int32 → xE → Prop := fun r E' => tX4_can nG a0 a1 a2 = 0 ∧ E' = E ∧ ∃ u d v : Nat, a0 = nI u ∧ u < nG ∧ v < nV ∧ xGm σ u d v ∧ (σ 15 u = 0 → d < 60) ∧ r = zI (fX1_allows σ nC (σ 12 u) (σ 6 v) (σ 17 (61 * u + d)) (σ 18 (61 * u + d)) (nI d) (σ 15 u) a1 a2)
theorem k_can (l : Launch) (hl9 : l.stackTraces = false) (G : xG) (E : xE) (o : Nat) (a0 : Int32) (a1 : Int32) (a2 : Int32) (nC nV nG : Nat) (σ : xSg) (hO : pOb G E o σ nC nV nG) : vx_Met l yX4_can wsX4_can ({ frames := 7, cells := 3, slots := 18, locals := 112 }) (va_Pc [.ref o, .int a0, .int a1, .int a2] (xB G E)) (va_Qi (S := xE) (d_can G E o a0 a1 a2 nC nV nG σ) (fun E' t => xW G E' t.heap) (xA G)) (xX G E (fun n => xEx n (tX4_can nG a0 a1 a2))) 3 18 (xA G) := by
  obtain ⟨ct, vt, gt, tb, vb, gb, sa, hCls⟩ := hO
  refine p_mono (kX4_can l hl9 G E o a0 a1 a2 ct vt gt tb vb gb sa nC nV nG σ hCls) (fun _ h => h) (fun r E' h => ?_) (fun _ h => h)
  exact h
def d_canByAll (G : xG) (E : xE) (o : Nat) (a0 : Int32) (a1 : Int32) (a2 : Int32) (nC nV nG : Nat) (σ : xSg) : Int32 → xE → Prop := fun r E' => tX4_canByAll nG a0 a1 a2 = 0 ∧ E' = E ∧ ∃ u d v : Nat, a0 = nI u ∧ u < nG ∧ v < nV ∧ xGm σ u d v ∧ (σ 15 u = 0 → d < 60) ∧ r = zI (fcanBy (σ 15 u) (fX4_isAmongAllMoves σ nC (σ 12 u) (σ 6 v) (σ 17 (61 * u + d)) (σ 18 (61 * u + d)) (nI d) a1 a2))
theorem k_canByAll (l : Launch) (hl9 : l.stackTraces = false) (G : xG) (E : xE) (o : Nat) (a0 : Int32) (a1 : Int32) (a2 : Int32) (nC nV nG : Nat) (σ : xSg) (hO : pOb G E o σ nC nV nG) : vx_Met l yX4_canByAll wsX4_canByAll ({ frames := 7, cells := 3, slots := 18, locals := 112 }) (va_Pc [.ref o, .int a0, .int a1, .int a2] (xB G E)) (va_Qi (S := xE) (d_canByAll G E o a0 a1 a2 nC nV nG σ) (fun E' t => xW G E' t.heap) (xA G)) (xX G E (fun n => xEx n (tX4_canByAll nG a0 a1 a2))) 3 18 (xA G) := by
  obtain ⟨ct, vt, gt, tb, vb, gb, sa, hCls⟩ := hO
  refine p_mono (kX4_canByAll l hl9 G E o a0 a1 a2 ct vt gt tb vb gb sa nC nV nG σ hCls) (fun _ h => h) (fun r E' h => ?_) (fun _ h => h)
  exact h
def d_move (G : xG) (E : xE) (o : Nat) (a0 : Int32) (a1 : Int32) (a2 : Int32) (nC nV nG : Nat) (σ : xSg) : Int32 → xE → Prop := fun r E' => tX4_move σ nC nG (a0.toNatClampNeg) ((σ 16 a0.toNatClampNeg).toNatClampNeg) ((σ 11 a0.toNatClampNeg).toNatClampNeg) a0 a1 a2 = 0 ∧ ∃ (u d v : Nat) (sq : Nat → Int64), a0 = nI u ∧ u < nG ∧ v < nV ∧ xGm σ u d v ∧ d < 60 ∧ (∀ j, j ≤ d → sq j = fX1_placing (σ 17 (61 * u + j)) (σ 18 (61 * u + j)) (fX1_isSecondToMove (nI j))) ∧ r = (fX1_settle σ nC (σ 12 u) (σ 6 v) (goA (σ 17 (61 * u + d)) (σ 18 (61 * u + d)) d a1 a2) (goB (σ 17 (61 * u + d)) (σ 18 (61 * u + d)) d a1 a2) (nI (d + 1)) (σ 15 u) (σ 9 v) (vp_updL sq (d + 1) (fX1_placing (goA (σ 17 (61 * u + d)) (σ 18 (61 * u + d)) d a1 a2) (goB (σ 17 (61 * u + d)) (σ 18 (61 * u + d)) d a1 a2) (fX1_isSecondToMove (nI (d + 1)))))).1 ∧ pOb G E' o (sgMove σ u d v (goA (σ 17 (61 * u + d)) (σ 18 (61 * u + d)) d a1 a2) (goB (σ 17 (61 * u + d)) (σ 18 (61 * u + d)) d a1 a2) (fX1_settle σ nC (σ 12 u) (σ 6 v) (goA (σ 17 (61 * u + d)) (σ 18 (61 * u + d)) d a1 a2) (goB (σ 17 (61 * u + d)) (σ 18 (61 * u + d)) d a1 a2) (nI (d + 1)) (σ 15 u) (σ 9 v) (vp_updL sq (d + 1) (fX1_placing (goA (σ 17 (61 * u + d)) (σ 18 (61 * u + d)) d a1 a2) (goB (σ 17 (61 * u + d)) (σ 18 (61 * u + d)) d a1 a2) (fX1_isSecondToMove (nI (d + 1)))))).1 (fX1_settle σ nC (σ 12 u) (σ 6 v) (goA (σ 17 (61 * u + d)) (σ 18 (61 * u + d)) d a1 a2) (goB (σ 17 (61 * u + d)) (σ 18 (61 * u + d)) d a1 a2) (nI (d + 1)) (σ 15 u) (σ 9 v) (vp_updL sq (d + 1) (fX1_placing (goA (σ 17 (61 * u + d)) (σ 18 (61 * u + d)) d a1 a2) (goB (σ 17 (61 * u + d)) (σ 18 (61 * u + d)) d a1 a2) (fX1_isSecondToMove (nI (d + 1)))))).2) nC nV nG ∧ xFr tC E E'
theorem k_move (l : Launch) (hl9 : l.stackTraces = false) (G : xG) (E : xE) (o : Nat) (a0 : Int32) (a1 : Int32) (a2 : Int32) (nC nV nG : Nat) (σ : xSg) (hO : pOb G E o σ nC nV nG) : vx_Met l yX4_move wsX4_move ({ frames := 7, cells := 4, slots := 24, locals := 125 }) (va_Pc [.ref o, .int a0, .int a1, .int a2] (xB G E)) (va_Qi (S := xE) (d_move G E o a0 a1 a2 nC nV nG σ) (fun E' t => xW G E' t.heap) (xA G)) (xX G E (fun n => xEx n (tX4_move σ nC nG (a0.toNatClampNeg) ((σ 16 a0.toNatClampNeg).toNatClampNeg) ((σ 11 a0.toNatClampNeg).toNatClampNeg) a0 a1 a2))) 4 24 (xA G) := by
  obtain ⟨ct, vt, gt, tb, vb, gb, sa, hCls⟩ := hO
  refine p_mono (kX4_move l hl9 G E o a0 a1 a2 ct vt gt tb vb gb sa nC nV nG σ hCls) (fun _ h => h) (fun r E' h => ?_) (fun _ h => h)
  obtain ⟨h0, h1, h2, h3, h4, h5, h6, h7, h8, h9, h10, h11, hC, hF⟩ := h
  exact ⟨h0, h1, h2, h3, h4, h5, h6, h7, h8, h9, h10, h11, ⟨_, _, _, _, _, _, _, hC⟩, hF⟩
def d_state (G : xG) (E : xE) (o : Nat) (a0 : Int32) (nC nV nG : Nat) (σ : xSg) : Int32 → xE → Prop := fun r E' => tX4_state nG a0 = 0 ∧ E' = E ∧ ∃ u d v : Nat, a0 = nI u ∧ u < nG ∧ v < nV ∧ xGm σ u d v ∧ (σ 15 u = 0 → d < 60) ∧ r = σ 15 u
theorem k_state (l : Launch) (hl9 : l.stackTraces = false) (G : xG) (E : xE) (o : Nat) (a0 : Int32) (nC nV nG : Nat) (σ : xSg) (hO : pOb G E o σ nC nV nG) : vx_Met l yX4_state wsX4_state ({ frames := 7, cells := 1, slots := 6, locals := 112 }) (va_Pc [.ref o, .int a0] (xB G E)) (va_Qi (S := xE) (d_state G E o a0 nC nV nG σ) (fun E' t => xW G E' t.heap) (xA G)) (xX G E (fun n => xEx n (tX4_state nG a0))) 1 6 (xA G) := by
  obtain ⟨ct, vt, gt, tb, vb, gb, sa, hCls⟩ := hO
  refine p_mono (kX4_state l hl9 G E o a0 ct vt gt tb vb gb sa nC nV nG σ hCls) (fun _ h => h) (fun r E' h => ?_) (fun _ h => h)
  exact h
def d_pieces (G : xG) (E : xE) (o : Nat) (a0 : Int32) (a1 : Bool) (nC nV nG : Nat) (σ : xSg) : Int32 → xE → Prop := fun r E' => tX4_pieces nG a0 = 0 ∧ E' = E ∧ ∃ u d v : Nat, a0 = nI u ∧ u < nG ∧ v < nV ∧ xGm σ u d v ∧ (σ 15 u = 0 → d < 60) ∧ r = (if a1 = true then σ 18 (61 * u + d) else σ 17 (61 * u + d))
theorem k_pieces (l : Launch) (hl9 : l.stackTraces = false) (G : xG) (E : xE) (o : Nat) (a0 : Int32) (a1 : Bool) (nC nV nG : Nat) (σ : xSg) (hO : pOb G E o σ nC nV nG) : vx_Met l yX4_pieces wsX4_pieces ({ frames := 7, cells := 1, slots := 6, locals := 112 }) (va_Pc [.ref o, .int a0, .int (zI a1)] (xB G E)) (va_Qi (S := xE) (d_pieces G E o a0 a1 nC nV nG σ) (fun E' t => xW G E' t.heap) (xA G)) (xX G E (fun n => xEx n (tX4_pieces nG a0))) 1 6 (xA G) := by
  obtain ⟨ct, vt, gt, tb, vb, gb, sa, hCls⟩ := hO
  refine p_mono (kX4_pieces l hl9 G E o a0 a1 ct vt gt tb vb gb sa nC nV nG σ hCls) (fun _ h => h) (fun r E' h => ?_) (fun _ h => h)
  exact h
def d_made (G : xG) (E : xE) (o : Nat) (a0 : Int32) (nC nV nG : Nat) (σ : xSg) : Int32 → xE → Prop := fun r E' => tX4_made nG a0 = 0 ∧ E' = E ∧ ∃ u d v : Nat, a0 = nI u ∧ u < nG ∧ v < nV ∧ xGm σ u d v ∧ (σ 15 u = 0 → d < 60) ∧ r = nI d
theorem k_made (l : Launch) (hl9 : l.stackTraces = false) (G : xG) (E : xE) (o : Nat) (a0 : Int32) (nC nV nG : Nat) (σ : xSg) (hO : pOb G E o σ nC nV nG) : vx_Met l yX4_made wsX4_made ({ frames := 7, cells := 1, slots := 6, locals := 112 }) (va_Pc [.ref o, .int a0] (xB G E)) (va_Qi (S := xE) (d_made G E o a0 nC nV nG σ) (fun E' t => xW G E' t.heap) (xA G)) (xX G E (fun n => xEx n (tX4_made nG a0))) 1 6 (xA G) := by
  obtain ⟨ct, vt, gt, tb, vb, gb, sa, hCls⟩ := hO
  refine p_mono (kX4_made l hl9 G E o a0 ct vt gt tb vb gb sa nC nV nG σ hCls) (fun _ h => h) (fun r E' h => ?_) (fun _ h => h)
  exact h
def d_value (G : xG) (E : xE) (o : Nat) (a0 : Int32) (a1 : Int32) (nC nV nG : Nat) (σ : xSg) : Int32 → xE → Prop := fun r E' => tX4_value nG a0 a1 = 0 ∧ E' = E ∧ ∃ u d v : Nat, a0 = nI u ∧ u < nG ∧ v < nV ∧ xGm σ u d v ∧ (σ 15 u = 0 → d < 60) ∧ r = vX4_searchWithCuts σ nC (σ 12 u) (σ 6 v) (a1.toNatClampNeg) (fX1_ofMover (σ 17 (61 * u + d)) (σ 18 (61 * u + d)) (nI d)) (fX1_ofWaiting (σ 17 (61 * u + d)) (σ 18 (61 * u + d)) (nI d)) (fX1_isSecondToMove (nI d)) (-100) 100
theorem k_value (l : Launch) (hl9 : l.stackTraces = false) (G : xG) (E : xE) (o : Nat) (a0 : Int32) (a1 : Int32) (nC nV nG : Nat) (σ : xSg) (hO : pOb G E o σ nC nV nG) : vx_Met l yX4_value wsX4_value ({ frames := 7, cells := 2, slots := 12, locals := 198 }) (va_Pc [.ref o, .int a0, .int a1] (xB G E)) (va_Qi (S := xE) (d_value G E o a0 a1 nC nV nG σ) (fun E' t => xW G E' t.heap) (xA G)) (xX G E (fun n => xEx n (tX4_value nG a0 a1))) 2 12 (xA G) := by
  obtain ⟨ct, vt, gt, tb, vb, gb, sa, hCls⟩ := hO
  refine p_mono (kX4_value l hl9 G E o a0 a1 ct vt gt tb vb gb sa nC nV nG σ hCls) (fun _ h => h) (fun r E' h => ?_) (fun _ h => h)
  exact h
def d_valueByAll (G : xG) (E : xE) (o : Nat) (a0 : Int32) (a1 : Int32) (nC nV nG : Nat) (σ : xSg) : Int32 → xE → Prop := fun r E' => tX4_valueByAll nG a0 a1 = 0 ∧ E' = E ∧ ∃ u d v : Nat, a0 = nI u ∧ u < nG ∧ v < nV ∧ xGm σ u d v ∧ (σ 15 u = 0 → d < 60) ∧ r = vX4_searchAll σ nC (σ 12 u) (σ 6 v) (a1.toNatClampNeg) (fX1_ofMover (σ 17 (61 * u + d)) (σ 18 (61 * u + d)) (nI d)) (fX1_ofWaiting (σ 17 (61 * u + d)) (σ 18 (61 * u + d)) (nI d)) (fX1_isSecondToMove (nI d))
theorem k_valueByAll (l : Launch) (hl9 : l.stackTraces = false) (G : xG) (E : xE) (o : Nat) (a0 : Int32) (a1 : Int32) (nC nV nG : Nat) (σ : xSg) (hO : pOb G E o σ nC nV nG) : vx_Met l yX4_valueByAll wsX4_valueByAll ({ frames := 7, cells := 2, slots := 12, locals := 189 }) (va_Pc [.ref o, .int a0, .int a1] (xB G E)) (va_Qi (S := xE) (d_valueByAll G E o a0 a1 nC nV nG σ) (fun E' t => xW G E' t.heap) (xA G)) (xX G E (fun n => xEx n (tX4_valueByAll nG a0 a1))) 2 12 (xA G) := by
  obtain ⟨ct, vt, gt, tb, vb, gb, sa, hCls⟩ := hO
  refine p_mono (kX4_valueByAll l hl9 G E o a0 a1 ct vt gt tb vb gb sa nC nV nG σ hCls) (fun _ h => h) (fun r E' h => ?_) (fun _ h => h)
  exact h
def d_vote (G : xG) (E : xE) (o : Nat) (a0 : Int32) (a1 : Int32) (nC nV nG : Nat) (σ : xSg) : Int32 → xE → Prop := fun r E' => tX4_vote nV a0 a1 = 0 ∧ ∃ v : Nat, a1 = nI v ∧ v < nV ∧ r = fJ6_bitCount_0f7a4 ((σ 8 v) ^^^ ((1 : Int32) <<< (a0 &&& 31))) ∧ pOb G E' o (sgU σ 8 v ((σ 8 v) ^^^ ((1 : Int32) <<< (a0 &&& 31)))) nC nV nG ∧ xFr tC E E'
theorem k_vote (l : Launch) (hl9 : l.stackTraces = false) (G : xG) (E : xE) (o : Nat) (a0 : Int32) (a1 : Int32) (nC nV nG : Nat) (σ : xSg) (hO : pOb G E o σ nC nV nG) : vx_Met l yX4_vote wsX4_vote ({ frames := 7, cells := 2, slots := 12, locals := 112 }) (va_Pc [.ref o, .int a0, .int a1] (xB G E)) (va_Qi (S := xE) (d_vote G E o a0 a1 nC nV nG σ) (fun E' t => xW G E' t.heap) (xA G)) (xX G E (fun n => xEx n (tX4_vote nV a0 a1))) 2 12 (xA G) := by
  obtain ⟨ct, vt, gt, tb, vb, gb, sa, hCls⟩ := hO
  refine p_mono (kX4_vote l hl9 G E o a0 a1 ct vt gt tb vb gb sa nC nV nG σ hCls) (fun _ h => h) (fun r E' h => ?_) (fun _ h => h)
  obtain ⟨h0, h1, h2, h3, h4, hC, hF⟩ := h
  exact ⟨h0, h1, h2, h3, h4, ⟨_, _, _, _, _, _, _, hC⟩, hF⟩
def d_isBanned (G : xG) (E : xE) (o : Nat) (a0 : Int32) (nC nV nG : Nat) (σ : xSg) : Int32 → xE → Prop := fun r E' => tX4_isBanned nV a0 = 0 ∧ E' = E ∧ ∃ v : Nat, a0 = nI v ∧ v < nV ∧ r = zI (fX3_isOut (σ 8 v) (σ 9 v))
theorem k_isBanned (l : Launch) (hl9 : l.stackTraces = false) (G : xG) (E : xE) (o : Nat) (a0 : Int32) (nC nV nG : Nat) (σ : xSg) (hO : pOb G E o σ nC nV nG) : vx_Met l yX4_isBanned wsX4_isBanned ({ frames := 7, cells := 1, slots := 6, locals := 112 }) (va_Pc [.ref o, .int a0] (xB G E)) (va_Qi (S := xE) (d_isBanned G E o a0 nC nV nG σ) (fun E' t => xW G E' t.heap) (xA G)) (xX G E (fun n => xEx n (tX4_isBanned nV a0))) 1 6 (xA G) := by
  obtain ⟨ct, vt, gt, tb, vb, gb, sa, hCls⟩ := hO
  refine p_mono (kX4_isBanned l hl9 G E o a0 ct vt gt tb vb gb sa nC nV nG σ hCls) (fun _ h => h) (fun r E' h => ?_) (fun _ h => h)
  exact h
def d_endless (G : xG) (E : xE) (o : Nat) (a0 : Int32) (nC nV nG : Nat) (σ : xSg) : Int32 → xE → Prop := fun r E' => tX4_endless nV a0 = 0 ∧ E' = E ∧ ∃ v : Nat, a0 = nI v ∧ v < nV ∧ r = σ 9 v
theorem k_endless (l : Launch) (hl9 : l.stackTraces = false) (G : xG) (E : xE) (o : Nat) (a0 : Int32) (nC nV nG : Nat) (σ : xSg) (hO : pOb G E o σ nC nV nG) : vx_Met l yX4_endless wsX4_endless ({ frames := 7, cells := 1, slots := 6, locals := 112 }) (va_Pc [.ref o, .int a0] (xB G E)) (va_Qi (S := xE) (d_endless G E o a0 nC nV nG σ) (fun E' t => xW G E' t.heap) (xA G)) (xX G E (fun n => xEx n (tX4_endless nV a0))) 1 6 (xA G) := by
  obtain ⟨ct, vt, gt, tb, vb, gb, sa, hCls⟩ := hO
  refine p_mono (kX4_endless l hl9 G E o a0 ct vt gt tb vb gb sa nC nV nG σ hCls) (fun _ h => h) (fun r E' h => ?_) (fun _ h => h)
  exact h
def d_points (G : xG) (E : xE) (o : Nat) (a0 : Int32) (a1 : Int32) (nC nV nG : Nat) (σ : xSg) : Int32 → xE → Prop := fun r E' => tX4_points nV a0 a1 = 0 ∧ E' = E ∧ ∃ v : Nat, a1 = nI v ∧ v < nV ∧ r = (if fX3_isOut (σ 8 v) (σ 9 v) = true then 0 else gX4_points σ nG v a0 13 0 0)
theorem k_points (l : Launch) (hl9 : l.stackTraces = false) (G : xG) (E : xE) (o : Nat) (a0 : Int32) (a1 : Int32) (nC nV nG : Nat) (σ : xSg) (hO : pOb G E o σ nC nV nG) : vx_Met l yX4_points wsX4_points ({ frames := 7, cells := 2, slots := 12, locals := 112 }) (va_Pc [.ref o, .int a0, .int a1] (xB G E)) (va_Qi (S := xE) (d_points G E o a0 a1 nC nV nG σ) (fun E' t => xW G E' t.heap) (xA G)) (xX G E (fun n => xEx n (tX4_points nV a0 a1))) 2 12 (xA G) := by
  obtain ⟨ct, vt, gt, tb, vb, gb, sa, hCls⟩ := hO
  refine p_mono (kX4_points l hl9 G E o a0 a1 ct vt gt tb vb gb sa nC nV nG σ hCls) (fun _ h => h) (fun r E' h => ?_) (fun _ h => h)
  exact h
