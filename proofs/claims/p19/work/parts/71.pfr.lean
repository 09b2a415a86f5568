/-- the class's cells stay where only others change -/
theorem xCls.fr {G : xG} {T : va_E → Bool} (hT : ∀ e, tC e = true → T e = false) {E E1 : xE} {o : Nat} {ct vt gt : Nat} {tb vb gb : Nat → Option Nat} {sa : Nat → Nat} {nC nV nG : Nat} {σ : xSg} (h : xCls G E o ct vt gt tb vb gb sa nC nV nG σ) (f : xFr T E E1) : xCls G E1 o ct vt gt tb vb gb sa nC nV nG σ := by
  have g : ∀ (b : Nat) (e : va_E), E b = some e → tC e = true → E1 b = some e := fun b e hb ht => f b e hb (hT e ht)
  obtain ⟨hE, h0, h5, h10, hT, hV, hGs⟩ := h
  have hT2 : xCardsAt G E1 ct tb nC σ := by
    obtain ⟨a1, a2, a3, a4⟩ := hT
    refine ⟨g _ _ a1 rfl, a2, a3, fun j hj => ?_⟩
    obtain ⟨ca, r, d1, d2, d3, d4⟩ := a4 j hj
    exact ⟨ca, r, d1, g _ _ d2 rfl, d3, d4⟩
  refine ⟨g _ _ hE rfl, h0, h5, h10, hT2, ⟨g _ _ hV.1 rfl, hV.2.1, hV.2.2.1, fun v hv => ?_, hV.2.2.2.2⟩, ⟨g _ _ hGs.1 rfl, hGs.2.1, hGs.2.2.1, fun u hu => ?_, hGs.2.2.2.2⟩⟩
  · obtain ⟨va, vr, q1, q2, q3⟩ := hV.2.2.2.1 v hv
    exact ⟨va, vr, q1, g _ _ q2 rfl, g _ _ q3 rfl⟩
  · obtain ⟨ga, hga, va, gr, v, d, sq, hG1, h16, h60, h11, hvl, hvb, hGr, hSn, hsq, hop⟩ := hGs.2.2.2.1 u hu
    exact ⟨ga, hga, va, gr, v, d, sq, g _ _ hG1 rfl, h16, h60, h11, hvl, hvb, g _ _ hGr rfl, g _ _ hSn rfl, hsq, hop⟩
theorem tC_tM : ∀ e, tC e = true → tM e = false
  | .inr (n, _), h => by
    show (n == 5) = false
    have : n < 5 := of_decide_eq_true h
    exact beq_false_of_ne (by omega)
  | .inl (_, _, .inl _), h => by cases h
  | .inl (_, _, .inr (.inl _)), _ => rfl
  | .inl (_, _, .inr (.inr _)), _ => rfl
theorem pOb.fr {G : xG} {E E1 : xE} {o : Nat} {σ : xSg} {nC nV nG : Nat} (h : pOb G E o σ nC nV nG) (f : xFr tM E E1) : pOb G E1 o σ nC nV nG := by
  obtain ⟨ct, vt, gt, tb, vb, gb, sa, hC⟩ := h
  exact ⟨ct, vt, gt, tb, vb, gb, sa, hC.fr tC_tM f⟩
/-- what isn't the class's and isn't the row of the three stays -/
def pFr (ga : Nat) (E E' : xE) : Prop := ∀ b e, E b = some e → tC e = false → b ≠ ga → E' b = some e
theorem pFr_rf {ga : Nat} {E : xE} : pFr ga E E := fun _ _ h _ _ => h
theorem pFr_of {ga : Nat} {E E' : xE} (h : xFr tC E E') : pFr ga E E' := fun b e h1 h2 _ => h b e h1 h2
theorem pFr.trans {ga : Nat} {E E1 E2 : xE} (h1 : pFr ga E E1) (h2 : pFr ga E1 E2) : pFr ga E E2 := fun b e hb ht hn => h2 b e (h1 b e hb ht hn) ht hn
theorem pFr_put {ga : Nat} {E E1 E2 : xE} {e : va_E} (h : pFr ga E E1) (he : E2 = xU E1 ga e) : pFr ga E E2 := fun b f hb ht hn => by rw [he, xU_ne _ _ hn]; exact h b f hb ht hn
/-- the end of what the law does: true, a state that holds -/
def pPo (G : xG) (o ga : Nat) (E : xE) (R : xSg → Nat → Nat → Prop) : Int32 → xE → Prop := fun r E' => r = 1 ∧ ∃ (σ' : xSg) (nC' nV' nG' : Nat), pOb G E' o σ' nC' nV' nG' ∧ pI σ' nC' nV' nG' ∧ E' ga = some (.inl (G.2.1 0, 3, .inl (gF nC' nV' nG'))) ∧ pFr ga E E' ∧ R σ' nV' nG'
theorem gF_0 (nC nV nG : Nat) : upd (gF nC nV nG) 0 (nI nC + 1) = gF (nC + 1) nV nG := by
  funext k
  by_cases h : k = 0
  · subst h; rw [upd_s, nI_1]; rfl
  · rw [upd_n _ _ h]; unfold gF; rw [if_neg h, if_neg h]
theorem gF_1 (nC nV nG : Nat) : upd (gF nC nV nG) 1 (nI nV + 1) = gF nC (nV + 1) nG := by
  funext k
  by_cases h : k = 1
  · subst h; rw [upd_s, nI_1]; rfl
  · rw [upd_n _ _ h]; unfold gF; rw [if_neg h, if_neg h]
theorem gF_2 (nC nV nG : Nat) : upd (gF nC nV nG) 2 (nI nG + 1) = gF nC nV (nG + 1) := by
  funext k
  by_cases h : k = 2
  · subst h; rw [upd_s, nI_1]; rfl
  · rw [upd_n _ _ h]; unfold gF; rw [if_neg h, if_neg h]
theorem rEx_neg (j : Nat) : ¬ 0 ≤ rEx j := by unfold rEx; split; decide; split <;> decide
theorem rEx_ge (j : Nat) : rEx j < 0 := by unfold rEx; split; decide; split <;> decide
def pN1 (n : Nat) : Nat := if n = 0 then 1 else n
theorem pN1_pos (n : Nat) : 0 < pN1 n := by unfold pN1; split <;> omega
theorem pN1_le (n : Nat) : pN1 n ≤ n + 1 := by unfold pN1; split <;> omega
section PJ
variable {p : Program} {l : Launch} {e : Env} {R : Room} {s : State} {m : MethodId} {args : Array Value} {below : List Frame} {meth : Method} {c : Code} {H : Heap} {locs : List Loc} {cells slots : Nat} {Q : State → Prop}
/-- a place where branches meet, with a number -/
theorem p_jk {T : Type} {P : T → Prop} {F : T → JFrame} {g : JFrame} (h : ∀ k, P k → W p l e R s m args below meth c H locs cells slots Q (F k))
    (k : (∀ k, P k → W p l e R s m args below meth c H locs cells slots Q (F k)) → W p l e R s m args below meth c H locs cells slots Q g) : W p l e R s m args below meth c H locs cells slots Q g := k h
/-- .. behind calls -/
theorem p_jkl {T : Type} {P : T → Prop} {G : xG} {E : xE} {H0 : Heap} {g : JFrame} (pcJ nL : Nat) (lv : T → List (Nat × Value)) (C S : Nat)
    (h : ∀ (k : T) (ls : Array Slot) (H : Heap) (locs : List Loc) (cells slots : Nat), P k → cells ≤ C → slots ≤ S → xW G E H → va_S (xA G) H0 H locs → lv_has ls nL (lv k) → W p l e R s m args below meth c H locs cells slots Q (F0 m pcJ ls []))
    (k : (∀ (k : T) (ls : Array Slot) (H : Heap) (locs : List Loc) (cells slots : Nat), P k → cells ≤ C → slots ≤ S → xW G E H → va_S (xA G) H0 H locs → lv_has ls nL (lv k) → W p l e R s m args below meth c H locs cells slots Q (F0 m pcJ ls [])) → W p l e R s m args below meth c H locs cells slots Q g) : W p l e R s m args below meth c H locs cells slots Q g := k h
end PJ
