/-! the math that the walks take -/
theorem q_can3 {nG : Nat} (h : nG ≤ 12) : tX4_can nG (nI nG) 0 0 = 3 := by unfold tX4_can; rw [tIx_big (Nat.le_refl _) (by omega)]; rfl
theorem q_cab3 {nG : Nat} : tX4_canByAll nG (-1) 0 0 = 3 := by unfold tX4_canByAll tX4_can; rw [tIx_neg (by decide)]; rfl
theorem q_st3 {nG : Nat} (h : nG ≤ 12) : tX4_state nG (nI nG) = 3 := by unfold tX4_state; rw [tIx_big (Nat.le_refl _) (by omega)]; rfl
theorem q_val3 {nG : Nat} (h : nG ≤ 12) : tX4_value nG (nI nG) 0 = 3 := by unfold tX4_value; rw [tIx_big (Nat.le_refl _) (by omega)]; rfl
theorem q_ban3 {nV : Nat} (h : nV ≤ 4) : tX4_isBanned nV (nI nV) = 3 := by unfold tX4_isBanned; rw [tIx_big (Nat.le_refl _) (by omega)]; rfl
theorem q_end3 {nV : Nat} : tX4_endless nV (-1) = 3 := by unfold tX4_endless; rw [tIx_neg (by decide)]; rfl
theorem q_pts3 {nV : Nat} (h : nV ≤ 4) : tX4_points nV 0 (nI nV) = 3 := by unfold tX4_points; rw [if_pos (show tX4_checkPlayer 0 = 0 by decide), tIx_big (Nat.le_refl _) (by omega)]; rfl
section MS9
variable {G : xG} {E : xE} {o nC nV nG : Nat} {σ : xSg}
theorem q_r1 {nC : Nat} : tX4_card nC 3 1 0 1 = 1 := rfl
theorem q_r2 {nC : Nat} : tX4_card nC 0 0 0 1 = 1 := rfl
theorem q_r3 {nC : Nat} : tX4_card nC 1 1 1 5 = 1 := rfl
theorem q_r4 {nC nV : Nat} : tX4_variant nC nV (-1) 1 = 1 := rfl
theorem q_r5 {nC nV : Nat} : tX4_variant nC nV 0 0 = 1 := rfl
theorem q_set1 {nC : Nat} (h : nC ≤ 8) : fX4_isSetOfCards (nI nC) ((1 : Int32) <<< (nI nC &&& 31)) = false := by
  have := (show ∀ n : Fin 9, fX4_isSetOfCards (nI n.val) ((1 : Int32) <<< (nI n.val &&& 31)) = false by decide +kernel) ⟨nC, by omega⟩
  exact this
theorem q_r6 {nC nV : Nat} (h : nC ≤ 8) : tX4_variant nC nV 0 ((1 : Int32) <<< (nI nC &&& 31)) = 1 := by
  unfold tX4_variant
  rw [q_set1 h]
  rfl
theorem q_r7 {nC nV : Nat} (h : nV ≤ 4) : tX4_setCards nC nV (nI nV) 1 = 3 := by unfold tX4_setCards; rw [tIx_big (Nat.le_refl _) (by omega)]; rfl
theorem q_r8 {σ : xSg} {nC nV nG v : Nat} (h : nV ≤ 4) : tX4_begin σ nC nV nG v (nI nV) 0 1 1 2 = 3 := by unfold tX4_begin; rw [tIx_big (Nat.le_refl _) (by omega)]; rfl
theorem q_0 {n : Nat} (h : ¬ nI n = 0) (hn : n ≤ 12) : tIx (nI n) 0 = 0 := tIx_ok (j := 0) (Nat.pos_of_ne_zero (fun z => h (by rw [z]; rfl))) (by omega)
theorem q_r9 {σ : xSg} {nC nV nG v : Nat} (h : ¬ nI nV = 0) (hV : nV ≤ 4) : tX4_begin σ nC nV nG v 0 5 0 1 2 = 3 := by unfold tX4_begin; rw [q_0 h (by omega)]; rfl
theorem q_r10 {σ : xSg} {nC nV nG v : Nat} (h : ¬ nI nV = 0) (hV : nV ≤ 4) : tX4_begin σ nC nV nG v 0 1 1 1 2 = 1 := by unfold tX4_begin; rw [q_0 h (by omega)]; rfl
theorem q_r11 {σ : xSg} {nC nV nG v : Nat} (h : ¬ nI nV = 0) (hV : nV ≤ 4) : tX4_begin σ nC nV nG v 0 0 1 0 2 = 1 := by unfold tX4_begin; rw [q_0 h (by omega)]; rfl
theorem q_r12 {σ : xSg} {nC nV nG v : Nat} (h : ¬ nI nV = 0) (hV : nV ≤ 4) : tX4_begin σ nC nV nG v 0 0 1 4 4 = 1 := by
  unfold tX4_begin
  rw [q_0 h (by omega), if_pos rfl, if_pos (show tX4_checkPlayer 0 = 0 by decide), if_pos (show tX4_checkPlayer 1 = 0 by decide), if_neg (show ¬ (0 : Int32) = 1 by decide)]
  by_cases q : fX2_canHold (σ 6 v) 4 = true
  · rw [if_pos q, if_pos q]; rfl
  · rw [if_neg q]
theorem q_r13 {nC nV : Nat} (h : ¬ nI nV = 0) (hV : nV ≤ 4) : tX4_setCards nC nV 0 0 = 1 := by unfold tX4_setCards; rw [q_0 h (by omega)]; rfl
theorem q_r14 {nV : Nat} : tX4_vote nV 5 0 = 3 := rfl
theorem q_r15 {σ : xSg} {nC nG u d v : Nat} (h : nG ≤ 12) : tX4_move σ nC nG u d v (nI nG) 0 1 = 3 := by unfold tX4_move; rw [tIx_big (Nat.le_refl _) (by omega)]; rfl
theorem q_r16 {nV : Nat} : tX4_vote nV 0 (-1) = 3 := by unfold tX4_vote; rw [if_pos (show tX4_checkPlayer 0 = 0 by decide), tIx_neg (by decide)]; rfl
theorem q_r17 {σ : xSg} {nC nG u d v : Nat} (h : ¬ nI nG = 0) (hG : nG ≤ 12) : tX4_move σ nC nG u d v 0 25 0 = 3 := by unfold tX4_move; rw [q_0 h (by omega)]; rfl
theorem q_r18 {nG : Nat} (h : ¬ nI nG = 0) (hG : nG ≤ 12) : tX4_can nG 0 0 25 = 3 := by unfold tX4_can; rw [q_0 h (by omega)]; rfl
theorem q_r19 {nG : Nat} (h : ¬ nI nG = 0) (hG : nG ≤ 12) : tX4_value nG 0 3 = 1 := by unfold tX4_value; rw [q_0 h (by omega)]; rfl
theorem q_r20 {nG : Nat} (h : ¬ nI nG = 0) (hG : nG ≤ 12) : tX4_valueByAll nG 0 (-1) = 1 := by unfold tX4_valueByAll; rw [q_0 h (by omega)]; rfl
theorem q_r21 {σ : xSg} {nC nG u d v : Nat} (h : ¬ nI nG = 0) (hG : nG ≤ 12) : tX4_move σ nC nG u d v 0 7 7 = 2 := by
  unfold tX4_move
  rw [q_0 h (by omega), if_pos rfl, if_pos (show tX4_checkCell 7 = 0 by decide), if_pos (show tX4_checkCell 7 = 0 by decide)]
  by_cases q : fX3_isOut (σ 8 v) (σ 9 v) = true
  · rw [if_pos q]
  · rw [if_neg q, if_neg]
    unfold fX1_allows
    by_cases z : fX4_isIn (fX1_ofMover (σ 17 (61 * u + d)) (σ 18 (61 * u + d)) (nI d)) 7 = true
    · rw [if_pos z, if_pos z]; split <;> decide
    · rw [if_neg z]; split <;> decide
end MS9
section MT
variable {G : xG} {E : xE} {o nC nV nG : Nat} {σ : xSg}
theorem n_shl {nC : Nat} (h : nC ≤ 8) : ((1 : Int32) <<< (nI nC &&& 31)) - 1 = nI (2 ^ nC - 1) := by
  have := (show ∀ n : Fin 9, ((1 : Int32) <<< (nI n.val &&& 31)) - 1 = nI (2 ^ n.val - 1) by decide +kernel) ⟨nC, by omega⟩
  exact this
theorem n_pow {nC : Nat} (h : ¬ nI nC = 0) : 0 < 2 ^ nC - 1 := by
  have h1 : nC ≠ 0 := fun z => h (by rw [z]; rfl)
  have := Nat.pow_le_pow_right (n := 2) (by omega) (Nat.pos_of_ne_zero h1)
  omega
theorem n_1add (n : Nat) : (1 : Int32) + nI n = nI (n + 1) := by rw [show (1 : Int32) = nI 1 from rfl, nI_add, Nat.add_comm]
theorem n_and2 (a b c : Nat) : (nI a &&& nI b) &&& nI c = nI (a &&& b &&& c) := by rw [nx_and, nx_and]
theorem n_and3 {a b c : Nat} (h : a < 33554432) : a &&& b &&& c < 33554432 := Nat.lt_of_le_of_lt (Nat.le_trans Nat.and_le_left Nat.and_le_left) h
def pO1 (z : Int32) : Nat → Int32
  | 0 => 0
  | i + 1 => (pO1 z i) ||| ((1 : Int32) <<< ((fL_some (z >>> (((3 : Int32) * (nI i)) &&& 31)) 25) &&& 31))
def pO2 (z : Int32) : Nat → Int32
  | 0 => 0
  | i + 1 => (pO2 z i) ||| ((1 : Int32) <<< ((fL_some (z >>> ((((3 : Int32) * (nI i)) + 5) &&& 31)) 25) &&& 31))
theorem n_rem5 {a b : Nat} (ha : a < 5) (hb : b < 4) : ((nI a + 1) + nI b) - ((nI a + 1) + nI b) / 5 * 5 = nI ((a + 1 + b) % 5) := by
  rw [nI_1, nI_add, show (5 : Int32) = nI 5 from rfl, pk_rem (by omega) (by omega) (by omega)]
def pFo (j : Nat) : Nat → Nat
  | 0 => j
  | i + 1 => (j + i) % 625
theorem pFo_lt {j : Nat} (h : j < 625) : ∀ i, pFo j i < 625
  | 0 => h
  | i + 1 => Nat.mod_lt _ (by omega)
theorem pFo_I {j i : Nat} (hj : j < 625) (hi : i < 625) : ((nI j) + (nI i)) - ((nI j) + (nI i)) / 625 * 625 = nI (pFo j (i + 1)) := by
  rw [nI_add, show (625 : Int32) = nI 625 from rfl, pk_rem (by omega) (by omega) (by omega)]; rfl
theorem n_0 {n : Nat} (h : nI n = 0) (hn : n ≤ 12 := by omega) : n = 0 := (nI_eq (by omega) (by omega)).mp (h.trans nI_0.symm)
theorem q_p0 {nC u d v : Nat} (h : nG = 0) : tX4_move σ nC nG u d v 0 0 1 = 3 := by unfold tX4_move; rw [h]; rfl
theorem pPc_own {k : Nat} : pPc σ k (pSec σ k) = pOwn σ k := rfl
theorem pPc_oth {k : Nat} : pPc σ k (!(pSec σ k)) = pOth σ k := by
  unfold pPc pOth fX1_ofWaiting pSec
  cases fX1_isSecondToMove (nI (dN σ k)) <;> rfl
theorem n_iff {a b c d : Int32} (h : a = b ↔ c = d) : (if a = b then true else false) = (if c = d then true else false) := by
  by_cases q : a = b
  · rw [if_pos q, if_pos (h.mp q)]
  · rw [if_neg q, if_neg (fun z => q (h.mpr z))]
end MT
