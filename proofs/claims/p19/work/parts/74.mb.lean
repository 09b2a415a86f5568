/-! p19's math: states that say the same; what is counted up; cards, variants, votes -/
theorem t_pts {σ σ' : xSg} (h11 : σ' 11 = σ 11) (h13 : σ' 13 = σ 13) (h14 : σ' 14 = σ 14) (h15 : σ' 15 = σ 15) (nG v : Nat) (a : Int32) : ∀ (n k : Nat) (x : Int32), gX4_points σ' nG v a n k x = gX4_points σ nG v a n k x := by
  intro n
  induction n with
  | zero => intro k x; rfl
  | succ n ih =>
    intro k x
    rw [gX4_points, gX4_points, h11, h13, h14, h15]
    simp only [ih]
theorem t_all {σ σ' : xSg} (h : ∀ f, 8 ≤ f → σ' f = σ f) (nV nG : Nat) : pAll σ' nV nG = pAll σ nV nG := by
  have hd : ∀ k, dN σ' k = dN σ k := fun k => by unfold dN; rw [h 16 (by omega)]
  have hp : ∀ k b, pPc σ' k b = pPc σ k b := fun k b => by unfold pPc pP1 pP2; rw [h 17 (by omega), h 18 (by omega), hd]
  have hg : ∀ n, pGs σ' n = pGs σ n := by
    intro n
    induction n with
    | zero => rfl
    | succ n ih => rw [pGs, pGs, ih, h 15 (by omega), hd, hp, hp]
  have hq : ∀ v a, pPts σ' nG v a = pPts σ nG v a := fun v a => by
    unfold pPts
    rw [h 8 (by omega), h 9 (by omega), t_pts (h 11 (by omega)) (h 13 (by omega)) (h 14 (by omega)) (h 15 (by omega))]
  have hps : ∀ v x n, pPs σ' nG v x n = pPs σ nG v x n := by
    intro v x n
    induction n with
    | zero => rfl
    | succ n ih => rw [pPs, pPs, ih, hq]
  have hb : ∀ v, pBan σ' v = pBan σ v := fun v => by unfold pBan; rw [h 8 (by omega), h 9 (by omega)]
  have hv : ∀ n, pVs σ' nG n = pVs σ nG n := by
    intro n
    induction n with
    | zero => exact hg nG
    | succ n ih => rw [pVs, pVs, hps, ih, hb, h 9 (by omega)]
  exact hv nV
theorem pGi_same {σ σ' : xSg} {nC nC' u : Nat} (hd : dN σ' u = dN σ u) (h1 : pP1 σ' u = pP1 σ u) (h2 : pP2 σ' u = pP2 σ u) (hv : vN σ' u = vN σ u) (h12 : σ' 12 u = σ 12 u) (h15 : σ' 15 u = σ 15 u) (h6 : σ' 6 (vN σ u) = σ 6 (vN σ u)) (hn : nC ≤ nC')
    (hm : ∀ (a b : Int32) (s : Bool), fX2_hasMove σ' nC' (σ 12 u) (σ 6 (vN σ u)) a b s = fX2_hasMove σ nC (σ 12 u) (σ 6 (vN σ u)) a b s) (h : pGi σ nC u) : pGi σ' nC' u := by
  have hs : pSec σ' u = pSec σ u := by unfold pSec; rw [hd]
  have ho : pOwn σ' u = pOwn σ u := by unfold pOwn; rw [hd, h1, h2]
  have ht : pOth σ' u = pOth σ u := by unfold pOth; rw [hd, h1, h2]
  have hM : pMv σ' nC' u = pMv σ nC u := by unfold pMv; rw [hv, h12, h6, ho, ht, hs, hm]
  obtain ⟨a1, ⟨c, a2, a3⟩, a4, a5, a6, a7⟩ := h
  unfold pGi
  rw [h15, h12, h1, h2, hs, hM]
  exact ⟨a1, ⟨c, Nat.lt_of_lt_of_le a2 (Nat.pow_le_pow_right (by omega) hn), a3⟩, a4, a5, a6, a7⟩
theorem t_sE {σ σ' : xSg} (h : σ' 9 = σ 9) : ∀ n, sE σ' n = sE σ n
  | 0 => rfl
  | n + 1 => by rw [sE, sE, t_sE h n, h]
theorem t_cD {σ σ' : xSg} (h : σ' 15 = σ 15) : ∀ n, cD σ' n = cD σ n
  | 0 => rfl
  | n + 1 => by rw [cD, cD, t_cD h n, h]
theorem u_sE {σ σ' : xSg} {v : Nat} {x : Int32} (h : σ' 9 = upd (σ 9) v x) : ∀ n, sE σ' n + (if v < n then (σ 9 v).toNatClampNeg else 0) = sE σ n + (if v < n then x.toNatClampNeg else 0) := by
  intro n
  induction n with
  | zero => rw [sE, sE, if_neg (Nat.not_lt_zero _), if_neg (Nat.not_lt_zero _)]
  | succ n ih =>
    rw [sE, sE, h]
    by_cases e : n = v
    · subst e
      rw [if_neg (Nat.lt_irrefl _), if_neg (Nat.lt_irrefl _)] at ih
      rw [upd_s, if_pos (Nat.lt_succ_self _), if_pos (Nat.lt_succ_self _)]
      omega
    · rw [upd_n _ _ e]
      have z : (v < n + 1) = (v < n) := propext (by omega)
      simp only [z]
      omega
theorem u_cD {σ σ' : xSg} {k : Nat} {x : Int32} (h : σ' 15 = upd (σ 15) k x) : ∀ n, cD σ' n + (if k < n ∧ σ 15 k = 3 then 1 else 0) = cD σ n + (if k < n ∧ x = 3 then 1 else 0) := by
  intro n
  induction n with
  | zero => rw [cD, cD, if_neg (fun z => Nat.not_lt_zero _ z.1), if_neg (fun z => Nat.not_lt_zero _ z.1)]
  | succ n ih =>
    rw [cD, cD, h]
    by_cases e : n = k
    · subst e
      rw [if_neg (fun z => Nat.lt_irrefl _ z.1), if_neg (fun z => Nat.lt_irrefl _ z.1)] at ih
      rw [upd_s]
      have z1 : (n < n + 1 ∧ σ 15 n = 3) = (σ 15 n = 3) := propext ⟨fun z => z.2, fun z => ⟨Nat.lt_succ_self _, z⟩⟩
      have z2 : (n < n + 1 ∧ x = 3) = (x = 3) := propext ⟨fun z => z.2, fun z => ⟨Nat.lt_succ_self _, z⟩⟩
      simp only [z1, z2]
      omega
    · rw [upd_n _ _ e]
      have z : (k < n + 1) = (k < n) := propext (by omega)
      simp only [z]
      omega
theorem sE_ge {σ : xSg} {v : Nat} : ∀ n, v < n → (σ 9 v).toNatClampNeg ≤ sE σ n
  | 0, h => absurd h (Nat.not_lt_zero _)
  | n + 1, h => by
    rw [sE]
    by_cases e : v = n
    · rw [e]; omega
    · have := sE_ge (σ := σ) (v := v) n (by omega)
      omega
theorem cD_le {σ : xSg} : ∀ n, cD σ n ≤ n
  | 0 => Nat.le_refl _
  | n + 1 => by
    rw [cD]
    have := cD_le (σ := σ) n
    split <;> omega
section MS9
variable {G : xG} {E : xE} {o nC nV nG : Nat} {σ : xSg}
theorem b_and3 : ∀ a b c : Bool, (a && (b && !c)) = true → c = false := by decide
theorem n_cD (σ : xSg) (k : Nat) : nI (cD σ k) + zI (if σ 15 k = 3 then true else false) = nI (cD σ (k + 1)) := by
  rw [cD]
  by_cases h : σ 15 k = 3
  · rw [if_pos h, if_pos h]; exact nI_1 _
  · rw [if_neg h, if_neg h]; exact Int32.add_zero _
theorem n_gm (hI : pI σ nC nV nG) {k : Nat} (hk : k < nG) : ∃ d v : Nat, xGm σ k d v ∧ v < nV ∧ (σ 15 k = 0 → d < 60) ∧ dN σ k = d ∧ vN σ k = v := by
  obtain ⟨d, v, hg, hv, h0⟩ := hI.2.2.2.2.2 k hk
  exact ⟨d, v, hg, hv, h0, by unfold dN; rw [hg.2.1]; exact nI_clamp (by have := hg.2.2.1; omega), by unfold vN; rw [hg.2.2.2.1]; exact nI_clamp (by have := hg.2.2.2.2; omega)⟩
theorem dN_61 (hO : pOb G E o σ nC nV nG) (hI : pI σ nC nV nG) {k : Nat} (hk : k < nG) : dN σ k < 61 := by
  obtain ⟨d, v, hg, -, -, hd, -⟩ := n_gm hI hk
  rw [hd]
  have := hg.2.2.1
  omega
theorem dN_lt (hO : pOb G E o σ nC nV nG) (hI : pI σ nC nV nG) {k : Nat} (hk : k < nG) : dN σ k < 2 ^ 31 := Nat.lt_trans (dN_61 hO hI hk) (by decide)
theorem n_bd (hI : pI σ nC nV nG) {k : Nat} (hk : k < nG) : yBd (pP1 σ k) ∧ yBd (pP2 σ k) ∧ yBd (pOwn σ k) ∧ yBd (pOth σ k) := by
  obtain ⟨-, -, ⟨a, b, ha, hb, ea, eb, -⟩, -⟩ := hI.2.2.1 k hk
  have h1 : yBd (pP1 σ k) := by rw [ea]; exact yBd_of ha
  have h2 : yBd (pP2 σ k) := by rw [eb]; exact yBd_of hb
  refine ⟨h1, h2, ?_, ?_⟩
  · unfold pOwn fX1_ofMover
    split
    · exact h2
    · exact h1
  · unfold pOth fX1_ofWaiting
    split
    · exact h1
    · exact h2
theorem n_v0 {k : Nat} : pVal σ nC k 0 = if pMv σ nC k = true then fJ6_bitCount_0f7a4 (pOwn σ k) - fJ6_bitCount_0f7a4 (pOth σ k) else -100 := rfl
theorem n_val0 (hO : pOb G E o σ nC nV nG) (hI : pI σ nC nV nG) {k a b : Nat} (hk : k < nG) (ha : a < 2 ^ 25) (hb : b < 2 ^ 25) (hpa : pP1 σ k = nI a) (hpb : pP2 σ k = nI b) : pVal σ nC k 0 = if pMv σ nC k = true then (if pSec σ k = true then nI (pS b 25 0) - nI (pS a 25 0) else nI (pS a 25 0) - nI (pS b 25 0)) else -100 := by
  rw [n_v0]
  unfold pOwn pOth fX1_ofMover fX1_ofWaiting pSec
  rw [hpa, hpb]
  cases fX1_isSecondToMove (nI (dN σ k))
  · rw [if_neg x_nf, if_neg x_nf, if_neg x_nf, x_bcN ha, x_bcN hb]
  · rw [if_pos rfl, if_pos rfl, if_pos rfl, x_bcN ha, x_bcN hb]
theorem n_dif {A B : Nat} (ha : A ≤ 6) (hb : B ≤ 6) : -100 < (nI A - nI B).toInt ∧ ¬ nI A - nI B = -100 := by
  have h := pk_sub_toInt (a := A) (b := B) (by omega) (by omega)
  refine ⟨by omega, fun z => ?_⟩
  have e : (-100 : Int32).toInt = -100 := by decide
  rw [z, e] at h
  omega
/-- the value of a game at depth 0 is the least just where there is no move -/
theorem n_vIff (hO : pOb G E o σ nC nV nG) (hI : pI σ nC nV nG) {k : Nat} (hk : k < nG) : (pMv σ nC k = false → pVal σ nC k 0 = -100) ∧ (pMv σ nC k = true → -100 < (pVal σ nC k 0).toInt ∧ ¬ pVal σ nC k 0 = -100) := by
  obtain ⟨-, -, ⟨a, b, ha, hb, ea, eb, ca, cb, -⟩, -⟩ := hI.2.2.1 k hk
  rw [n_val0 hO hI hk ha hb ea eb]
  refine ⟨fun h => by rw [h]; rfl, fun h => ?_⟩
  rw [h, if_pos rfl]
  cases pSec σ k
  · exact n_dif ca cb
  · exact n_dif cb ca
theorem q_diff {v A B : Int32} {M s : Bool} (hv : v = if M = true then (if s = true then B - A else A - B) else -100) (h : ¬ v = -100) : (s = true → v = B - A) ∧ (s = false → v = A - B) := by
  rw [hv] at h ⊢
  cases M
  · exact absurd rfl h
  · cases s
    · exact ⟨fun z => (by cases z), fun _ => rfl⟩
    · exact ⟨fun _ => rfl, fun z => (by cases z)⟩
theorem n_open (hO : pOb G E o σ nC nV nG) (hI : pI σ nC nV nG) {k : Nat} (hk : k < nG) (h0 : σ 15 k = 0) (h : pVal σ nC k 0 ≤ -100) : False := by
  have h1 := ((n_vIff hO hI hk).2 ((hI.2.2.1 k hk).2.2.2.1 h0)).1
  have h2 := Int32.le_iff_toInt_le.mp h
  have e : (-100 : Int32).toInt = -100 := by decide
  omega
theorem n_won (hO : pOb G E o σ nC nV nG) (hI : pI σ nC nV nG) {k : Nat} (hk : k < nG) (h : σ 15 k = 1 ∨ σ 15 k = 2) : pVal σ nC k 0 = -100 := by
  refine (n_vIff hO hI hk).1 ?_
  rcases h with h | h
  · exact ((hI.2.2.1 k hk).2.2.2.2.1 h).1
  · exact ((hI.2.2.1 k hk).2.2.2.2.2 h).1
theorem n_turn (hO : pOb G E o σ nC nV nG) (hI : pI σ nC nV nG) {k : Nat} (hk : k < nG) (h : σ 15 k = 1 ∨ σ 15 k = 2) : pSec σ k = (if σ 15 k = 1 then true else false) := by
  rcases h with h | h
  · rw [if_pos h]; exact ((hI.2.2.1 k hk).2.2.2.2.1 h).2
  · rw [if_neg (by rw [h]; decide)]; exact ((hI.2.2.1 k hk).2.2.2.2.2 h).2
theorem n_vab (hO : pOb G E o σ nC nV nG) (hI : pI σ nC nV nG) {k n : Nat} (hk : k < nG) (hn : n < 3) : pVab σ nC k n = pVal σ nC k n := by
  obtain ⟨-, -, b1, b2⟩ := n_bd hI hk
  exact (y_cuts n b1 b2).symm
/-- the value one deep, behind a move of the one to move -/
theorem n_one (hO : pOb G E o σ nC nV nG) (hI : pI σ nC nV nG) {k f t : Nat} (hk : k < nG) (hf : f < 25) (ht : t < 25) (hm : pMv σ nC k = true) (hb : bt (fX2_endsFrom σ nC (σ 12 k) (σ 6 (vN σ k)) (nI f) (pOwn σ k) (pOth σ k) (pSec σ k)) t = true) :
    (-(fX4_searchAll_0 σ nC (σ 12 k) (σ 6 (vN σ k)) ((pOth σ k) &&& (((1 : Int32) <<< ((nI t) &&& 31)) ^^^ (-1))) (fX4_moved (pOwn σ k) (nI f) (nI t)) (if pSec σ k = true then false else true))).toInt ≤ (pVal σ nC k 1).toInt := by
  obtain ⟨-, -, b1, b2⟩ := n_bd hI hk
  rw [← n_vab hO hI hk (by omega)]
  exact s_one b1 b2 hf ht hb hm
theorem n_pc {a : Int32} (h : yBd a) : fJ6_bitCount_0f7a4 a = nI (cB a 25) ∧ cB a 25 ≤ 25 := by
  obtain ⟨n, hn, rfl⟩ := yBd_to h
  rw [x_bcN hn, cB_pS n 25 (by omega)]
  have hle : ∀ m, cB (nI n) m ≤ m := by
    intro m
    induction m with
    | zero => exact Nat.le_refl _
    | succ m ih => rw [cB]; split <;> omega
  exact ⟨rfl, hle 25⟩
theorem n_val1 (hO : pOb G E o σ nC nV nG) (hI : pI σ nC nV nG) {k : Nat} (hk : k < nG) : (pVal σ nC k 0 = -100 → pVal σ nC k 1 = -100) ∧ (¬ pVal σ nC k 0 = -100 → pVal σ nC k 0 ≤ pVal σ nC k 1) := by
  obtain ⟨h1, h2⟩ := n_vIff hO hI hk
  refine ⟨fun h => ?_, fun h => ?_⟩
  · cases hm : pMv σ nC k
    · rw [← n_vab hO hI hk (by omega)]
      show fX4_searchAll σ nC (σ 12 k) (σ 6 (vN σ k)) _ (pOwn σ k) (pOth σ k) (pSec σ k) = -100
      unfold fX4_searchAll
      rw [show fX2_hasMove σ nC (σ 12 k) (σ 6 (vN σ k)) (pOwn σ k) (pOth σ k) (pSec σ k) = false from hm]
      rfl
    · exact absurd h (h2 hm).2
  · have hm : pMv σ nC k = true := by
      cases q : pMv σ nC k
      · exact absurd (h1 q) h
      · rfl
    obtain ⟨f, t, hf, ht, hb⟩ := e_move hm
    have q := n_one hO hI hk hf ht hm hb
    obtain ⟨-, -, b1, b2⟩ := n_bd hI hk
    obtain ⟨e1, l1⟩ := n_pc b1
    obtain ⟨e2, l2⟩ := n_pc b2
    obtain ⟨e3, l3⟩ := n_pc (yBd_wt (t := t) b2)
    obtain ⟨e4, l4⟩ := n_pc (yBd_mv (f := f) b1 ht)
    have hbf := e_own hf hb
    have hbt : bt (pOwn σ k) t = false := by
      have := x_some (σ := σ) (nC := nC) (S := σ 12 k) (h := σ 6 (vN σ k)) (own := pOwn σ k) (other := pOth σ k) (s := pSec σ k) hI.1.1 hO.nums.2.2.2.1 hf ht
      exact b_and3 _ _ _ (this.symm.trans hb)
    have c1 := cB_mv (pOwn σ k) hf ht hbf hbt 25 (by omega)
    have c2 := cB_del (pOth σ k) ht 25 (by omega)
    rw [if_pos hf, if_pos ht] at c1
    have v0 : (pVal σ nC k 0).toInt = (cB (pOwn σ k) 25 : Int) - cB (pOth σ k) 25 := by
      rw [n_v0, hm, if_pos rfl, e1, e2]
      exact pk_sub_toInt (by omega) (by omega)
    refine Int32.le_iff_toInt_le.mpr ?_
    unfold fX4_searchAll_0 at q
    generalize (if pSec σ k = true then false else true) = s9 at q
    cases hq : fX2_hasMove σ nC (σ 12 k) (σ 6 (vN σ k)) ((pOth σ k) &&& (((1 : Int32) <<< ((nI t) &&& 31)) ^^^ (-1))) (fX4_moved (pOwn σ k) (nI f) (nI t)) s9
    · rw [hq, if_neg x_nf] at q
      have e : (-(-100 : Int32)).toInt = 100 := by decide
      rw [e] at q
      omega
    · rw [hq, if_pos rfl, e3, e4] at q
      have z := pk_sub_toInt (a := cB ((pOth σ k) &&& (((1 : Int32) <<< ((nI t) &&& 31)) ^^^ (-1))) 25) (b := cB (fX4_moved (pOwn σ k) (nI f) (nI t)) 25) (by omega) (by omega)
      have zn := y_neg (r := nI (cB ((pOth σ k) &&& (((1 : Int32) <<< ((nI t) &&& 31)) ^^^ (-1))) 25) - nI (cB (fX4_moved (pOwn σ k) (nI f) (nI t)) 25)) (by omega) (by omega)
      have c3 : cB ((pOth σ k) &&& (((1 : Int32) <<< ((nI t) &&& 31)) ^^^ (-1))) 25 ≤ cB (pOth σ k) 25 := by omega
      omega
theorem n_sE (hI : pI σ nC nV nG) {v : Nat} (hv : v < nV) : nI (sE σ v) + σ 9 v = nI (sE σ (v + 1)) := by
  obtain ⟨e, he, h9⟩ := hI.2.2.2.1 v hv
  rw [sE, h9, nI_add, nI_clamp (by omega)]
theorem n_end0 (hI : pI σ nC nV nG) {v : Nat} (hv : v < nV) : ¬ σ 9 v < 0 := by
  obtain ⟨e, he, h9⟩ := hI.2.2.2.1 v hv
  rw [h9]
  exact nI_pos (by omega)
theorem n_ban0 {v : Nat} (h : pBan σ v = true) : pSm σ nG v 5 = 0 := by
  have hp : ∀ a, pPts σ nG v a = 0 := fun a => if_pos h
  simp only [pSm, hp]
  decide
theorem n_ban2 {v : Nat} (h : ¬ σ 9 v < 2) : pBan σ v = true := by
  unfold pBan fX3_isOut
  rw [if_neg h]
  split <;> rfl
theorem n_ends (hO : pOb G E o σ nC nV nG) (hI : pI σ nC nV nG) : ¬ nI (cD σ nG) < nI (sE σ nV) := by
  have := cD_le (σ := σ) nG
  have := hO.nums.2.2.2.2.2
  exact nI_nlt hI.2.2.2.2.1 (by omega)
end MS9
/-! points: at most three a game for all players -/
def pfN (q1 q2 sta a : Int32) : Nat := if sta = 3 then (if a = q1 then 1 else (if a = q2 then 1 else 0)) else (if sta = 1 then (if a = q1 then 3 else 0) else (if sta = 2 then (if a = q2 then 3 else 0) else 0))
theorem pf_eq (q1 q2 sta a : Int32) : fX1_pointsFor q1 q2 sta a = nI (pfN q1 q2 sta a) := by
  unfold fX1_pointsFor pfN
  by_cases h3 : sta = 3
  · rw [if_pos h3, if_pos h3]
    split
    · rfl
    · split <;> rfl
  · rw [if_neg h3, if_neg h3]
    by_cases h1 : sta = 1
    · rw [if_pos h1, if_pos h1, if_neg (show ¬ sta = 2 by rw [h1]; decide)]
      split <;> rfl
    · rw [if_neg h1, if_neg h1]
      by_cases h2 : sta = 2
      · rw [if_pos h2, if_pos h2]
        split <;> rfl
      · rw [if_neg h2, if_neg h2]; rfl
def oneP (q : Int32) (p : Nat) : Nat := if nI p = q then 1 else 0
theorem oneP_sum (q : Int32) : oneP q 0 + oneP q 1 + oneP q 2 + oneP q 3 + oneP q 4 ≤ 1 := by
  unfold oneP
  by_cases h0 : nI 0 = q
  · subst h0; decide
  · by_cases h1 : nI 1 = q
    · subst h1; decide
    · by_cases h2 : nI 2 = q
      · subst h2; decide
      · by_cases h3 : nI 3 = q
        · subst h3; decide
        · rw [if_neg h0, if_neg h1, if_neg h2, if_neg h3]
          split <;> omega
theorem pf_sum (q1 q2 sta : Int32) : pfN q1 q2 sta (nI 0) + pfN q1 q2 sta (nI 1) + pfN q1 q2 sta (nI 2) + pfN q1 q2 sta (nI 3) + pfN q1 q2 sta (nI 4) ≤ 3 := by
  have s1 := oneP_sum q1
  have s2 := oneP_sum q2
  by_cases h3 : sta = 3
  · have hz : ∀ p, pfN q1 q2 sta (nI p) ≤ oneP q1 p + oneP q2 p := fun p => by
      unfold pfN oneP
      rw [if_pos h3]
      split
      · omega
      · split <;> omega
    have := hz 0; have := hz 1; have := hz 2; have := hz 3; have := hz 4
    omega
  · by_cases h1 : sta = 1
    · have hz : ∀ p, pfN q1 q2 sta (nI p) = 3 * oneP q1 p := fun p => by
        unfold pfN oneP
        rw [if_neg h3, if_pos h1]
        split <;> rfl
      have := hz 0; have := hz 1; have := hz 2; have := hz 3; have := hz 4
      omega
    · by_cases h2 : sta = 2
      · have hz : ∀ p, pfN q1 q2 sta (nI p) = 3 * oneP q2 p := fun p => by
          unfold pfN oneP
          rw [if_neg h3, if_neg h1, if_pos h2]
          split <;> rfl
        have := hz 0; have := hz 1; have := hz 2; have := hz 3; have := hz 4
        omega
      · have hz : ∀ p, pfN q1 q2 sta (nI p) = 0 := fun p => by
          unfold pfN
          rw [if_neg h3, if_neg h1, if_neg h2]
        have := hz 0; have := hz 1; have := hz 2; have := hz 3; have := hz 4
        omega
def gN (σ : xSg) (nG v : Nat) (a : Int32) : Nat → Nat
  | 0 => 0
  | m + 1 => gN σ nG v a m + (if m < nG then (if σ 11 m = nI v then pfN (σ 13 m) (σ 14 m) (σ 15 m) a else 0) else 0)
theorem gN_pts (σ : xSg) (nG v : Nat) (a : Int32) : ∀ (n k : Nat), n + k = 13 → k ≤ 12 → gX4_points σ nG v a n k (nI (gN σ nG v a k)) = nI (gN σ nG v a 12) := by
  intro n
  induction n with
  | zero => intro k h h9; omega
  | succ n ih =>
    intro k h h9
    rw [gX4_points]
    by_cases c : k = 12
    · subst c; rw [if_pos (by decide)]
    · rw [if_neg (show ¬ (12 : Int32) ≤ nI k from nI_ge (a := k) (b := 12) (by omega) (by omega))]
      have e := ih (k + 1) (by omega) (by omega)
      rw [gN] at e
      by_cases h1 : k < nG
      · rw [if_pos h1]
        rw [if_pos h1] at e
        by_cases h2 : σ 11 k = nI v
        · rw [if_pos h2, pf_eq, nI_add]
          rw [if_pos h2] at e
          exact e
        · rw [if_neg h2]
          rw [if_neg h2] at e
          exact e
      · rw [if_neg h1]
        rw [if_neg h1] at e
        exact e
theorem gN_sum (σ : xSg) (nG v : Nat) : ∀ m, gN σ nG v (nI 0) m + gN σ nG v (nI 1) m + gN σ nG v (nI 2) m + gN σ nG v (nI 3) m + gN σ nG v (nI 4) m ≤ 3 * m := by
  intro m
  induction m with
  | zero => exact Nat.le_refl _
  | succ m ih =>
    simp only [gN]
    have := pf_sum (σ 13 m) (σ 14 m) (σ 15 m)
    split
    · split <;> omega
    · omega
theorem gN_0 {σ : xSg} {nG v : Nat} {a : Int32} (h : ∀ k, k < nG → ¬ σ 11 k = nI v) : ∀ m, gN σ nG v a m = 0 := by
  intro m
  induction m with
  | zero => rfl
  | succ m ih =>
    rw [gN, ih]
    by_cases c : m < nG
    · rw [if_pos c, if_neg (h m c)]
    · rw [if_neg c]
section MS8
variable {G : xG} {E : xE} {o nC nV nG : Nat} {σ : xSg}
theorem n_sm36 (hO : pOb G E o σ nC nV nG) (hI : pI σ nC nV nG) {v : Nat} (hv : v < nV) : ¬ 36 < pSm σ nG v 5 := by
  cases h : pBan σ v
  · have hp : ∀ a, pPts σ nG v a = nI (gN σ nG v a 12) := fun a => by
      unfold pPts
      rw [show fX3_isOut (σ 8 v) (σ 9 v) = false from h, if_neg x_nf]
      exact gN_pts σ nG v a 13 0 (by omega) (by omega)
    have hs := gN_sum σ nG v 12
    simp only [pSm, hp]
    rw [show (0 : Int32) = nI 0 from rfl, nI_add, nI_add, nI_add, nI_add, nI_add]
    exact nI_nlt (a := 36) (by omega) (by omega)
  · rw [n_ban0 h]; decide
end MS8
