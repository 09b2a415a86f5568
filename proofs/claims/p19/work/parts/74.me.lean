/-! p19's math: a move -/
section ME9
variable {G : xG} {E : xE} {o nC nV nG : Nat} {σ : xSg}
theorem n_11 (hO : pOb G E o σ nC nV nG) (hI : pI σ nC nV nG) {k : Nat} (hk : k < nG) : σ 11 k = nI (vN σ k) ∧ vN σ k < nV := by
  obtain ⟨d, v, hg, hv, -, -, hvN⟩ := n_gm hI hk
  rw [hvN]
  exact ⟨hg.2.2.2.1, hv⟩
/-- what can() tells: by where the one to move goes -/
theorem n_canB (hO : pOb G E o σ nC nV nG) (hI : pI σ nC nV nG) {k f t : Nat} (hf : f < 25) (ht : t < 25) : pCan σ nC k (nI f) (nI t) = if σ 15 k = 0 then bt (fX2_endsFrom σ nC (σ 12 k) (σ 6 (vN σ k)) (nI f) (pOwn σ k) (pOth σ k) (pSec σ k)) t else false :=
  x_allows hO.nums.2.2.2.1 hI.1.1 hf ht
theorem n_cab (hO : pOb G E o σ nC nV nG) (hI : pI σ nC nV nG) {k f t : Nat} (hk : k < nG) (hf : f < 25) (ht : t < 25) : pCab σ nC k (nI f) (nI t) = pCan σ nC k (nI f) (nI t) := by
  rw [n_canB hO hI hf ht]
  unfold pCab fcanBy
  rw [x_among hf ht]
  by_cases h : σ 15 k = 0
  · rw [if_pos h, if_pos h]
    show (if bt (fX2_endsFrom σ nC (σ 12 k) (σ 6 (vN σ k)) (nI f) (pOwn σ k) (pOth σ k) (pSec σ k)) t = true then true else false) = _
    cases bt (fX2_endsFrom σ nC (σ 12 k) (σ 6 (vN σ k)) (nI f) (pOwn σ k) (pOth σ k) (pSec σ k)) t <;> rfl
  · rw [if_neg h, if_neg h]
theorem n_goes (hO : pOb G E o σ nC nV nG) (hI : pI σ nC nV nG) {k f t : Nat} (hf : f < 25) (ht : t < 25) (h : pCan σ nC k (nI f) (nI t) = true) : σ 15 k = 0 ∧ bt (fX2_endsFrom σ nC (σ 12 k) (σ 6 (vN σ k)) (nI f) (pOwn σ k) (pOth σ k) (pSec σ k)) t = true ∧ bt (pOwn σ k) f = true ∧ bt (pOwn σ k) t = false := by
  rw [n_canB hO hI hf ht] at h
  by_cases h0 : σ 15 k = 0
  · rw [if_pos h0] at h
    refine ⟨h0, h, e_own hf h, ?_⟩
    have e := x_some (σ := σ) (nC := nC) (S := σ 12 k) (h := σ 6 (vN σ k)) (own := pOwn σ k) (other := pOth σ k) (s := pSec σ k) hI.1.1 hO.nums.2.2.2.1 hf ht
    exact b_and3 _ _ _ (e.symm.trans h)
  · rw [if_neg h0] at h; cases h
theorem n_can (hO : pOb G E o σ nC nV nG) (hI : pI σ nC nV nG) {k f t : Nat} (hk : k < nG) (hf : f < 25) (ht : t < 25) (h : pCan σ nC k (nI f) (nI t) = true) : σ 15 k = 0 ∧ bt (pOwn σ k) f = true ∧ bt (pOwn σ k) t = false := by
  obtain ⟨h0, -, h1, h2⟩ := n_goes hO hI hf ht h
  exact ⟨h0, h1, h2⟩
theorem n_moveE (hO : pOb G E o σ nC nV nG) (hI : pI σ nC nV nG) {k f t : Nat} (hk : k < nG) (hf : f < 25) (ht : t < 25) : tX4_move σ nC nG ((nI k).toNatClampNeg) ((σ 16 (nI k).toNatClampNeg).toNatClampNeg) ((σ 11 (nI k).toNatClampNeg).toNatClampNeg) (nI k) (nI f) (nI t) = (if pBan σ (vN σ k) = true then 2 else if pCan σ nC k (nI f) (nI t) = true then 0 else 2) := by
  have h12 := hO.nums.2.2.2.2.2
  obtain ⟨d, v, hg, hv, -, hd, hvN⟩ := n_gm hI hk
  rw [nI_clamp (show k < 2 ^ 31 by omega)]
  show tX4_move σ nC nG k (dN σ k) (vN σ k) (nI k) (nI f) (nI t) = _
  have hz : tX4_can nG (nI k) (nI f) (nI t) = 0 := by
    unfold tX4_can
    rw [if_pos (tIx_ok hk (by omega)), if_pos (p_cell hf), if_pos (p_cell ht)]
  rw [(x_moveT σ nC nG k (dN σ k) (vN σ k) (nI k) (nI f) (nI t)).1 hz]
  rfl
theorem n_moveT (hO : pOb G E o σ nC nV nG) (hI : pI σ nC nV nG) {k f t : Nat} (hk : k < nG) (hf : f < 25) (ht : t < 25) (hT : ¬ tX4_move σ nC nG ((nI k).toNatClampNeg) ((σ 16 (nI k).toNatClampNeg).toNatClampNeg) ((σ 11 (nI k).toNatClampNeg).toNatClampNeg) (nI k) (nI f) (nI t) = 0) :
    tX4_move σ nC nG ((nI k).toNatClampNeg) ((σ 16 (nI k).toNatClampNeg).toNatClampNeg) ((σ 11 (nI k).toNatClampNeg).toNatClampNeg) (nI k) (nI f) (nI t) = 2 ∧ (pCan σ nC k (nI f) (nI t) = false ∨ pBan σ (vN σ k) = true) := by
  rw [n_moveE hO hI hk hf ht] at hT ⊢
  by_cases h1 : pBan σ (vN σ k) = true
  · rw [if_pos h1]; exact ⟨rfl, Or.inr h1⟩
  · rw [if_neg h1] at hT ⊢
    by_cases h2 : pCan σ nC k (nI f) (nI t) = true
    · exact (hT (if_pos h2)).elim
    · rw [if_neg h2]; exact ⟨rfl, Or.inl (Bool.eq_false_iff.mpr h2)⟩
theorem n_set0 {a b : Int32} (ha : yBd a) (hb : yBd b) (h : ∀ i, i < 25 → ¬ (bt a i = true ∧ bt b i = true)) : a &&& b = 0 := b_ext fun i _ => by
  rw [b_and, b_0]
  by_cases c : i < 25
  · cases z1 : bt a i
    · rfl
    · cases z2 : bt b i
      · rfl
      · exact (h i c ⟨z1, z2⟩).elim
  · rw [ha i (by omega)]; rfl
theorem n_settle {S h p1 p2 md sta en : Int32} {sq : Nat → Int64} (hM : fX2_hasMove σ nC S h (fX1_ofMover p1 p2 md) (fX1_ofWaiting p1 p2 md) (fX1_isSecondToMove md) = false) : fX1_settle σ nC S h p1 p2 md sta en sq = ((if fX1_isSecondToMove md = true then (1 : Int32) else 2), en) := by
  unfold fX1_settle
  rw [hM, if_neg x_nf]
theorem n_settle1 {S h p1 p2 md sta en : Int32} {sq : Nat → Int64} (hM : fX2_hasMove σ nC S h (fX1_ofMover p1 p2 md) (fX1_ofWaiting p1 p2 md) (fX1_isSecondToMove md) = true) : (fX1_settle σ nC S h p1 p2 md sta en sq = (sta, en) ∧ md < 60) ∨ fX1_settle σ nC S h p1 p2 md sta en sq = (3, en) ∨ fX1_settle σ nC S h p1 p2 md sta en sq = (3, en + 1) := by
  unfold fX1_settle
  rw [hM, if_pos rfl]
  by_cases h1 : fX1_timesSeen p1 p2 md sq < 3
  · rw [if_pos h1]
    by_cases h2 : md < 60
    · rw [if_pos h2]; exact Or.inl ⟨rfl, h2⟩
    · rw [if_neg h2]; exact Or.inr (Or.inl rfl)
  · rw [if_neg h1]; exact Or.inr (Or.inr rfl)
/-- the sets of both behind a move -/
theorem n_after (hO : pOb G E o σ nC nV nG) (hI : pI σ nC nV nG) {k f t : Nat} (hk : k < nG) (hf : f < 25) (ht : t < 25) (h : pCan σ nC k (nI f) (nI t) = true) :
    ∃ m w : Nat, m < 2 ^ 25 ∧ w < 2 ^ 25 ∧ fX4_moved (pOwn σ k) (nI f) (nI t) = nI m ∧ (pOth σ k) &&& (((1 : Int32) <<< ((nI t) &&& 31)) ^^^ (-1)) = nI w ∧ pS m 25 0 ≤ 6 ∧ pS w 25 0 ≤ 6 ∧ m &&& w = 0 ∧ 0 < m := by
  obtain ⟨h0, he, hbf, hbt⟩ := n_goes hO hI hf ht h
  obtain ⟨-, -, b1, b2⟩ := n_bd hI hk
  obtain ⟨-, -, ⟨a, b, ha, hb, ea, eb, ca, cb, cab, -⟩, -⟩ := hI.2.2.1 k hk
  have hcount : cB (pOwn σ k) 25 ≤ 6 ∧ cB (pOth σ k) 25 ≤ 6 ∧ ∀ i, i < 25 → ¬ (bt (pOwn σ k) i = true ∧ bt (pOth σ k) i = true) := by
    rw [cB_pS a 25 (by omega)] at ca
    rw [cB_pS b 25 (by omega)] at cb
    have hd : ∀ i, i < 25 → ¬ (bt (nI a) i = true ∧ bt (nI b) i = true) := fun i hi z => by
      have q : bt (nI (a &&& b)) i = true := by rw [← nx_and, b_and, z.1, z.2]; rfl
      rw [cab, show nI 0 = (0 : Int32) from rfl, b_0] at q
      cases q
    unfold pOwn pOth fX1_ofMover fX1_ofWaiting
    rw [ea, eb]
    cases fX1_isSecondToMove (nI (dN σ k))
    · rw [if_neg x_nf, if_neg x_nf]; exact ⟨ca, cb, hd⟩
    · rw [if_pos rfl, if_pos rfl]; exact ⟨cb, ca, fun i hi z => hd i hi ⟨z.2, z.1⟩⟩
  obtain ⟨k1, k2, k3⟩ := hcount
  have bm : yBd (fX4_moved (pOwn σ k) (nI f) (nI t)) := yBd_mv b1 ht
  have bw : yBd ((pOth σ k) &&& (((1 : Int32) <<< ((nI t) &&& 31)) ^^^ (-1))) := yBd_wt b2
  obtain ⟨m, hm, em⟩ := yBd_to bm
  obtain ⟨w, hw, ew⟩ := yBd_to bw
  have c1 := cB_mv (pOwn σ k) hf ht hbf hbt 25 (by omega)
  rw [if_pos hf, if_pos ht] at c1
  have c2 := cB_del (pOth σ k) ht 25 (by omega)
  refine ⟨m, w, hm, hw, em, ew, ?_, ?_, ?_, ?_⟩
  · rw [cB_pS m 25 (by omega), ← em]; omega
  · rw [cB_pS w 25 (by omega), ← ew]
    have : cB ((pOth σ k) &&& (((1 : Int32) <<< ((nI t) &&& 31)) ^^^ (-1))) 25 ≤ cB (pOth σ k) 25 := by omega
    omega
  · have z : fX4_moved (pOwn σ k) (nI f) (nI t) &&& ((pOth σ k) &&& (((1 : Int32) <<< ((nI t) &&& 31)) ^^^ (-1))) = 0 := by
      refine n_set0 bm bw fun i hi q => ?_
      rw [bt_mv _ hf ht (by omega), bt_del _ ht (by omega)] at q
      by_cases e : i = t
      · rw [decide_eq_true e] at q
        obtain ⟨-, q2⟩ := q
        rw [Bool.not_true, Bool.and_false] at q2
        cases q2
      · rw [decide_eq_false e, Bool.or_false, Bool.not_false, Bool.and_true] at q
        refine k3 i hi ⟨?_, q.2⟩
        cases z1 : bt (pOwn σ k) i
        · rw [z1, Bool.false_and] at q; cases q.1
        · rfl
    rw [em, ew, nx_and] at z
    exact (nI_eq (b := 0) (Nat.lt_of_le_of_lt Nat.and_le_left (by omega)) (by omega)).mp z
  · rcases Nat.eq_zero_or_pos m with z | z
    · have q : bt (fX4_moved (pOwn σ k) (nI f) (nI t)) t = true := by rw [bt_mv _ hf ht (by omega), decide_eq_true rfl, Bool.or_true]
      rw [em, z, show nI 0 = (0 : Int32) from rfl, b_0] at q
      cases q
    · exact z
theorem n_mv (hO : pOb G E o σ nC nV nG) (hI : pI σ nC nV nG) {k f t : Nat} (hk : k < nG) (hf : f < 25) (ht : t < 25) {r : Int32} {E1 : xE} (h : d_move G E o (nI k) (nI f) (nI t) nC nV nG σ r E1) :
    ∃ σ1 : xSg, pOb G E1 o σ1 nC nV nG ∧ pI σ1 nC nV nG ∧ xFr tC E E1 ∧ σ1 11 = σ 11 ∧ pCan σ nC k (nI f) (nI t) = true ∧ r = σ1 15 k ∧ dN σ1 k = dN σ k + 1 ∧
      pPc σ1 k (pSec σ k) = ((pOwn σ k) &&& (((1 : Int32) <<< ((nI f) &&& 31)) ^^^ (-1))) ||| ((1 : Int32) <<< ((nI t) &&& 31)) ∧
      pPc σ1 k (!(pSec σ k)) = (pOth σ k) &&& (((1 : Int32) <<< ((nI t) &&& 31)) ^^^ (-1)) ∧ -(pVal σ1 nC k 0) ≤ pVal σ nC k 1 ∧
      (r = (if pSec σ k = true then (2 : Int32) else 1) ↔ pVal σ1 nC k 0 = -100) ∧ ¬ r = (if pSec σ k = true then (1 : Int32) else 2) ∧ (dN σ k + 1 < 60 ∨ ¬ r = 0) ∧ ¬ r < 0 := by
  obtain ⟨hT, u, d, v, sq, hu0, hu, hv, hg, hd, hq, hr, hC, hF⟩ := h
  have hn12 := hO.nums.2.2.2.2.2
  obtain rfl : k = u := (nI_eq (by omega) (by omega)).mp hu0
  have hdN : dN σ k = d := by unfold dN; rw [hg.2.1]; exact nI_clamp (by omega)
  have hvN : vN σ k = v := by unfold vN; rw [hg.2.2.2.1]; exact nI_clamp (by have := hg.2.2.2.2; omega)
  have hP1 : σ 17 (61 * k + d) = pP1 σ k := by unfold pP1; rw [hdN]
  have hP2 : σ 18 (61 * k + d) = pP2 σ k := by unfold pP2; rw [hdN]
  have hcan : pCan σ nC k (nI f) (nI t) = true := by
    rw [n_moveE hO hI hk hf ht] at hT
    cases z1 : pBan σ (vN σ k)
    · rw [z1, if_neg x_nf] at hT
      cases z2 : pCan σ nC k (nI f) (nI t)
      · rw [z2, if_neg x_nf] at hT; cases hT
      · rfl
    · rw [z1, if_pos rfl] at hT; cases hT
  obtain ⟨h0, he, hbf, hbt⟩ := n_goes hO hI hf ht hcan
  obtain ⟨gM, gW⟩ := x_goMover (p1 := σ 17 (61 * k + d)) (p2 := σ 18 (61 * k + d)) (a1 := nI f) (a2 := nI t) hd
  have hsN := x_secN ⟨d, by omega⟩
  dsimp only at hsN
  obtain ⟨A, hA⟩ : ∃ z, z = goA (σ 17 (61 * k + d)) (σ 18 (61 * k + d)) d (nI f) (nI t) := ⟨_, rfl⟩
  obtain ⟨B, hB⟩ : ∃ z, z = goB (σ 17 (61 * k + d)) (σ 18 (61 * k + d)) d (nI f) (nI t) := ⟨_, rfl⟩
  rw [← hA, ← hB] at gM gW hr hC
  have hOwn : fX1_ofMover (σ 17 (61 * k + d)) (σ 18 (61 * k + d)) (nI d) = pOwn σ k := by unfold pOwn; rw [hP1, hP2, hdN]
  have hOth : fX1_ofWaiting (σ 17 (61 * k + d)) (σ 18 (61 * k + d)) (nI d) = pOth σ k := by unfold pOth; rw [hP1, hP2, hdN]
  have hSec : fX1_isSecondToMove (nI d) = pSec σ k := by unfold pSec; rw [hdN]
  rw [hOth] at gM
  rw [hOwn] at gW
  obtain ⟨mA, wA, lm, lw, em, ew, cm, cw, cmw, pm⟩ := n_after hO hI hk hf ht hcan
  obtain ⟨se, hse⟩ : ∃ z, z = fX1_settle σ nC (σ 12 k) (σ 6 v) A B (nI (d + 1)) (σ 15 k) (σ 9 v) (vp_updL sq (d + 1) (fX1_placing A B (fX1_isSecondToMove (nI (d + 1))))) := ⟨_, rfl⟩
  rw [← hse] at hr hC
  obtain ⟨σ1, hσ⟩ : ∃ z, z = sgMove σ k d v A B se.1 se.2 := ⟨_, rfl⟩
  rw [← hσ] at hC
  have ok : ∀ j, j ≠ 16 ∧ j ≠ 17 ∧ j ≠ 18 ∧ j ≠ 15 ∧ j ≠ 9 → σ1 j = σ j := fun j hj => by rw [hσ]; exact sgMove_o σ k d v A B se.1 se.2 hj
  obtain ⟨s16, s17, s18, s15, s9⟩ := sgMove_s σ k d v A B se.1 se.2
  rw [← hσ] at s16 s17 s18 s15 s9
  have d1 : dN σ1 k = d + 1 := by unfold dN; rw [s16, upd_s]; exact nI_clamp (by omega)
  have v1 : ∀ u, vN σ1 u = vN σ u := fun u => by unfold vN; rw [ok 11 (by decide)]
  have p1 : pP1 σ1 k = A := by unfold pP1; rw [d1, s17, upd_s]
  have p2 : pP2 σ1 k = B := by unfold pP2; rw [d1, s18, upd_s]
  have o1 : pOwn σ1 k = (pOth σ k) &&& (((1 : Int32) <<< ((nI t) &&& 31)) ^^^ (-1)) := by unfold pOwn; rw [p1, p2, d1]; exact gM
  have o2 : pOth σ1 k = fX4_moved (pOwn σ k) (nI f) (nI t) := by unfold pOth; rw [p1, p2, d1]; exact gW
  have s1 : pSec σ1 k = !(pSec σ k) := by unfold pSec; rw [d1, hsN, hdN]
  have hmv : ∀ (S h a b : Int32) (z : Bool), fX2_hasMove σ1 nC S h a b z = fX2_hasMove σ nC S h a b z := fun S h' a b z => x_hasSame (ok 1 (by decide)) (ok 2 (by decide)) (ok 3 (by decide)) (ok 4 (by decide)) nC S h' a b z
  have hM : pMv σ1 nC k = fX2_hasMove σ nC (σ 12 k) (σ 6 v) (fX1_ofMover A B (nI (d + 1))) (fX1_ofWaiting A B (nI (d + 1))) (fX1_isSecondToMove (nI (d + 1))) := by
    unfold pMv
    rw [v1, hvN, ok 12 (by decide), ok 6 (by decide), hmv, gM, gW, o1, o2, s1, hsN, hSec]
  have hAB : (pSec σ k = true → A = (pOth σ k) &&& (((1 : Int32) <<< ((nI t) &&& 31)) ^^^ (-1)) ∧ B = fX4_moved (pOwn σ k) (nI f) (nI t)) ∧ (pSec σ k = false → B = (pOth σ k) &&& (((1 : Int32) <<< ((nI t) &&& 31)) ^^^ (-1)) ∧ A = fX4_moved (pOwn σ k) (nI f) (nI t)) := by
    rw [hA, hB]
    unfold goA goB
    rw [hOwn, hOth, hSec]
    exact ⟨fun z => by rw [z, if_pos rfl, if_pos rfl]; exact ⟨rfl, rfl⟩, fun z => by rw [z, if_neg x_nf, if_neg x_nf]; exact ⟨rfl, rfl⟩⟩
  have v0 : (pMv σ1 nC k = false → pVal σ1 nC k 0 = -100) ∧ (pMv σ1 nC k = true → ¬ pVal σ1 nC k 0 = -100) := by
    rw [n_v0]
    refine ⟨fun z => by rw [z]; rfl, fun z => ?_⟩
    rw [z, if_pos rfl, o1, o2, em, ew, x_bcN lm, x_bcN lw]
    exact (n_dif cw cm).2
  -- what the state is then
  have hst : (pMv σ1 nC k = false ∧ se.1 = (if pSec σ k = true then (2 : Int32) else 1) ∧ se.2 = σ 9 v) ∨ (pMv σ1 nC k = true ∧ ((se.1 = 0 ∧ d + 1 < 60 ∧ se.2 = σ 9 v) ∨ (se.1 = 3 ∧ (se.2 = σ 9 v ∨ se.2 = σ 9 v + 1)))) := by
    cases z : pMv σ1 nC k
    · rw [hM] at z
      refine Or.inl ⟨rfl, ?_, ?_⟩
      · rw [hse, n_settle z, hsN, hSec]
        cases pSec σ k <;> rfl
      · rw [hse, n_settle z]
    · rw [hM] at z
      refine Or.inr ⟨rfl, ?_⟩
      rcases n_settle1 (sta := σ 15 k) (en := σ 9 v) (sq := vp_updL sq (d + 1) (fX1_placing A B (fX1_isSecondToMove (nI (d + 1))))) z with ⟨y, y2⟩ | y | y
      · refine Or.inl ⟨by rw [hse, y, h0], ?_, by rw [hse, y]⟩
        rcases Nat.lt_or_ge (d + 1) 60 with q | q
        · exact q
        · exact absurd y2 (nI_nlt (a := d + 1) (b := 60) q (by omega))
      · exact Or.inr ⟨by rw [hse, y], Or.inl (by rw [hse, y])⟩
      · exact Or.inr ⟨by rw [hse, y], Or.inr (by rw [hse, y])⟩
  have hr1 : σ1 15 k = se.1 := by rw [s15, upd_s]
  have hin : pI σ1 nC nV nG := by
    obtain ⟨e9, he9, h9⟩ := hI.2.2.2.1 v hv
    have hD := hI.2.2.2.2.1
    have hcl := cD_le (σ := σ) nG
    have u1 := u_sE (σ := σ) (σ' := σ1) (v := v) (x := se.2) s9 nV
    rw [if_pos hv, if_pos hv, h9, nI_clamp (by omega)] at u1
    have u2 := u_cD (σ := σ) (σ' := σ1) (k := k) (x := se.1) s15 nG
    rw [if_neg (show ¬ (k < nG ∧ σ 15 k = 3) from fun z => by rw [h0] at z; exact absurd z.2 (by decide))] at u2
    have hge := sE_ge (σ := σ) (v := v) nV hv
    rw [h9, nI_clamp (by omega)] at hge
    have hcl1 := cD_le (σ := σ1) nG
    have hkey : ∃ e : Nat, e ≤ 12 ∧ se.2 = nI e ∧ sE σ1 nV ≤ cD σ1 nG := by
      rcases hst with ⟨-, z1, z2⟩ | ⟨-, ⟨z1, -, z2⟩ | ⟨z1, z2 | z2⟩⟩
      · refine ⟨e9, he9, z2.trans h9, ?_⟩
        rw [z2, h9, nI_clamp (by omega)] at u1
        omega
      · refine ⟨e9, he9, z2.trans h9, ?_⟩
        rw [z2, h9, nI_clamp (by omega)] at u1
        omega
      · refine ⟨e9, he9, z2.trans h9, ?_⟩
        rw [z2, h9, nI_clamp (by omega)] at u1
        omega
      · rw [if_pos ⟨hk, z1⟩] at u2
        have e1 : se.2 = nI (e9 + 1) := by rw [z2, h9]; exact nI_1 _
        rw [e1, nI_clamp (by omega)] at u1
        exact ⟨e9 + 1, by omega, e1, by omega⟩
    obtain ⟨e, he, hee, hDD⟩ := hkey
    refine ⟨?_, ?_, ?_, ?_, hDD, ?_⟩
    · obtain ⟨i1, i2, i3, i4⟩ := hI.1
      unfold xInv
      rw [ok 1 (by decide), ok 2 (by decide), ok 3 (by decide), ok 4 (by decide), ok 6 (by decide), ok 8 (by decide), s9, s16, s17, s18]
      refine ⟨i1, i2, fun j hj => ⟨(i3 j hj).1, by rw [upd_n _ _ (by omega)]; exact (i3 j hj).2⟩, fun w hw d' hd' hd60 j hj => ?_⟩
      by_cases hwu : w = k
      · subst hwu
        rw [upd_s] at hd'
        have hdd : d + 1 = d' := (nI_eq (by omega) (by omega)).mp hd'
        subst hdd
        by_cases hjd : j = d + 1
        · subst hjd
          rw [upd_s, upd_s]
          cases zs : pSec σ w
          · obtain ⟨y1, y2⟩ := hAB.2 zs
            exact ⟨mA, wA, lm, lw, y2.trans em, y1.trans ew⟩
          · obtain ⟨y1, y2⟩ := hAB.1 zs
            exact ⟨wA, mA, lw, lm, y1.trans ew, y2.trans em⟩
        · rw [upd_n _ _ (by omega), upd_n _ _ (by omega)]
          exact i4 w hw d hg.2.1 hg.2.2.1 j (by omega)
      · rw [upd_n _ _ hwu] at hd'
        rw [upd_n _ _ (by omega), upd_n _ _ (by omega)]
        exact i4 w hw d' hd' hd60 j hj
    · rw [ok 7 (by decide)]; exact hI.2.1
    · intro u hu
      by_cases huk : u = k
      · subst huk
        obtain ⟨-, hc12, -⟩ := hI.2.2.1 u hu
        -- how nothing is left of one side
        have hno : wA = 0 → pMv σ1 nC u = false := fun z => by
          rw [hM, gM, ew, z]
          exact e_none
        unfold pGi
        rw [hr1, p1, p2, s1, ok 12 (by decide)]
        refine ⟨?_, hc12, ?_, ?_, ?_, ?_⟩
        · rcases hst with ⟨-, z1, -⟩ | ⟨-, ⟨z1, -⟩ | ⟨z1, -⟩⟩
          · rw [z1]
            cases pSec σ u
            · exact Or.inr (Or.inl rfl)
            · exact Or.inr (Or.inr (Or.inl rfl))
          · exact Or.inl z1
          · exact Or.inr (Or.inr (Or.inr z1))
        · cases zs : pSec σ u
          · obtain ⟨y1, y2⟩ := hAB.2 zs
            refine ⟨mA, wA, lm, lw, y2.trans em, y1.trans ew, cm, cw, cmw, fun z => absurd z (by omega), fun z => ?_⟩
            rcases hst with ⟨-, z1, -⟩ | ⟨z0, -⟩
            · rw [z1, zs]; rfl
            · rw [hno z] at z0; cases z0
          · obtain ⟨y1, y2⟩ := hAB.1 zs
            refine ⟨wA, mA, lw, lm, y1.trans ew, y2.trans em, cw, cm, by rw [Nat.and_comm]; exact cmw, fun z => ?_, fun z => absurd z (by omega)⟩
            rcases hst with ⟨-, z1, -⟩ | ⟨z0, -⟩
            · rw [z1, zs]; rfl
            · rw [hno z] at z0; cases z0
        · intro z
          rcases hst with ⟨-, z1, -⟩ | ⟨z0, -⟩
          · rw [z1] at z
            cases zs : pSec σ u
            · rw [zs] at z; exact absurd z (by decide)
            · rw [zs] at z; exact absurd z (by decide)
          · exact z0
        · intro z
          rcases hst with ⟨z0, z1, -⟩ | ⟨-, ⟨z1, -⟩ | ⟨z1, -⟩⟩
          · refine ⟨z0, ?_⟩
            rw [z1] at z
            cases zs : pSec σ u
            · rfl
            · rw [zs] at z; exact absurd z (by decide)
          · rw [z1] at z; exact absurd z (by decide)
          · rw [z1] at z; exact absurd z (by decide)
        · intro z
          rcases hst with ⟨z0, z1, -⟩ | ⟨-, ⟨z1, -⟩ | ⟨z1, -⟩⟩
          · refine ⟨z0, ?_⟩
            rw [z1] at z
            cases zs : pSec σ u
            · rw [zs] at z; exact absurd z (by decide)
            · rfl
          · rw [z1] at z; exact absurd z (by decide)
          · rw [z1] at z; exact absurd z (by decide)
      · obtain ⟨d', w, hg', hw, -, hd', -⟩ := n_gm hI hu
        have hd6 := hg'.2.2.1
        have x1 : dN σ1 u = dN σ u := by unfold dN; rw [s16, upd_n _ _ huk]
        refine pGi_same x1 ?_ ?_ (v1 u) (by rw [ok 12 (by decide)]) (by rw [s15, upd_n _ _ huk]) (by rw [ok 6 (by decide)]) (Nat.le_refl _) (fun a b z => hmv _ _ a b z) (hI.2.2.1 u hu)
        · unfold pP1
          rw [x1, s17, upd_n _ _ (by omega)]
        · unfold pP2
          rw [x1, s18, upd_n _ _ (by omega)]
    · intro w hw
      rw [s9]
      by_cases e2 : w = v
      · rw [e2, upd_s]; exact ⟨e, he, hee⟩
      · rw [upd_n _ _ e2]; exact hI.2.2.2.1 w hw
    · intro u hu
      by_cases huk : u = k
      · subst huk
        refine ⟨d + 1, v, ⟨hg.1, by rw [s16, upd_s], by omega, by rw [ok 11 (by decide)]; exact hg.2.2.2.1, hg.2.2.2.2⟩, hv, fun z => ?_⟩
        rw [hr1] at z
        rcases hst with ⟨-, z1, -⟩ | ⟨-, ⟨z1, z2, -⟩ | ⟨z1, -⟩⟩
        · rw [z1] at z
          cases zs : pSec σ u
          · rw [zs] at z; exact absurd z (by decide)
          · rw [zs] at z; exact absurd z (by decide)
        · exact z2
        · rw [z1] at z; exact absurd z (by decide)
      · obtain ⟨d', w, hg', hw, h0'⟩ := hI.2.2.2.2.2 u hu
        refine ⟨d', w, ?_, hw, by rw [s15, upd_n _ _ huk]; exact h0'⟩
        unfold xGm
        rw [s16, upd_n _ _ huk, ok 11 (by decide)]
        exact hg'
  refine ⟨σ1, hC, hin, hF, ok 11 (by decide), hcan, by rw [hr, hr1], by rw [d1, hdN], ?_, ?_, ?_, ?_, ?_, ?_, ?_⟩
  · show (if pSec σ k = true then pP2 σ1 k else pP1 σ1 k) = _
    rw [p1, p2]
    cases zs : pSec σ k
    · rw [if_neg x_nf]; exact (hAB.2 zs).2
    · rw [if_pos rfl]; exact (hAB.1 zs).2
  · show (if (!(pSec σ k)) = true then pP2 σ1 k else pP1 σ1 k) = _
    rw [p1, p2]
    cases zs : pSec σ k
    · rw [Bool.not_false, if_pos rfl]; exact (hAB.2 zs).1
    · rw [Bool.not_true, if_neg x_nf]; exact (hAB.1 zs).1
  · have q := n_one hO hI hk hf ht ((hI.2.2.1 k hk).2.2.2.1 h0) he
    refine Int32.le_iff_toInt_le.mpr ?_
    have e : pVal σ1 nC k 0 = fX4_searchAll_0 σ nC (σ 12 k) (σ 6 (vN σ k)) ((pOth σ k) &&& (((1 : Int32) <<< ((nI t) &&& 31)) ^^^ (-1))) (fX4_moved (pOwn σ k) (nI f) (nI t)) (if pSec σ k = true then false else true) := by
      rw [n_v0]
      unfold fX4_searchAll_0 pMv
      rw [v1, ok 12 (by decide), ok 6 (by decide), hmv, o1, o2, s1]
      cases pSec σ k <;> rfl
    rw [e]
    exact q
  · rw [hr]
    rcases hst with ⟨z0, z1, -⟩ | ⟨z0, ⟨z1, -⟩ | ⟨z1, -⟩⟩
    · exact ⟨fun _ => v0.1 z0, fun _ => z1⟩
    · refine ⟨fun z => ?_, fun z => absurd z (v0.2 z0)⟩
      rw [z1] at z
      cases zs : pSec σ k
      · rw [zs] at z; exact absurd z (by decide)
      · rw [zs] at z; exact absurd z (by decide)
    · refine ⟨fun z => ?_, fun z => absurd z (v0.2 z0)⟩
      rw [z1] at z
      cases zs : pSec σ k
      · rw [zs] at z; exact absurd z (by decide)
      · rw [zs] at z; exact absurd z (by decide)
  · rw [hr]
    rcases hst with ⟨-, z1, -⟩ | ⟨-, ⟨z1, -⟩ | ⟨z1, -⟩⟩ <;> rw [z1] <;> cases pSec σ k <;> decide
  · rw [hr, hdN]
    rcases hst with ⟨-, z1, -⟩ | ⟨-, ⟨z1, z2, -⟩ | ⟨z1, -⟩⟩
    · refine Or.inr ?_
      rw [z1]
      cases pSec σ k <;> decide
    · exact Or.inl z2
    · refine Or.inr ?_
      rw [z1]; decide
  · rw [hr]
    rcases hst with ⟨-, z1, -⟩ | ⟨-, ⟨z1, -⟩ | ⟨z1, -⟩⟩ <;> rw [z1]
    · cases pSec σ k <;> decide
    · decide
    · decide
end ME9
