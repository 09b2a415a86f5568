/-! p19's math: what holds stays behind cards, variants, their cards, votes -/
theorem pB_of {σ σ' : xSg} {nC nC' nV nG : Nat} (hf : ∀ f, 11 ≤ f → σ' f = σ f) (h6 : ∀ v, v < nV → σ' 6 v = σ 6 v) (hn : nC ≤ nC')
    (hm : ∀ (c : Nat) (h a b : Int32) (s : Bool), c < 2 ^ nC → fX2_hasMove σ' nC' (nI c) h a b s = fX2_hasMove σ nC (nI c) h a b s) (hI : pI σ nC nV nG) : ∀ u, u < nG → pGi σ' nC' u := by
  intro u hu
  obtain ⟨d, v, -, hv, -, -, hvN⟩ := n_gm hI hu
  have hd : dN σ' u = dN σ u := by unfold dN; rw [hf 16 (by omega)]
  have hw : vN σ' u = vN σ u := by unfold vN; rw [hf 11 (by omega)]
  have hg := hI.2.2.1 u hu
  obtain ⟨c, hc, ec⟩ := hg.2.1
  refine pGi_same hd ?_ ?_ hw (by rw [hf 12 (by omega)]) (by rw [hf 15 (by omega)]) (by rw [hvN]; exact h6 v hv) hn (fun a b s => by rw [ec]; exact hm c _ a b s hc) hg
  · unfold pP1; rw [hd, hf 17 (by omega)]
  · unfold pP2; rw [hd, hf 18 (by omega)]
theorem pF_of {σ σ' : xSg} {nC nV nV' nG : Nat} (hf : ∀ f, 11 ≤ f → σ' f = σ f) (hn : nV ≤ nV') (hI : pI σ nC nV nG) : ∀ u, u < nG → ∃ d v : Nat, xGm σ' u d v ∧ v < nV' ∧ (σ' 15 u = 0 → d < 60) := by
  intro u hu
  obtain ⟨d, v, hg, hv, h0⟩ := hI.2.2.2.2.2 u hu
  refine ⟨d, v, ?_, Nat.lt_of_lt_of_le hv hn, by rw [hf 15 (by omega)]; exact h0⟩
  unfold xGm
  rw [hf 16 (by omega), hf 11 (by omega)]
  exact hg
theorem t_set7 (σ : xSg) (v : Nat) (x : Int32) {f : Nat} (h : f ≠ 7) : sgU σ 7 v x f = σ f := sgU_n σ v x h
theorem t_crd (σ : xSg) (k : Nat) (a b c d : Int32) {f : Nat} (h : 5 ≤ f) : sgCard σ k a b c d f = σ f := by
  unfold sgCard
  rw [sgU_n _ _ _ (by omega), sgU_n _ _ _ (by omega), sgU_n _ _ _ (by omega), sgU_n _ _ _ (by omega), sgU_n _ _ _ (by omega)]
theorem t_crd4 (σ : xSg) (k : Nat) (a b c d : Int32) : sgCard σ k a b c d 1 = upd (σ 1) k a ∧ sgCard σ k a b c d 2 = upd (σ 2) k b ∧ sgCard σ k a b c d 3 = upd (σ 3) k c ∧ sgCard σ k a b c d 4 = upd (σ 4) k d := ⟨rfl, rfl, rfl, rfl⟩
theorem t_bitNo {c n : Nat} (h : c < 2 ^ n) (hn : n < 32) : fX4_isIn (nI c) (nI n) = false := by
  rw [x_isInN (n := n) _ hn, bt_nI hn]
  exact Nat.testBit_lt_two_pow h
theorem t_endsC {σ : xSg} {nC c : Nat} {a b e d h c0 own other : Int32} {s : Bool} (hc : c < 2 ^ nC) (h8 : nC < 8) : ∀ (n k : Nat) (w : Int32), gX2_endsFrom (sgCard σ nC a b e d) (nC + 1) (nI c) h c0 own other s n k w = gX2_endsFrom σ nC (nI c) h c0 own other s n k w := by
  obtain ⟨q1, q2, q3, q4⟩ := t_crd4 σ nC a b e d
  intro n
  induction n with
  | zero => intro k w; rfl
  | succ n ih =>
    intro k w
    rw [gX2_endsFrom, gX2_endsFrom, ih, ih]
    by_cases z : (8 : Int32) ≤ nI k
    · rw [if_pos z, if_pos z]
    · rw [if_neg z, if_neg z]
      by_cases h1 : k < nC
      · rw [if_pos h1, if_pos (by omega), q1, q2, q3, q4, upd_n _ _ (by omega), upd_n _ _ (by omega), upd_n _ _ (by omega), upd_n _ _ (by omega)]
      · rw [if_neg h1]
        by_cases h2 : k < nC + 1
        · have hk : k = nC := by omega
          subst hk
          rw [if_pos h2, t_bitNo hc (by omega), if_neg x_nf]
        · rw [if_neg h2]
theorem t_hasC {σ : xSg} {nC c : Nat} {a b e d h own other : Int32} {s : Bool} (hc : c < 2 ^ nC) (h8 : nC < 8) : fX2_hasMove (sgCard σ nC a b e d) (nC + 1) (nI c) h own other s = fX2_hasMove σ nC (nI c) h own other s := by
  have he : ∀ c0, fX2_endsFrom (sgCard σ nC a b e d) (nC + 1) (nI c) h c0 own other s = fX2_endsFrom σ nC (nI c) h c0 own other s := fun c0 => by
    unfold fX2_endsFrom
    rw [t_endsC hc h8]
  have hz : ∀ n k : Nat, gX2_hasMove (sgCard σ nC a b e d) (nC + 1) (nI c) h own other s n k = gX2_hasMove σ nC (nI c) h own other s n k := by
    intro n
    induction n with
    | zero => intro k; rfl
    | succ n ih => intro k; rw [gX2_hasMove, gX2_hasMove, he, ih]
  exact hz 26 0
section MC9
variable {G : xG} {E : xE} {o nC nV nG : Nat} {σ : xSg}
theorem n_cardB {a b c d : Nat} (ha : a < 3) (hb : b < 5) (hc : c < 5) (hd : d < 4) : xCardB (nI a) (nI b - 2) (nI c - 2) ((1 : Int32) + nI d) = !(decide (nI b - 2 = 0 ∧ nI c - 2 = 0)) :=
  (show ∀ a : Fin 3, ∀ b : Fin 5, ∀ c : Fin 5, ∀ d : Fin 4, xCardB (nI a.val) (nI b.val - 2) (nI c.val - 2) ((1 : Int32) + nI d.val) = !(decide (nI b.val - 2 = 0 ∧ nI c.val - 2 = 0)) by decide +kernel) ⟨a, ha⟩ ⟨b, hb⟩ ⟨c, hc⟩ ⟨d, hd⟩
theorem n_cardT {nC a b c d : Nat} (ha : a < 3) (hb : b < 5) (hc : c < 5) (hd : d < 4) (hT : ¬ tX4_card nC (nI a) (nI b - 2) (nI c - 2) ((1 : Int32) + nI d) = 0) : tX4_card nC (nI a) (nI b - 2) (nI c - 2) ((1 : Int32) + nI d) = if (nI b - 2 = 0 ∧ nI c - 2 = 0) then 1 else 2 := by
  rw [x_cardT, n_cardB ha hb hc hd] at hT ⊢
  by_cases z : nI b - 2 = 0 ∧ nI c - 2 = 0
  · rw [if_pos z, decide_eq_true z]; rfl
  · rw [decide_eq_false z] at hT
    rw [if_neg z, decide_eq_false z]
    by_cases y : nI nC < 8
    · exact (hT (by rw [if_pos y]; rfl)).elim
    · rw [if_neg y]; rfl
theorem n_cardI (hO : pOb G E o σ nC nV nG) (hI : pI σ nC nV nG) {a b c d : Nat} (ha : a < 3) (hb : b < 5) (hc : c < 5) (hd : d < 4) (hT : tX4_card nC (nI a) (nI b - 2) (nI c - 2) ((1 : Int32) + nI d) = 0) (h8 : nC < 8) : pI (sgCard σ nC (nI a) (nI b - 2) (nI c - 2) (if nI a = 0 then (1 : Int32) else ((1 : Int32) + nI d))) (nC + 1) nV nG := by
  rw [x_cardT] at hT
  have hB : xCardB (nI a) (nI b - 2) (nI c - 2) ((1 : Int32) + nI d) = true := by
    cases h : xCardB (nI a) (nI b - 2) (nI c - 2) ((1 : Int32) + nI d)
    · rw [h] at hT; cases hT
    · rfl
  obtain ⟨b0, b1, b2, b3, r, b4, b5, b6⟩ := x_cardB hB
  have hs : ∀ f, 5 ≤ f → sgCard σ nC (nI a) (nI b - 2) (nI c - 2) (if nI a = 0 then (1 : Int32) else ((1 : Int32) + nI d)) f = σ f := fun f hf => t_crd σ nC _ _ _ _ hf
  obtain ⟨q1, q2, q3, q4⟩ := t_crd4 σ nC (nI a) (nI b - 2) (nI c - 2) (if nI a = 0 then (1 : Int32) else ((1 : Int32) + nI d))
  refine ⟨?_, ?_, ?_, ?_, ?_, ?_⟩
  · obtain ⟨i1, i2, i3, i4⟩ := hI.1
    unfold xInv
    rw [q1, q2, q3, q4, hs 6 (by omega), hs 8 (by omega), hs 9 (by omega), hs 16 (by omega), hs 17 (by omega), hs 18 (by omega)]
    refine ⟨fun k hk => ?_, i2, i3, i4⟩
    by_cases hkn : k = nC
    · subst hkn
      simp only [upd_s]
      refine ⟨b0, b1, b2, b3, ?_⟩
      by_cases z : nI a = 0
      · rw [if_pos z]; exact ⟨1, rfl, by omega, by omega, fun _ => rfl⟩
      · rw [if_neg z]; exact ⟨r, b4, b5, b6, fun y => absurd y z⟩
    · simp only [upd_n _ _ hkn]
      exact i1 k (by omega)
  · intro v hv
    obtain ⟨c9, h1, h2, h3⟩ := hI.2.1 v hv
    exact ⟨c9, h1, Nat.lt_of_lt_of_le h2 (Nat.pow_le_pow_right (by omega) (by omega)), by rw [hs 7 (by omega)]; exact h3⟩
  · exact pB_of (fun f hf => hs f (by omega)) (fun v _ => by rw [hs 6 (by omega)]) (by omega) (fun c9 h9 a9 b9 s9 hc9 => t_hasC hc9 h8) hI
  · rw [hs 9 (by omega)]; exact hI.2.2.2.1
  · rw [t_sE (hs 9 (by omega)), t_cD (hs 15 (by omega))]; exact hI.2.2.2.2.1
  · exact pF_of (fun f hf => hs f (by omega)) (Nat.le_refl _) hI
theorem n_allC {a b c d : Int32} : pAll (sgCard σ nC a b c d) nV nG = pAll σ nV nG := t_all (fun f hf => t_crd σ nC a b c d (by omega)) nV nG
theorem n_2pow {nC : Nat} (h : nC ≤ 8) : (1 : Int32) <<< (nI nC &&& 31) = nI (2 ^ nC) :=
  (show ∀ n : Fin 9, (1 : Int32) <<< (nI n.val &&& 31) = nI (2 ^ n.val) by decide +kernel) ⟨nC, by omega⟩
theorem n_isSet {nC c : Nat} (h8 : nC ≤ 8) (h1 : 1 ≤ c) (h2 : c < 2 ^ nC) : fX4_isSetOfCards (nI nC) (nI c) = true := by
  have hp : 2 ^ nC ≤ 2 ^ 8 := Nat.pow_le_pow_right (by omega) h8
  unfold fX4_isSetOfCards
  rw [n_2pow h8, if_neg (show ¬ nI c < (1 : Int32) from nI_nlt (a := c) (b := 1) h1 (by omega)), if_neg (nI_ge h2 (by omega))]
theorem n_setI (hO : pOb G E o σ nC nV nG) (hI : pI σ nC nV nG) {v c : Nat} (hv : v < nV) (h1 : 1 ≤ c) (h2 : c < 2 ^ nC) : pI (sgU σ 7 v (nI c)) nC nV nG := by
  have hs : ∀ f, f ≠ 7 → sgU σ 7 v (nI c) f = σ f := fun f hf => t_set7 σ v (nI c) hf
  refine ⟨?_, ?_, ?_, ?_, ?_, ?_⟩
  · have := hI.1
    unfold xInv at this ⊢
    rw [hs 1 (by omega), hs 2 (by omega), hs 3 (by omega), hs 4 (by omega), hs 6 (by omega), hs 8 (by omega), hs 9 (by omega), hs 16 (by omega), hs 17 (by omega), hs 18 (by omega)]
    exact this
  · intro w hw
    rw [sgU_f]
    by_cases e : w = v
    · rw [e, upd_s]; exact ⟨c, h1, h2, rfl⟩
    · rw [upd_n _ _ e]; exact hI.2.1 w hw
  · exact pB_of (fun f hf => hs f (by omega)) (fun w _ => by rw [hs 6 (by omega)]) (Nat.le_refl _) (fun c9 h9 a9 b9 s9 _ => x_hasSame (hs 1 (by omega)) (hs 2 (by omega)) (hs 3 (by omega)) (hs 4 (by omega)) nC _ _ _ _ _) hI
  · rw [hs 9 (by omega)]; exact hI.2.2.2.1
  · rw [t_sE (hs 9 (by omega)), t_cD (hs 15 (by omega))]; exact hI.2.2.2.2.1
  · exact pF_of (fun f hf => hs f (by omega)) (Nat.le_refl _) hI
theorem n_allS {v : Nat} {c : Int32} : pAll (sgU σ 7 v c) nV nG = pAll σ nV nG := t_all (fun f hf => t_set7 σ v c (by omega)) nV nG
theorem n_ixN {n k : Nat} (hk : k < pN1 n) (hn : n ≤ 12) : (0 < n ∧ k < n ∧ tIx (nI n) (nI k) = 0) ∨ (n = 0 ∧ tIx (nI n) (nI k) = 3) := by
  unfold pN1 at hk
  by_cases h : n = 0
  · rw [if_pos h] at hk
    exact Or.inr ⟨h, tIx_big (by omega) (by omega)⟩
  · rw [if_neg h] at hk
    exact Or.inl ⟨by omega, hk, tIx_ok hk (by omega)⟩
theorem n_setT {nC nV k c : Nat} (h8 : nC ≤ 8) (h4 : nV ≤ 4) (hk : k < pN1 nV) (h1 : 1 ≤ c) (h2 : c < 2 ^ nC) (hT : ¬ tX4_setCards nC nV (nI k) (nI c) = 0) : tX4_setCards nC nV (nI k) (nI c) = 3 ∧ nV = 0 := by
  unfold tX4_setCards at hT ⊢
  rw [n_isSet h8 h1 h2] at hT ⊢
  rcases n_ixN hk (by omega) with ⟨-, -, h⟩ | ⟨hz, h⟩
  · rw [h] at hT; exact (hT rfl).elim
  · rw [h]; exact ⟨rfl, hz⟩
theorem n_varN {h : Nat} (hh : h < 33554432) : ¬ nI h < 0 ∧ ¬ (33554431 : Int32) < nI h := ⟨nI_pos (by omega), nI_nlt (a := 33554431) (b := h) (by omega) (by omega)⟩
theorem n_varT {nC nV h c : Nat} (h8 : nC ≤ 8) (h4 : nV ≤ 4) (hh : h < 33554432) (h1 : 1 ≤ c) (h2 : c < 2 ^ nC) (hT : ¬ tX4_variant nC nV (nI h) (nI c) = 0) : tX4_variant nC nV (nI h) (nI c) = 2 ∧ nV = 4 := by
  obtain ⟨q1, q2⟩ := n_varN hh
  unfold tX4_variant at hT ⊢
  rw [if_neg q1, if_neg q2, n_isSet h8 h1 h2, if_pos rfl] at hT ⊢
  by_cases z : nV < 4
  · exact (hT (if_pos (show nI nV < (4 : Int32) from nI_lt (b := 4) z (by omega)))).elim
  · exact ⟨if_neg (show ¬ nI nV < (4 : Int32) from nI_nlt (b := 4) (by omega) (by omega)), by omega⟩
theorem t_var (σ : xSg) (k : Nat) (a b : Int32) {f : Nat} (h : f ≠ 5 ∧ f ≠ 6 ∧ f ≠ 7) : sgVar σ k a b f = σ f := by
  unfold sgVar
  rw [sgU_n _ _ _ h.1, sgU_n _ _ _ h.2.2, sgU_n _ _ _ h.2.1]
theorem n_varI (hO : pOb G E o σ nC nV nG) (hI : pI σ nC nV nG) {h c : Nat} (hT : tX4_variant nC nV (nI h) (nI c) = 0) (h4 : nV < 4) (hh : h < 33554432) (h1 : 1 ≤ c) (h2 : c < 2 ^ nC) : pI (sgVar σ nV (nI h) (nI c)) nC (nV + 1) nG := by
  have hs : ∀ f, f ≠ 5 ∧ f ≠ 6 ∧ f ≠ 7 → sgVar σ nV (nI h) (nI c) f = σ f := fun f hf => t_var σ nV (nI h) (nI c) hf
  have q6 : sgVar σ nV (nI h) (nI c) 6 = upd (σ 6) nV (nI h) := rfl
  have q7 : sgVar σ nV (nI h) (nI c) 7 = upd (σ 7) nV (nI c) := rfl
  have hz := hI.1.2.2.1
  refine ⟨?_, ?_, ?_, ?_, ?_, ?_⟩
  · obtain ⟨i1, i2, i3, i4⟩ := hI.1
    unfold xInv
    rw [hs 1 (by omega), hs 2 (by omega), hs 3 (by omega), hs 4 (by omega), q6, hs 8 (by omega), hs 9 (by omega), hs 16 (by omega), hs 17 (by omega), hs 18 (by omega)]
    refine ⟨i1, fun k hk => ?_, fun k hk => i3 k (by omega), i4⟩
    by_cases hkn : k = nV
    · subst hkn
      rw [upd_s]
      exact ⟨⟨h, by omega, rfl⟩, 0, by omega, (i3 k (Nat.le_refl _)).1⟩
    · rw [upd_n _ _ hkn]
      exact i2 k (by omega)
  · intro w hw
    rw [q7]
    by_cases e : w = nV
    · rw [e, upd_s]; exact ⟨c, h1, h2, rfl⟩
    · rw [upd_n _ _ e]; exact hI.2.1 w (by omega)
  · exact pB_of (fun f hf => hs f (by omega)) (fun w hw => by rw [q6, upd_n _ _ (by omega)]) (Nat.le_refl _) (fun c9 h9 a9 b9 s9 _ => x_hasSame (hs 1 (by omega)) (hs 2 (by omega)) (hs 3 (by omega)) (hs 4 (by omega)) nC _ _ _ _ _) hI
  · rw [hs 9 (by omega)]
    intro w hw
    by_cases e : w = nV
    · rw [e]; exact ⟨0, by omega, (hz nV (Nat.le_refl _)).2⟩
    · exact hI.2.2.2.1 w (by omega)
  · rw [t_sE (hs 9 (by omega)), t_cD (hs 15 (by omega)), sE, (hz nV (Nat.le_refl _)).2]
    exact hI.2.2.2.2.1
  · exact pF_of (fun f hf => hs f (by omega)) (by omega) hI
theorem n_varB {h c : Int32} (hI : pI σ nC nV nG) : pBan (sgVar σ nV h c) nV = false := by
  have hz := hI.1.2.2.1 nV (Nat.le_refl _)
  unfold pBan
  rw [t_var σ nV h c (by omega), t_var σ nV h c (by omega), hz.1, hz.2]
  decide +kernel
theorem n_varE {h c : Int32} (hI : pI σ nC nV nG) : sgVar σ nV h c 9 nV = 0 := by
  rw [t_var σ nV h c (by omega)]
  exact (hI.1.2.2.1 nV (Nat.le_refl _)).2
theorem n_varP (hO : pOb G E o σ nC nV nG) (hI : pI σ nC nV nG) {h c : Int32} {j : Nat} (hj : j < 5) : pPts (sgVar σ nV h c) nG nV (nI j) = 0 := by
  unfold pPts
  rw [t_pts (t_var σ nV h c (by omega)) (t_var σ nV h c (by omega)) (t_var σ nV h c (by omega)) (t_var σ nV h c (by omega))]
  have e : gX4_points σ nG nV (nI j) 13 0 0 = nI (gN σ nG nV (nI j) 12) := gN_pts σ nG nV (nI j) 13 0 (by omega) (by omega)
  rw [e, gN_0 (fun k hk z => ?_)]
  · split <;> rfl
  · obtain ⟨d, v, hg, hv, -⟩ := hI.2.2.2.2.2 k hk
    have := hO.nums.2.2.2.2.1
    rw [hg.2.2.2.1] at z
    have := (nI_eq (by omega) (by omega)).mp z
    omega
theorem n_var7 {h c : Int32} : sgVar σ nV h c 7 nV = c := by
  show upd (σ 7) nV c nV = c
  exact upd_s _ _ _
theorem n_xx (a c : Int32) : (a ^^^ c) ^^^ c = a := b_ext fun i _ => by
  rw [b_xor, b_xor]
  cases bt a i <;> cases bt c i <;> rfl
theorem n_v5 : ∀ w : Fin 32, ∀ p : Fin 5, (∃ c : Fin 6, fJ6_bitCount_0f7a4 ((nI w.val) ^^^ ((1 : Int32) <<< ((nI p.val) &&& 31))) = nI c.val) ∧
    (fJ6_bitCount_0f7a4 (nI w.val) = fJ6_bitCount_0f7a4 ((nI w.val) ^^^ ((1 : Int32) <<< ((nI p.val) &&& 31))) + 1 ∨ fJ6_bitCount_0f7a4 (nI w.val) = fJ6_bitCount_0f7a4 ((nI w.val) ^^^ ((1 : Int32) <<< ((nI p.val) &&& 31))) - 1) := by decide +kernel
theorem n_vote (hI : pI σ nC nV nG) {v p : Nat} (hv : v < nV) (hp : p < 5) : (∃ c1 : Nat, c1 < 6 ∧ fJ6_bitCount_0f7a4 ((σ 8 v) ^^^ ((1 : Int32) <<< ((nI p) &&& 31))) = nI c1) ∧
    (fJ6_bitCount_0f7a4 ((sgU σ 8 v ((σ 8 v) ^^^ ((1 : Int32) <<< ((nI p) &&& 31))) 8 v) ^^^ ((1 : Int32) <<< ((nI p) &&& 31))) = fJ6_bitCount_0f7a4 ((σ 8 v) ^^^ ((1 : Int32) <<< ((nI p) &&& 31))) + 1 ∨
     fJ6_bitCount_0f7a4 ((sgU σ 8 v ((σ 8 v) ^^^ ((1 : Int32) <<< ((nI p) &&& 31))) 8 v) ^^^ ((1 : Int32) <<< ((nI p) &&& 31))) = fJ6_bitCount_0f7a4 ((σ 8 v) ^^^ ((1 : Int32) <<< ((nI p) &&& 31))) - 1) ∧
    (pBan (sgU σ 8 v ((σ 8 v) ^^^ ((1 : Int32) <<< ((nI p) &&& 31)))) v = true ↔ (2 < fJ6_bitCount_0f7a4 ((σ 8 v) ^^^ ((1 : Int32) <<< ((nI p) &&& 31))) ∨ 1 < sgU σ 8 v ((σ 8 v) ^^^ ((1 : Int32) <<< ((nI p) &&& 31))) 9 v)) ∧
    sgU (sgU σ 8 v ((σ 8 v) ^^^ ((1 : Int32) <<< ((nI p) &&& 31)))) 8 v ((sgU σ 8 v ((σ 8 v) ^^^ ((1 : Int32) <<< ((nI p) &&& 31))) 8 v) ^^^ ((1 : Int32) <<< ((nI p) &&& 31))) = σ := by
  obtain ⟨-, w, hw, ew⟩ := hI.1.2.1 v hv
  obtain ⟨e, he, h9⟩ := hI.2.2.2.1 v hv
  obtain ⟨⟨c, hc⟩, h2⟩ := n_v5 ⟨w, hw⟩ ⟨p, hp⟩
  have hs : sgU σ 8 v ((σ 8 v) ^^^ ((1 : Int32) <<< ((nI p) &&& 31))) 8 v = (σ 8 v) ^^^ ((1 : Int32) <<< ((nI p) &&& 31)) := by rw [sgU_f, upd_s]
  have h99 : sgU σ 8 v ((σ 8 v) ^^^ ((1 : Int32) <<< ((nI p) &&& 31))) 9 v = nI e := by rw [sgU_n _ _ _ (by omega), h9]
  refine ⟨⟨c.val, c.isLt, by rw [ew]; exact hc⟩, by rw [hs, n_xx, ew]; exact h2, ?_, ?_⟩
  · unfold pBan fX3_isOut
    rw [h99, hs, ew, hc]
    have t1 : ((3 : Int32) ≤ nI c.val) ↔ (2 : Int32) < nI c.val := by
      have := c.isLt
      rw [show (3 : Int32) = nI 3 from rfl, show (2 : Int32) = nI 2 from rfl, nI_leI (by omega) (by omega), nI_ltI (by omega) (by omega)]
      omega
    have t2 : (nI e < (2 : Int32)) ↔ ¬ (1 : Int32) < nI e := by
      rw [show (2 : Int32) = nI 2 from rfl, show (1 : Int32) = nI 1 from rfl, nI_ltI (by omega) (by omega), nI_ltI (by omega) (by omega)]
      omega
    by_cases y1 : (3 : Int32) ≤ nI c.val
    · rw [if_pos y1]; exact ⟨fun _ => Or.inl (t1.mp y1), fun _ => rfl⟩
    · rw [if_neg y1]
      by_cases y2 : nI e < (2 : Int32)
      · rw [if_pos y2]; exact ⟨fun z => (by cases z), fun z => z.elim (fun z => absurd (t1.mpr z) y1) (fun z => absurd z (t2.mp y2))⟩
      · rw [if_neg y2]; exact ⟨fun _ => Or.inr (Classical.byContradiction fun z => y2 (t2.mpr z)), fun _ => rfl⟩
  · rw [hs, n_xx]
    funext f
    by_cases e8 : f = 8
    · subst e8
      rw [sgU_f, sgU_f]
      funext j
      by_cases ej : j = v
      · rw [ej, upd_s]
      · rw [upd_n _ _ ej, upd_n _ _ ej]
    · rw [sgU_n _ _ _ e8, sgU_n _ _ _ e8]
theorem n_voteI (hO : pOb G E o σ nC nV nG) (hI : pI σ nC nV nG) {v p : Nat} (hv : v < nV) (hp : p < 5) : pI (sgU σ 8 v ((σ 8 v) ^^^ ((1 : Int32) <<< ((nI p) &&& 31)))) nC nV nG := by
  have hs : ∀ f, f ≠ 8 → sgU σ 8 v ((σ 8 v) ^^^ ((1 : Int32) <<< ((nI p) &&& 31))) f = σ f := fun f hf => sgU_n σ v _ hf
  refine ⟨?_, ?_, ?_, ?_, ?_, ?_⟩
  · obtain ⟨i1, i2, i3, i4⟩ := hI.1
    obtain ⟨-, w, hw, ew⟩ := i2 v hv
    obtain ⟨w2, e2⟩ := x_xor5 ⟨w, hw⟩ ⟨p, hp⟩
    have e3 : (σ 8 v) ^^^ ((1 : Int32) <<< (nI p &&& 31)) = nI w2.val := by rw [ew]; exact e2
    unfold xInv
    rw [hs 1 (by omega), hs 2 (by omega), hs 3 (by omega), hs 4 (by omega), hs 6 (by omega), sgU_f, hs 9 (by omega), hs 16 (by omega), hs 17 (by omega), hs 18 (by omega), e3]
    refine ⟨i1, fun k hk => ⟨(i2 k hk).1, ?_⟩, fun k hk => ?_, i4⟩
    · by_cases hkv : k = v
      · rw [hkv, upd_s]; exact ⟨w2.val, w2.isLt, rfl⟩
      · rw [upd_n _ _ hkv]; exact (i2 k hk).2
    · rw [upd_n _ _ (by omega)]; exact i3 k hk
  · rw [hs 7 (by omega)]; exact hI.2.1
  · exact pB_of (fun f hf => hs f (by omega)) (fun w _ => by rw [hs 6 (by omega)]) (Nat.le_refl _) (fun c9 h9 a9 b9 s9 _ => x_hasSame (hs 1 (by omega)) (hs 2 (by omega)) (hs 3 (by omega)) (hs 4 (by omega)) nC _ _ _ _ _) hI
  · rw [hs 9 (by omega)]; exact hI.2.2.2.1
  · rw [t_sE (hs 9 (by omega)), t_cD (hs 15 (by omega))]; exact hI.2.2.2.2.1
  · exact pF_of (fun f hf => hs f (by omega)) (Nat.le_refl _) hI
theorem n_voteT {nV p k : Nat} (h4 : nV ≤ 4) (hp : p < 5) (hk : k < pN1 nV) (hT : ¬ tX4_vote nV (nI p) (nI k) = 0) : tX4_vote nV (nI p) (nI k) = 3 ∧ nV = 0 := by
  unfold tX4_vote at hT ⊢
  rw [if_pos (p_player hp)] at hT ⊢
  rcases n_ixN hk (by omega) with ⟨-, -, h⟩ | ⟨hz, h⟩
  · rw [h] at hT; exact (hT rfl).elim
  · rw [h]; exact ⟨rfl, hz⟩
end MC9
