/-! p19's math: games begin -/
theorem b_if1 {c : Prop} [Decidable c] {x y : Nat} (h : (if c then x else y) = 0) (hy : y ≠ 0) : c ∧ x = 0 := by
  by_cases q : c
  · rw [if_pos q] at h; exact ⟨q, h⟩
  · rw [if_neg q] at h; exact absurd h hy
theorem b_if2 {t x : Nat} (h : (if t = 0 then x else t) = 0) : t = 0 ∧ x = 0 := by
  by_cases q : t = 0
  · rw [if_pos q] at h; exact ⟨q, h⟩
  · rw [if_neg q] at h; exact absurd h q
theorem b_if3 {c : Prop} [Decidable c] {x y : Nat} (h : (if c then x else y) = 0) (hx : x ≠ 0) : ¬ c ∧ y = 0 := by
  by_cases q : c
  · rw [if_pos q] at h; exact absurd h hx
  · rw [if_neg q] at h; exact ⟨q, h⟩
/-- what a game that begins has been asked -/
theorem n_begF {σ : xSg} {nC nV nG v : Nat} {a0 a1 a2 a b : Int32} (hT : tX4_begin σ nC nV nG v a0 a1 a2 a b = 0) : fX2_canHold (σ 6 v) a = true ∧ fX2_canHold (σ 6 v) b = true ∧ a &&& b = 0 ∧ fX3_isOut (σ 8 v) (σ 9 v) = false ∧ fX2_hasMove σ nC (σ 7 v) (σ 6 v) a b false = true := by
  unfold tX4_begin at hT
  obtain ⟨-, hT⟩ := b_if2 hT
  obtain ⟨-, hT⟩ := b_if2 hT
  obtain ⟨-, hT⟩ := b_if2 hT
  obtain ⟨-, hT⟩ := b_if3 hT (by omega)
  obtain ⟨q1, hT⟩ := b_if1 hT (by omega)
  obtain ⟨q2, hT⟩ := b_if1 hT (by omega)
  obtain ⟨q3, hT⟩ := b_if1 hT (by omega)
  obtain ⟨q4, hT⟩ := b_if3 hT (by omega)
  obtain ⟨-, hT⟩ := b_if3 hT (by omega)
  obtain ⟨q5, -⟩ := b_if1 hT (by omega)
  exact ⟨q1, q2, q3, Bool.eq_false_iff.mpr q4, q5⟩
theorem n_hold {h a : Int32} (hh : fX2_canHold h a = true) : ∃ m : Nat, m < 2 ^ 25 ∧ 0 < m ∧ a = nI m ∧ pS m 25 0 ≤ 6 := by
  obtain ⟨m, hm, rfl⟩ := x_holdB hh
  refine ⟨m, hm, ?_, rfl, ?_⟩
  · unfold fX2_canHold at hh
    rcases Nat.eq_zero_or_pos m with z | z
    · rw [z, if_pos (by decide)] at hh; cases hh
    · exact z
  · unfold fX2_canHold at hh
    rw [x_bcN hm] at hh
    by_cases z : (6 : Int32) < nI (pS m 25 0)
    · rw [if_pos z] at hh
      split at hh
      · cases hh
      · split at hh <;> cases hh
    · have hle := (y_count hm)
      obtain ⟨-, -, -, -, -, h25⟩ := hle
      rcases Nat.lt_or_ge 6 (pS m 25 0) with y | y
      · exact absurd (nI_lt (a := 6) y (by omega)) z
      · exact y
section MD9
variable {G : xG} {E : xE} {o nC nV nG : Nat} {σ : xSg}
theorem n_begT {nC nV nG j f s v : Nat} {a b : Int32} (h4 : nV ≤ 4) (hj : j < pN1 nV) (hf : f < 5) (hs : s < 5) (hT : ¬ tX4_begin σ nC nV nG v (nI j) (nI f) (nI s) a b = 0) : tX4_begin σ nC nV nG v (nI j) (nI f) (nI s) a b = 1 ∨ tX4_begin σ nC nV nG v (nI j) (nI f) (nI s) a b = 2 ∨ (tX4_begin σ nC nV nG v (nI j) (nI f) (nI s) a b = 3 ∧ nV = 0) := by
  rcases n_ixN hj (by omega) with ⟨-, -, h⟩ | ⟨hz, h⟩
  · have hle : tX4_begin σ nC nV nG v (nI j) (nI f) (nI s) a b ≤ 2 := by
      unfold tX4_begin
      rw [if_pos h, if_pos (p_player hf), if_pos (p_player hs)]
      repeat' split
      all_goals omega
    omega
  · refine Or.inr (Or.inr ⟨?_, hz⟩)
    unfold tX4_begin
    rw [h]; rfl
theorem t_begO (σ : xSg) (g v : Nat) (f s a b : Int32) {k : Nat} (h : k < 10 ∨ 18 < k) : sgBegin σ g v f s a b k = σ k := sgBegin_o σ g v f s a b h
theorem n_beg15 {v : Nat} {f s a b : Int32} : sgBegin σ nG v f s a b 15 nG = 0 := by
  rw [(sgBegin_s σ nG v f s a b).2.2.2.2.1, upd_s]
theorem n_begD {v : Nat} {f s a b : Int32} : dN (sgBegin σ nG v f s a b) nG = 0 := by
  unfold dN
  rw [(sgBegin_s σ nG v f s a b).2.2.2.2.2.1, upd_s]
  rfl
theorem n_begP1 {v : Nat} {f s a b : Int32} : pP1 (sgBegin σ nG v f s a b) nG = a := by
  unfold pP1
  rw [n_begD, (sgBegin_s σ nG v f s a b).2.2.2.2.2.2.1, Nat.add_zero, upd_s]
theorem n_begP {v : Nat} {f s a b : Int32} : pPc (sgBegin σ nG v f s a b) nG false = a := by
  unfold pPc
  rw [if_neg x_nf]
  exact n_begP1
theorem n_begQ1 {v : Nat} {f s a b : Int32} : pP2 (sgBegin σ nG v f s a b) nG = b := by
  unfold pP2
  rw [n_begD, (sgBegin_s σ nG v f s a b).2.2.2.2.2.2.2.1, Nat.add_zero, upd_s]
theorem n_begQ {v : Nat} {f s a b : Int32} : pPc (sgBegin σ nG v f s a b) nG true = b := by
  unfold pPc
  rw [if_pos rfl]
  exact n_begQ1
theorem n_begB {v : Nat} {f s a b : Int32} {a0 a1 a2 : Int32} (hT : tX4_begin σ nC nV nG v a0 a1 a2 a b = 0) : pBan (sgBegin σ nG v f s a b) v = false := by
  unfold pBan
  rw [t_begO σ nG v f s a b (by omega), t_begO σ nG v f s a b (by omega)]
  exact (n_begF hT).2.2.2.1
theorem n_beg11 {v : Nat} {f s a b : Int32} : sgBegin σ nG v f s a b 11 nG = nI v := by
  rw [(sgBegin_s σ nG v f s a b).1, upd_s]
theorem n_beg11n {v : Nat} {f s a b : Int32} : ∀ j, j < nG → sgBegin σ nG v f s a b 11 j = σ 11 j := by
  intro j hj
  rw [(sgBegin_s σ nG v f s a b).1, upd_n _ _ (by omega)]
theorem n_beg12 {v : Nat} {f s a b : Int32} : sgBegin σ nG v f s a b 12 nG = σ 7 v := by
  rw [(sgBegin_s σ nG v f s a b).2.1, upd_s]
theorem n_sec0 : fX1_isSecondToMove (nI 0) = false := by decide
theorem n_begOwn {v : Nat} {f s a b : Int32} : pOwn (sgBegin σ nG v f s a b) nG = a ∧ pOth (sgBegin σ nG v f s a b) nG = b ∧ pSec (sgBegin σ nG v f s a b) nG = false := by
  have h1 : pP1 (sgBegin σ nG v f s a b) nG = a := n_begP1
  have h2 : pP2 (sgBegin σ nG v f s a b) nG = b := n_begQ1
  unfold pOwn pOth pSec fX1_ofMover fX1_ofWaiting
  rw [n_begD, n_sec0, if_neg x_nf, if_neg x_nf, h1, h2]
  exact ⟨rfl, rfl, rfl⟩
theorem n_begVN {v : Nat} {f s a b : Int32} (hv : v < 5) : vN (sgBegin σ nG v f s a b) nG = v := by
  unfold vN
  rw [n_beg11]
  exact nI_clamp (by omega)
theorem n_begX (hO : pOb G E o σ nC nV nG) (hI : pI σ nC nV nG) {v f s : Nat} {a b : Int32} (hv : v < nV) (hT : tX4_begin σ nC nV nG v (nI v) (nI f) (nI s) a b = 0) : ∃ j, j < 625 ∧ bt a (j / 25) = true ∧ pCan (sgBegin σ nG v (nI f) (nI s) a b) nC nG (nI (j / 25)) (nI (j % 25)) = true := by
  obtain ⟨q1, q2, q3, q4, q5⟩ := n_begF hT
  obtain ⟨F, T, hF, hT2, hb⟩ := e_move q5
  have hv4 := hO.nums.2.2.2.2.1
  refine ⟨25 * F + T, by omega, ?_, ?_⟩
  · rw [show (25 * F + T) / 25 = F by omega]
    exact e_own hF hb
  · rw [show (25 * F + T) / 25 = F by omega, show (25 * F + T) % 25 = T by omega]
    have h1 : pP1 (sgBegin σ nG v (nI f) (nI s) a b) nG = a := n_begP1
    have h2 : pP2 (sgBegin σ nG v (nI f) (nI s) a b) nG = b := n_begQ1
    have o : ∀ k, k < 10 ∨ 18 < k → sgBegin σ nG v (nI f) (nI s) a b k = σ k := fun k hk => t_begO σ nG v (nI f) (nI s) a b hk
    have hg : ∀ k, k < nC → xGc (sgBegin σ nG v (nI f) (nI s) a b) k := fun k hk => by
      unfold xGc
      rw [o 1 (by omega), o 2 (by omega), o 3 (by omega), o 4 (by omega)]
      exact hI.1.1 k hk
    unfold pCan
    rw [h1, h2, n_begD, n_beg12, n_begVN (by omega), n_beg15, o 6 (by omega), x_allows hO.nums.2.2.2.1 hg hF hT2, if_pos rfl]
    unfold xEn
    rw [x_ends2Same (o 1 (by omega)) (o 2 (by omega)) (o 3 (by omega)) (o 4 (by omega))]
    unfold fX1_ofMover fX1_ofWaiting
    rw [n_sec0, if_neg x_nf, if_neg x_nf]
    exact hb
theorem n_begI (hO : pOb G E o σ nC nV nG) (hI : pI σ nC nV nG) {v f s : Nat} {a b : Int32} (hv : v < nV) (hf : f < 5) (hs : s < 4) (hT : tX4_begin σ nC nV nG v (nI v) (nI f) (nI ((f + 1 + s) % 5)) a b = 0) (h12 : nG < 12) : pI (sgBegin σ nG v (nI f) (nI ((f + 1 + s) % 5)) a b) nC nV (nG + 1) := by
  obtain ⟨q1, q2, q3, q4, q5⟩ := n_begF hT
  obtain ⟨m3, l3, p3, e3, c3⟩ := n_hold q1
  obtain ⟨m4, l4, p4, e4, c4⟩ := n_hold q2
  have hv4 := hO.nums.2.2.2.2.1
  have o : ∀ k, k < 10 ∨ 18 < k → sgBegin σ nG v (nI f) (nI ((f + 1 + s) % 5)) a b k = σ k := fun k hk => t_begO σ nG v _ _ a b hk
  obtain ⟨s11, s12, s13, s14, s15, s16, s17, s18, -⟩ := sgBegin_s σ nG v (nI f) (nI ((f + 1 + s) % 5)) a b
  have hm : ∀ (S h a b : Int32) (z : Bool), fX2_hasMove (sgBegin σ nG v (nI f) (nI ((f + 1 + s) % 5)) a b) nC S h a b z = fX2_hasMove σ nC S h a b z := fun S h a' b' z => x_hasSame rfl rfl rfl rfl nC S h a' b' z
  refine ⟨?_, ?_, ?_, ?_, ?_, ?_⟩
  · obtain ⟨i1, i2, i3, i4⟩ := hI.1
    unfold xInv
    rw [o 1 (by decide), o 2 (by decide), o 3 (by decide), o 4 (by decide), o 6 (by decide), o 8 (by decide), o 9 (by decide), s16, s17, s18]
    refine ⟨i1, i2, i3, fun u hu d hd hd60 j hj => ?_⟩
    by_cases hun : u = nG
    · subst hun
      rw [upd_s] at hd
      have hd0 : 0 = d := (nI_eq (a := 0) (b := d) (by omega) (by omega)).mp hd
      have hj0 : j = 0 := by omega
      subst hj0
      refine ⟨m3, m4, l3, l4, ?_, ?_⟩
      · rw [Nat.add_zero, upd_s, e3]
      · rw [Nat.add_zero, upd_s, e4]
    · rw [upd_n _ _ hun] at hd
      rw [upd_n _ _ (by omega), upd_n _ _ (by omega)]
      exact i4 u (by omega) d hd hd60 j hj
  · rw [o 7 (by decide)]; exact hI.2.1
  · intro u hu
    by_cases hun : u = nG
    · subst hun
      obtain ⟨w1, w2, w3⟩ := n_begOwn (σ := σ) (nG := u) (v := v) (f := nI f) (s := nI ((f + 1 + s) % 5)) (a := a) (b := b)
      have h1 : pP1 (sgBegin σ u v (nI f) (nI ((f + 1 + s) % 5)) a b) u = a := n_begP1
      have h2 : pP2 (sgBegin σ u v (nI f) (nI ((f + 1 + s) % 5)) a b) u = b := n_begQ1
      have h15 : sgBegin σ u v (nI f) (nI ((f + 1 + s) % 5)) a b 15 u = 0 := n_beg15
      have hM : pMv (sgBegin σ u v (nI f) (nI ((f + 1 + s) % 5)) a b) nC u = true := by
        unfold pMv
        rw [w1, w2, w3, n_beg12, n_begVN (by omega), o 6 (by decide), hm]
        exact q5
      obtain ⟨c9, -, hc2, hc3⟩ := hI.2.1 v hv
      unfold pGi
      rw [h15, h1, h2, hM, n_beg12]
      refine ⟨Or.inl rfl, ⟨c9, hc2, hc3⟩, ⟨m3, m4, l3, l4, e3, e4, c3, c4, ?_, fun z => absurd z (by omega), fun z => absurd z (by omega)⟩, fun _ => rfl, fun z => absurd z (by decide), fun z => absurd z (by decide)⟩
      rw [e3, e4, nx_and] at q3
      exact (nI_eq (b := 0) (Nat.lt_of_le_of_lt Nat.and_le_left (by omega)) (by omega)).mp q3
    · have hu2 : u < nG := by omega
      obtain ⟨d, w, hg, hw, -, hd, hvN⟩ := n_gm hI hu2
      have hd6 := hg.2.2.1
      have e1 : dN (sgBegin σ nG v (nI f) (nI ((f + 1 + s) % 5)) a b) u = dN σ u := by unfold dN; rw [s16, upd_n _ _ hun]
      have e2 : vN (sgBegin σ nG v (nI f) (nI ((f + 1 + s) % 5)) a b) u = vN σ u := by unfold vN; rw [s11, upd_n _ _ hun]
      refine pGi_same e1 ?_ ?_ e2 (by rw [s12, upd_n _ _ hun]) (by rw [s15, upd_n _ _ hun]) (by rw [o 6 (by decide)]) (Nat.le_refl _) (fun a' b' z => hm _ _ a' b' z) (hI.2.2.1 u hu2)
      · unfold pP1
        rw [e1, s17, upd_n _ _ (by omega)]
      · unfold pP2
        rw [e1, s18, upd_n _ _ (by omega)]
  · rw [o 9 (by decide)]; exact hI.2.2.2.1
  · rw [t_sE (o 9 (by decide)), cD]
    have h1 := u_cD s15 nG
    rw [if_neg (fun z => Nat.lt_irrefl _ z.1), if_neg (fun z => Nat.lt_irrefl _ z.1)] at h1
    have h2 := hI.2.2.2.2.1
    omega
  · intro u hu
    by_cases hun : u = nG
    · subst hun
      refine ⟨0, v, ⟨h12, ?_, by omega, n_beg11, by omega⟩, hv, fun _ => by omega⟩
      rw [s16, upd_s]; rfl
    · obtain ⟨d, w, hg, hw, h0⟩ := hI.2.2.2.2.2 u (by omega)
      refine ⟨d, w, ?_, hw, by rw [s15, upd_n _ _ hun]; exact h0⟩
      unfold xGm
      rw [s16, s11, upd_n _ _ hun, upd_n _ _ hun]
      exact hg
end MD9
