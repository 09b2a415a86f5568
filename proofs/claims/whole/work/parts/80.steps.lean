theorem xMi_of {G : xG} {E : xE} {o : Nat} {ct vt gt : Nat} {tb vb gb : Nat → Option Nat} {sa : Nat → Nat} {nC nV nG : Nat} {σ : xSg} (h : xCls G E o ct vt gt tb vb gb sa nC nV nG σ) : xMi σ nC nV nG := by
  obtain ⟨hE, h0, h5, h10, hT, hV, hGs⟩ := h
  refine ⟨⟨h0, hT.2.1, fun k hk => ?_⟩, h5, hV.2.1, h10, hGs.2.1, fun u hu => ?_⟩
  · obtain ⟨ca, r, -, -, hr, h4⟩ := hT.2.2.2 k hk
    exact ⟨r, hr, h4⟩
  · obtain ⟨ga, hga, va, gr, v, d, sq, hG1, h16, h60, h11, hvl, hvb, hGr, hSn, hsq, hop⟩ := hGs.2.2.2.1 u hu
    exact ⟨d, v, ⟨by have := hGs.2.1; omega, h16, h60, h11, by have := hV.2.1; omega⟩, hvl, hop⟩
theorem xMod.fr {G : xG} {E E1 : xE} {o : Nat} {A : Nat → Nat} {σ : xSg} (h : xMod G E o A σ) (f : xFr tC E E1) : xMod G E1 o A σ := by
  obtain ⟨h0, h1, h2, h3, h4, h6, h7, h8, h9, h11, h12, h13, h14, h15, h16, h17, h18⟩ := h
  exact ⟨f _ _ h0 rfl, f _ _ h1 rfl, f _ _ h2 rfl, f _ _ h3 rfl, f _ _ h4 rfl, f _ _ h6 rfl, f _ _ h7 rfl, f _ _ h8 rfl, f _ _ h9 rfl, f _ _ h11 rfl, f _ _ h12 rfl, f _ _ h13 rfl, f _ _ h14 rfl, f _ _ h15 rfl, f _ _ h16 rfl, f _ _ h17 rfl, f _ _ h18 rfl⟩
/-- the long row of one isn't of either -/
def tO : va_E → Bool
  | .inl (_, n, .inr (.inl _)) => n == 1
  | _ => false
theorem xMod.frO {G : xG} {E E1 : xE} {o : Nat} {A : Nat → Nat} {σ : xSg} (h : xMod G E o A σ) (f : xFr tO E E1) : xMod G E1 o A σ := by
  obtain ⟨h0, h1, h2, h3, h4, h6, h7, h8, h9, h11, h12, h13, h14, h15, h16, h17, h18⟩ := h
  exact ⟨f _ _ h0 rfl, f _ _ h1 rfl, f _ _ h2 rfl, f _ _ h3 rfl, f _ _ h4 rfl, f _ _ h6 rfl, f _ _ h7 rfl, f _ _ h8 rfl, f _ _ h9 rfl, f _ _ h11 rfl, f _ _ h12 rfl, f _ _ h13 rfl, f _ _ h14 rfl, f _ _ h15 rfl, f _ _ h16 rfl, f _ _ h17 rfl, f _ _ h18 rfl⟩
/-- the class's cells stay where only others change -/
theorem xCls.fr {G : xG} {T : va_E → Bool} (hT : ∀ e, tC e = true → T e = false) {E E1 : xE} {o : Nat} {ct vt gt : Nat} {tb vb gb : Nat → Option Nat} {sa : Nat → Nat} {nC nV nG : Nat} {σ : xSg} (h : xCls G E o ct vt gt tb vb gb sa nC nV nG σ) (f : xFr T E E1) : xCls G E1 o ct vt gt tb vb gb sa nC nV nG σ := by
  have g : ∀ (b : Nat) (e : va_E), E b = some e → tC e = true → E1 b = some e := fun b e hb ht => f b e hb (hT e ht)
  obtain ⟨hE, h0, h5, h10, hT, hV, hGs⟩ := h
  have hT2 : xCardsAt G E1 ct tb nC σ := by
    obtain ⟨a1, a2, a3, a4⟩ := hT
    refine ⟨g _ _ a1 rfl, a2, a3, fun j hj => ?_⟩
    obtain ⟨ca, r, d1, d2, d3, d4⟩ := a4 j hj
    exact ⟨ca, r, d1, g _ _ d2 rfl, d3, d4⟩
  refine ⟨g _ _ hE rfl, h0, h5, h10, hT2, ⟨g _ _ hV.1 rfl, hV.2.1, hV.2.2.1, fun v hv => ?_, hV.2.2.2.2⟩, ⟨g _ _ hGs.1 rfl, hGs.2.1, hGs.2.2.1, fun u hu => ?_, hGs.2.2.2.2⟩⟩
  · obtain ⟨va, vr, q1, q2, q3⟩ := hV.2.2.2.1 v hv
    exact ⟨va, vr, q1, g _ _ q2 rfl, g _ _ q3 rfl⟩
  · obtain ⟨ga, hga, va, gr, v, d, sq, hG1, h16, h60, h11, hvl, hvb, hGr, hSn, hsq, hop⟩ := hGs.2.2.2.1 u hu
    exact ⟨ga, hga, va, gr, v, d, sq, g _ _ hG1 rfl, h16, h60, h11, hvl, hvb, g _ _ hGr rfl, g _ _ hSn rfl, hsq, hop⟩
theorem tC_tM : ∀ e, tC e = true → tM e = false
  | .inr (n, _), h => by
    show (n == 5) = false
    have : n < 5 := of_decide_eq_true h
    exact beq_false_of_ne (by omega)
  | .inl (_, _, .inl _), h => by cases h
  | .inl (_, _, .inr (.inl _)), _ => rfl
  | .inl (_, _, .inr (.inr _)), _ => rfl
theorem tC_tO : ∀ e, tC e = true → tO e = false
  | .inr (n, _), h => rfl
  | .inl (_, _, .inl _), h => rfl
  | .inl (_, n, .inr (.inl _)), h => by
    show (n == 1) = false
    have : n = 61 := by simpa [tC] using h
    rw [this]; rfl
  | .inl (_, _, .inr (.inr _)), _ => rfl
/-- both of a state, and the row of one long -/
def xLs (G : xG) (E : xE) (o1 o2 oa : Nat) : Prop := ∃ (σ : xSg) (t : Nat) (f : Nat → Int64), xLc G E o1 σ ∧ xMd G E o2 σ t ∧ E oa = some (.inl (G.2.1 1, 1, .inr (.inl f)))
theorem x_blind2 {G : xG} {E : xE} {av : List Value} : FrameBlind (va_Pc av (xB2 G E)) := fun a U g mk h => ⟨h.1, ⟨h.2.1.1.same (U := U.calling g mk a) rfl rfl, h.2.1.2⟩, h.2.2⟩
theorem x_preS2 {s : State} {H : Heap} {locs : List Loc} {G : xG} {E : xE} {As : List Value} (hX : xS G s) (hN : xNc s) (hS : va_S (xA G) s.heap H locs) (hW : xW G E H) : PreS s H (va_Pc As (xB2 G E)) As :=
  ⟨x_blind2, fun U hU hw => ⟨rfl, ⟨hX.go hS hU hw, by rw [hU]; exact hW⟩, hN.moved hw.alike⟩⟩
theorem x_cmp (x : Int64) : lg_cmp x x = 0 := by
  unfold lg_cmp
  simp

theorem x_ai1 (i : Nat) : nI i + 1 = nI (i + 1) := by rw [show (1 : Int32) = nI 1 from rfl, nI_add]
theorem x_ai2 (i : Nat) : nI i + 2 = nI (i + 2) := by rw [show (2 : Int32) = nI 2 from rfl, nI_add]
theorem x_ai3 (i : Nat) : nI i + 3 = nI (i + 3) := by rw [show (3 : Int32) = nI 3 from rfl, nI_add]
theorem x_ai4 (i : Nat) : nI i + 4 = nI (i + 4) := by rw [show (4 : Int32) = nI 4 from rfl, nI_add]
theorem x_ai5 (i : Nat) : nI i + 5 = nI (i + 5) := by rw [show (5 : Int32) = nI 5 from rfl, nI_add]
set_option maxHeartbeats 4000000 in
set_option maxRecDepth 100000 in
theorem law_card {p : Program} {l : Launch} {e : Env} {s : State} {m : MethodId} {b : Nat} {below : List Frame} {meth : Method} {c : Code} {H : Heap} {locs : List Loc} {cells slots : Nat} {Q : State → Prop} {ls : Array Slot} (hl9 : l.stackTraces = false) (hx : p.tables.exec = Jvm.exec) (hb : c.code = cL_law) (hml : c.maxLocals = 7) (hown : s.vm.findClass RL = some m.cls) (hts : ∀ w ∈ wsL_law, w.before #[Value.ref b] s = true) {G : xG} (hX : xS G s) (hNc : xNc s) {L : Nat} {xs : Nat → Int32} (hXs : va_X b L xs s s.heap) (hbl : b < s.heap.size) (hbA : ¬ xA G b) {i : Nat} (hi : i + 6 ≤ L) (hL : L ≤ 3072) (hcn : cells + 5 ≤ 601024) (hsn : slots + 88 ≤ 7293034) {E : xE} {o1 o2 oa : Nat} (hLs : xLs G E o1 o2 oa) (hW : xW G E H) (hS : va_S (xA G) s.heap H locs) (hl : lv_has ls 7 [(0, .ref b), (1, .ref o1), (2, .ref o2), (3, .ref oa), (4, .int (nI i))]) (kk : ∀ (H1 : Heap) (locs1 : List Loc) (ls1 : Array Slot) (E1 : xE), xLs G E1 o1 o2 oa → xW G E1 H1 → va_S (xA G) s.heap H1 locs1 → lv_has ls1 7 [(0, .ref b), (1, .ref o1), (2, .ref o2), (3, .ref oa), (4, .int (nI i))] → W p l e room_1 s m #[Value.ref b] below meth c H1 locs1 (cells + 5) (slots + 88) Q (F0 m 1293 ls1 [])) : W p l e room_1 s m #[Value.ref b] below meth c H locs cells slots Q (F0 m 120 ls []) := by
  obtain ⟨σ, t0, f, ⟨ct, vt, gt, tb, vb, gb, sa, nC, nV, nG, hCls, hInv⟩, ⟨A, hM, hA, hA19⟩, hoa⟩ := hLs
  refine lv_aload_n hx hb dL_law_120 rfl (lv_at hl 1 rfl) ?_
  refine lv_aload_n hx hb dL_law_121 rfl (lv_at hl 0 rfl) ?_
  refine lv_iload hx hb dL_law_122 (lv_at hl 4 rfl) ?_
  refine lv_iconst (v := 1) hx hb dL_law_124 (by decide) ?_
  refine lv_iadd hx hb dL_law_125 ?_
  rw [x_ai1]
  refine va_sld hx hb hXs hbl hbA hS (vp_in_nI (show i + 1 < L by omega) (by omega)) dL_law_126 ?_
  rw [nI_clamp (show i + 1 < 2 ^ 31 by omega)]
  refine lv_aload_n hx hb dL_law_127 rfl (lv_at hl 0 rfl) ?_
  refine lv_iload hx hb dL_law_128 (lv_at hl 4 rfl) ?_
  refine lv_iconst (v := 2) hx hb dL_law_130 (by decide) ?_
  refine lv_iadd hx hb dL_law_131 ?_
  rw [x_ai2]
  refine va_sld hx hb hXs hbl hbA hS (vp_in_nI (show i + 2 < L by omega) (by omega)) dL_law_132 ?_
  rw [nI_clamp (show i + 2 < 2 ^ 31 by omega)]
  refine lv_aload_n hx hb dL_law_133 rfl (lv_at hl 0 rfl) ?_
  refine lv_iload hx hb dL_law_134 (lv_at hl 4 rfl) ?_
  refine lv_iconst (v := 3) hx hb dL_law_136 (by decide) ?_
  refine lv_iadd hx hb dL_law_137 ?_
  rw [x_ai3]
  refine va_sld hx hb hXs hbl hbA hS (vp_in_nI (show i + 3 < L by omega) (by omega)) dL_law_138 ?_
  rw [nI_clamp (show i + 3 < 2 ^ 31 by omega)]
  refine lv_aload_n hx hb dL_law_139 rfl (lv_at hl 0 rfl) ?_
  refine lv_iload hx hb dL_law_140 (lv_at hl 4 rfl) ?_
  refine lv_iconst (v := 4) hx hb dL_law_142 (by decide) ?_
  refine lv_iadd hx hb dL_law_143 ?_
  rw [x_ai4]
  refine va_sld hx hb hXs hbl hbA hS (vp_in_nI (show i + 4 < L by omega) (by omega)) dL_law_144 ?_
  rw [nI_clamp (show i + 4 < 2 ^ 31 by omega)]
  refine lv_aload_n hx hb dL_law_145 rfl (lv_at hl 3 rfl) ?_
  refine vx_calli (vx_runSX (As := [.ref o1, .int (xs (i + 1)), .int (xs (i + 2)), .int (xs (i + 3)), .int (xs (i + 4)), .ref oa]) (rest := []) ⟨hx, hb, hml, hown, hts⟩ (kL_card l hl9 G E o1 (xs (i + 1)) (xs (i + 2)) (xs (i + 3)) (xs (i + 4)) oa ct vt gt tb vb gb sa nC nV nG σ hCls f hoa) (vx_cwSW 6 hts gL_law_L_card rfl rfl rfl (by decide +kernel) ⟨Nat.le_of_ble_eq_true rfl, Nat.le_of_ble_eq_true rfl⟩) (x_preS2 hX hNc hS hW) rfl rfl hl.1 rfl (lv_room (Nat.le_of_ble_eq_true rfl)) dL_law_146 ⟨by show _ ≤ 601024; omega, by show _ ≤ 7293034; omega⟩) hS (fun _ _ h => h) (fun _ h => h) (fun _ _ h => h) (fun Ex ce q9 ux t H1 locs1 ht hvm hpx hB hz1 hk1 hS1 hce hcv hcl => hB.1.elim) (fun r5 E1 t H1 locs1 ht hvm hpost hB hz1 hk1 hS1 => ?_)
  rw [ht] at hB
  have hW : xW G E1 H1 := hB
  have hS := hS1
  rcases hpost with ⟨rfl, r1, Ec, hP, hE1⟩ | ⟨hT9, hE1⟩
  · obtain ⟨hm, hLc, hFc⟩ := m_card hInv hCls hP
    have hFo : xFr tO Ec E1 := by rw [hE1]; exact xFr_put xFr_rf (hFc _ _ hoa rfl) rfl _
    have hM1 : xMod G E1 o2 A σ := (hM.fr hFc).frO hFo
    have hoa1 : E1 oa = some (.inl (G.2.1 1, 1, .inr (.inl (vp_updL f 0 (r1.toInt64))))) := by rw [hE1]; exact xU_self _ _ _
    refine lv_istore (lv' := [(5, .int 0), (0, .ref b), (1, .ref o1), (2, .ref o2), (3, .ref oa), (4, .int (nI i))]) hx hb dL_law_149 hl (by decide) rfl (fun ls hl => ?_)
    refine lv_aload_n hx hb dL_law_151 rfl (lv_at hl 3 rfl) ?_
    refine lv_aload_n hx hb dL_law_152 rfl (lv_at hl 1 rfl) ?_
    refine lv_iload hx hb dL_law_153 (lv_at hl 5 rfl) ?_
    refine lv_iconst (v := 1) hx hb dL_law_155 (by decide) ?_
    refine lv_iadd hx hb dL_law_156 ?_
    rw [x_ai1]
    refine va_sld hx hb hXs hbl hbA hS (vp_in_nI (show i + 1 < L by omega) (by omega)) dL_law_157 ?_
    rw [nI_clamp (show i + 1 < 2 ^ 31 by omega)]
    refine lv_aload_n hx hb dL_law_158 rfl (lv_at hl 1 rfl) ?_
    refine lv_iload hx hb dL_law_159 (lv_at hl 5 rfl) ?_
    refine lv_iconst (v := 2) hx hb dL_law_161 (by decide) ?_
    refine lv_iadd hx hb dL_law_162 ?_
    rw [x_ai2]
    refine va_sld hx hb hXs hbl hbA hS (vp_in_nI (show i + 2 < L by omega) (by omega)) dL_law_163 ?_
    rw [nI_clamp (show i + 2 < 2 ^ 31 by omega)]
    refine lv_aload_n hx hb dL_law_164 rfl (lv_at hl 1 rfl) ?_
    refine lv_iload hx hb dL_law_165 (lv_at hl 5 rfl) ?_
    refine lv_iconst (v := 3) hx hb dL_law_167 (by decide) ?_
    refine lv_iadd hx hb dL_law_168 ?_
    rw [x_ai3]
    refine va_sld hx hb hXs hbl hbA hS (vp_in_nI (show i + 3 < L by omega) (by omega)) dL_law_169 ?_
    rw [nI_clamp (show i + 3 < 2 ^ 31 by omega)]
    refine lv_aload_n hx hb dL_law_170 rfl (lv_at hl 1 rfl) ?_
    refine lv_iload hx hb dL_law_171 (lv_at hl 5 rfl) ?_
    refine lv_iconst (v := 4) hx hb dL_law_173 (by decide) ?_
    refine lv_iadd hx hb dL_law_174 ?_
    rw [x_ai4]
    refine va_sld hx hb hXs hbl hbA hS (vp_in_nI (show i + 4 < L by omega) (by omega)) dL_law_175 ?_
    rw [nI_clamp (show i + 4 < 2 ^ 31 by omega)]
    refine va_calli (va_runV (As := [.int (xs (i + 1)), .int (xs (i + 2)), .int (xs (i + 3)), .int (xs (i + 4))]) (rest := []) ⟨hx, hb, hml, hown, hts⟩ (kX5_card l G E1 σ o2 (xs (i + 1)) (xs (i + 2)) (xs (i + 3)) (xs (i + 4)) A hM1 hA nC nV nG (xMi_of hCls)) (cwV 4 hts gL_law_X5_card rfl rfl rfl (by decide +kernel) ⟨Nat.le_of_ble_eq_true rfl, Nat.le_of_ble_eq_true rfl⟩) (x_preV hX hS hW hM1.1 rfl) rfl rfl hl.1 rfl (lv_room (Nat.le_of_ble_eq_true rfl)) dL_law_176 ⟨by show _ ≤ 601024; omega, by show _ ≤ 7293034; omega⟩) hS (fun _ _ h => h) (fun _ h => h) (fun r6 E2 t H2 locs2 ht hvm hpost2 hB hz1 hk1 hS2 => ?_)
    rw [ht] at hB
    have hW : xW G E2 H2 := hB
    have hS := hS2
    obtain ⟨q, hq, hr6, hMd2, hFr2⟩ := hpost2
    have hq2 := hq.symm.trans hm
    subst hq2
    have hr6 : r6 = r1 := hr6
    subst hr6
    have hMd3 : xMd G E2 o2 (sgCard σ nC (xs (i + 1)) (xs (i + 2)) (xs (i + 3)) (if (xs (i + 1)) = 0 then (1 : Int32) else (xs (i + 4)))) 0 := hMd2
    obtain ⟨A2, hM2, hA2, ht2⟩ := hMd3
    have hoa2 : E2 oa = some (.inl (G.2.1 1, 1, .inr (.inl (vp_updL f 0 (r6.toInt64))))) := hFr2 _ _ hoa1 rfl
    refine lv_istore (lv' := [(6, .int r6), (5, .int 0), (0, .ref b), (1, .ref o1), (2, .ref o2), (3, .ref oa), (4, .int (nI i))]) hx hb dL_law_179 hl (by decide) rfl (fun ls hl => ?_)
    refine lv_aload_n hx hb dL_law_181 rfl (lv_at hl 4 rfl) ?_
    refine x_callSe (va_runV (As := []) (rest := []) ⟨hx, hb, hml, hown, hts⟩ (kX5_thrown l G E2 A2 o2 _ hM2) (cwV 0 hts gL_law_X5_thrown rfl rfl rfl (by decide +kernel) ⟨Nat.le_of_ble_eq_true rfl, Nat.le_of_ble_eq_true rfl⟩) (x_preV hX hS hW hM2.1 rfl) rfl rfl hl.1 rfl (lv_room (Nat.le_of_ble_eq_true rfl)) dL_law_182 ⟨by show _ ≤ 601024; omega, by show _ ≤ 7293034; omega⟩) ?_
    rw [show fX5_thrown A2 = (0 : Int32) from by unfold fX5_thrown; rw [ht2]; rfl]
    refine lv_iload hx hb dL_law_185 (lv_at hl 1 rfl) ?_
    refine lv_icmp_eq (tgt := 192) hx hb dL_law_187 (by decide) (fun _ => ?_) (fun c9 => absurd (by decide) c9)
    refine lv_iload hx hb dL_law_192 (lv_at hl 1 rfl) ?_
    refine lv_if_ne (tgt := 209) hx hb dL_law_194 (by decide) (fun c9 => absurd (by decide) c9) (fun _ => ?_)
    refine lv_aload_n hx hb dL_law_197 rfl (lv_at hl 5 rfl) ?_
    refine lv_iconst (v := 0) hx hb dL_law_198 (by decide) ?_
    refine x_lld (k := 0) hx hb hX.1 hW hoa2 (show vp_in (nI 0) 1 from vp_in_nI (by omega) (by omega)) rfl dL_law_199 ?_
    rw [show vp_updL f 0 (r6.toInt64) 0 = r6.toInt64 from rfl]
    refine lv_iload hx hb dL_law_200 (lv_at hl 0 rfl) ?_
    refine lv_i2l (v := r6.toInt64) hx hb dL_law_202 rfl ?_
    refine W.lcmp hx hb dL_law_203 ?_
    rw [x_cmp]
    refine lv_if_eq (tgt := 209) hx hb dL_law_204 (by decide) (fun _ => ?_) (fun c9 => absurd (by decide) c9)
    refine lv_goto (tgt := 1293) hx hb dL_law_209 (by decide) ?_
    obtain ⟨ct2, vt2, gt2, tb2, vb2, gb2, sa2, nC2, nV2, nG2, hC2, hI2⟩ := hLc
    exact W.widen (by omega) (by omega) (kk _ _ ls E2 ⟨_, _, _, ⟨ct2, vt2, gt2, tb2, vb2, gb2, sa2, nC2, nV2, nG2, (hC2.fr tC_tO hFo).fr tC_tM hFr2, hI2⟩, ⟨A2, hM2, hA2, rfl⟩, hoa2⟩ hW hS (lv_sub hl [2, 3, 4, 5, 6] rfl))
  · rcases hT9 with ⟨rfl, hT9⟩ | ⟨rfl, hT9⟩
    · have hm := m_card_1 (a0 := xs (i + 1)) (a1 := xs (i + 2)) (a2 := xs (i + 3)) (a3 := xs (i + 4)) hInv hCls hT9
      have hM1 : xMod G E1 o2 A σ := by rw [hE1]; exact hM
      have hoa1 : E1 oa = some (.inl (G.2.1 1, 1, .inr (.inl f))) := by rw [hE1]; exact hoa
      refine lv_istore (lv' := [(5, .int 1), (0, .ref b), (1, .ref o1), (2, .ref o2), (3, .ref oa), (4, .int (nI i))]) hx hb dL_law_149 hl (by decide) rfl (fun ls hl => ?_)
      refine lv_aload_n hx hb dL_law_151 rfl (lv_at hl 3 rfl) ?_
      refine lv_aload_n hx hb dL_law_152 rfl (lv_at hl 1 rfl) ?_
      refine lv_iload hx hb dL_law_153 (lv_at hl 5 rfl) ?_
      refine lv_iconst (v := 1) hx hb dL_law_155 (by decide) ?_
      refine lv_iadd hx hb dL_law_156 ?_
      rw [x_ai1]
      refine va_sld hx hb hXs hbl hbA hS (vp_in_nI (show i + 1 < L by omega) (by omega)) dL_law_157 ?_
      rw [nI_clamp (show i + 1 < 2 ^ 31 by omega)]
      refine lv_aload_n hx hb dL_law_158 rfl (lv_at hl 1 rfl) ?_
      refine lv_iload hx hb dL_law_159 (lv_at hl 5 rfl) ?_
      refine lv_iconst (v := 2) hx hb dL_law_161 (by decide) ?_
      refine lv_iadd hx hb dL_law_162 ?_
      rw [x_ai2]
      refine va_sld hx hb hXs hbl hbA hS (vp_in_nI (show i + 2 < L by omega) (by omega)) dL_law_163 ?_
      rw [nI_clamp (show i + 2 < 2 ^ 31 by omega)]
      refine lv_aload_n hx hb dL_law_164 rfl (lv_at hl 1 rfl) ?_
      refine lv_iload hx hb dL_law_165 (lv_at hl 5 rfl) ?_
      refine lv_iconst (v := 3) hx hb dL_law_167 (by decide) ?_
      refine lv_iadd hx hb dL_law_168 ?_
      rw [x_ai3]
      refine va_sld hx hb hXs hbl hbA hS (vp_in_nI (show i + 3 < L by omega) (by omega)) dL_law_169 ?_
      rw [nI_clamp (show i + 3 < 2 ^ 31 by omega)]
      refine lv_aload_n hx hb dL_law_170 rfl (lv_at hl 1 rfl) ?_
      refine lv_iload hx hb dL_law_171 (lv_at hl 5 rfl) ?_
      refine lv_iconst (v := 4) hx hb dL_law_173 (by decide) ?_
      refine lv_iadd hx hb dL_law_174 ?_
      rw [x_ai4]
      refine va_sld hx hb hXs hbl hbA hS (vp_in_nI (show i + 4 < L by omega) (by omega)) dL_law_175 ?_
      rw [nI_clamp (show i + 4 < 2 ^ 31 by omega)]
      refine va_calli (va_runV (As := [.int (xs (i + 1)), .int (xs (i + 2)), .int (xs (i + 3)), .int (xs (i + 4))]) (rest := []) ⟨hx, hb, hml, hown, hts⟩ (kX5_card l G E1 σ o2 (xs (i + 1)) (xs (i + 2)) (xs (i + 3)) (xs (i + 4)) A hM1 hA nC nV nG (xMi_of hCls)) (cwV 4 hts gL_law_X5_card rfl rfl rfl (by decide +kernel) ⟨Nat.le_of_ble_eq_true rfl, Nat.le_of_ble_eq_true rfl⟩) (x_preV hX hS hW hM1.1 rfl) rfl rfl hl.1 rfl (lv_room (Nat.le_of_ble_eq_true rfl)) dL_law_176 ⟨by show _ ≤ 601024; omega, by show _ ≤ 7293034; omega⟩) hS (fun _ _ h => h) (fun _ h => h) (fun r6 E2 t H2 locs2 ht hvm hpost2 hB hz1 hk1 hS2 => ?_)
      rw [ht] at hB
      have hW : xW G E2 H2 := hB
      have hS := hS2
      obtain ⟨q, hq, hr6, hMd2, hFr2⟩ := hpost2
      rw [show q.2 = 1 from (by rw [← hq]; exact hm)] at hMd2
      have hMd3 : xMd G E2 o2 σ 1 := hMd2
      obtain ⟨A2, hM2, hA2, ht2⟩ := hMd3
      have hoa2 : E2 oa = some (.inl (G.2.1 1, 1, .inr (.inl f))) := hFr2 _ _ hoa1 rfl
      refine lv_istore (lv' := [(6, .int r6), (5, .int 1), (0, .ref b), (1, .ref o1), (2, .ref o2), (3, .ref oa), (4, .int (nI i))]) hx hb dL_law_179 hl (by decide) rfl (fun ls hl => ?_)
      refine lv_aload_n hx hb dL_law_181 rfl (lv_at hl 4 rfl) ?_
      refine x_callSe (va_runV (As := []) (rest := []) ⟨hx, hb, hml, hown, hts⟩ (kX5_thrown l G E2 A2 o2 _ hM2) (cwV 0 hts gL_law_X5_thrown rfl rfl rfl (by decide +kernel) ⟨Nat.le_of_ble_eq_true rfl, Nat.le_of_ble_eq_true rfl⟩) (x_preV hX hS hW hM2.1 rfl) rfl rfl hl.1 rfl (lv_room (Nat.le_of_ble_eq_true rfl)) dL_law_182 ⟨by show _ ≤ 601024; omega, by show _ ≤ 7293034; omega⟩) ?_
      rw [show fX5_thrown A2 = (1 : Int32) from by unfold fX5_thrown; rw [ht2]; rfl]
      refine lv_iload hx hb dL_law_185 (lv_at hl 1 rfl) ?_
      refine lv_icmp_eq (tgt := 192) hx hb dL_law_187 (by decide) (fun _ => ?_) (fun c9 => absurd (by decide) c9)
      refine lv_iload hx hb dL_law_192 (lv_at hl 1 rfl) ?_
      refine lv_if_ne (tgt := 209) hx hb dL_law_194 (by decide) (fun _ => ?_) (fun c9 => absurd c9 (by decide))
      refine lv_goto (tgt := 1293) hx hb dL_law_209 (by decide) ?_
      exact W.widen (by omega) (by omega) (kk _ _ ls E2 ⟨_, _, _, ⟨ct, vt, gt, tb, vb, gb, sa, nC, nV, nG, (show xCls G E1 o1 ct vt gt tb vb gb sa nC nV nG σ from by rw [hE1]; exact hCls).fr tC_tM hFr2, hInv⟩, ⟨A2, hM2, hA2, rfl⟩, hoa2⟩ hW hS (lv_sub hl [2, 3, 4, 5, 6] rfl))
    · have hm := m_card_2 (a0 := xs (i + 1)) (a1 := xs (i + 2)) (a2 := xs (i + 3)) (a3 := xs (i + 4)) hInv hCls hT9
      have hM1 : xMod G E1 o2 A σ := by rw [hE1]; exact hM
      have hoa1 : E1 oa = some (.inl (G.2.1 1, 1, .inr (.inl f))) := by rw [hE1]; exact hoa
      refine lv_istore (lv' := [(5, .int 2), (0, .ref b), (1, .ref o1), (2, .ref o2), (3, .ref oa), (4, .int (nI i))]) hx hb dL_law_149 hl (by decide) rfl (fun ls hl => ?_)
      refine lv_aload_n hx hb dL_law_151 rfl (lv_at hl 3 rfl) ?_
      refine lv_aload_n hx hb dL_law_152 rfl (lv_at hl 1 rfl) ?_
      refine lv_iload hx hb dL_law_153 (lv_at hl 5 rfl) ?_
      refine lv_iconst (v := 1) hx hb dL_law_155 (by decide) ?_
      refine lv_iadd hx hb dL_law_156 ?_
      rw [x_ai1]
      refine va_sld hx hb hXs hbl hbA hS (vp_in_nI (show i + 1 < L by omega) (by omega)) dL_law_157 ?_
      rw [nI_clamp (show i + 1 < 2 ^ 31 by omega)]
      refine lv_aload_n hx hb dL_law_158 rfl (lv_at hl 1 rfl) ?_
      refine lv_iload hx hb dL_law_159 (lv_at hl 5 rfl) ?_
      refine lv_iconst (v := 2) hx hb dL_law_161 (by decide) ?_
      refine lv_iadd hx hb dL_law_162 ?_
      rw [x_ai2]
      refine va_sld hx hb hXs hbl hbA hS (vp_in_nI (show i + 2 < L by omega) (by omega)) dL_law_163 ?_
      rw [nI_clamp (show i + 2 < 2 ^ 31 by omega)]
      refine lv_aload_n hx hb dL_law_164 rfl (lv_at hl 1 rfl) ?_
      refine lv_iload hx hb dL_law_165 (lv_at hl 5 rfl) ?_
      refine lv_iconst (v := 3) hx hb dL_law_167 (by decide) ?_
      refine lv_iadd hx hb dL_law_168 ?_
      rw [x_ai3]
      refine va_sld hx hb hXs hbl hbA hS (vp_in_nI (show i + 3 < L by omega) (by omega)) dL_law_169 ?_
      rw [nI_clamp (show i + 3 < 2 ^ 31 by omega)]
      refine lv_aload_n hx hb dL_law_170 rfl (lv_at hl 1 rfl) ?_
      refine lv_iload hx hb dL_law_171 (lv_at hl 5 rfl) ?_
      refine lv_iconst (v := 4) hx hb dL_law_173 (by decide) ?_
      refine lv_iadd hx hb dL_law_174 ?_
      rw [x_ai4]
      refine va_sld hx hb hXs hbl hbA hS (vp_in_nI (show i + 4 < L by omega) (by omega)) dL_law_175 ?_
      rw [nI_clamp (show i + 4 < 2 ^ 31 by omega)]
      refine va_calli (va_runV (As := [.int (xs (i + 1)), .int (xs (i + 2)), .int (xs (i + 3)), .int (xs (i + 4))]) (rest := []) ⟨hx, hb, hml, hown, hts⟩ (kX5_card l G E1 σ o2 (xs (i + 1)) (xs (i + 2)) (xs (i + 3)) (xs (i + 4)) A hM1 hA nC nV nG (xMi_of hCls)) (cwV 4 hts gL_law_X5_card rfl rfl rfl (by decide +kernel) ⟨Nat.le_of_ble_eq_true rfl, Nat.le_of_ble_eq_true rfl⟩) (x_preV hX hS hW hM1.1 rfl) rfl rfl hl.1 rfl (lv_room (Nat.le_of_ble_eq_true rfl)) dL_law_176 ⟨by show _ ≤ 601024; omega, by show _ ≤ 7293034; omega⟩) hS (fun _ _ h => h) (fun _ h => h) (fun r6 E2 t H2 locs2 ht hvm hpost2 hB hz1 hk1 hS2 => ?_)
      rw [ht] at hB
      have hW : xW G E2 H2 := hB
      have hS := hS2
      obtain ⟨q, hq, hr6, hMd2, hFr2⟩ := hpost2
      rw [show q.2 = 2 from (by rw [← hq]; exact hm)] at hMd2
      have hMd3 : xMd G E2 o2 σ 2 := hMd2
      obtain ⟨A2, hM2, hA2, ht2⟩ := hMd3
      have hoa2 : E2 oa = some (.inl (G.2.1 1, 1, .inr (.inl f))) := hFr2 _ _ hoa1 rfl
      refine lv_istore (lv' := [(6, .int r6), (5, .int 2), (0, .ref b), (1, .ref o1), (2, .ref o2), (3, .ref oa), (4, .int (nI i))]) hx hb dL_law_179 hl (by decide) rfl (fun ls hl => ?_)
      refine lv_aload_n hx hb dL_law_181 rfl (lv_at hl 4 rfl) ?_
      refine x_callSe (va_runV (As := []) (rest := []) ⟨hx, hb, hml, hown, hts⟩ (kX5_thrown l G E2 A2 o2 _ hM2) (cwV 0 hts gL_law_X5_thrown rfl rfl rfl (by decide +kernel) ⟨Nat.le_of_ble_eq_true rfl, Nat.le_of_ble_eq_true rfl⟩) (x_preV hX hS hW hM2.1 rfl) rfl rfl hl.1 rfl (lv_room (Nat.le_of_ble_eq_true rfl)) dL_law_182 ⟨by show _ ≤ 601024; omega, by show _ ≤ 7293034; omega⟩) ?_
      rw [show fX5_thrown A2 = (2 : Int32) from by unfold fX5_thrown; rw [ht2]; rfl]
      refine lv_iload hx hb dL_law_185 (lv_at hl 1 rfl) ?_
      refine lv_icmp_eq (tgt := 192) hx hb dL_law_187 (by decide) (fun _ => ?_) (fun c9 => absurd (by decide) c9)
      refine lv_iload hx hb dL_law_192 (lv_at hl 1 rfl) ?_
      refine lv_if_ne (tgt := 209) hx hb dL_law_194 (by decide) (fun _ => ?_) (fun c9 => absurd c9 (by decide))
      refine lv_goto (tgt := 1293) hx hb dL_law_209 (by decide) ?_
      exact W.widen (by omega) (by omega) (kk _ _ ls E2 ⟨_, _, _, ⟨ct, vt, gt, tb, vb, gb, sa, nC, nV, nG, (show xCls G E1 o1 ct vt gt tb vb gb sa nC nV nG σ from by rw [hE1]; exact hCls).fr tC_tM hFr2, hInv⟩, ⟨A2, hM2, hA2, rfl⟩, hoa2⟩ hW hS (lv_sub hl [2, 3, 4, 5, 6] rfl))

set_option maxHeartbeats 4000000 in
set_option maxRecDepth 100000 in
theorem law_variant {p : Program} {l : Launch} {e : Env} {s : State} {m : MethodId} {b : Nat} {below : List Frame} {meth : Method} {c : Code} {H : Heap} {locs : List Loc} {cells slots : Nat} {Q : State → Prop} {ls : Array Slot} (hl9 : l.stackTraces = false) (hx : p.tables.exec = Jvm.exec) (hb : c.code = cL_law) (hml : c.maxLocals = 7) (hown : s.vm.findClass RL = some m.cls) (hts : ∀ w ∈ wsL_law, w.before #[Value.ref b] s = true) {G : xG} (hX : xS G s) (hNc : xNc s) {L : Nat} {xs : Nat → Int32} (hXs : va_X b L xs s s.heap) (hbl : b < s.heap.size) (hbA : ¬ xA G b) {i : Nat} (hi : i + 6 ≤ L) (hL : L ≤ 3072) (hcn : cells + 5 ≤ 601024) (hsn : slots + 88 ≤ 7293034) {E : xE} {o1 o2 oa : Nat} (hLs : xLs G E o1 o2 oa) (hW : xW G E H) (hS : va_S (xA G) s.heap H locs) (hl : lv_has ls 7 [(0, .ref b), (1, .ref o1), (2, .ref o2), (3, .ref oa), (4, .int (nI i))]) (kk : ∀ (H1 : Heap) (locs1 : List Loc) (ls1 : Array Slot) (E1 : xE), xLs G E1 o1 o2 oa → xW G E1 H1 → va_S (xA G) s.heap H1 locs1 → lv_has ls1 7 [(0, .ref b), (1, .ref o1), (2, .ref o2), (3, .ref oa), (4, .int (nI i))] → W p l e room_1 s m #[Value.ref b] below meth c H1 locs1 (cells + 5) (slots + 88) Q (F0 m 1293 ls1 [])) : W p l e room_1 s m #[Value.ref b] below meth c H locs cells slots Q (F0 m 212 ls []) := by
  obtain ⟨σ, t0, f, ⟨ct, vt, gt, tb, vb, gb, sa, nC, nV, nG, hCls, hInv⟩, ⟨A, hM, hA, hA19⟩, hoa⟩ := hLs
  refine lv_aload_n hx hb dL_law_212 rfl (lv_at hl 1 rfl) ?_
  refine lv_aload_n hx hb dL_law_213 rfl (lv_at hl 0 rfl) ?_
  refine lv_iload hx hb dL_law_214 (lv_at hl 4 rfl) ?_
  refine lv_iconst (v := 1) hx hb dL_law_216 (by decide) ?_
  refine lv_iadd hx hb dL_law_217 ?_
  rw [x_ai1]
  refine va_sld hx hb hXs hbl hbA hS (vp_in_nI (show i + 1 < L by omega) (by omega)) dL_law_218 ?_
  rw [nI_clamp (show i + 1 < 2 ^ 31 by omega)]
  refine lv_aload_n hx hb dL_law_219 rfl (lv_at hl 0 rfl) ?_
  refine lv_iload hx hb dL_law_220 (lv_at hl 4 rfl) ?_
  refine lv_iconst (v := 2) hx hb dL_law_222 (by decide) ?_
  refine lv_iadd hx hb dL_law_223 ?_
  rw [x_ai2]
  refine va_sld hx hb hXs hbl hbA hS (vp_in_nI (show i + 2 < L by omega) (by omega)) dL_law_224 ?_
  rw [nI_clamp (show i + 2 < 2 ^ 31 by omega)]
  refine lv_aload_n hx hb dL_law_225 rfl (lv_at hl 3 rfl) ?_
  refine vx_calli (vx_runSX (As := [.ref o1, .int (xs (i + 1)), .int (xs (i + 2)), .ref oa]) (rest := []) ⟨hx, hb, hml, hown, hts⟩ (kL_variant l hl9 G E o1 (xs (i + 1)) (xs (i + 2)) oa ct vt gt tb vb gb sa nC nV nG σ hCls (hInv.2.2.1 nV (Nat.le_refl _)) f hoa) (vx_cwSW 4 hts gL_law_L_variant rfl rfl rfl (by decide +kernel) ⟨Nat.le_of_ble_eq_true rfl, Nat.le_of_ble_eq_true rfl⟩) (x_preS2 hX hNc hS hW) rfl rfl hl.1 rfl (lv_room (Nat.le_of_ble_eq_true rfl)) dL_law_226 ⟨by show _ ≤ 601024; omega, by show _ ≤ 7293034; omega⟩) hS (fun _ _ h => h) (fun _ h => h) (fun _ _ h => h) (fun Ex ce q9 ux t H1 locs1 ht hvm hpx hB hz1 hk1 hS1 hce hcv hcl => hB.1.elim) (fun r5 E1 t H1 locs1 ht hvm hpost hB hz1 hk1 hS1 => ?_)
  rw [ht] at hB
  have hW : xW G E1 H1 := hB
  have hS := hS1
  rcases hpost with ⟨rfl, r1, Ec, hP, hE1⟩ | ⟨hT9, hE1⟩
  · obtain ⟨hm, hLc, hFc⟩ := m_variant hInv hCls hP
    have hFo : xFr tO Ec E1 := by rw [hE1]; exact xFr_put xFr_rf (hFc _ _ hoa rfl) rfl _
    have hM1 : xMod G E1 o2 A σ := (hM.fr hFc).frO hFo
    have hoa1 : E1 oa = some (.inl (G.2.1 1, 1, .inr (.inl (vp_updL f 0 (r1.toInt64))))) := by rw [hE1]; exact xU_self _ _ _
    refine lv_istore (lv' := [(5, .int 0), (0, .ref b), (1, .ref o1), (2, .ref o2), (3, .ref oa), (4, .int (nI i))]) hx hb dL_law_229 hl (by decide) rfl (fun ls hl => ?_)
    refine lv_aload_n hx hb dL_law_231 rfl (lv_at hl 3 rfl) ?_
    refine lv_aload_n hx hb dL_law_232 rfl (lv_at hl 1 rfl) ?_
    refine lv_iload hx hb dL_law_233 (lv_at hl 5 rfl) ?_
    refine lv_iconst (v := 1) hx hb dL_law_235 (by decide) ?_
    refine lv_iadd hx hb dL_law_236 ?_
    rw [x_ai1]
    refine va_sld hx hb hXs hbl hbA hS (vp_in_nI (show i + 1 < L by omega) (by omega)) dL_law_237 ?_
    rw [nI_clamp (show i + 1 < 2 ^ 31 by omega)]
    refine lv_aload_n hx hb dL_law_238 rfl (lv_at hl 1 rfl) ?_
    refine lv_iload hx hb dL_law_239 (lv_at hl 5 rfl) ?_
    refine lv_iconst (v := 2) hx hb dL_law_241 (by decide) ?_
    refine lv_iadd hx hb dL_law_242 ?_
    rw [x_ai2]
    refine va_sld hx hb hXs hbl hbA hS (vp_in_nI (show i + 2 < L by omega) (by omega)) dL_law_243 ?_
    rw [nI_clamp (show i + 2 < 2 ^ 31 by omega)]
    refine va_calli (va_runV (As := [.int (xs (i + 1)), .int (xs (i + 2))]) (rest := []) ⟨hx, hb, hml, hown, hts⟩ (kX5_variant l G E1 σ o2 (xs (i + 1)) (xs (i + 2)) A hM1 hA nC nV nG (xMi_of hCls)) (cwV 2 hts gL_law_X5_variant rfl rfl rfl (by decide +kernel) ⟨Nat.le_of_ble_eq_true rfl, Nat.le_of_ble_eq_true rfl⟩) (x_preV hX hS hW hM1.1 rfl) rfl rfl hl.1 rfl (lv_room (Nat.le_of_ble_eq_true rfl)) dL_law_244 ⟨by show _ ≤ 601024; omega, by show _ ≤ 7293034; omega⟩) hS (fun _ _ h => h) (fun _ h => h) (fun r6 E2 t H2 locs2 ht hvm hpost2 hB hz1 hk1 hS2 => ?_)
    rw [ht] at hB
    have hW : xW G E2 H2 := hB
    have hS := hS2
    obtain ⟨q, hq, hr6, hMd2, hFr2⟩ := hpost2
    have hq2 := hq.symm.trans hm
    subst hq2
    have hr6 : r6 = r1 := hr6
    subst hr6
    have hMd3 : xMd G E2 o2 (sgVar σ nV (xs (i + 1)) (xs (i + 2))) 0 := hMd2
    obtain ⟨A2, hM2, hA2, ht2⟩ := hMd3
    have hoa2 : E2 oa = some (.inl (G.2.1 1, 1, .inr (.inl (vp_updL f 0 (r6.toInt64))))) := hFr2 _ _ hoa1 rfl
    refine lv_istore (lv' := [(6, .int r6), (5, .int 0), (0, .ref b), (1, .ref o1), (2, .ref o2), (3, .ref oa), (4, .int (nI i))]) hx hb dL_law_247 hl (by decide) rfl (fun ls hl => ?_)
    refine lv_aload_n hx hb dL_law_249 rfl (lv_at hl 4 rfl) ?_
    refine x_callSe (va_runV (As := []) (rest := []) ⟨hx, hb, hml, hown, hts⟩ (kX5_thrown l G E2 A2 o2 _ hM2) (cwV 0 hts gL_law_X5_thrown rfl rfl rfl (by decide +kernel) ⟨Nat.le_of_ble_eq_true rfl, Nat.le_of_ble_eq_true rfl⟩) (x_preV hX hS hW hM2.1 rfl) rfl rfl hl.1 rfl (lv_room (Nat.le_of_ble_eq_true rfl)) dL_law_250 ⟨by show _ ≤ 601024; omega, by show _ ≤ 7293034; omega⟩) ?_
    rw [show fX5_thrown A2 = (0 : Int32) from by unfold fX5_thrown; rw [ht2]; rfl]
    refine lv_iload hx hb dL_law_253 (lv_at hl 1 rfl) ?_
    refine lv_icmp_eq (tgt := 260) hx hb dL_law_255 (by decide) (fun _ => ?_) (fun c9 => absurd (by decide) c9)
    refine lv_iload hx hb dL_law_260 (lv_at hl 1 rfl) ?_
    refine lv_if_ne (tgt := 277) hx hb dL_law_262 (by decide) (fun c9 => absurd (by decide) c9) (fun _ => ?_)
    refine lv_aload_n hx hb dL_law_265 rfl (lv_at hl 5 rfl) ?_
    refine lv_iconst (v := 0) hx hb dL_law_266 (by decide) ?_
    refine x_lld (k := 0) hx hb hX.1 hW hoa2 (show vp_in (nI 0) 1 from vp_in_nI (by omega) (by omega)) rfl dL_law_267 ?_
    rw [show vp_updL f 0 (r6.toInt64) 0 = r6.toInt64 from rfl]
    refine lv_iload hx hb dL_law_268 (lv_at hl 0 rfl) ?_
    refine lv_i2l (v := r6.toInt64) hx hb dL_law_270 rfl ?_
    refine W.lcmp hx hb dL_law_271 ?_
    rw [x_cmp]
    refine lv_if_eq (tgt := 277) hx hb dL_law_272 (by decide) (fun _ => ?_) (fun c9 => absurd (by decide) c9)
    refine lv_goto (tgt := 1293) hx hb dL_law_277 (by decide) ?_
    obtain ⟨ct2, vt2, gt2, tb2, vb2, gb2, sa2, nC2, nV2, nG2, hC2, hI2⟩ := hLc
    exact W.widen (by omega) (by omega) (kk _ _ ls E2 ⟨_, _, _, ⟨ct2, vt2, gt2, tb2, vb2, gb2, sa2, nC2, nV2, nG2, (hC2.fr tC_tO hFo).fr tC_tM hFr2, hI2⟩, ⟨A2, hM2, hA2, rfl⟩, hoa2⟩ hW hS (lv_sub hl [2, 3, 4, 5, 6] rfl))
  · rcases hT9 with ⟨rfl, hT9⟩ | ⟨rfl, hT9⟩
    · have hm := m_variant_1 (a0 := xs (i + 1)) (a1 := xs (i + 2)) hInv hCls hT9
      have hM1 : xMod G E1 o2 A σ := by rw [hE1]; exact hM
      have hoa1 : E1 oa = some (.inl (G.2.1 1, 1, .inr (.inl f))) := by rw [hE1]; exact hoa
      refine lv_istore (lv' := [(5, .int 1), (0, .ref b), (1, .ref o1), (2, .ref o2), (3, .ref oa), (4, .int (nI i))]) hx hb dL_law_229 hl (by decide) rfl (fun ls hl => ?_)
      refine lv_aload_n hx hb dL_law_231 rfl (lv_at hl 3 rfl) ?_
      refine lv_aload_n hx hb dL_law_232 rfl (lv_at hl 1 rfl) ?_
      refine lv_iload hx hb dL_law_233 (lv_at hl 5 rfl) ?_
      refine lv_iconst (v := 1) hx hb dL_law_235 (by decide) ?_
      refine lv_iadd hx hb dL_law_236 ?_
      rw [x_ai1]
      refine va_sld hx hb hXs hbl hbA hS (vp_in_nI (show i + 1 < L by omega) (by omega)) dL_law_237 ?_
      rw [nI_clamp (show i + 1 < 2 ^ 31 by omega)]
      refine lv_aload_n hx hb dL_law_238 rfl (lv_at hl 1 rfl) ?_
      refine lv_iload hx hb dL_law_239 (lv_at hl 5 rfl) ?_
      refine lv_iconst (v := 2) hx hb dL_law_241 (by decide) ?_
      refine lv_iadd hx hb dL_law_242 ?_
      rw [x_ai2]
      refine va_sld hx hb hXs hbl hbA hS (vp_in_nI (show i + 2 < L by omega) (by omega)) dL_law_243 ?_
      rw [nI_clamp (show i + 2 < 2 ^ 31 by omega)]
      refine va_calli (va_runV (As := [.int (xs (i + 1)), .int (xs (i + 2))]) (rest := []) ⟨hx, hb, hml, hown, hts⟩ (kX5_variant l G E1 σ o2 (xs (i + 1)) (xs (i + 2)) A hM1 hA nC nV nG (xMi_of hCls)) (cwV 2 hts gL_law_X5_variant rfl rfl rfl (by decide +kernel) ⟨Nat.le_of_ble_eq_true rfl, Nat.le_of_ble_eq_true rfl⟩) (x_preV hX hS hW hM1.1 rfl) rfl rfl hl.1 rfl (lv_room (Nat.le_of_ble_eq_true rfl)) dL_law_244 ⟨by show _ ≤ 601024; omega, by show _ ≤ 7293034; omega⟩) hS (fun _ _ h => h) (fun _ h => h) (fun r6 E2 t H2 locs2 ht hvm hpost2 hB hz1 hk1 hS2 => ?_)
      rw [ht] at hB
      have hW : xW G E2 H2 := hB
      have hS := hS2
      obtain ⟨q, hq, hr6, hMd2, hFr2⟩ := hpost2
      rw [show q.2 = 1 from (by rw [← hq]; exact hm)] at hMd2
      have hMd3 : xMd G E2 o2 σ 1 := hMd2
      obtain ⟨A2, hM2, hA2, ht2⟩ := hMd3
      have hoa2 : E2 oa = some (.inl (G.2.1 1, 1, .inr (.inl f))) := hFr2 _ _ hoa1 rfl
      refine lv_istore (lv' := [(6, .int r6), (5, .int 1), (0, .ref b), (1, .ref o1), (2, .ref o2), (3, .ref oa), (4, .int (nI i))]) hx hb dL_law_247 hl (by decide) rfl (fun ls hl => ?_)
      refine lv_aload_n hx hb dL_law_249 rfl (lv_at hl 4 rfl) ?_
      refine x_callSe (va_runV (As := []) (rest := []) ⟨hx, hb, hml, hown, hts⟩ (kX5_thrown l G E2 A2 o2 _ hM2) (cwV 0 hts gL_law_X5_thrown rfl rfl rfl (by decide +kernel) ⟨Nat.le_of_ble_eq_true rfl, Nat.le_of_ble_eq_true rfl⟩) (x_preV hX hS hW hM2.1 rfl) rfl rfl hl.1 rfl (lv_room (Nat.le_of_ble_eq_true rfl)) dL_law_250 ⟨by show _ ≤ 601024; omega, by show _ ≤ 7293034; omega⟩) ?_
      rw [show fX5_thrown A2 = (1 : Int32) from by unfold fX5_thrown; rw [ht2]; rfl]
      refine lv_iload hx hb dL_law_253 (lv_at hl 1 rfl) ?_
      refine lv_icmp_eq (tgt := 260) hx hb dL_law_255 (by decide) (fun _ => ?_) (fun c9 => absurd (by decide) c9)
      refine lv_iload hx hb dL_law_260 (lv_at hl 1 rfl) ?_
      refine lv_if_ne (tgt := 277) hx hb dL_law_262 (by decide) (fun _ => ?_) (fun c9 => absurd c9 (by decide))
      refine lv_goto (tgt := 1293) hx hb dL_law_277 (by decide) ?_
      exact W.widen (by omega) (by omega) (kk _ _ ls E2 ⟨_, _, _, ⟨ct, vt, gt, tb, vb, gb, sa, nC, nV, nG, (show xCls G E1 o1 ct vt gt tb vb gb sa nC nV nG σ from by rw [hE1]; exact hCls).fr tC_tM hFr2, hInv⟩, ⟨A2, hM2, hA2, rfl⟩, hoa2⟩ hW hS (lv_sub hl [2, 3, 4, 5, 6] rfl))
    · have hm := m_variant_2 (a0 := xs (i + 1)) (a1 := xs (i + 2)) hInv hCls hT9
      have hM1 : xMod G E1 o2 A σ := by rw [hE1]; exact hM
      have hoa1 : E1 oa = some (.inl (G.2.1 1, 1, .inr (.inl f))) := by rw [hE1]; exact hoa
      refine lv_istore (lv' := [(5, .int 2), (0, .ref b), (1, .ref o1), (2, .ref o2), (3, .ref oa), (4, .int (nI i))]) hx hb dL_law_229 hl (by decide) rfl (fun ls hl => ?_)
      refine lv_aload_n hx hb dL_law_231 rfl (lv_at hl 3 rfl) ?_
      refine lv_aload_n hx hb dL_law_232 rfl (lv_at hl 1 rfl) ?_
      refine lv_iload hx hb dL_law_233 (lv_at hl 5 rfl) ?_
      refine lv_iconst (v := 1) hx hb dL_law_235 (by decide) ?_
      refine lv_iadd hx hb dL_law_236 ?_
      rw [x_ai1]
      refine va_sld hx hb hXs hbl hbA hS (vp_in_nI (show i + 1 < L by omega) (by omega)) dL_law_237 ?_
      rw [nI_clamp (show i + 1 < 2 ^ 31 by omega)]
      refine lv_aload_n hx hb dL_law_238 rfl (lv_at hl 1 rfl) ?_
      refine lv_iload hx hb dL_law_239 (lv_at hl 5 rfl) ?_
      refine lv_iconst (v := 2) hx hb dL_law_241 (by decide) ?_
      refine lv_iadd hx hb dL_law_242 ?_
      rw [x_ai2]
      refine va_sld hx hb hXs hbl hbA hS (vp_in_nI (show i + 2 < L by omega) (by omega)) dL_law_243 ?_
      rw [nI_clamp (show i + 2 < 2 ^ 31 by omega)]
      refine va_calli (va_runV (As := [.int (xs (i + 1)), .int (xs (i + 2))]) (rest := []) ⟨hx, hb, hml, hown, hts⟩ (kX5_variant l G E1 σ o2 (xs (i + 1)) (xs (i + 2)) A hM1 hA nC nV nG (xMi_of hCls)) (cwV 2 hts gL_law_X5_variant rfl rfl rfl (by decide +kernel) ⟨Nat.le_of_ble_eq_true rfl, Nat.le_of_ble_eq_true rfl⟩) (x_preV hX hS hW hM1.1 rfl) rfl rfl hl.1 rfl (lv_room (Nat.le_of_ble_eq_true rfl)) dL_law_244 ⟨by show _ ≤ 601024; omega, by show _ ≤ 7293034; omega⟩) hS (fun _ _ h => h) (fun _ h => h) (fun r6 E2 t H2 locs2 ht hvm hpost2 hB hz1 hk1 hS2 => ?_)
      rw [ht] at hB
      have hW : xW G E2 H2 := hB
      have hS := hS2
      obtain ⟨q, hq, hr6, hMd2, hFr2⟩ := hpost2
      rw [show q.2 = 2 from (by rw [← hq]; exact hm)] at hMd2
      have hMd3 : xMd G E2 o2 σ 2 := hMd2
      obtain ⟨A2, hM2, hA2, ht2⟩ := hMd3
      have hoa2 : E2 oa = some (.inl (G.2.1 1, 1, .inr (.inl f))) := hFr2 _ _ hoa1 rfl
      refine lv_istore (lv' := [(6, .int r6), (5, .int 2), (0, .ref b), (1, .ref o1), (2, .ref o2), (3, .ref oa), (4, .int (nI i))]) hx hb dL_law_247 hl (by decide) rfl (fun ls hl => ?_)
      refine lv_aload_n hx hb dL_law_249 rfl (lv_at hl 4 rfl) ?_
      refine x_callSe (va_runV (As := []) (rest := []) ⟨hx, hb, hml, hown, hts⟩ (kX5_thrown l G E2 A2 o2 _ hM2) (cwV 0 hts gL_law_X5_thrown rfl rfl rfl (by decide +kernel) ⟨Nat.le_of_ble_eq_true rfl, Nat.le_of_ble_eq_true rfl⟩) (x_preV hX hS hW hM2.1 rfl) rfl rfl hl.1 rfl (lv_room (Nat.le_of_ble_eq_true rfl)) dL_law_250 ⟨by show _ ≤ 601024; omega, by show _ ≤ 7293034; omega⟩) ?_
      rw [show fX5_thrown A2 = (2 : Int32) from by unfold fX5_thrown; rw [ht2]; rfl]
      refine lv_iload hx hb dL_law_253 (lv_at hl 1 rfl) ?_
      refine lv_icmp_eq (tgt := 260) hx hb dL_law_255 (by decide) (fun _ => ?_) (fun c9 => absurd (by decide) c9)
      refine lv_iload hx hb dL_law_260 (lv_at hl 1 rfl) ?_
      refine lv_if_ne (tgt := 277) hx hb dL_law_262 (by decide) (fun _ => ?_) (fun c9 => absurd c9 (by decide))
      refine lv_goto (tgt := 1293) hx hb dL_law_277 (by decide) ?_
      exact W.widen (by omega) (by omega) (kk _ _ ls E2 ⟨_, _, _, ⟨ct, vt, gt, tb, vb, gb, sa, nC, nV, nG, (show xCls G E1 o1 ct vt gt tb vb gb sa nC nV nG σ from by rw [hE1]; exact hCls).fr tC_tM hFr2, hInv⟩, ⟨A2, hM2, hA2, rfl⟩, hoa2⟩ hW hS (lv_sub hl [2, 3, 4, 5, 6] rfl))

set_option maxHeartbeats 4000000 in
set_option maxRecDepth 100000 in
theorem law_setCards {p : Program} {l : Launch} {e : Env} {s : State} {m : MethodId} {b : Nat} {below : List Frame} {meth : Method} {c : Code} {H : Heap} {locs : List Loc} {cells slots : Nat} {Q : State → Prop} {ls : Array Slot} (hl9 : l.stackTraces = false) (hx : p.tables.exec = Jvm.exec) (hb : c.code = cL_law) (hml : c.maxLocals = 7) (hown : s.vm.findClass RL = some m.cls) (hts : ∀ w ∈ wsL_law, w.before #[Value.ref b] s = true) {G : xG} (hX : xS G s) (hNc : xNc s) {L : Nat} {xs : Nat → Int32} (hXs : va_X b L xs s s.heap) (hbl : b < s.heap.size) (hbA : ¬ xA G b) {i : Nat} (hi : i + 6 ≤ L) (hL : L ≤ 3072) (hcn : cells + 5 ≤ 601024) (hsn : slots + 88 ≤ 7293034) {E : xE} {o1 o2 oa : Nat} (hLs : xLs G E o1 o2 oa) (hW : xW G E H) (hS : va_S (xA G) s.heap H locs) (hl : lv_has ls 7 [(0, .ref b), (1, .ref o1), (2, .ref o2), (3, .ref oa), (4, .int (nI i))]) (kk : ∀ (H1 : Heap) (locs1 : List Loc) (ls1 : Array Slot) (E1 : xE), xLs G E1 o1 o2 oa → xW G E1 H1 → va_S (xA G) s.heap H1 locs1 → lv_has ls1 7 [(0, .ref b), (1, .ref o1), (2, .ref o2), (3, .ref oa), (4, .int (nI i))] → W p l e room_1 s m #[Value.ref b] below meth c H1 locs1 (cells + 5) (slots + 88) Q (F0 m 1293 ls1 [])) : W p l e room_1 s m #[Value.ref b] below meth c H locs cells slots Q (F0 m 280 ls []) := by
  obtain ⟨σ, t0, f, ⟨ct, vt, gt, tb, vb, gb, sa, nC, nV, nG, hCls, hInv⟩, ⟨A, hM, hA, hA19⟩, hoa⟩ := hLs
  refine lv_aload_n hx hb dL_law_280 rfl (lv_at hl 1 rfl) ?_
  refine lv_aload_n hx hb dL_law_281 rfl (lv_at hl 0 rfl) ?_
  refine lv_iload hx hb dL_law_282 (lv_at hl 4 rfl) ?_
  refine lv_iconst (v := 1) hx hb dL_law_284 (by decide) ?_
  refine lv_iadd hx hb dL_law_285 ?_
  rw [x_ai1]
  refine va_sld hx hb hXs hbl hbA hS (vp_in_nI (show i + 1 < L by omega) (by omega)) dL_law_286 ?_
  rw [nI_clamp (show i + 1 < 2 ^ 31 by omega)]
  refine lv_aload_n hx hb dL_law_287 rfl (lv_at hl 0 rfl) ?_
  refine lv_iload hx hb dL_law_288 (lv_at hl 4 rfl) ?_
  refine lv_iconst (v := 2) hx hb dL_law_290 (by decide) ?_
  refine lv_iadd hx hb dL_law_291 ?_
  rw [x_ai2]
  refine va_sld hx hb hXs hbl hbA hS (vp_in_nI (show i + 2 < L by omega) (by omega)) dL_law_292 ?_
  rw [nI_clamp (show i + 2 < 2 ^ 31 by omega)]
  refine lv_aload_n hx hb dL_law_293 rfl (lv_at hl 3 rfl) ?_
  refine vx_calli (vx_runSX (As := [.ref o1, .int (xs (i + 1)), .int (xs (i + 2)), .ref oa]) (rest := []) ⟨hx, hb, hml, hown, hts⟩ (kL_setCards l hl9 G E o1 (xs (i + 1)) (xs (i + 2)) oa ct vt gt tb vb gb sa nC nV nG σ hCls f hoa) (vx_cwSW 4 hts gL_law_L_setCards rfl rfl rfl (by decide +kernel) ⟨Nat.le_of_ble_eq_true rfl, Nat.le_of_ble_eq_true rfl⟩) (x_preS2 hX hNc hS hW) rfl rfl hl.1 rfl (lv_room (Nat.le_of_ble_eq_true rfl)) dL_law_294 ⟨by show _ ≤ 601024; omega, by show _ ≤ 7293034; omega⟩) hS (fun _ _ h => h) (fun _ h => h) (fun _ _ h => h) (fun Ex ce q9 ux t H1 locs1 ht hvm hpx hB hz1 hk1 hS1 hce hcv hcl => hB.1.elim) (fun r5 E1 t H1 locs1 ht hvm hpost hB hz1 hk1 hS1 => ?_)
  rw [ht] at hB
  have hW : xW G E1 H1 := hB
  have hS := hS1
  rcases hpost with ⟨rfl, r1, Ec, hP, hE1⟩ | ⟨hT9, hE1⟩
  · obtain ⟨hm, hLc, hFc⟩ := m_setCards hInv hCls hP
    have hFo : xFr tO Ec E1 := by rw [hE1]; exact xFr_put xFr_rf (hFc _ _ hoa rfl) rfl _
    have hM1 : xMod G E1 o2 A σ := (hM.fr hFc).frO hFo
    have hoa1 : E1 oa = some (.inl (G.2.1 1, 1, .inr (.inl (vp_updL f 0 (r1.toInt64))))) := by rw [hE1]; exact xU_self _ _ _
    refine lv_istore (lv' := [(5, .int 0), (0, .ref b), (1, .ref o1), (2, .ref o2), (3, .ref oa), (4, .int (nI i))]) hx hb dL_law_297 hl (by decide) rfl (fun ls hl => ?_)
    refine lv_aload_n hx hb dL_law_299 rfl (lv_at hl 3 rfl) ?_
    refine lv_aload_n hx hb dL_law_300 rfl (lv_at hl 1 rfl) ?_
    refine lv_iload hx hb dL_law_301 (lv_at hl 5 rfl) ?_
    refine lv_iconst (v := 1) hx hb dL_law_303 (by decide) ?_
    refine lv_iadd hx hb dL_law_304 ?_
    rw [x_ai1]
    refine va_sld hx hb hXs hbl hbA hS (vp_in_nI (show i + 1 < L by omega) (by omega)) dL_law_305 ?_
    rw [nI_clamp (show i + 1 < 2 ^ 31 by omega)]
    refine lv_aload_n hx hb dL_law_306 rfl (lv_at hl 1 rfl) ?_
    refine lv_iload hx hb dL_law_307 (lv_at hl 5 rfl) ?_
    refine lv_iconst (v := 2) hx hb dL_law_309 (by decide) ?_
    refine lv_iadd hx hb dL_law_310 ?_
    rw [x_ai2]
    refine va_sld hx hb hXs hbl hbA hS (vp_in_nI (show i + 2 < L by omega) (by omega)) dL_law_311 ?_
    rw [nI_clamp (show i + 2 < 2 ^ 31 by omega)]
    refine va_calli (va_runV (As := [.int (xs (i + 1)), .int (xs (i + 2))]) (rest := []) ⟨hx, hb, hml, hown, hts⟩ (kX5_setCards l G E1 σ o2 (xs (i + 1)) (xs (i + 2)) A hM1 hA nC nV nG (xMi_of hCls)) (cwV 2 hts gL_law_X5_setCards rfl rfl rfl (by decide +kernel) ⟨Nat.le_of_ble_eq_true rfl, Nat.le_of_ble_eq_true rfl⟩) (x_preV hX hS hW hM1.1 rfl) rfl rfl hl.1 rfl (lv_room (Nat.le_of_ble_eq_true rfl)) dL_law_312 ⟨by show _ ≤ 601024; omega, by show _ ≤ 7293034; omega⟩) hS (fun _ _ h => h) (fun _ h => h) (fun r6 E2 t H2 locs2 ht hvm hpost2 hB hz1 hk1 hS2 => ?_)
    rw [ht] at hB
    have hW : xW G E2 H2 := hB
    have hS := hS2
    obtain ⟨q, hq, hr6, hMd2, hFr2⟩ := hpost2
    have hq2 := hq.symm.trans hm
    subst hq2
    have hr6 : r6 = r1 := hr6
    subst hr6
    have hMd3 : xMd G E2 o2 (sgU σ 7 ((xs (i + 1)).toNatClampNeg) (xs (i + 2))) 0 := hMd2
    obtain ⟨A2, hM2, hA2, ht2⟩ := hMd3
    have hoa2 : E2 oa = some (.inl (G.2.1 1, 1, .inr (.inl (vp_updL f 0 (r6.toInt64))))) := hFr2 _ _ hoa1 rfl
    refine lv_istore (lv' := [(6, .int r6), (5, .int 0), (0, .ref b), (1, .ref o1), (2, .ref o2), (3, .ref oa), (4, .int (nI i))]) hx hb dL_law_315 hl (by decide) rfl (fun ls hl => ?_)
    refine lv_aload_n hx hb dL_law_317 rfl (lv_at hl 4 rfl) ?_
    refine x_callSe (va_runV (As := []) (rest := []) ⟨hx, hb, hml, hown, hts⟩ (kX5_thrown l G E2 A2 o2 _ hM2) (cwV 0 hts gL_law_X5_thrown rfl rfl rfl (by decide +kernel) ⟨Nat.le_of_ble_eq_true rfl, Nat.le_of_ble_eq_true rfl⟩) (x_preV hX hS hW hM2.1 rfl) rfl rfl hl.1 rfl (lv_room (Nat.le_of_ble_eq_true rfl)) dL_law_318 ⟨by show _ ≤ 601024; omega, by show _ ≤ 7293034; omega⟩) ?_
    rw [show fX5_thrown A2 = (0 : Int32) from by unfold fX5_thrown; rw [ht2]; rfl]
    refine lv_iload hx hb dL_law_321 (lv_at hl 1 rfl) ?_
    refine lv_icmp_eq (tgt := 328) hx hb dL_law_323 (by decide) (fun _ => ?_) (fun c9 => absurd (by decide) c9)
    refine lv_iload hx hb dL_law_328 (lv_at hl 1 rfl) ?_
    refine lv_if_ne (tgt := 345) hx hb dL_law_330 (by decide) (fun c9 => absurd (by decide) c9) (fun _ => ?_)
    refine lv_aload_n hx hb dL_law_333 rfl (lv_at hl 5 rfl) ?_
    refine lv_iconst (v := 0) hx hb dL_law_334 (by decide) ?_
    refine x_lld (k := 0) hx hb hX.1 hW hoa2 (show vp_in (nI 0) 1 from vp_in_nI (by omega) (by omega)) rfl dL_law_335 ?_
    rw [show vp_updL f 0 (r6.toInt64) 0 = r6.toInt64 from rfl]
    refine lv_iload hx hb dL_law_336 (lv_at hl 0 rfl) ?_
    refine lv_i2l (v := r6.toInt64) hx hb dL_law_338 rfl ?_
    refine W.lcmp hx hb dL_law_339 ?_
    rw [x_cmp]
    refine lv_if_eq (tgt := 345) hx hb dL_law_340 (by decide) (fun _ => ?_) (fun c9 => absurd (by decide) c9)
    refine lv_goto (tgt := 1293) hx hb dL_law_345 (by decide) ?_
    obtain ⟨ct2, vt2, gt2, tb2, vb2, gb2, sa2, nC2, nV2, nG2, hC2, hI2⟩ := hLc
    exact W.widen (by omega) (by omega) (kk _ _ ls E2 ⟨_, _, _, ⟨ct2, vt2, gt2, tb2, vb2, gb2, sa2, nC2, nV2, nG2, (hC2.fr tC_tO hFo).fr tC_tM hFr2, hI2⟩, ⟨A2, hM2, hA2, rfl⟩, hoa2⟩ hW hS (lv_sub hl [2, 3, 4, 5, 6] rfl))
  · rcases hT9 with ⟨rfl, hT9⟩ | ⟨rfl, hT9⟩
    · have hm := m_setCards_3 (a0 := xs (i + 1)) (a1 := xs (i + 2)) hInv hCls hT9
      have hM1 : xMod G E1 o2 A σ := by rw [hE1]; exact hM
      have hoa1 : E1 oa = some (.inl (G.2.1 1, 1, .inr (.inl f))) := by rw [hE1]; exact hoa
      refine lv_istore (lv' := [(5, .int 1), (0, .ref b), (1, .ref o1), (2, .ref o2), (3, .ref oa), (4, .int (nI i))]) hx hb dL_law_297 hl (by decide) rfl (fun ls hl => ?_)
      refine lv_aload_n hx hb dL_law_299 rfl (lv_at hl 3 rfl) ?_
      refine lv_aload_n hx hb dL_law_300 rfl (lv_at hl 1 rfl) ?_
      refine lv_iload hx hb dL_law_301 (lv_at hl 5 rfl) ?_
      refine lv_iconst (v := 1) hx hb dL_law_303 (by decide) ?_
      refine lv_iadd hx hb dL_law_304 ?_
      rw [x_ai1]
      refine va_sld hx hb hXs hbl hbA hS (vp_in_nI (show i + 1 < L by omega) (by omega)) dL_law_305 ?_
      rw [nI_clamp (show i + 1 < 2 ^ 31 by omega)]
      refine lv_aload_n hx hb dL_law_306 rfl (lv_at hl 1 rfl) ?_
      refine lv_iload hx hb dL_law_307 (lv_at hl 5 rfl) ?_
      refine lv_iconst (v := 2) hx hb dL_law_309 (by decide) ?_
      refine lv_iadd hx hb dL_law_310 ?_
      rw [x_ai2]
      refine va_sld hx hb hXs hbl hbA hS (vp_in_nI (show i + 2 < L by omega) (by omega)) dL_law_311 ?_
      rw [nI_clamp (show i + 2 < 2 ^ 31 by omega)]
      refine va_calli (va_runV (As := [.int (xs (i + 1)), .int (xs (i + 2))]) (rest := []) ⟨hx, hb, hml, hown, hts⟩ (kX5_setCards l G E1 σ o2 (xs (i + 1)) (xs (i + 2)) A hM1 hA nC nV nG (xMi_of hCls)) (cwV 2 hts gL_law_X5_setCards rfl rfl rfl (by decide +kernel) ⟨Nat.le_of_ble_eq_true rfl, Nat.le_of_ble_eq_true rfl⟩) (x_preV hX hS hW hM1.1 rfl) rfl rfl hl.1 rfl (lv_room (Nat.le_of_ble_eq_true rfl)) dL_law_312 ⟨by show _ ≤ 601024; omega, by show _ ≤ 7293034; omega⟩) hS (fun _ _ h => h) (fun _ h => h) (fun r6 E2 t H2 locs2 ht hvm hpost2 hB hz1 hk1 hS2 => ?_)
      rw [ht] at hB
      have hW : xW G E2 H2 := hB
      have hS := hS2
      obtain ⟨q, hq, hr6, hMd2, hFr2⟩ := hpost2
      rw [show q.2 = 1 from (by rw [← hq]; exact hm)] at hMd2
      have hMd3 : xMd G E2 o2 σ 1 := hMd2
      obtain ⟨A2, hM2, hA2, ht2⟩ := hMd3
      have hoa2 : E2 oa = some (.inl (G.2.1 1, 1, .inr (.inl f))) := hFr2 _ _ hoa1 rfl
      refine lv_istore (lv' := [(6, .int r6), (5, .int 1), (0, .ref b), (1, .ref o1), (2, .ref o2), (3, .ref oa), (4, .int (nI i))]) hx hb dL_law_315 hl (by decide) rfl (fun ls hl => ?_)
      refine lv_aload_n hx hb dL_law_317 rfl (lv_at hl 4 rfl) ?_
      refine x_callSe (va_runV (As := []) (rest := []) ⟨hx, hb, hml, hown, hts⟩ (kX5_thrown l G E2 A2 o2 _ hM2) (cwV 0 hts gL_law_X5_thrown rfl rfl rfl (by decide +kernel) ⟨Nat.le_of_ble_eq_true rfl, Nat.le_of_ble_eq_true rfl⟩) (x_preV hX hS hW hM2.1 rfl) rfl rfl hl.1 rfl (lv_room (Nat.le_of_ble_eq_true rfl)) dL_law_318 ⟨by show _ ≤ 601024; omega, by show _ ≤ 7293034; omega⟩) ?_
      rw [show fX5_thrown A2 = (1 : Int32) from by unfold fX5_thrown; rw [ht2]; rfl]
      refine lv_iload hx hb dL_law_321 (lv_at hl 1 rfl) ?_
      refine lv_icmp_eq (tgt := 328) hx hb dL_law_323 (by decide) (fun _ => ?_) (fun c9 => absurd (by decide) c9)
      refine lv_iload hx hb dL_law_328 (lv_at hl 1 rfl) ?_
      refine lv_if_ne (tgt := 345) hx hb dL_law_330 (by decide) (fun _ => ?_) (fun c9 => absurd c9 (by decide))
      refine lv_goto (tgt := 1293) hx hb dL_law_345 (by decide) ?_
      exact W.widen (by omega) (by omega) (kk _ _ ls E2 ⟨_, _, _, ⟨ct, vt, gt, tb, vb, gb, sa, nC, nV, nG, (show xCls G E1 o1 ct vt gt tb vb gb sa nC nV nG σ from by rw [hE1]; exact hCls).fr tC_tM hFr2, hInv⟩, ⟨A2, hM2, hA2, rfl⟩, hoa2⟩ hW hS (lv_sub hl [2, 3, 4, 5, 6] rfl))
    · have hm := m_setCards_1 (a0 := xs (i + 1)) (a1 := xs (i + 2)) hInv hCls hT9
      have hM1 : xMod G E1 o2 A σ := by rw [hE1]; exact hM
      have hoa1 : E1 oa = some (.inl (G.2.1 1, 1, .inr (.inl f))) := by rw [hE1]; exact hoa
      refine lv_istore (lv' := [(5, .int 2), (0, .ref b), (1, .ref o1), (2, .ref o2), (3, .ref oa), (4, .int (nI i))]) hx hb dL_law_297 hl (by decide) rfl (fun ls hl => ?_)
      refine lv_aload_n hx hb dL_law_299 rfl (lv_at hl 3 rfl) ?_
      refine lv_aload_n hx hb dL_law_300 rfl (lv_at hl 1 rfl) ?_
      refine lv_iload hx hb dL_law_301 (lv_at hl 5 rfl) ?_
      refine lv_iconst (v := 1) hx hb dL_law_303 (by decide) ?_
      refine lv_iadd hx hb dL_law_304 ?_
      rw [x_ai1]
      refine va_sld hx hb hXs hbl hbA hS (vp_in_nI (show i + 1 < L by omega) (by omega)) dL_law_305 ?_
      rw [nI_clamp (show i + 1 < 2 ^ 31 by omega)]
      refine lv_aload_n hx hb dL_law_306 rfl (lv_at hl 1 rfl) ?_
      refine lv_iload hx hb dL_law_307 (lv_at hl 5 rfl) ?_
      refine lv_iconst (v := 2) hx hb dL_law_309 (by decide) ?_
      refine lv_iadd hx hb dL_law_310 ?_
      rw [x_ai2]
      refine va_sld hx hb hXs hbl hbA hS (vp_in_nI (show i + 2 < L by omega) (by omega)) dL_law_311 ?_
      rw [nI_clamp (show i + 2 < 2 ^ 31 by omega)]
      refine va_calli (va_runV (As := [.int (xs (i + 1)), .int (xs (i + 2))]) (rest := []) ⟨hx, hb, hml, hown, hts⟩ (kX5_setCards l G E1 σ o2 (xs (i + 1)) (xs (i + 2)) A hM1 hA nC nV nG (xMi_of hCls)) (cwV 2 hts gL_law_X5_setCards rfl rfl rfl (by decide +kernel) ⟨Nat.le_of_ble_eq_true rfl, Nat.le_of_ble_eq_true rfl⟩) (x_preV hX hS hW hM1.1 rfl) rfl rfl hl.1 rfl (lv_room (Nat.le_of_ble_eq_true rfl)) dL_law_312 ⟨by show _ ≤ 601024; omega, by show _ ≤ 7293034; omega⟩) hS (fun _ _ h => h) (fun _ h => h) (fun r6 E2 t H2 locs2 ht hvm hpost2 hB hz1 hk1 hS2 => ?_)
      rw [ht] at hB
      have hW : xW G E2 H2 := hB
      have hS := hS2
      obtain ⟨q, hq, hr6, hMd2, hFr2⟩ := hpost2
      rw [show q.2 = 2 from (by rw [← hq]; exact hm)] at hMd2
      have hMd3 : xMd G E2 o2 σ 2 := hMd2
      obtain ⟨A2, hM2, hA2, ht2⟩ := hMd3
      have hoa2 : E2 oa = some (.inl (G.2.1 1, 1, .inr (.inl f))) := hFr2 _ _ hoa1 rfl
      refine lv_istore (lv' := [(6, .int r6), (5, .int 2), (0, .ref b), (1, .ref o1), (2, .ref o2), (3, .ref oa), (4, .int (nI i))]) hx hb dL_law_315 hl (by decide) rfl (fun ls hl => ?_)
      refine lv_aload_n hx hb dL_law_317 rfl (lv_at hl 4 rfl) ?_
      refine x_callSe (va_runV (As := []) (rest := []) ⟨hx, hb, hml, hown, hts⟩ (kX5_thrown l G E2 A2 o2 _ hM2) (cwV 0 hts gL_law_X5_thrown rfl rfl rfl (by decide +kernel) ⟨Nat.le_of_ble_eq_true rfl, Nat.le_of_ble_eq_true rfl⟩) (x_preV hX hS hW hM2.1 rfl) rfl rfl hl.1 rfl (lv_room (Nat.le_of_ble_eq_true rfl)) dL_law_318 ⟨by show _ ≤ 601024; omega, by show _ ≤ 7293034; omega⟩) ?_
      rw [show fX5_thrown A2 = (2 : Int32) from by unfold fX5_thrown; rw [ht2]; rfl]
      refine lv_iload hx hb dL_law_321 (lv_at hl 1 rfl) ?_
      refine lv_icmp_eq (tgt := 328) hx hb dL_law_323 (by decide) (fun _ => ?_) (fun c9 => absurd (by decide) c9)
      refine lv_iload hx hb dL_law_328 (lv_at hl 1 rfl) ?_
      refine lv_if_ne (tgt := 345) hx hb dL_law_330 (by decide) (fun _ => ?_) (fun c9 => absurd c9 (by decide))
      refine lv_goto (tgt := 1293) hx hb dL_law_345 (by decide) ?_
      exact W.widen (by omega) (by omega) (kk _ _ ls E2 ⟨_, _, _, ⟨ct, vt, gt, tb, vb, gb, sa, nC, nV, nG, (show xCls G E1 o1 ct vt gt tb vb gb sa nC nV nG σ from by rw [hE1]; exact hCls).fr tC_tM hFr2, hInv⟩, ⟨A2, hM2, hA2, rfl⟩, hoa2⟩ hW hS (lv_sub hl [2, 3, 4, 5, 6] rfl))

set_option maxHeartbeats 4000000 in
set_option maxRecDepth 100000 in
theorem law_begin {p : Program} {l : Launch} {e : Env} {s : State} {m : MethodId} {b : Nat} {below : List Frame} {meth : Method} {c : Code} {H : Heap} {locs : List Loc} {cells slots : Nat} {Q : State → Prop} {ls : Array Slot} (hl9 : l.stackTraces = false) (hx : p.tables.exec = Jvm.exec) (hb : c.code = cL_law) (hml : c.maxLocals = 7) (hown : s.vm.findClass RL = some m.cls) (hts : ∀ w ∈ wsL_law, w.before #[Value.ref b] s = true) {G : xG} (hX : xS G s) (hNc : xNc s) {L : Nat} {xs : Nat → Int32} (hXs : va_X b L xs s s.heap) (hbl : b < s.heap.size) (hbA : ¬ xA G b) {i : Nat} (hi : i + 6 ≤ L) (hL : L ≤ 3072) (hcn : cells + 5 ≤ 601024) (hsn : slots + 88 ≤ 7293034) {E : xE} {o1 o2 oa : Nat} (hLs : xLs G E o1 o2 oa) (hW : xW G E H) (hS : va_S (xA G) s.heap H locs) (hl : lv_has ls 7 [(0, .ref b), (1, .ref o1), (2, .ref o2), (3, .ref oa), (4, .int (nI i))]) (kk : ∀ (H1 : Heap) (locs1 : List Loc) (ls1 : Array Slot) (E1 : xE), xLs G E1 o1 o2 oa → xW G E1 H1 → va_S (xA G) s.heap H1 locs1 → lv_has ls1 7 [(0, .ref b), (1, .ref o1), (2, .ref o2), (3, .ref oa), (4, .int (nI i))] → W p l e room_1 s m #[Value.ref b] below meth c H1 locs1 (cells + 5) (slots + 88) Q (F0 m 1293 ls1 [])) : W p l e room_1 s m #[Value.ref b] below meth c H locs cells slots Q (F0 m 348 ls []) := by
  obtain ⟨σ, t0, f, ⟨ct, vt, gt, tb, vb, gb, sa, nC, nV, nG, hCls, hInv⟩, ⟨A, hM, hA, hA19⟩, hoa⟩ := hLs
  refine lv_aload_n hx hb dL_law_348 rfl (lv_at hl 1 rfl) ?_
  refine lv_aload_n hx hb dL_law_349 rfl (lv_at hl 0 rfl) ?_
  refine lv_iload hx hb dL_law_350 (lv_at hl 4 rfl) ?_
  refine lv_iconst (v := 1) hx hb dL_law_352 (by decide) ?_
  refine lv_iadd hx hb dL_law_353 ?_
  rw [x_ai1]
  refine va_sld hx hb hXs hbl hbA hS (vp_in_nI (show i + 1 < L by omega) (by omega)) dL_law_354 ?_
  rw [nI_clamp (show i + 1 < 2 ^ 31 by omega)]
  refine lv_aload_n hx hb dL_law_355 rfl (lv_at hl 0 rfl) ?_
  refine lv_iload hx hb dL_law_356 (lv_at hl 4 rfl) ?_
  refine lv_iconst (v := 2) hx hb dL_law_358 (by decide) ?_
  refine lv_iadd hx hb dL_law_359 ?_
  rw [x_ai2]
  refine va_sld hx hb hXs hbl hbA hS (vp_in_nI (show i + 2 < L by omega) (by omega)) dL_law_360 ?_
  rw [nI_clamp (show i + 2 < 2 ^ 31 by omega)]
  refine lv_aload_n hx hb dL_law_361 rfl (lv_at hl 0 rfl) ?_
  refine lv_iload hx hb dL_law_362 (lv_at hl 4 rfl) ?_
  refine lv_iconst (v := 3) hx hb dL_law_364 (by decide) ?_
  refine lv_iadd hx hb dL_law_365 ?_
  rw [x_ai3]
  refine va_sld hx hb hXs hbl hbA hS (vp_in_nI (show i + 3 < L by omega) (by omega)) dL_law_366 ?_
  rw [nI_clamp (show i + 3 < 2 ^ 31 by omega)]
  refine lv_aload_n hx hb dL_law_367 rfl (lv_at hl 0 rfl) ?_
  refine lv_iload hx hb dL_law_368 (lv_at hl 4 rfl) ?_
  refine lv_iconst (v := 4) hx hb dL_law_370 (by decide) ?_
  refine lv_iadd hx hb dL_law_371 ?_
  rw [x_ai4]
  refine va_sld hx hb hXs hbl hbA hS (vp_in_nI (show i + 4 < L by omega) (by omega)) dL_law_372 ?_
  rw [nI_clamp (show i + 4 < 2 ^ 31 by omega)]
  refine lv_aload_n hx hb dL_law_373 rfl (lv_at hl 0 rfl) ?_
  refine lv_iload hx hb dL_law_374 (lv_at hl 4 rfl) ?_
  refine lv_iconst (v := 5) hx hb dL_law_376 (by decide) ?_
  refine lv_iadd hx hb dL_law_377 ?_
  rw [x_ai5]
  refine va_sld hx hb hXs hbl hbA hS (vp_in_nI (show i + 5 < L by omega) (by omega)) dL_law_378 ?_
  rw [nI_clamp (show i + 5 < 2 ^ 31 by omega)]
  refine lv_aload_n hx hb dL_law_379 rfl (lv_at hl 3 rfl) ?_
  refine vx_calli (vx_runSX (As := [.ref o1, .int (xs (i + 1)), .int (xs (i + 2)), .int (xs (i + 3)), .int (xs (i + 4)), .int (xs (i + 5)), .ref oa]) (rest := []) ⟨hx, hb, hml, hown, hts⟩ (kL_begin l hl9 G E o1 (xs (i + 1)) (xs (i + 2)) (xs (i + 3)) (xs (i + 4)) (xs (i + 5)) oa ct vt gt tb vb gb sa nC nV nG σ hCls f hoa) (vx_cwSW 7 hts gL_law_L_begin rfl rfl rfl (by decide +kernel) ⟨Nat.le_of_ble_eq_true rfl, Nat.le_of_ble_eq_true rfl⟩) (x_preS2 hX hNc hS hW) rfl rfl hl.1 rfl (lv_room (Nat.le_of_ble_eq_true rfl)) dL_law_380 ⟨by show _ ≤ 601024; omega, by show _ ≤ 7293034; omega⟩) hS (fun _ _ h => h) (fun _ h => h) (fun _ _ h => h) (fun Ex ce q9 ux t H1 locs1 ht hvm hpx hB hz1 hk1 hS1 hce hcv hcl => hB.1.elim) (fun r5 E1 t H1 locs1 ht hvm hpost hB hz1 hk1 hS1 => ?_)
  rw [ht] at hB
  have hW : xW G E1 H1 := hB
  have hS := hS1
  rcases hpost with ⟨rfl, r1, Ec, hP, hE1⟩ | ⟨hT9, hE1⟩
  · obtain ⟨hm, hLc, hFc⟩ := m_begin hInv hCls hP
    have hFo : xFr tO Ec E1 := by rw [hE1]; exact xFr_put xFr_rf (hFc _ _ hoa rfl) rfl _
    have hM1 : xMod G E1 o2 A σ := (hM.fr hFc).frO hFo
    have hoa1 : E1 oa = some (.inl (G.2.1 1, 1, .inr (.inl (vp_updL f 0 (r1.toInt64))))) := by rw [hE1]; exact xU_self _ _ _
    refine lv_istore (lv' := [(5, .int 0), (0, .ref b), (1, .ref o1), (2, .ref o2), (3, .ref oa), (4, .int (nI i))]) hx hb dL_law_383 hl (by decide) rfl (fun ls hl => ?_)
    refine lv_aload_n hx hb dL_law_385 rfl (lv_at hl 3 rfl) ?_
    refine lv_aload_n hx hb dL_law_386 rfl (lv_at hl 1 rfl) ?_
    refine lv_iload hx hb dL_law_387 (lv_at hl 5 rfl) ?_
    refine lv_iconst (v := 1) hx hb dL_law_389 (by decide) ?_
    refine lv_iadd hx hb dL_law_390 ?_
    rw [x_ai1]
    refine va_sld hx hb hXs hbl hbA hS (vp_in_nI (show i + 1 < L by omega) (by omega)) dL_law_391 ?_
    rw [nI_clamp (show i + 1 < 2 ^ 31 by omega)]
    refine lv_aload_n hx hb dL_law_392 rfl (lv_at hl 1 rfl) ?_
    refine lv_iload hx hb dL_law_393 (lv_at hl 5 rfl) ?_
    refine lv_iconst (v := 2) hx hb dL_law_395 (by decide) ?_
    refine lv_iadd hx hb dL_law_396 ?_
    rw [x_ai2]
    refine va_sld hx hb hXs hbl hbA hS (vp_in_nI (show i + 2 < L by omega) (by omega)) dL_law_397 ?_
    rw [nI_clamp (show i + 2 < 2 ^ 31 by omega)]
    refine lv_aload_n hx hb dL_law_398 rfl (lv_at hl 1 rfl) ?_
    refine lv_iload hx hb dL_law_399 (lv_at hl 5 rfl) ?_
    refine lv_iconst (v := 3) hx hb dL_law_401 (by decide) ?_
    refine lv_iadd hx hb dL_law_402 ?_
    rw [x_ai3]
    refine va_sld hx hb hXs hbl hbA hS (vp_in_nI (show i + 3 < L by omega) (by omega)) dL_law_403 ?_
    rw [nI_clamp (show i + 3 < 2 ^ 31 by omega)]
    refine lv_aload_n hx hb dL_law_404 rfl (lv_at hl 1 rfl) ?_
    refine lv_iload hx hb dL_law_405 (lv_at hl 5 rfl) ?_
    refine lv_iconst (v := 4) hx hb dL_law_407 (by decide) ?_
    refine lv_iadd hx hb dL_law_408 ?_
    rw [x_ai4]
    refine va_sld hx hb hXs hbl hbA hS (vp_in_nI (show i + 4 < L by omega) (by omega)) dL_law_409 ?_
    rw [nI_clamp (show i + 4 < 2 ^ 31 by omega)]
    refine lv_aload_n hx hb dL_law_410 rfl (lv_at hl 1 rfl) ?_
    refine lv_iload hx hb dL_law_411 (lv_at hl 5 rfl) ?_
    refine lv_iconst (v := 5) hx hb dL_law_413 (by decide) ?_
    refine lv_iadd hx hb dL_law_414 ?_
    rw [x_ai5]
    refine va_sld hx hb hXs hbl hbA hS (vp_in_nI (show i + 5 < L by omega) (by omega)) dL_law_415 ?_
    rw [nI_clamp (show i + 5 < 2 ^ 31 by omega)]
    refine va_calli (va_runV (As := [.int (xs (i + 1)), .int (xs (i + 2)), .int (xs (i + 3)), .int (xs (i + 4)), .int (xs (i + 5))]) (rest := []) ⟨hx, hb, hml, hown, hts⟩ (kX5_begin l G E1 σ o2 (xs (i + 1)) (xs (i + 2)) (xs (i + 3)) (xs (i + 4)) (xs (i + 5)) A hM1 hA nC nV nG (xMi_of hCls)) (cwV 5 hts gL_law_X5_begin rfl rfl rfl (by decide +kernel) ⟨Nat.le_of_ble_eq_true rfl, Nat.le_of_ble_eq_true rfl⟩) (x_preV hX hS hW hM1.1 rfl) rfl rfl hl.1 rfl (lv_room (Nat.le_of_ble_eq_true rfl)) dL_law_416 ⟨by show _ ≤ 601024; omega, by show _ ≤ 7293034; omega⟩) hS (fun _ _ h => h) (fun _ h => h) (fun r6 E2 t H2 locs2 ht hvm hpost2 hB hz1 hk1 hS2 => ?_)
    rw [ht] at hB
    have hW : xW G E2 H2 := hB
    have hS := hS2
    obtain ⟨q, hq, hr6, hMd2, hFr2⟩ := hpost2
    have hq2 := hq.symm.trans hm
    subst hq2
    have hr6 : r6 = r1 := hr6
    subst hr6
    have hMd3 : xMd G E2 o2 (sgBegin σ nG ((xs (i + 1)).toNatClampNeg) (xs (i + 2)) (xs (i + 3)) (xs (i + 4)) (xs (i + 5))) 0 := hMd2
    obtain ⟨A2, hM2, hA2, ht2⟩ := hMd3
    have hoa2 : E2 oa = some (.inl (G.2.1 1, 1, .inr (.inl (vp_updL f 0 (r6.toInt64))))) := hFr2 _ _ hoa1 rfl
    refine lv_istore (lv' := [(6, .int r6), (5, .int 0), (0, .ref b), (1, .ref o1), (2, .ref o2), (3, .ref oa), (4, .int (nI i))]) hx hb dL_law_419 hl (by decide) rfl (fun ls hl => ?_)
    refine lv_aload_n hx hb dL_law_421 rfl (lv_at hl 4 rfl) ?_
    refine x_callSe (va_runV (As := []) (rest := []) ⟨hx, hb, hml, hown, hts⟩ (kX5_thrown l G E2 A2 o2 _ hM2) (cwV 0 hts gL_law_X5_thrown rfl rfl rfl (by decide +kernel) ⟨Nat.le_of_ble_eq_true rfl, Nat.le_of_ble_eq_true rfl⟩) (x_preV hX hS hW hM2.1 rfl) rfl rfl hl.1 rfl (lv_room (Nat.le_of_ble_eq_true rfl)) dL_law_422 ⟨by show _ ≤ 601024; omega, by show _ ≤ 7293034; omega⟩) ?_
    rw [show fX5_thrown A2 = (0 : Int32) from by unfold fX5_thrown; rw [ht2]; rfl]
    refine lv_iload hx hb dL_law_425 (lv_at hl 1 rfl) ?_
    refine lv_icmp_eq (tgt := 432) hx hb dL_law_427 (by decide) (fun _ => ?_) (fun c9 => absurd (by decide) c9)
    refine lv_iload hx hb dL_law_432 (lv_at hl 1 rfl) ?_
    refine lv_if_ne (tgt := 449) hx hb dL_law_434 (by decide) (fun c9 => absurd (by decide) c9) (fun _ => ?_)
    refine lv_aload_n hx hb dL_law_437 rfl (lv_at hl 5 rfl) ?_
    refine lv_iconst (v := 0) hx hb dL_law_438 (by decide) ?_
    refine x_lld (k := 0) hx hb hX.1 hW hoa2 (show vp_in (nI 0) 1 from vp_in_nI (by omega) (by omega)) rfl dL_law_439 ?_
    rw [show vp_updL f 0 (r6.toInt64) 0 = r6.toInt64 from rfl]
    refine lv_iload hx hb dL_law_440 (lv_at hl 0 rfl) ?_
    refine lv_i2l (v := r6.toInt64) hx hb dL_law_442 rfl ?_
    refine W.lcmp hx hb dL_law_443 ?_
    rw [x_cmp]
    refine lv_if_eq (tgt := 449) hx hb dL_law_444 (by decide) (fun _ => ?_) (fun c9 => absurd (by decide) c9)
    refine lv_goto (tgt := 1293) hx hb dL_law_449 (by decide) ?_
    obtain ⟨ct2, vt2, gt2, tb2, vb2, gb2, sa2, nC2, nV2, nG2, hC2, hI2⟩ := hLc
    exact W.widen (by omega) (by omega) (kk _ _ ls E2 ⟨_, _, _, ⟨ct2, vt2, gt2, tb2, vb2, gb2, sa2, nC2, nV2, nG2, (hC2.fr tC_tO hFo).fr tC_tM hFr2, hI2⟩, ⟨A2, hM2, hA2, rfl⟩, hoa2⟩ hW hS (lv_sub hl [2, 3, 4, 5, 6] rfl))
  · rcases hT9 with ⟨rfl, hT9⟩ | ⟨rfl, hT9⟩ | ⟨rfl, hT9⟩
    · have hm := m_begin_3 (a0 := xs (i + 1)) (a1 := xs (i + 2)) (a2 := xs (i + 3)) (a3 := xs (i + 4)) (a4 := xs (i + 5)) hInv hCls hT9
      have hM1 : xMod G E1 o2 A σ := by rw [hE1]; exact hM
      have hoa1 : E1 oa = some (.inl (G.2.1 1, 1, .inr (.inl f))) := by rw [hE1]; exact hoa
      refine lv_istore (lv' := [(5, .int 1), (0, .ref b), (1, .ref o1), (2, .ref o2), (3, .ref oa), (4, .int (nI i))]) hx hb dL_law_383 hl (by decide) rfl (fun ls hl => ?_)
      refine lv_aload_n hx hb dL_law_385 rfl (lv_at hl 3 rfl) ?_
      refine lv_aload_n hx hb dL_law_386 rfl (lv_at hl 1 rfl) ?_
      refine lv_iload hx hb dL_law_387 (lv_at hl 5 rfl) ?_
      refine lv_iconst (v := 1) hx hb dL_law_389 (by decide) ?_
      refine lv_iadd hx hb dL_law_390 ?_
      rw [x_ai1]
      refine va_sld hx hb hXs hbl hbA hS (vp_in_nI (show i + 1 < L by omega) (by omega)) dL_law_391 ?_
      rw [nI_clamp (show i + 1 < 2 ^ 31 by omega)]
      refine lv_aload_n hx hb dL_law_392 rfl (lv_at hl 1 rfl) ?_
      refine lv_iload hx hb dL_law_393 (lv_at hl 5 rfl) ?_
      refine lv_iconst (v := 2) hx hb dL_law_395 (by decide) ?_
      refine lv_iadd hx hb dL_law_396 ?_
      rw [x_ai2]
      refine va_sld hx hb hXs hbl hbA hS (vp_in_nI (show i + 2 < L by omega) (by omega)) dL_law_397 ?_
      rw [nI_clamp (show i + 2 < 2 ^ 31 by omega)]
      refine lv_aload_n hx hb dL_law_398 rfl (lv_at hl 1 rfl) ?_
      refine lv_iload hx hb dL_law_399 (lv_at hl 5 rfl) ?_
      refine lv_iconst (v := 3) hx hb dL_law_401 (by decide) ?_
      refine lv_iadd hx hb dL_law_402 ?_
      rw [x_ai3]
      refine va_sld hx hb hXs hbl hbA hS (vp_in_nI (show i + 3 < L by omega) (by omega)) dL_law_403 ?_
      rw [nI_clamp (show i + 3 < 2 ^ 31 by omega)]
      refine lv_aload_n hx hb dL_law_404 rfl (lv_at hl 1 rfl) ?_
      refine lv_iload hx hb dL_law_405 (lv_at hl 5 rfl) ?_
      refine lv_iconst (v := 4) hx hb dL_law_407 (by decide) ?_
      refine lv_iadd hx hb dL_law_408 ?_
      rw [x_ai4]
      refine va_sld hx hb hXs hbl hbA hS (vp_in_nI (show i + 4 < L by omega) (by omega)) dL_law_409 ?_
      rw [nI_clamp (show i + 4 < 2 ^ 31 by omega)]
      refine lv_aload_n hx hb dL_law_410 rfl (lv_at hl 1 rfl) ?_
      refine lv_iload hx hb dL_law_411 (lv_at hl 5 rfl) ?_
      refine lv_iconst (v := 5) hx hb dL_law_413 (by decide) ?_
      refine lv_iadd hx hb dL_law_414 ?_
      rw [x_ai5]
      refine va_sld hx hb hXs hbl hbA hS (vp_in_nI (show i + 5 < L by omega) (by omega)) dL_law_415 ?_
      rw [nI_clamp (show i + 5 < 2 ^ 31 by omega)]
      refine va_calli (va_runV (As := [.int (xs (i + 1)), .int (xs (i + 2)), .int (xs (i + 3)), .int (xs (i + 4)), .int (xs (i + 5))]) (rest := []) ⟨hx, hb, hml, hown, hts⟩ (kX5_begin l G E1 σ o2 (xs (i + 1)) (xs (i + 2)) (xs (i + 3)) (xs (i + 4)) (xs (i + 5)) A hM1 hA nC nV nG (xMi_of hCls)) (cwV 5 hts gL_law_X5_begin rfl rfl rfl (by decide +kernel) ⟨Nat.le_of_ble_eq_true rfl, Nat.le_of_ble_eq_true rfl⟩) (x_preV hX hS hW hM1.1 rfl) rfl rfl hl.1 rfl (lv_room (Nat.le_of_ble_eq_true rfl)) dL_law_416 ⟨by show _ ≤ 601024; omega, by show _ ≤ 7293034; omega⟩) hS (fun _ _ h => h) (fun _ h => h) (fun r6 E2 t H2 locs2 ht hvm hpost2 hB hz1 hk1 hS2 => ?_)
      rw [ht] at hB
      have hW : xW G E2 H2 := hB
      have hS := hS2
      obtain ⟨q, hq, hr6, hMd2, hFr2⟩ := hpost2
      rw [show q.2 = 1 from (by rw [← hq]; exact hm)] at hMd2
      have hMd3 : xMd G E2 o2 σ 1 := hMd2
      obtain ⟨A2, hM2, hA2, ht2⟩ := hMd3
      have hoa2 : E2 oa = some (.inl (G.2.1 1, 1, .inr (.inl f))) := hFr2 _ _ hoa1 rfl
      refine lv_istore (lv' := [(6, .int r6), (5, .int 1), (0, .ref b), (1, .ref o1), (2, .ref o2), (3, .ref oa), (4, .int (nI i))]) hx hb dL_law_419 hl (by decide) rfl (fun ls hl => ?_)
      refine lv_aload_n hx hb dL_law_421 rfl (lv_at hl 4 rfl) ?_
      refine x_callSe (va_runV (As := []) (rest := []) ⟨hx, hb, hml, hown, hts⟩ (kX5_thrown l G E2 A2 o2 _ hM2) (cwV 0 hts gL_law_X5_thrown rfl rfl rfl (by decide +kernel) ⟨Nat.le_of_ble_eq_true rfl, Nat.le_of_ble_eq_true rfl⟩) (x_preV hX hS hW hM2.1 rfl) rfl rfl hl.1 rfl (lv_room (Nat.le_of_ble_eq_true rfl)) dL_law_422 ⟨by show _ ≤ 601024; omega, by show _ ≤ 7293034; omega⟩) ?_
      rw [show fX5_thrown A2 = (1 : Int32) from by unfold fX5_thrown; rw [ht2]; rfl]
      refine lv_iload hx hb dL_law_425 (lv_at hl 1 rfl) ?_
      refine lv_icmp_eq (tgt := 432) hx hb dL_law_427 (by decide) (fun _ => ?_) (fun c9 => absurd (by decide) c9)
      refine lv_iload hx hb dL_law_432 (lv_at hl 1 rfl) ?_
      refine lv_if_ne (tgt := 449) hx hb dL_law_434 (by decide) (fun _ => ?_) (fun c9 => absurd c9 (by decide))
      refine lv_goto (tgt := 1293) hx hb dL_law_449 (by decide) ?_
      exact W.widen (by omega) (by omega) (kk _ _ ls E2 ⟨_, _, _, ⟨ct, vt, gt, tb, vb, gb, sa, nC, nV, nG, (show xCls G E1 o1 ct vt gt tb vb gb sa nC nV nG σ from by rw [hE1]; exact hCls).fr tC_tM hFr2, hInv⟩, ⟨A2, hM2, hA2, rfl⟩, hoa2⟩ hW hS (lv_sub hl [2, 3, 4, 5, 6] rfl))
    · have hm := m_begin_1 (a0 := xs (i + 1)) (a1 := xs (i + 2)) (a2 := xs (i + 3)) (a3 := xs (i + 4)) (a4 := xs (i + 5)) hInv hCls hT9
      have hM1 : xMod G E1 o2 A σ := by rw [hE1]; exact hM
      have hoa1 : E1 oa = some (.inl (G.2.1 1, 1, .inr (.inl f))) := by rw [hE1]; exact hoa
      refine lv_istore (lv' := [(5, .int 2), (0, .ref b), (1, .ref o1), (2, .ref o2), (3, .ref oa), (4, .int (nI i))]) hx hb dL_law_383 hl (by decide) rfl (fun ls hl => ?_)
      refine lv_aload_n hx hb dL_law_385 rfl (lv_at hl 3 rfl) ?_
      refine lv_aload_n hx hb dL_law_386 rfl (lv_at hl 1 rfl) ?_
      refine lv_iload hx hb dL_law_387 (lv_at hl 5 rfl) ?_
      refine lv_iconst (v := 1) hx hb dL_law_389 (by decide) ?_
      refine lv_iadd hx hb dL_law_390 ?_
      rw [x_ai1]
      refine va_sld hx hb hXs hbl hbA hS (vp_in_nI (show i + 1 < L by omega) (by omega)) dL_law_391 ?_
      rw [nI_clamp (show i + 1 < 2 ^ 31 by omega)]
      refine lv_aload_n hx hb dL_law_392 rfl (lv_at hl 1 rfl) ?_
      refine lv_iload hx hb dL_law_393 (lv_at hl 5 rfl) ?_
      refine lv_iconst (v := 2) hx hb dL_law_395 (by decide) ?_
      refine lv_iadd hx hb dL_law_396 ?_
      rw [x_ai2]
      refine va_sld hx hb hXs hbl hbA hS (vp_in_nI (show i + 2 < L by omega) (by omega)) dL_law_397 ?_
      rw [nI_clamp (show i + 2 < 2 ^ 31 by omega)]
      refine lv_aload_n hx hb dL_law_398 rfl (lv_at hl 1 rfl) ?_
      refine lv_iload hx hb dL_law_399 (lv_at hl 5 rfl) ?_
      refine lv_iconst (v := 3) hx hb dL_law_401 (by decide) ?_
      refine lv_iadd hx hb dL_law_402 ?_
      rw [x_ai3]
      refine va_sld hx hb hXs hbl hbA hS (vp_in_nI (show i + 3 < L by omega) (by omega)) dL_law_403 ?_
      rw [nI_clamp (show i + 3 < 2 ^ 31 by omega)]
      refine lv_aload_n hx hb dL_law_404 rfl (lv_at hl 1 rfl) ?_
      refine lv_iload hx hb dL_law_405 (lv_at hl 5 rfl) ?_
      refine lv_iconst (v := 4) hx hb dL_law_407 (by decide) ?_
      refine lv_iadd hx hb dL_law_408 ?_
      rw [x_ai4]
      refine va_sld hx hb hXs hbl hbA hS (vp_in_nI (show i + 4 < L by omega) (by omega)) dL_law_409 ?_
      rw [nI_clamp (show i + 4 < 2 ^ 31 by omega)]
      refine lv_aload_n hx hb dL_law_410 rfl (lv_at hl 1 rfl) ?_
      refine lv_iload hx hb dL_law_411 (lv_at hl 5 rfl) ?_
      refine lv_iconst (v := 5) hx hb dL_law_413 (by decide) ?_
      refine lv_iadd hx hb dL_law_414 ?_
      rw [x_ai5]
      refine va_sld hx hb hXs hbl hbA hS (vp_in_nI (show i + 5 < L by omega) (by omega)) dL_law_415 ?_
      rw [nI_clamp (show i + 5 < 2 ^ 31 by omega)]
      refine va_calli (va_runV (As := [.int (xs (i + 1)), .int (xs (i + 2)), .int (xs (i + 3)), .int (xs (i + 4)), .int (xs (i + 5))]) (rest := []) ⟨hx, hb, hml, hown, hts⟩ (kX5_begin l G E1 σ o2 (xs (i + 1)) (xs (i + 2)) (xs (i + 3)) (xs (i + 4)) (xs (i + 5)) A hM1 hA nC nV nG (xMi_of hCls)) (cwV 5 hts gL_law_X5_begin rfl rfl rfl (by decide +kernel) ⟨Nat.le_of_ble_eq_true rfl, Nat.le_of_ble_eq_true rfl⟩) (x_preV hX hS hW hM1.1 rfl) rfl rfl hl.1 rfl (lv_room (Nat.le_of_ble_eq_true rfl)) dL_law_416 ⟨by show _ ≤ 601024; omega, by show _ ≤ 7293034; omega⟩) hS (fun _ _ h => h) (fun _ h => h) (fun r6 E2 t H2 locs2 ht hvm hpost2 hB hz1 hk1 hS2 => ?_)
      rw [ht] at hB
      have hW : xW G E2 H2 := hB
      have hS := hS2
      obtain ⟨q, hq, hr6, hMd2, hFr2⟩ := hpost2
      rw [show q.2 = 2 from (by rw [← hq]; exact hm)] at hMd2
      have hMd3 : xMd G E2 o2 σ 2 := hMd2
      obtain ⟨A2, hM2, hA2, ht2⟩ := hMd3
      have hoa2 : E2 oa = some (.inl (G.2.1 1, 1, .inr (.inl f))) := hFr2 _ _ hoa1 rfl
      refine lv_istore (lv' := [(6, .int r6), (5, .int 2), (0, .ref b), (1, .ref o1), (2, .ref o2), (3, .ref oa), (4, .int (nI i))]) hx hb dL_law_419 hl (by decide) rfl (fun ls hl => ?_)
      refine lv_aload_n hx hb dL_law_421 rfl (lv_at hl 4 rfl) ?_
      refine x_callSe (va_runV (As := []) (rest := []) ⟨hx, hb, hml, hown, hts⟩ (kX5_thrown l G E2 A2 o2 _ hM2) (cwV 0 hts gL_law_X5_thrown rfl rfl rfl (by decide +kernel) ⟨Nat.le_of_ble_eq_true rfl, Nat.le_of_ble_eq_true rfl⟩) (x_preV hX hS hW hM2.1 rfl) rfl rfl hl.1 rfl (lv_room (Nat.le_of_ble_eq_true rfl)) dL_law_422 ⟨by show _ ≤ 601024; omega, by show _ ≤ 7293034; omega⟩) ?_
      rw [show fX5_thrown A2 = (2 : Int32) from by unfold fX5_thrown; rw [ht2]; rfl]
      refine lv_iload hx hb dL_law_425 (lv_at hl 1 rfl) ?_
      refine lv_icmp_eq (tgt := 432) hx hb dL_law_427 (by decide) (fun _ => ?_) (fun c9 => absurd (by decide) c9)
      refine lv_iload hx hb dL_law_432 (lv_at hl 1 rfl) ?_
      refine lv_if_ne (tgt := 449) hx hb dL_law_434 (by decide) (fun _ => ?_) (fun c9 => absurd c9 (by decide))
      refine lv_goto (tgt := 1293) hx hb dL_law_449 (by decide) ?_
      exact W.widen (by omega) (by omega) (kk _ _ ls E2 ⟨_, _, _, ⟨ct, vt, gt, tb, vb, gb, sa, nC, nV, nG, (show xCls G E1 o1 ct vt gt tb vb gb sa nC nV nG σ from by rw [hE1]; exact hCls).fr tC_tM hFr2, hInv⟩, ⟨A2, hM2, hA2, rfl⟩, hoa2⟩ hW hS (lv_sub hl [2, 3, 4, 5, 6] rfl))
    · have hm := m_begin_2 (a0 := xs (i + 1)) (a1 := xs (i + 2)) (a2 := xs (i + 3)) (a3 := xs (i + 4)) (a4 := xs (i + 5)) hInv hCls hT9
      have hM1 : xMod G E1 o2 A σ := by rw [hE1]; exact hM
      have hoa1 : E1 oa = some (.inl (G.2.1 1, 1, .inr (.inl f))) := by rw [hE1]; exact hoa
      refine lv_istore (lv' := [(5, .int 3), (0, .ref b), (1, .ref o1), (2, .ref o2), (3, .ref oa), (4, .int (nI i))]) hx hb dL_law_383 hl (by decide) rfl (fun ls hl => ?_)
      refine lv_aload_n hx hb dL_law_385 rfl (lv_at hl 3 rfl) ?_
      refine lv_aload_n hx hb dL_law_386 rfl (lv_at hl 1 rfl) ?_
      refine lv_iload hx hb dL_law_387 (lv_at hl 5 rfl) ?_
      refine lv_iconst (v := 1) hx hb dL_law_389 (by decide) ?_
      refine lv_iadd hx hb dL_law_390 ?_
      rw [x_ai1]
      refine va_sld hx hb hXs hbl hbA hS (vp_in_nI (show i + 1 < L by omega) (by omega)) dL_law_391 ?_
      rw [nI_clamp (show i + 1 < 2 ^ 31 by omega)]
      refine lv_aload_n hx hb dL_law_392 rfl (lv_at hl 1 rfl) ?_
      refine lv_iload hx hb dL_law_393 (lv_at hl 5 rfl) ?_
      refine lv_iconst (v := 2) hx hb dL_law_395 (by decide) ?_
      refine lv_iadd hx hb dL_law_396 ?_
      rw [x_ai2]
      refine va_sld hx hb hXs hbl hbA hS (vp_in_nI (show i + 2 < L by omega) (by omega)) dL_law_397 ?_
      rw [nI_clamp (show i + 2 < 2 ^ 31 by omega)]
      refine lv_aload_n hx hb dL_law_398 rfl (lv_at hl 1 rfl) ?_
      refine lv_iload hx hb dL_law_399 (lv_at hl 5 rfl) ?_
      refine lv_iconst (v := 3) hx hb dL_law_401 (by decide) ?_
      refine lv_iadd hx hb dL_law_402 ?_
      rw [x_ai3]
      refine va_sld hx hb hXs hbl hbA hS (vp_in_nI (show i + 3 < L by omega) (by omega)) dL_law_403 ?_
      rw [nI_clamp (show i + 3 < 2 ^ 31 by omega)]
      refine lv_aload_n hx hb dL_law_404 rfl (lv_at hl 1 rfl) ?_
      refine lv_iload hx hb dL_law_405 (lv_at hl 5 rfl) ?_
      refine lv_iconst (v := 4) hx hb dL_law_407 (by decide) ?_
      refine lv_iadd hx hb dL_law_408 ?_
      rw [x_ai4]
      refine va_sld hx hb hXs hbl hbA hS (vp_in_nI (show i + 4 < L by omega) (by omega)) dL_law_409 ?_
      rw [nI_clamp (show i + 4 < 2 ^ 31 by omega)]
      refine lv_aload_n hx hb dL_law_410 rfl (lv_at hl 1 rfl) ?_
      refine lv_iload hx hb dL_law_411 (lv_at hl 5 rfl) ?_
      refine lv_iconst (v := 5) hx hb dL_law_413 (by decide) ?_
      refine lv_iadd hx hb dL_law_414 ?_
      rw [x_ai5]
      refine va_sld hx hb hXs hbl hbA hS (vp_in_nI (show i + 5 < L by omega) (by omega)) dL_law_415 ?_
      rw [nI_clamp (show i + 5 < 2 ^ 31 by omega)]
      refine va_calli (va_runV (As := [.int (xs (i + 1)), .int (xs (i + 2)), .int (xs (i + 3)), .int (xs (i + 4)), .int (xs (i + 5))]) (rest := []) ⟨hx, hb, hml, hown, hts⟩ (kX5_begin l G E1 σ o2 (xs (i + 1)) (xs (i + 2)) (xs (i + 3)) (xs (i + 4)) (xs (i + 5)) A hM1 hA nC nV nG (xMi_of hCls)) (cwV 5 hts gL_law_X5_begin rfl rfl rfl (by decide +kernel) ⟨Nat.le_of_ble_eq_true rfl, Nat.le_of_ble_eq_true rfl⟩) (x_preV hX hS hW hM1.1 rfl) rfl rfl hl.1 rfl (lv_room (Nat.le_of_ble_eq_true rfl)) dL_law_416 ⟨by show _ ≤ 601024; omega, by show _ ≤ 7293034; omega⟩) hS (fun _ _ h => h) (fun _ h => h) (fun r6 E2 t H2 locs2 ht hvm hpost2 hB hz1 hk1 hS2 => ?_)
      rw [ht] at hB
      have hW : xW G E2 H2 := hB
      have hS := hS2
      obtain ⟨q, hq, hr6, hMd2, hFr2⟩ := hpost2
      rw [show q.2 = 3 from (by rw [← hq]; exact hm)] at hMd2
      have hMd3 : xMd G E2 o2 σ 3 := hMd2
      obtain ⟨A2, hM2, hA2, ht2⟩ := hMd3
      have hoa2 : E2 oa = some (.inl (G.2.1 1, 1, .inr (.inl f))) := hFr2 _ _ hoa1 rfl
      refine lv_istore (lv' := [(6, .int r6), (5, .int 3), (0, .ref b), (1, .ref o1), (2, .ref o2), (3, .ref oa), (4, .int (nI i))]) hx hb dL_law_419 hl (by decide) rfl (fun ls hl => ?_)
      refine lv_aload_n hx hb dL_law_421 rfl (lv_at hl 4 rfl) ?_
      refine x_callSe (va_runV (As := []) (rest := []) ⟨hx, hb, hml, hown, hts⟩ (kX5_thrown l G E2 A2 o2 _ hM2) (cwV 0 hts gL_law_X5_thrown rfl rfl rfl (by decide +kernel) ⟨Nat.le_of_ble_eq_true rfl, Nat.le_of_ble_eq_true rfl⟩) (x_preV hX hS hW hM2.1 rfl) rfl rfl hl.1 rfl (lv_room (Nat.le_of_ble_eq_true rfl)) dL_law_422 ⟨by show _ ≤ 601024; omega, by show _ ≤ 7293034; omega⟩) ?_
      rw [show fX5_thrown A2 = (3 : Int32) from by unfold fX5_thrown; rw [ht2]; rfl]
      refine lv_iload hx hb dL_law_425 (lv_at hl 1 rfl) ?_
      refine lv_icmp_eq (tgt := 432) hx hb dL_law_427 (by decide) (fun _ => ?_) (fun c9 => absurd (by decide) c9)
      refine lv_iload hx hb dL_law_432 (lv_at hl 1 rfl) ?_
      refine lv_if_ne (tgt := 449) hx hb dL_law_434 (by decide) (fun _ => ?_) (fun c9 => absurd c9 (by decide))
      refine lv_goto (tgt := 1293) hx hb dL_law_449 (by decide) ?_
      exact W.widen (by omega) (by omega) (kk _ _ ls E2 ⟨_, _, _, ⟨ct, vt, gt, tb, vb, gb, sa, nC, nV, nG, (show xCls G E1 o1 ct vt gt tb vb gb sa nC nV nG σ from by rw [hE1]; exact hCls).fr tC_tM hFr2, hInv⟩, ⟨A2, hM2, hA2, rfl⟩, hoa2⟩ hW hS (lv_sub hl [2, 3, 4, 5, 6] rfl))

set_option maxHeartbeats 4000000 in
set_option maxRecDepth 100000 in
theorem law_can {p : Program} {l : Launch} {e : Env} {s : State} {m : MethodId} {b : Nat} {below : List Frame} {meth : Method} {c : Code} {H : Heap} {locs : List Loc} {cells slots : Nat} {Q : State → Prop} {ls : Array Slot} (hl9 : l.stackTraces = false) (hx : p.tables.exec = Jvm.exec) (hb : c.code = cL_law) (hml : c.maxLocals = 7) (hown : s.vm.findClass RL = some m.cls) (hts : ∀ w ∈ wsL_law, w.before #[Value.ref b] s = true) {G : xG} (hX : xS G s) (hNc : xNc s) {L : Nat} {xs : Nat → Int32} (hXs : va_X b L xs s s.heap) (hbl : b < s.heap.size) (hbA : ¬ xA G b) {i : Nat} (hi : i + 6 ≤ L) (hL : L ≤ 3072) (hcn : cells + 5 ≤ 601024) (hsn : slots + 88 ≤ 7293034) {E : xE} {o1 o2 oa : Nat} (hLs : xLs G E o1 o2 oa) (hW : xW G E H) (hS : va_S (xA G) s.heap H locs) (hl : lv_has ls 7 [(0, .ref b), (1, .ref o1), (2, .ref o2), (3, .ref oa), (4, .int (nI i))]) (kk : ∀ (H1 : Heap) (locs1 : List Loc) (ls1 : Array Slot) (E1 : xE), xLs G E1 o1 o2 oa → xW G E1 H1 → va_S (xA G) s.heap H1 locs1 → lv_has ls1 7 [(0, .ref b), (1, .ref o1), (2, .ref o2), (3, .ref oa), (4, .int (nI i))] → W p l e room_1 s m #[Value.ref b] below meth c H1 locs1 (cells + 5) (slots + 88) Q (F0 m 1293 ls1 [])) : W p l e room_1 s m #[Value.ref b] below meth c H locs cells slots Q (F0 m 452 ls []) := by
  obtain ⟨σ, t0, f, ⟨ct, vt, gt, tb, vb, gb, sa, nC, nV, nG, hCls, hInv⟩, ⟨A, hM, hA, hA19⟩, hoa⟩ := hLs
  refine lv_aload_n hx hb dL_law_452 rfl (lv_at hl 1 rfl) ?_
  refine lv_aload_n hx hb dL_law_453 rfl (lv_at hl 0 rfl) ?_
  refine lv_iload hx hb dL_law_454 (lv_at hl 4 rfl) ?_
  refine lv_iconst (v := 1) hx hb dL_law_456 (by decide) ?_
  refine lv_iadd hx hb dL_law_457 ?_
  rw [x_ai1]
  refine va_sld hx hb hXs hbl hbA hS (vp_in_nI (show i + 1 < L by omega) (by omega)) dL_law_458 ?_
  rw [nI_clamp (show i + 1 < 2 ^ 31 by omega)]
  refine lv_aload_n hx hb dL_law_459 rfl (lv_at hl 0 rfl) ?_
  refine lv_iload hx hb dL_law_460 (lv_at hl 4 rfl) ?_
  refine lv_iconst (v := 2) hx hb dL_law_462 (by decide) ?_
  refine lv_iadd hx hb dL_law_463 ?_
  rw [x_ai2]
  refine va_sld hx hb hXs hbl hbA hS (vp_in_nI (show i + 2 < L by omega) (by omega)) dL_law_464 ?_
  rw [nI_clamp (show i + 2 < 2 ^ 31 by omega)]
  refine lv_aload_n hx hb dL_law_465 rfl (lv_at hl 0 rfl) ?_
  refine lv_iload hx hb dL_law_466 (lv_at hl 4 rfl) ?_
  refine lv_iconst (v := 3) hx hb dL_law_468 (by decide) ?_
  refine lv_iadd hx hb dL_law_469 ?_
  rw [x_ai3]
  refine va_sld hx hb hXs hbl hbA hS (vp_in_nI (show i + 3 < L by omega) (by omega)) dL_law_470 ?_
  rw [nI_clamp (show i + 3 < 2 ^ 31 by omega)]
  refine lv_aload_n hx hb dL_law_471 rfl (lv_at hl 3 rfl) ?_
  refine vx_calli (vx_runSX (As := [.ref o1, .int (xs (i + 1)), .int (xs (i + 2)), .int (xs (i + 3)), .ref oa]) (rest := []) ⟨hx, hb, hml, hown, hts⟩ (kL_can l hl9 G E o1 (xs (i + 1)) (xs (i + 2)) (xs (i + 3)) oa ct vt gt tb vb gb sa nC nV nG σ hCls f hoa) (vx_cwSW 5 hts gL_law_L_can rfl rfl rfl (by decide +kernel) ⟨Nat.le_of_ble_eq_true rfl, Nat.le_of_ble_eq_true rfl⟩) (x_preS2 hX hNc hS hW) rfl rfl hl.1 rfl (lv_room (Nat.le_of_ble_eq_true rfl)) dL_law_472 ⟨by show _ ≤ 601024; omega, by show _ ≤ 7293034; omega⟩) hS (fun _ _ h => h) (fun _ h => h) (fun _ _ h => h) (fun Ex ce q9 ux t H1 locs1 ht hvm hpx hB hz1 hk1 hS1 hce hcv hcl => hB.1.elim) (fun r5 E1 t H1 locs1 ht hvm hpost hB hz1 hk1 hS1 => ?_)
  rw [ht] at hB
  have hW : xW G E1 H1 := hB
  have hS := hS1
  rcases hpost with ⟨rfl, r1, Ec, hP, hE1⟩ | ⟨⟨rfl, hT9⟩, hE1⟩
  · obtain ⟨hm, hLc, hFc⟩ := m_can hInv hCls hP
    have hFo : xFr tO Ec E1 := by rw [hE1]; exact xFr_put xFr_rf (hFc _ _ hoa rfl) rfl _
    have hM1 : xMod G E1 o2 A σ := (hM.fr hFc).frO hFo
    have hoa1 : E1 oa = some (.inl (G.2.1 1, 1, .inr (.inl (vp_updL f 0 ((if r1 = 0 then (0 : Int64) else 1)))))) := by rw [hE1]; exact xU_self _ _ _
    refine lv_istore (lv' := [(5, .int 0), (0, .ref b), (1, .ref o1), (2, .ref o2), (3, .ref oa), (4, .int (nI i))]) hx hb dL_law_475 hl (by decide) rfl (fun ls hl => ?_)
    refine lv_aload_n hx hb dL_law_477 rfl (lv_at hl 3 rfl) ?_
    refine lv_aload_n hx hb dL_law_478 rfl (lv_at hl 1 rfl) ?_
    refine lv_iload hx hb dL_law_479 (lv_at hl 5 rfl) ?_
    refine lv_iconst (v := 1) hx hb dL_law_481 (by decide) ?_
    refine lv_iadd hx hb dL_law_482 ?_
    rw [x_ai1]
    refine va_sld hx hb hXs hbl hbA hS (vp_in_nI (show i + 1 < L by omega) (by omega)) dL_law_483 ?_
    rw [nI_clamp (show i + 1 < 2 ^ 31 by omega)]
    refine lv_aload_n hx hb dL_law_484 rfl (lv_at hl 1 rfl) ?_
    refine lv_iload hx hb dL_law_485 (lv_at hl 5 rfl) ?_
    refine lv_iconst (v := 2) hx hb dL_law_487 (by decide) ?_
    refine lv_iadd hx hb dL_law_488 ?_
    rw [x_ai2]
    refine va_sld hx hb hXs hbl hbA hS (vp_in_nI (show i + 2 < L by omega) (by omega)) dL_law_489 ?_
    rw [nI_clamp (show i + 2 < 2 ^ 31 by omega)]
    refine lv_aload_n hx hb dL_law_490 rfl (lv_at hl 1 rfl) ?_
    refine lv_iload hx hb dL_law_491 (lv_at hl 5 rfl) ?_
    refine lv_iconst (v := 3) hx hb dL_law_493 (by decide) ?_
    refine lv_iadd hx hb dL_law_494 ?_
    rw [x_ai3]
    refine va_sld hx hb hXs hbl hbA hS (vp_in_nI (show i + 3 < L by omega) (by omega)) dL_law_495 ?_
    rw [nI_clamp (show i + 3 < 2 ^ 31 by omega)]
    refine va_calli (va_runV (As := [.int (xs (i + 1)), .int (xs (i + 2)), .int (xs (i + 3))]) (rest := []) ⟨hx, hb, hml, hown, hts⟩ (kX5_can l G E1 σ o2 (xs (i + 1)) (xs (i + 2)) (xs (i + 3)) A hM1 hA nC nV nG (xMi_of hCls)) (cwV 3 hts gL_law_X5_can rfl rfl rfl (by decide +kernel) ⟨Nat.le_of_ble_eq_true rfl, Nat.le_of_ble_eq_true rfl⟩) (x_preV hX hS hW hM1.1 rfl) rfl rfl hl.1 rfl (lv_room (Nat.le_of_ble_eq_true rfl)) dL_law_496 ⟨by show _ ≤ 601024; omega, by show _ ≤ 7293034; omega⟩) hS (fun _ _ h => h) (fun _ h => h) (fun r6 E2 t H2 locs2 ht hvm hpost2 hB hz1 hk1 hS2 => ?_)
    rw [ht] at hB
    have hW : xW G E2 H2 := hB
    have hS := hS2
    obtain ⟨q, hq, hr6, hMd2, hFr2⟩ := hpost2
    have hq2 := hq.symm.trans hm
    subst hq2
    have hr6 : r6 = r1 := hr6
    subst hr6
    have hMd3 : xMd G E2 o2 (σ) 0 := hMd2
    obtain ⟨A2, hM2, hA2, ht2⟩ := hMd3
    have hoa2 : E2 oa = some (.inl (G.2.1 1, 1, .inr (.inl (vp_updL f 0 ((if r6 = 0 then (0 : Int64) else 1)))))) := hFr2 _ _ hoa1 rfl
    refine lv_istore (lv' := [(6, .int r6), (5, .int 0), (0, .ref b), (1, .ref o1), (2, .ref o2), (3, .ref oa), (4, .int (nI i))]) hx hb dL_law_499 hl (by decide) rfl (fun ls hl => ?_)
    refine lv_aload_n hx hb dL_law_501 rfl (lv_at hl 4 rfl) ?_
    refine x_callSe (va_runV (As := []) (rest := []) ⟨hx, hb, hml, hown, hts⟩ (kX5_thrown l G E2 A2 o2 _ hM2) (cwV 0 hts gL_law_X5_thrown rfl rfl rfl (by decide +kernel) ⟨Nat.le_of_ble_eq_true rfl, Nat.le_of_ble_eq_true rfl⟩) (x_preV hX hS hW hM2.1 rfl) rfl rfl hl.1 rfl (lv_room (Nat.le_of_ble_eq_true rfl)) dL_law_502 ⟨by show _ ≤ 601024; omega, by show _ ≤ 7293034; omega⟩) ?_
    rw [show fX5_thrown A2 = (0 : Int32) from by unfold fX5_thrown; rw [ht2]; rfl]
    refine lv_iload hx hb dL_law_505 (lv_at hl 1 rfl) ?_
    refine lv_icmp_eq (tgt := 512) hx hb dL_law_507 (by decide) (fun _ => ?_) (fun c9 => absurd (by decide) c9)
    refine lv_iload hx hb dL_law_512 (lv_at hl 1 rfl) ?_
    refine lv_if_ne (tgt := 536) hx hb dL_law_514 (by decide) (fun c9 => absurd (by decide) c9) (fun _ => ?_)
    refine lv_aload_n hx hb dL_law_517 rfl (lv_at hl 5 rfl) ?_
    refine lv_iconst (v := 0) hx hb dL_law_518 (by decide) ?_
    refine x_lld (k := 0) hx hb hX.1 hW hoa2 (show vp_in (nI 0) 1 from vp_in_nI (by omega) (by omega)) rfl dL_law_519 ?_
    rw [show vp_updL f 0 ((if r6 = 0 then (0 : Int64) else 1)) 0 = (if r6 = 0 then (0 : Int64) else 1) from rfl]
    refine lv_iload hx hb dL_law_520 (lv_at hl 0 rfl) ?_
    refine lv_if_eq (tgt := 529) hx hb dL_law_522 (by decide) (fun c1 => ?_) (fun c1 => ?_)
    · refine lv_lconst (v := 0) hx hb dL_law_529 (by decide) ?_
      refine W.lcmp hx hb dL_law_530 ?_
      rw [if_pos c1]
      rw [x_cmp]
      refine lv_if_eq (tgt := 536) hx hb dL_law_531 (by decide) (fun _ => ?_) (fun c9 => absurd (by decide) c9)
      refine lv_goto (tgt := 1293) hx hb dL_law_536 (by decide) ?_
      obtain ⟨ct2, vt2, gt2, tb2, vb2, gb2, sa2, nC2, nV2, nG2, hC2, hI2⟩ := hLc
      exact W.widen (by omega) (by omega) (kk _ _ ls E2 ⟨_, _, _, ⟨ct2, vt2, gt2, tb2, vb2, gb2, sa2, nC2, nV2, nG2, (hC2.fr tC_tO hFo).fr tC_tM hFr2, hI2⟩, ⟨A2, hM2, hA2, rfl⟩, hoa2⟩ hW hS (lv_sub hl [2, 3, 4, 5, 6] rfl))
    · refine lv_lconst (v := 1) hx hb dL_law_525 (by decide) ?_
      refine lv_goto (tgt := 530) hx hb dL_law_526 (by decide) ?_
      refine W.lcmp hx hb dL_law_530 ?_
      rw [if_neg c1]
      rw [x_cmp]
      refine lv_if_eq (tgt := 536) hx hb dL_law_531 (by decide) (fun _ => ?_) (fun c9 => absurd (by decide) c9)
      refine lv_goto (tgt := 1293) hx hb dL_law_536 (by decide) ?_
      obtain ⟨ct2, vt2, gt2, tb2, vb2, gb2, sa2, nC2, nV2, nG2, hC2, hI2⟩ := hLc
      exact W.widen (by omega) (by omega) (kk _ _ ls E2 ⟨_, _, _, ⟨ct2, vt2, gt2, tb2, vb2, gb2, sa2, nC2, nV2, nG2, (hC2.fr tC_tO hFo).fr tC_tM hFr2, hI2⟩, ⟨A2, hM2, hA2, rfl⟩, hoa2⟩ hW hS (lv_sub hl [2, 3, 4, 5, 6] rfl))
  · have hm := m_can_3 (a0 := xs (i + 1)) (a1 := xs (i + 2)) (a2 := xs (i + 3)) hInv hCls hT9
    have hM1 : xMod G E1 o2 A σ := by rw [hE1]; exact hM
    have hoa1 : E1 oa = some (.inl (G.2.1 1, 1, .inr (.inl f))) := by rw [hE1]; exact hoa
    refine lv_istore (lv' := [(5, .int 1), (0, .ref b), (1, .ref o1), (2, .ref o2), (3, .ref oa), (4, .int (nI i))]) hx hb dL_law_475 hl (by decide) rfl (fun ls hl => ?_)
    refine lv_aload_n hx hb dL_law_477 rfl (lv_at hl 3 rfl) ?_
    refine lv_aload_n hx hb dL_law_478 rfl (lv_at hl 1 rfl) ?_
    refine lv_iload hx hb dL_law_479 (lv_at hl 5 rfl) ?_
    refine lv_iconst (v := 1) hx hb dL_law_481 (by decide) ?_
    refine lv_iadd hx hb dL_law_482 ?_
    rw [x_ai1]
    refine va_sld hx hb hXs hbl hbA hS (vp_in_nI (show i + 1 < L by omega) (by omega)) dL_law_483 ?_
    rw [nI_clamp (show i + 1 < 2 ^ 31 by omega)]
    refine lv_aload_n hx hb dL_law_484 rfl (lv_at hl 1 rfl) ?_
    refine lv_iload hx hb dL_law_485 (lv_at hl 5 rfl) ?_
    refine lv_iconst (v := 2) hx hb dL_law_487 (by decide) ?_
    refine lv_iadd hx hb dL_law_488 ?_
    rw [x_ai2]
    refine va_sld hx hb hXs hbl hbA hS (vp_in_nI (show i + 2 < L by omega) (by omega)) dL_law_489 ?_
    rw [nI_clamp (show i + 2 < 2 ^ 31 by omega)]
    refine lv_aload_n hx hb dL_law_490 rfl (lv_at hl 1 rfl) ?_
    refine lv_iload hx hb dL_law_491 (lv_at hl 5 rfl) ?_
    refine lv_iconst (v := 3) hx hb dL_law_493 (by decide) ?_
    refine lv_iadd hx hb dL_law_494 ?_
    rw [x_ai3]
    refine va_sld hx hb hXs hbl hbA hS (vp_in_nI (show i + 3 < L by omega) (by omega)) dL_law_495 ?_
    rw [nI_clamp (show i + 3 < 2 ^ 31 by omega)]
    refine va_calli (va_runV (As := [.int (xs (i + 1)), .int (xs (i + 2)), .int (xs (i + 3))]) (rest := []) ⟨hx, hb, hml, hown, hts⟩ (kX5_can l G E1 σ o2 (xs (i + 1)) (xs (i + 2)) (xs (i + 3)) A hM1 hA nC nV nG (xMi_of hCls)) (cwV 3 hts gL_law_X5_can rfl rfl rfl (by decide +kernel) ⟨Nat.le_of_ble_eq_true rfl, Nat.le_of_ble_eq_true rfl⟩) (x_preV hX hS hW hM1.1 rfl) rfl rfl hl.1 rfl (lv_room (Nat.le_of_ble_eq_true rfl)) dL_law_496 ⟨by show _ ≤ 601024; omega, by show _ ≤ 7293034; omega⟩) hS (fun _ _ h => h) (fun _ h => h) (fun r6 E2 t H2 locs2 ht hvm hpost2 hB hz1 hk1 hS2 => ?_)
    rw [ht] at hB
    have hW : xW G E2 H2 := hB
    have hS := hS2
    obtain ⟨q, hq, hr6, hMd2, hFr2⟩ := hpost2
    rw [show q.2 = 1 from (by rw [← hq]; exact hm)] at hMd2
    have hMd3 : xMd G E2 o2 σ 1 := hMd2
    obtain ⟨A2, hM2, hA2, ht2⟩ := hMd3
    have hoa2 : E2 oa = some (.inl (G.2.1 1, 1, .inr (.inl f))) := hFr2 _ _ hoa1 rfl
    refine lv_istore (lv' := [(6, .int r6), (5, .int 1), (0, .ref b), (1, .ref o1), (2, .ref o2), (3, .ref oa), (4, .int (nI i))]) hx hb dL_law_499 hl (by decide) rfl (fun ls hl => ?_)
    refine lv_aload_n hx hb dL_law_501 rfl (lv_at hl 4 rfl) ?_
    refine x_callSe (va_runV (As := []) (rest := []) ⟨hx, hb, hml, hown, hts⟩ (kX5_thrown l G E2 A2 o2 _ hM2) (cwV 0 hts gL_law_X5_thrown rfl rfl rfl (by decide +kernel) ⟨Nat.le_of_ble_eq_true rfl, Nat.le_of_ble_eq_true rfl⟩) (x_preV hX hS hW hM2.1 rfl) rfl rfl hl.1 rfl (lv_room (Nat.le_of_ble_eq_true rfl)) dL_law_502 ⟨by show _ ≤ 601024; omega, by show _ ≤ 7293034; omega⟩) ?_
    rw [show fX5_thrown A2 = (1 : Int32) from by unfold fX5_thrown; rw [ht2]; rfl]
    refine lv_iload hx hb dL_law_505 (lv_at hl 1 rfl) ?_
    refine lv_icmp_eq (tgt := 512) hx hb dL_law_507 (by decide) (fun _ => ?_) (fun c9 => absurd (by decide) c9)
    refine lv_iload hx hb dL_law_512 (lv_at hl 1 rfl) ?_
    refine lv_if_ne (tgt := 536) hx hb dL_law_514 (by decide) (fun _ => ?_) (fun c9 => absurd c9 (by decide))
    refine lv_goto (tgt := 1293) hx hb dL_law_536 (by decide) ?_
    exact W.widen (by omega) (by omega) (kk _ _ ls E2 ⟨_, _, _, ⟨ct, vt, gt, tb, vb, gb, sa, nC, nV, nG, (show xCls G E1 o1 ct vt gt tb vb gb sa nC nV nG σ from by rw [hE1]; exact hCls).fr tC_tM hFr2, hInv⟩, ⟨A2, hM2, hA2, rfl⟩, hoa2⟩ hW hS (lv_sub hl [2, 3, 4, 5, 6] rfl))

set_option maxHeartbeats 4000000 in
set_option maxRecDepth 100000 in
theorem law_canByAll {p : Program} {l : Launch} {e : Env} {s : State} {m : MethodId} {b : Nat} {below : List Frame} {meth : Method} {c : Code} {H : Heap} {locs : List Loc} {cells slots : Nat} {Q : State → Prop} {ls : Array Slot} (hl9 : l.stackTraces = false) (hx : p.tables.exec = Jvm.exec) (hb : c.code = cL_law) (hml : c.maxLocals = 7) (hown : s.vm.findClass RL = some m.cls) (hts : ∀ w ∈ wsL_law, w.before #[Value.ref b] s = true) {G : xG} (hX : xS G s) (hNc : xNc s) {L : Nat} {xs : Nat → Int32} (hXs : va_X b L xs s s.heap) (hbl : b < s.heap.size) (hbA : ¬ xA G b) {i : Nat} (hi : i + 6 ≤ L) (hL : L ≤ 3072) (hcn : cells + 5 ≤ 601024) (hsn : slots + 88 ≤ 7293034) {E : xE} {o1 o2 oa : Nat} (hLs : xLs G E o1 o2 oa) (hW : xW G E H) (hS : va_S (xA G) s.heap H locs) (hl : lv_has ls 7 [(0, .ref b), (1, .ref o1), (2, .ref o2), (3, .ref oa), (4, .int (nI i))]) (kk : ∀ (H1 : Heap) (locs1 : List Loc) (ls1 : Array Slot) (E1 : xE), xLs G E1 o1 o2 oa → xW G E1 H1 → va_S (xA G) s.heap H1 locs1 → lv_has ls1 7 [(0, .ref b), (1, .ref o1), (2, .ref o2), (3, .ref oa), (4, .int (nI i))] → W p l e room_1 s m #[Value.ref b] below meth c H1 locs1 (cells + 5) (slots + 88) Q (F0 m 1293 ls1 [])) : W p l e room_1 s m #[Value.ref b] below meth c H locs cells slots Q (F0 m 539 ls []) := by
  obtain ⟨σ, t0, f, ⟨ct, vt, gt, tb, vb, gb, sa, nC, nV, nG, hCls, hInv⟩, ⟨A, hM, hA, hA19⟩, hoa⟩ := hLs
  refine lv_aload_n hx hb dL_law_539 rfl (lv_at hl 1 rfl) ?_
  refine lv_aload_n hx hb dL_law_540 rfl (lv_at hl 0 rfl) ?_
  refine lv_iload hx hb dL_law_541 (lv_at hl 4 rfl) ?_
  refine lv_iconst (v := 1) hx hb dL_law_543 (by decide) ?_
  refine lv_iadd hx hb dL_law_544 ?_
  rw [x_ai1]
  refine va_sld hx hb hXs hbl hbA hS (vp_in_nI (show i + 1 < L by omega) (by omega)) dL_law_545 ?_
  rw [nI_clamp (show i + 1 < 2 ^ 31 by omega)]
  refine lv_aload_n hx hb dL_law_546 rfl (lv_at hl 0 rfl) ?_
  refine lv_iload hx hb dL_law_547 (lv_at hl 4 rfl) ?_
  refine lv_iconst (v := 2) hx hb dL_law_549 (by decide) ?_
  refine lv_iadd hx hb dL_law_550 ?_
  rw [x_ai2]
  refine va_sld hx hb hXs hbl hbA hS (vp_in_nI (show i + 2 < L by omega) (by omega)) dL_law_551 ?_
  rw [nI_clamp (show i + 2 < 2 ^ 31 by omega)]
  refine lv_aload_n hx hb dL_law_552 rfl (lv_at hl 0 rfl) ?_
  refine lv_iload hx hb dL_law_553 (lv_at hl 4 rfl) ?_
  refine lv_iconst (v := 3) hx hb dL_law_555 (by decide) ?_
  refine lv_iadd hx hb dL_law_556 ?_
  rw [x_ai3]
  refine va_sld hx hb hXs hbl hbA hS (vp_in_nI (show i + 3 < L by omega) (by omega)) dL_law_557 ?_
  rw [nI_clamp (show i + 3 < 2 ^ 31 by omega)]
  refine lv_aload_n hx hb dL_law_558 rfl (lv_at hl 3 rfl) ?_
  refine vx_calli (vx_runSX (As := [.ref o1, .int (xs (i + 1)), .int (xs (i + 2)), .int (xs (i + 3)), .ref oa]) (rest := []) ⟨hx, hb, hml, hown, hts⟩ (kL_canByAll l hl9 G E o1 (xs (i + 1)) (xs (i + 2)) (xs (i + 3)) oa ct vt gt tb vb gb sa nC nV nG σ hCls f hoa) (vx_cwSW 5 hts gL_law_L_canByAll rfl rfl rfl (by decide +kernel) ⟨Nat.le_of_ble_eq_true rfl, Nat.le_of_ble_eq_true rfl⟩) (x_preS2 hX hNc hS hW) rfl rfl hl.1 rfl (lv_room (Nat.le_of_ble_eq_true rfl)) dL_law_559 ⟨by show _ ≤ 601024; omega, by show _ ≤ 7293034; omega⟩) hS (fun _ _ h => h) (fun _ h => h) (fun _ _ h => h) (fun Ex ce q9 ux t H1 locs1 ht hvm hpx hB hz1 hk1 hS1 hce hcv hcl => hB.1.elim) (fun r5 E1 t H1 locs1 ht hvm hpost hB hz1 hk1 hS1 => ?_)
  rw [ht] at hB
  have hW : xW G E1 H1 := hB
  have hS := hS1
  rcases hpost with ⟨rfl, r1, Ec, hP, hE1⟩ | ⟨⟨rfl, hT9⟩, hE1⟩
  · obtain ⟨hm, hLc, hFc⟩ := m_canByAll hInv hCls hP
    have hFo : xFr tO Ec E1 := by rw [hE1]; exact xFr_put xFr_rf (hFc _ _ hoa rfl) rfl _
    have hM1 : xMod G E1 o2 A σ := (hM.fr hFc).frO hFo
    have hoa1 : E1 oa = some (.inl (G.2.1 1, 1, .inr (.inl (vp_updL f 0 ((if r1 = 0 then (0 : Int64) else 1)))))) := by rw [hE1]; exact xU_self _ _ _
    refine lv_istore (lv' := [(5, .int 0), (0, .ref b), (1, .ref o1), (2, .ref o2), (3, .ref oa), (4, .int (nI i))]) hx hb dL_law_562 hl (by decide) rfl (fun ls hl => ?_)
    refine lv_aload_n hx hb dL_law_564 rfl (lv_at hl 3 rfl) ?_
    refine lv_aload_n hx hb dL_law_565 rfl (lv_at hl 1 rfl) ?_
    refine lv_iload hx hb dL_law_566 (lv_at hl 5 rfl) ?_
    refine lv_iconst (v := 1) hx hb dL_law_568 (by decide) ?_
    refine lv_iadd hx hb dL_law_569 ?_
    rw [x_ai1]
    refine va_sld hx hb hXs hbl hbA hS (vp_in_nI (show i + 1 < L by omega) (by omega)) dL_law_570 ?_
    rw [nI_clamp (show i + 1 < 2 ^ 31 by omega)]
    refine lv_aload_n hx hb dL_law_571 rfl (lv_at hl 1 rfl) ?_
    refine lv_iload hx hb dL_law_572 (lv_at hl 5 rfl) ?_
    refine lv_iconst (v := 2) hx hb dL_law_574 (by decide) ?_
    refine lv_iadd hx hb dL_law_575 ?_
    rw [x_ai2]
    refine va_sld hx hb hXs hbl hbA hS (vp_in_nI (show i + 2 < L by omega) (by omega)) dL_law_576 ?_
    rw [nI_clamp (show i + 2 < 2 ^ 31 by omega)]
    refine lv_aload_n hx hb dL_law_577 rfl (lv_at hl 1 rfl) ?_
    refine lv_iload hx hb dL_law_578 (lv_at hl 5 rfl) ?_
    refine lv_iconst (v := 3) hx hb dL_law_580 (by decide) ?_
    refine lv_iadd hx hb dL_law_581 ?_
    rw [x_ai3]
    refine va_sld hx hb hXs hbl hbA hS (vp_in_nI (show i + 3 < L by omega) (by omega)) dL_law_582 ?_
    rw [nI_clamp (show i + 3 < 2 ^ 31 by omega)]
    refine va_calli (va_runV (As := [.int (xs (i + 1)), .int (xs (i + 2)), .int (xs (i + 3))]) (rest := []) ⟨hx, hb, hml, hown, hts⟩ (kX5_canByAll l G E1 σ o2 (xs (i + 1)) (xs (i + 2)) (xs (i + 3)) A hM1 hA nC nV nG (xMi_of hCls)) (cwV 3 hts gL_law_X5_canByAll rfl rfl rfl (by decide +kernel) ⟨Nat.le_of_ble_eq_true rfl, Nat.le_of_ble_eq_true rfl⟩) (x_preV hX hS hW hM1.1 rfl) rfl rfl hl.1 rfl (lv_room (Nat.le_of_ble_eq_true rfl)) dL_law_583 ⟨by show _ ≤ 601024; omega, by show _ ≤ 7293034; omega⟩) hS (fun _ _ h => h) (fun _ h => h) (fun r6 E2 t H2 locs2 ht hvm hpost2 hB hz1 hk1 hS2 => ?_)
    rw [ht] at hB
    have hW : xW G E2 H2 := hB
    have hS := hS2
    obtain ⟨q, hq, hr6, hMd2, hFr2⟩ := hpost2
    have hq2 := hq.symm.trans hm
    subst hq2
    have hr6 : r6 = r1 := hr6
    subst hr6
    have hMd3 : xMd G E2 o2 (σ) 0 := hMd2
    obtain ⟨A2, hM2, hA2, ht2⟩ := hMd3
    have hoa2 : E2 oa = some (.inl (G.2.1 1, 1, .inr (.inl (vp_updL f 0 ((if r6 = 0 then (0 : Int64) else 1)))))) := hFr2 _ _ hoa1 rfl
    refine lv_istore (lv' := [(6, .int r6), (5, .int 0), (0, .ref b), (1, .ref o1), (2, .ref o2), (3, .ref oa), (4, .int (nI i))]) hx hb dL_law_586 hl (by decide) rfl (fun ls hl => ?_)
    refine lv_aload_n hx hb dL_law_588 rfl (lv_at hl 4 rfl) ?_
    refine x_callSe (va_runV (As := []) (rest := []) ⟨hx, hb, hml, hown, hts⟩ (kX5_thrown l G E2 A2 o2 _ hM2) (cwV 0 hts gL_law_X5_thrown rfl rfl rfl (by decide +kernel) ⟨Nat.le_of_ble_eq_true rfl, Nat.le_of_ble_eq_true rfl⟩) (x_preV hX hS hW hM2.1 rfl) rfl rfl hl.1 rfl (lv_room (Nat.le_of_ble_eq_true rfl)) dL_law_589 ⟨by show _ ≤ 601024; omega, by show _ ≤ 7293034; omega⟩) ?_
    rw [show fX5_thrown A2 = (0 : Int32) from by unfold fX5_thrown; rw [ht2]; rfl]
    refine lv_iload hx hb dL_law_592 (lv_at hl 1 rfl) ?_
    refine lv_icmp_eq (tgt := 599) hx hb dL_law_594 (by decide) (fun _ => ?_) (fun c9 => absurd (by decide) c9)
    refine lv_iload hx hb dL_law_599 (lv_at hl 1 rfl) ?_
    refine lv_if_ne (tgt := 623) hx hb dL_law_601 (by decide) (fun c9 => absurd (by decide) c9) (fun _ => ?_)
    refine lv_aload_n hx hb dL_law_604 rfl (lv_at hl 5 rfl) ?_
    refine lv_iconst (v := 0) hx hb dL_law_605 (by decide) ?_
    refine x_lld (k := 0) hx hb hX.1 hW hoa2 (show vp_in (nI 0) 1 from vp_in_nI (by omega) (by omega)) rfl dL_law_606 ?_
    rw [show vp_updL f 0 ((if r6 = 0 then (0 : Int64) else 1)) 0 = (if r6 = 0 then (0 : Int64) else 1) from rfl]
    refine lv_iload hx hb dL_law_607 (lv_at hl 0 rfl) ?_
    refine lv_if_eq (tgt := 616) hx hb dL_law_609 (by decide) (fun c1 => ?_) (fun c1 => ?_)
    · refine lv_lconst (v := 0) hx hb dL_law_616 (by decide) ?_
      refine W.lcmp hx hb dL_law_617 ?_
      rw [if_pos c1]
      rw [x_cmp]
      refine lv_if_eq (tgt := 623) hx hb dL_law_618 (by decide) (fun _ => ?_) (fun c9 => absurd (by decide) c9)
      refine lv_goto (tgt := 1293) hx hb dL_law_623 (by decide) ?_
      obtain ⟨ct2, vt2, gt2, tb2, vb2, gb2, sa2, nC2, nV2, nG2, hC2, hI2⟩ := hLc
      exact W.widen (by omega) (by omega) (kk _ _ ls E2 ⟨_, _, _, ⟨ct2, vt2, gt2, tb2, vb2, gb2, sa2, nC2, nV2, nG2, (hC2.fr tC_tO hFo).fr tC_tM hFr2, hI2⟩, ⟨A2, hM2, hA2, rfl⟩, hoa2⟩ hW hS (lv_sub hl [2, 3, 4, 5, 6] rfl))
    · refine lv_lconst (v := 1) hx hb dL_law_612 (by decide) ?_
      refine lv_goto (tgt := 617) hx hb dL_law_613 (by decide) ?_
      refine W.lcmp hx hb dL_law_617 ?_
      rw [if_neg c1]
      rw [x_cmp]
      refine lv_if_eq (tgt := 623) hx hb dL_law_618 (by decide) (fun _ => ?_) (fun c9 => absurd (by decide) c9)
      refine lv_goto (tgt := 1293) hx hb dL_law_623 (by decide) ?_
      obtain ⟨ct2, vt2, gt2, tb2, vb2, gb2, sa2, nC2, nV2, nG2, hC2, hI2⟩ := hLc
      exact W.widen (by omega) (by omega) (kk _ _ ls E2 ⟨_, _, _, ⟨ct2, vt2, gt2, tb2, vb2, gb2, sa2, nC2, nV2, nG2, (hC2.fr tC_tO hFo).fr tC_tM hFr2, hI2⟩, ⟨A2, hM2, hA2, rfl⟩, hoa2⟩ hW hS (lv_sub hl [2, 3, 4, 5, 6] rfl))
  · have hm := m_canByAll_3 (a0 := xs (i + 1)) (a1 := xs (i + 2)) (a2 := xs (i + 3)) hInv hCls hT9
    have hM1 : xMod G E1 o2 A σ := by rw [hE1]; exact hM
    have hoa1 : E1 oa = some (.inl (G.2.1 1, 1, .inr (.inl f))) := by rw [hE1]; exact hoa
    refine lv_istore (lv' := [(5, .int 1), (0, .ref b), (1, .ref o1), (2, .ref o2), (3, .ref oa), (4, .int (nI i))]) hx hb dL_law_562 hl (by decide) rfl (fun ls hl => ?_)
    refine lv_aload_n hx hb dL_law_564 rfl (lv_at hl 3 rfl) ?_
    refine lv_aload_n hx hb dL_law_565 rfl (lv_at hl 1 rfl) ?_
    refine lv_iload hx hb dL_law_566 (lv_at hl 5 rfl) ?_
    refine lv_iconst (v := 1) hx hb dL_law_568 (by decide) ?_
    refine lv_iadd hx hb dL_law_569 ?_
    rw [x_ai1]
    refine va_sld hx hb hXs hbl hbA hS (vp_in_nI (show i + 1 < L by omega) (by omega)) dL_law_570 ?_
    rw [nI_clamp (show i + 1 < 2 ^ 31 by omega)]
    refine lv_aload_n hx hb dL_law_571 rfl (lv_at hl 1 rfl) ?_
    refine lv_iload hx hb dL_law_572 (lv_at hl 5 rfl) ?_
    refine lv_iconst (v := 2) hx hb dL_law_574 (by decide) ?_
    refine lv_iadd hx hb dL_law_575 ?_
    rw [x_ai2]
    refine va_sld hx hb hXs hbl hbA hS (vp_in_nI (show i + 2 < L by omega) (by omega)) dL_law_576 ?_
    rw [nI_clamp (show i + 2 < 2 ^ 31 by omega)]
    refine lv_aload_n hx hb dL_law_577 rfl (lv_at hl 1 rfl) ?_
    refine lv_iload hx hb dL_law_578 (lv_at hl 5 rfl) ?_
    refine lv_iconst (v := 3) hx hb dL_law_580 (by decide) ?_
    refine lv_iadd hx hb dL_law_581 ?_
    rw [x_ai3]
    refine va_sld hx hb hXs hbl hbA hS (vp_in_nI (show i + 3 < L by omega) (by omega)) dL_law_582 ?_
    rw [nI_clamp (show i + 3 < 2 ^ 31 by omega)]
    refine va_calli (va_runV (As := [.int (xs (i + 1)), .int (xs (i + 2)), .int (xs (i + 3))]) (rest := []) ⟨hx, hb, hml, hown, hts⟩ (kX5_canByAll l G E1 σ o2 (xs (i + 1)) (xs (i + 2)) (xs (i + 3)) A hM1 hA nC nV nG (xMi_of hCls)) (cwV 3 hts gL_law_X5_canByAll rfl rfl rfl (by decide +kernel) ⟨Nat.le_of_ble_eq_true rfl, Nat.le_of_ble_eq_true rfl⟩) (x_preV hX hS hW hM1.1 rfl) rfl rfl hl.1 rfl (lv_room (Nat.le_of_ble_eq_true rfl)) dL_law_583 ⟨by show _ ≤ 601024; omega, by show _ ≤ 7293034; omega⟩) hS (fun _ _ h => h) (fun _ h => h) (fun r6 E2 t H2 locs2 ht hvm hpost2 hB hz1 hk1 hS2 => ?_)
    rw [ht] at hB
    have hW : xW G E2 H2 := hB
    have hS := hS2
    obtain ⟨q, hq, hr6, hMd2, hFr2⟩ := hpost2
    rw [show q.2 = 1 from (by rw [← hq]; exact hm)] at hMd2
    have hMd3 : xMd G E2 o2 σ 1 := hMd2
    obtain ⟨A2, hM2, hA2, ht2⟩ := hMd3
    have hoa2 : E2 oa = some (.inl (G.2.1 1, 1, .inr (.inl f))) := hFr2 _ _ hoa1 rfl
    refine lv_istore (lv' := [(6, .int r6), (5, .int 1), (0, .ref b), (1, .ref o1), (2, .ref o2), (3, .ref oa), (4, .int (nI i))]) hx hb dL_law_586 hl (by decide) rfl (fun ls hl => ?_)
    refine lv_aload_n hx hb dL_law_588 rfl (lv_at hl 4 rfl) ?_
    refine x_callSe (va_runV (As := []) (rest := []) ⟨hx, hb, hml, hown, hts⟩ (kX5_thrown l G E2 A2 o2 _ hM2) (cwV 0 hts gL_law_X5_thrown rfl rfl rfl (by decide +kernel) ⟨Nat.le_of_ble_eq_true rfl, Nat.le_of_ble_eq_true rfl⟩) (x_preV hX hS hW hM2.1 rfl) rfl rfl hl.1 rfl (lv_room (Nat.le_of_ble_eq_true rfl)) dL_law_589 ⟨by show _ ≤ 601024; omega, by show _ ≤ 7293034; omega⟩) ?_
    rw [show fX5_thrown A2 = (1 : Int32) from by unfold fX5_thrown; rw [ht2]; rfl]
    refine lv_iload hx hb dL_law_592 (lv_at hl 1 rfl) ?_
    refine lv_icmp_eq (tgt := 599) hx hb dL_law_594 (by decide) (fun _ => ?_) (fun c9 => absurd (by decide) c9)
    refine lv_iload hx hb dL_law_599 (lv_at hl 1 rfl) ?_
    refine lv_if_ne (tgt := 623) hx hb dL_law_601 (by decide) (fun _ => ?_) (fun c9 => absurd c9 (by decide))
    refine lv_goto (tgt := 1293) hx hb dL_law_623 (by decide) ?_
    exact W.widen (by omega) (by omega) (kk _ _ ls E2 ⟨_, _, _, ⟨ct, vt, gt, tb, vb, gb, sa, nC, nV, nG, (show xCls G E1 o1 ct vt gt tb vb gb sa nC nV nG σ from by rw [hE1]; exact hCls).fr tC_tM hFr2, hInv⟩, ⟨A2, hM2, hA2, rfl⟩, hoa2⟩ hW hS (lv_sub hl [2, 3, 4, 5, 6] rfl))

set_option maxHeartbeats 4000000 in
set_option maxRecDepth 100000 in
theorem law_move {p : Program} {l : Launch} {e : Env} {s : State} {m : MethodId} {b : Nat} {below : List Frame} {meth : Method} {c : Code} {H : Heap} {locs : List Loc} {cells slots : Nat} {Q : State → Prop} {ls : Array Slot} (hl9 : l.stackTraces = false) (hx : p.tables.exec = Jvm.exec) (hb : c.code = cL_law) (hml : c.maxLocals = 7) (hown : s.vm.findClass RL = some m.cls) (hts : ∀ w ∈ wsL_law, w.before #[Value.ref b] s = true) {G : xG} (hX : xS G s) (hNc : xNc s) {L : Nat} {xs : Nat → Int32} (hXs : va_X b L xs s s.heap) (hbl : b < s.heap.size) (hbA : ¬ xA G b) {i : Nat} (hi : i + 6 ≤ L) (hL : L ≤ 3072) (hcn : cells + 5 ≤ 601024) (hsn : slots + 88 ≤ 7293034) {E : xE} {o1 o2 oa : Nat} (hLs : xLs G E o1 o2 oa) (hW : xW G E H) (hS : va_S (xA G) s.heap H locs) (hl : lv_has ls 7 [(0, .ref b), (1, .ref o1), (2, .ref o2), (3, .ref oa), (4, .int (nI i))]) (kk : ∀ (H1 : Heap) (locs1 : List Loc) (ls1 : Array Slot) (E1 : xE), xLs G E1 o1 o2 oa → xW G E1 H1 → va_S (xA G) s.heap H1 locs1 → lv_has ls1 7 [(0, .ref b), (1, .ref o1), (2, .ref o2), (3, .ref oa), (4, .int (nI i))] → W p l e room_1 s m #[Value.ref b] below meth c H1 locs1 (cells + 5) (slots + 88) Q (F0 m 1293 ls1 [])) : W p l e room_1 s m #[Value.ref b] below meth c H locs cells slots Q (F0 m 626 ls []) := by
  obtain ⟨σ, t0, f, ⟨ct, vt, gt, tb, vb, gb, sa, nC, nV, nG, hCls, hInv⟩, ⟨A, hM, hA, hA19⟩, hoa⟩ := hLs
  refine lv_aload_n hx hb dL_law_626 rfl (lv_at hl 1 rfl) ?_
  refine lv_aload_n hx hb dL_law_627 rfl (lv_at hl 0 rfl) ?_
  refine lv_iload hx hb dL_law_628 (lv_at hl 4 rfl) ?_
  refine lv_iconst (v := 1) hx hb dL_law_630 (by decide) ?_
  refine lv_iadd hx hb dL_law_631 ?_
  rw [x_ai1]
  refine va_sld hx hb hXs hbl hbA hS (vp_in_nI (show i + 1 < L by omega) (by omega)) dL_law_632 ?_
  rw [nI_clamp (show i + 1 < 2 ^ 31 by omega)]
  refine lv_aload_n hx hb dL_law_633 rfl (lv_at hl 0 rfl) ?_
  refine lv_iload hx hb dL_law_634 (lv_at hl 4 rfl) ?_
  refine lv_iconst (v := 2) hx hb dL_law_636 (by decide) ?_
  refine lv_iadd hx hb dL_law_637 ?_
  rw [x_ai2]
  refine va_sld hx hb hXs hbl hbA hS (vp_in_nI (show i + 2 < L by omega) (by omega)) dL_law_638 ?_
  rw [nI_clamp (show i + 2 < 2 ^ 31 by omega)]
  refine lv_aload_n hx hb dL_law_639 rfl (lv_at hl 0 rfl) ?_
  refine lv_iload hx hb dL_law_640 (lv_at hl 4 rfl) ?_
  refine lv_iconst (v := 3) hx hb dL_law_642 (by decide) ?_
  refine lv_iadd hx hb dL_law_643 ?_
  rw [x_ai3]
  refine va_sld hx hb hXs hbl hbA hS (vp_in_nI (show i + 3 < L by omega) (by omega)) dL_law_644 ?_
  rw [nI_clamp (show i + 3 < 2 ^ 31 by omega)]
  refine lv_aload_n hx hb dL_law_645 rfl (lv_at hl 3 rfl) ?_
  refine vx_calli (vx_runSX (As := [.ref o1, .int (xs (i + 1)), .int (xs (i + 2)), .int (xs (i + 3)), .ref oa]) (rest := []) ⟨hx, hb, hml, hown, hts⟩ (kL_move l hl9 G E o1 (xs (i + 1)) (xs (i + 2)) (xs (i + 3)) oa ct vt gt tb vb gb sa nC nV nG σ hCls f hoa) (vx_cwSW 5 hts gL_law_L_move rfl rfl rfl (by decide +kernel) ⟨Nat.le_of_ble_eq_true rfl, Nat.le_of_ble_eq_true rfl⟩) (x_preS2 hX hNc hS hW) rfl rfl hl.1 rfl (lv_room (Nat.le_of_ble_eq_true rfl)) dL_law_646 ⟨by show _ ≤ 601024; omega, by show _ ≤ 7293034; omega⟩) hS (fun _ _ h => h) (fun _ h => h) (fun _ _ h => h) (fun Ex ce q9 ux t H1 locs1 ht hvm hpx hB hz1 hk1 hS1 hce hcv hcl => hB.1.elim) (fun r5 E1 t H1 locs1 ht hvm hpost hB hz1 hk1 hS1 => ?_)
  rw [ht] at hB
  have hW : xW G E1 H1 := hB
  have hS := hS1
  rcases hpost with ⟨rfl, r1, Ec, hP, hE1⟩ | ⟨hT9, hE1⟩
  · obtain ⟨en, hm, hLc, hFc⟩ := m_move hInv hCls hP
    have hFo : xFr tO Ec E1 := by rw [hE1]; exact xFr_put xFr_rf (hFc _ _ hoa rfl) rfl _
    have hM1 : xMod G E1 o2 A σ := (hM.fr hFc).frO hFo
    have hoa1 : E1 oa = some (.inl (G.2.1 1, 1, .inr (.inl (vp_updL f 0 (r1.toInt64))))) := by rw [hE1]; exact xU_self _ _ _
    refine lv_istore (lv' := [(5, .int 0), (0, .ref b), (1, .ref o1), (2, .ref o2), (3, .ref oa), (4, .int (nI i))]) hx hb dL_law_649 hl (by decide) rfl (fun ls hl => ?_)
    refine lv_aload_n hx hb dL_law_651 rfl (lv_at hl 3 rfl) ?_
    refine lv_aload_n hx hb dL_law_652 rfl (lv_at hl 1 rfl) ?_
    refine lv_iload hx hb dL_law_653 (lv_at hl 5 rfl) ?_
    refine lv_iconst (v := 1) hx hb dL_law_655 (by decide) ?_
    refine lv_iadd hx hb dL_law_656 ?_
    rw [x_ai1]
    refine va_sld hx hb hXs hbl hbA hS (vp_in_nI (show i + 1 < L by omega) (by omega)) dL_law_657 ?_
    rw [nI_clamp (show i + 1 < 2 ^ 31 by omega)]
    refine lv_aload_n hx hb dL_law_658 rfl (lv_at hl 1 rfl) ?_
    refine lv_iload hx hb dL_law_659 (lv_at hl 5 rfl) ?_
    refine lv_iconst (v := 2) hx hb dL_law_661 (by decide) ?_
    refine lv_iadd hx hb dL_law_662 ?_
    rw [x_ai2]
    refine va_sld hx hb hXs hbl hbA hS (vp_in_nI (show i + 2 < L by omega) (by omega)) dL_law_663 ?_
    rw [nI_clamp (show i + 2 < 2 ^ 31 by omega)]
    refine lv_aload_n hx hb dL_law_664 rfl (lv_at hl 1 rfl) ?_
    refine lv_iload hx hb dL_law_665 (lv_at hl 5 rfl) ?_
    refine lv_iconst (v := 3) hx hb dL_law_667 (by decide) ?_
    refine lv_iadd hx hb dL_law_668 ?_
    rw [x_ai3]
    refine va_sld hx hb hXs hbl hbA hS (vp_in_nI (show i + 3 < L by omega) (by omega)) dL_law_669 ?_
    rw [nI_clamp (show i + 3 < 2 ^ 31 by omega)]
    refine va_calli (va_runV (As := [.int (xs (i + 1)), .int (xs (i + 2)), .int (xs (i + 3))]) (rest := []) ⟨hx, hb, hml, hown, hts⟩ (kX5_move l G E1 σ o2 (xs (i + 1)) (xs (i + 2)) (xs (i + 3)) A hM1 hA nC nV nG (xMi_of hCls)) (cwV 3 hts gL_law_X5_move rfl rfl rfl (by decide +kernel) ⟨Nat.le_of_ble_eq_true rfl, Nat.le_of_ble_eq_true rfl⟩) (x_preV hX hS hW hM1.1 rfl) rfl rfl hl.1 rfl (lv_room (Nat.le_of_ble_eq_true rfl)) dL_law_670 ⟨by show _ ≤ 601024; omega, by show _ ≤ 7293034; omega⟩) hS (fun _ _ h => h) (fun _ h => h) (fun r6 E2 t H2 locs2 ht hvm hpost2 hB hz1 hk1 hS2 => ?_)
    rw [ht] at hB
    have hW : xW G E2 H2 := hB
    have hS := hS2
    obtain ⟨q, hq, hr6, hMd2, hFr2⟩ := hpost2
    have hq2 := hq.symm.trans hm
    subst hq2
    have hr6 : r6 = r1 := hr6
    subst hr6
    have hMd3 : xMd G E2 o2 (sgMove σ ((xs (i + 1)).toNatClampNeg) ((σ 16 (xs (i + 1)).toNatClampNeg).toNatClampNeg) ((σ 11 (xs (i + 1)).toNatClampNeg).toNatClampNeg) (moA σ ((xs (i + 1)).toNatClampNeg) ((σ 16 (xs (i + 1)).toNatClampNeg).toNatClampNeg) ((σ 11 (xs (i + 1)).toNatClampNeg).toNatClampNeg) (xs (i + 2)) (xs (i + 3))) (moB σ ((xs (i + 1)).toNatClampNeg) ((σ 16 (xs (i + 1)).toNatClampNeg).toNatClampNeg) ((σ 11 (xs (i + 1)).toNatClampNeg).toNatClampNeg) (xs (i + 2)) (xs (i + 3))) r6 en) 0 := hMd2
    obtain ⟨A2, hM2, hA2, ht2⟩ := hMd3
    have hoa2 : E2 oa = some (.inl (G.2.1 1, 1, .inr (.inl (vp_updL f 0 (r6.toInt64))))) := hFr2 _ _ hoa1 rfl
    refine lv_istore (lv' := [(6, .int r6), (5, .int 0), (0, .ref b), (1, .ref o1), (2, .ref o2), (3, .ref oa), (4, .int (nI i))]) hx hb dL_law_673 hl (by decide) rfl (fun ls hl => ?_)
    refine lv_aload_n hx hb dL_law_675 rfl (lv_at hl 4 rfl) ?_
    refine x_callSe (va_runV (As := []) (rest := []) ⟨hx, hb, hml, hown, hts⟩ (kX5_thrown l G E2 A2 o2 _ hM2) (cwV 0 hts gL_law_X5_thrown rfl rfl rfl (by decide +kernel) ⟨Nat.le_of_ble_eq_true rfl, Nat.le_of_ble_eq_true rfl⟩) (x_preV hX hS hW hM2.1 rfl) rfl rfl hl.1 rfl (lv_room (Nat.le_of_ble_eq_true rfl)) dL_law_676 ⟨by show _ ≤ 601024; omega, by show _ ≤ 7293034; omega⟩) ?_
    rw [show fX5_thrown A2 = (0 : Int32) from by unfold fX5_thrown; rw [ht2]; rfl]
    refine lv_iload hx hb dL_law_679 (lv_at hl 1 rfl) ?_
    refine lv_icmp_eq (tgt := 686) hx hb dL_law_681 (by decide) (fun _ => ?_) (fun c9 => absurd (by decide) c9)
    refine lv_iload hx hb dL_law_686 (lv_at hl 1 rfl) ?_
    refine lv_if_ne (tgt := 703) hx hb dL_law_688 (by decide) (fun c9 => absurd (by decide) c9) (fun _ => ?_)
    refine lv_aload_n hx hb dL_law_691 rfl (lv_at hl 5 rfl) ?_
    refine lv_iconst (v := 0) hx hb dL_law_692 (by decide) ?_
    refine x_lld (k := 0) hx hb hX.1 hW hoa2 (show vp_in (nI 0) 1 from vp_in_nI (by omega) (by omega)) rfl dL_law_693 ?_
    rw [show vp_updL f 0 (r6.toInt64) 0 = r6.toInt64 from rfl]
    refine lv_iload hx hb dL_law_694 (lv_at hl 0 rfl) ?_
    refine lv_i2l (v := r6.toInt64) hx hb dL_law_696 rfl ?_
    refine W.lcmp hx hb dL_law_697 ?_
    rw [x_cmp]
    refine lv_if_eq (tgt := 703) hx hb dL_law_698 (by decide) (fun _ => ?_) (fun c9 => absurd (by decide) c9)
    refine lv_goto (tgt := 1293) hx hb dL_law_703 (by decide) ?_
    obtain ⟨ct2, vt2, gt2, tb2, vb2, gb2, sa2, nC2, nV2, nG2, hC2, hI2⟩ := hLc
    exact W.widen (by omega) (by omega) (kk _ _ ls E2 ⟨_, _, _, ⟨ct2, vt2, gt2, tb2, vb2, gb2, sa2, nC2, nV2, nG2, (hC2.fr tC_tO hFo).fr tC_tM hFr2, hI2⟩, ⟨A2, hM2, hA2, rfl⟩, hoa2⟩ hW hS (lv_sub hl [2, 3, 4, 5, 6] rfl))
  · rcases hT9 with ⟨rfl, hT9⟩ | ⟨rfl, hT9⟩
    · have hm := m_move_3 (a0 := xs (i + 1)) (a1 := xs (i + 2)) (a2 := xs (i + 3)) hInv hCls hT9
      have hM1 : xMod G E1 o2 A σ := by rw [hE1]; exact hM
      have hoa1 : E1 oa = some (.inl (G.2.1 1, 1, .inr (.inl f))) := by rw [hE1]; exact hoa
      refine lv_istore (lv' := [(5, .int 1), (0, .ref b), (1, .ref o1), (2, .ref o2), (3, .ref oa), (4, .int (nI i))]) hx hb dL_law_649 hl (by decide) rfl (fun ls hl => ?_)
      refine lv_aload_n hx hb dL_law_651 rfl (lv_at hl 3 rfl) ?_
      refine lv_aload_n hx hb dL_law_652 rfl (lv_at hl 1 rfl) ?_
      refine lv_iload hx hb dL_law_653 (lv_at hl 5 rfl) ?_
      refine lv_iconst (v := 1) hx hb dL_law_655 (by decide) ?_
      refine lv_iadd hx hb dL_law_656 ?_
      rw [x_ai1]
      refine va_sld hx hb hXs hbl hbA hS (vp_in_nI (show i + 1 < L by omega) (by omega)) dL_law_657 ?_
      rw [nI_clamp (show i + 1 < 2 ^ 31 by omega)]
      refine lv_aload_n hx hb dL_law_658 rfl (lv_at hl 1 rfl) ?_
      refine lv_iload hx hb dL_law_659 (lv_at hl 5 rfl) ?_
      refine lv_iconst (v := 2) hx hb dL_law_661 (by decide) ?_
      refine lv_iadd hx hb dL_law_662 ?_
      rw [x_ai2]
      refine va_sld hx hb hXs hbl hbA hS (vp_in_nI (show i + 2 < L by omega) (by omega)) dL_law_663 ?_
      rw [nI_clamp (show i + 2 < 2 ^ 31 by omega)]
      refine lv_aload_n hx hb dL_law_664 rfl (lv_at hl 1 rfl) ?_
      refine lv_iload hx hb dL_law_665 (lv_at hl 5 rfl) ?_
      refine lv_iconst (v := 3) hx hb dL_law_667 (by decide) ?_
      refine lv_iadd hx hb dL_law_668 ?_
      rw [x_ai3]
      refine va_sld hx hb hXs hbl hbA hS (vp_in_nI (show i + 3 < L by omega) (by omega)) dL_law_669 ?_
      rw [nI_clamp (show i + 3 < 2 ^ 31 by omega)]
      refine va_calli (va_runV (As := [.int (xs (i + 1)), .int (xs (i + 2)), .int (xs (i + 3))]) (rest := []) ⟨hx, hb, hml, hown, hts⟩ (kX5_move l G E1 σ o2 (xs (i + 1)) (xs (i + 2)) (xs (i + 3)) A hM1 hA nC nV nG (xMi_of hCls)) (cwV 3 hts gL_law_X5_move rfl rfl rfl (by decide +kernel) ⟨Nat.le_of_ble_eq_true rfl, Nat.le_of_ble_eq_true rfl⟩) (x_preV hX hS hW hM1.1 rfl) rfl rfl hl.1 rfl (lv_room (Nat.le_of_ble_eq_true rfl)) dL_law_670 ⟨by show _ ≤ 601024; omega, by show _ ≤ 7293034; omega⟩) hS (fun _ _ h => h) (fun _ h => h) (fun r6 E2 t H2 locs2 ht hvm hpost2 hB hz1 hk1 hS2 => ?_)
      rw [ht] at hB
      have hW : xW G E2 H2 := hB
      have hS := hS2
      obtain ⟨q, hq, hr6, hMd2, hFr2⟩ := hpost2
      rw [show q.2.1 = 1 from (by rw [← hq]; exact hm)] at hMd2
      have hMd3 : xMd G E2 o2 σ 1 := hMd2
      obtain ⟨A2, hM2, hA2, ht2⟩ := hMd3
      have hoa2 : E2 oa = some (.inl (G.2.1 1, 1, .inr (.inl f))) := hFr2 _ _ hoa1 rfl
      refine lv_istore (lv' := [(6, .int r6), (5, .int 1), (0, .ref b), (1, .ref o1), (2, .ref o2), (3, .ref oa), (4, .int (nI i))]) hx hb dL_law_673 hl (by decide) rfl (fun ls hl => ?_)
      refine lv_aload_n hx hb dL_law_675 rfl (lv_at hl 4 rfl) ?_
      refine x_callSe (va_runV (As := []) (rest := []) ⟨hx, hb, hml, hown, hts⟩ (kX5_thrown l G E2 A2 o2 _ hM2) (cwV 0 hts gL_law_X5_thrown rfl rfl rfl (by decide +kernel) ⟨Nat.le_of_ble_eq_true rfl, Nat.le_of_ble_eq_true rfl⟩) (x_preV hX hS hW hM2.1 rfl) rfl rfl hl.1 rfl (lv_room (Nat.le_of_ble_eq_true rfl)) dL_law_676 ⟨by show _ ≤ 601024; omega, by show _ ≤ 7293034; omega⟩) ?_
      rw [show fX5_thrown A2 = (1 : Int32) from by unfold fX5_thrown; rw [ht2]; rfl]
      refine lv_iload hx hb dL_law_679 (lv_at hl 1 rfl) ?_
      refine lv_icmp_eq (tgt := 686) hx hb dL_law_681 (by decide) (fun _ => ?_) (fun c9 => absurd (by decide) c9)
      refine lv_iload hx hb dL_law_686 (lv_at hl 1 rfl) ?_
      refine lv_if_ne (tgt := 703) hx hb dL_law_688 (by decide) (fun _ => ?_) (fun c9 => absurd c9 (by decide))
      refine lv_goto (tgt := 1293) hx hb dL_law_703 (by decide) ?_
      exact W.widen (by omega) (by omega) (kk _ _ ls E2 ⟨_, _, _, ⟨ct, vt, gt, tb, vb, gb, sa, nC, nV, nG, (show xCls G E1 o1 ct vt gt tb vb gb sa nC nV nG σ from by rw [hE1]; exact hCls).fr tC_tM hFr2, hInv⟩, ⟨A2, hM2, hA2, rfl⟩, hoa2⟩ hW hS (lv_sub hl [2, 3, 4, 5, 6] rfl))
    · have hm := m_move_2 (a0 := xs (i + 1)) (a1 := xs (i + 2)) (a2 := xs (i + 3)) hInv hCls hT9
      have hM1 : xMod G E1 o2 A σ := by rw [hE1]; exact hM
      have hoa1 : E1 oa = some (.inl (G.2.1 1, 1, .inr (.inl f))) := by rw [hE1]; exact hoa
      refine lv_istore (lv' := [(5, .int 2), (0, .ref b), (1, .ref o1), (2, .ref o2), (3, .ref oa), (4, .int (nI i))]) hx hb dL_law_649 hl (by decide) rfl (fun ls hl => ?_)
      refine lv_aload_n hx hb dL_law_651 rfl (lv_at hl 3 rfl) ?_
      refine lv_aload_n hx hb dL_law_652 rfl (lv_at hl 1 rfl) ?_
      refine lv_iload hx hb dL_law_653 (lv_at hl 5 rfl) ?_
      refine lv_iconst (v := 1) hx hb dL_law_655 (by decide) ?_
      refine lv_iadd hx hb dL_law_656 ?_
      rw [x_ai1]
      refine va_sld hx hb hXs hbl hbA hS (vp_in_nI (show i + 1 < L by omega) (by omega)) dL_law_657 ?_
      rw [nI_clamp (show i + 1 < 2 ^ 31 by omega)]
      refine lv_aload_n hx hb dL_law_658 rfl (lv_at hl 1 rfl) ?_
      refine lv_iload hx hb dL_law_659 (lv_at hl 5 rfl) ?_
      refine lv_iconst (v := 2) hx hb dL_law_661 (by decide) ?_
      refine lv_iadd hx hb dL_law_662 ?_
      rw [x_ai2]
      refine va_sld hx hb hXs hbl hbA hS (vp_in_nI (show i + 2 < L by omega) (by omega)) dL_law_663 ?_
      rw [nI_clamp (show i + 2 < 2 ^ 31 by omega)]
      refine lv_aload_n hx hb dL_law_664 rfl (lv_at hl 1 rfl) ?_
      refine lv_iload hx hb dL_law_665 (lv_at hl 5 rfl) ?_
      refine lv_iconst (v := 3) hx hb dL_law_667 (by decide) ?_
      refine lv_iadd hx hb dL_law_668 ?_
      rw [x_ai3]
      refine va_sld hx hb hXs hbl hbA hS (vp_in_nI (show i + 3 < L by omega) (by omega)) dL_law_669 ?_
      rw [nI_clamp (show i + 3 < 2 ^ 31 by omega)]
      refine va_calli (va_runV (As := [.int (xs (i + 1)), .int (xs (i + 2)), .int (xs (i + 3))]) (rest := []) ⟨hx, hb, hml, hown, hts⟩ (kX5_move l G E1 σ o2 (xs (i + 1)) (xs (i + 2)) (xs (i + 3)) A hM1 hA nC nV nG (xMi_of hCls)) (cwV 3 hts gL_law_X5_move rfl rfl rfl (by decide +kernel) ⟨Nat.le_of_ble_eq_true rfl, Nat.le_of_ble_eq_true rfl⟩) (x_preV hX hS hW hM1.1 rfl) rfl rfl hl.1 rfl (lv_room (Nat.le_of_ble_eq_true rfl)) dL_law_670 ⟨by show _ ≤ 601024; omega, by show _ ≤ 7293034; omega⟩) hS (fun _ _ h => h) (fun _ h => h) (fun r6 E2 t H2 locs2 ht hvm hpost2 hB hz1 hk1 hS2 => ?_)
      rw [ht] at hB
      have hW : xW G E2 H2 := hB
      have hS := hS2
      obtain ⟨q, hq, hr6, hMd2, hFr2⟩ := hpost2
      rw [show q.2.1 = 2 from (by rw [← hq]; exact hm)] at hMd2
      have hMd3 : xMd G E2 o2 σ 2 := hMd2
      obtain ⟨A2, hM2, hA2, ht2⟩ := hMd3
      have hoa2 : E2 oa = some (.inl (G.2.1 1, 1, .inr (.inl f))) := hFr2 _ _ hoa1 rfl
      refine lv_istore (lv' := [(6, .int r6), (5, .int 2), (0, .ref b), (1, .ref o1), (2, .ref o2), (3, .ref oa), (4, .int (nI i))]) hx hb dL_law_673 hl (by decide) rfl (fun ls hl => ?_)
      refine lv_aload_n hx hb dL_law_675 rfl (lv_at hl 4 rfl) ?_
      refine x_callSe (va_runV (As := []) (rest := []) ⟨hx, hb, hml, hown, hts⟩ (kX5_thrown l G E2 A2 o2 _ hM2) (cwV 0 hts gL_law_X5_thrown rfl rfl rfl (by decide +kernel) ⟨Nat.le_of_ble_eq_true rfl, Nat.le_of_ble_eq_true rfl⟩) (x_preV hX hS hW hM2.1 rfl) rfl rfl hl.1 rfl (lv_room (Nat.le_of_ble_eq_true rfl)) dL_law_676 ⟨by show _ ≤ 601024; omega, by show _ ≤ 7293034; omega⟩) ?_
      rw [show fX5_thrown A2 = (2 : Int32) from by unfold fX5_thrown; rw [ht2]; rfl]
      refine lv_iload hx hb dL_law_679 (lv_at hl 1 rfl) ?_
      refine lv_icmp_eq (tgt := 686) hx hb dL_law_681 (by decide) (fun _ => ?_) (fun c9 => absurd (by decide) c9)
      refine lv_iload hx hb dL_law_686 (lv_at hl 1 rfl) ?_
      refine lv_if_ne (tgt := 703) hx hb dL_law_688 (by decide) (fun _ => ?_) (fun c9 => absurd c9 (by decide))
      refine lv_goto (tgt := 1293) hx hb dL_law_703 (by decide) ?_
      exact W.widen (by omega) (by omega) (kk _ _ ls E2 ⟨_, _, _, ⟨ct, vt, gt, tb, vb, gb, sa, nC, nV, nG, (show xCls G E1 o1 ct vt gt tb vb gb sa nC nV nG σ from by rw [hE1]; exact hCls).fr tC_tM hFr2, hInv⟩, ⟨A2, hM2, hA2, rfl⟩, hoa2⟩ hW hS (lv_sub hl [2, 3, 4, 5, 6] rfl))

set_option maxHeartbeats 4000000 in
set_option maxRecDepth 100000 in
theorem law_state {p : Program} {l : Launch} {e : Env} {s : State} {m : MethodId} {b : Nat} {below : List Frame} {meth : Method} {c : Code} {H : Heap} {locs : List Loc} {cells slots : Nat} {Q : State → Prop} {ls : Array Slot} (hl9 : l.stackTraces = false) (hx : p.tables.exec = Jvm.exec) (hb : c.code = cL_law) (hml : c.maxLocals = 7) (hown : s.vm.findClass RL = some m.cls) (hts : ∀ w ∈ wsL_law, w.before #[Value.ref b] s = true) {G : xG} (hX : xS G s) (hNc : xNc s) {L : Nat} {xs : Nat → Int32} (hXs : va_X b L xs s s.heap) (hbl : b < s.heap.size) (hbA : ¬ xA G b) {i : Nat} (hi : i + 6 ≤ L) (hL : L ≤ 3072) (hcn : cells + 5 ≤ 601024) (hsn : slots + 88 ≤ 7293034) {E : xE} {o1 o2 oa : Nat} (hLs : xLs G E o1 o2 oa) (hW : xW G E H) (hS : va_S (xA G) s.heap H locs) (hl : lv_has ls 7 [(0, .ref b), (1, .ref o1), (2, .ref o2), (3, .ref oa), (4, .int (nI i))]) (kk : ∀ (H1 : Heap) (locs1 : List Loc) (ls1 : Array Slot) (E1 : xE), xLs G E1 o1 o2 oa → xW G E1 H1 → va_S (xA G) s.heap H1 locs1 → lv_has ls1 7 [(0, .ref b), (1, .ref o1), (2, .ref o2), (3, .ref oa), (4, .int (nI i))] → W p l e room_1 s m #[Value.ref b] below meth c H1 locs1 (cells + 5) (slots + 88) Q (F0 m 1293 ls1 [])) : W p l e room_1 s m #[Value.ref b] below meth c H locs cells slots Q (F0 m 706 ls []) := by
  obtain ⟨σ, t0, f, ⟨ct, vt, gt, tb, vb, gb, sa, nC, nV, nG, hCls, hInv⟩, ⟨A, hM, hA, hA19⟩, hoa⟩ := hLs
  refine lv_aload_n hx hb dL_law_706 rfl (lv_at hl 1 rfl) ?_
  refine lv_aload_n hx hb dL_law_707 rfl (lv_at hl 0 rfl) ?_
  refine lv_iload hx hb dL_law_708 (lv_at hl 4 rfl) ?_
  refine lv_iconst (v := 1) hx hb dL_law_710 (by decide) ?_
  refine lv_iadd hx hb dL_law_711 ?_
  rw [x_ai1]
  refine va_sld hx hb hXs hbl hbA hS (vp_in_nI (show i + 1 < L by omega) (by omega)) dL_law_712 ?_
  rw [nI_clamp (show i + 1 < 2 ^ 31 by omega)]
  refine lv_aload_n hx hb dL_law_713 rfl (lv_at hl 3 rfl) ?_
  refine vx_calli (vx_runSX (As := [.ref o1, .int (xs (i + 1)), .ref oa]) (rest := []) ⟨hx, hb, hml, hown, hts⟩ (kL_state l hl9 G E o1 (xs (i + 1)) oa ct vt gt tb vb gb sa nC nV nG σ hCls f hoa) (vx_cwSW 3 hts gL_law_L_state rfl rfl rfl (by decide +kernel) ⟨Nat.le_of_ble_eq_true rfl, Nat.le_of_ble_eq_true rfl⟩) (x_preS2 hX hNc hS hW) rfl rfl hl.1 rfl (lv_room (Nat.le_of_ble_eq_true rfl)) dL_law_714 ⟨by show _ ≤ 601024; omega, by show _ ≤ 7293034; omega⟩) hS (fun _ _ h => h) (fun _ h => h) (fun _ _ h => h) (fun Ex ce q9 ux t H1 locs1 ht hvm hpx hB hz1 hk1 hS1 hce hcv hcl => hB.1.elim) (fun r5 E1 t H1 locs1 ht hvm hpost hB hz1 hk1 hS1 => ?_)
  rw [ht] at hB
  have hW : xW G E1 H1 := hB
  have hS := hS1
  rcases hpost with ⟨rfl, r1, Ec, hP, hE1⟩ | ⟨⟨rfl, hT9⟩, hE1⟩
  · obtain ⟨hm, hLc, hFc⟩ := m_state hInv hCls hP
    have hFo : xFr tO Ec E1 := by rw [hE1]; exact xFr_put xFr_rf (hFc _ _ hoa rfl) rfl _
    have hM1 : xMod G E1 o2 A σ := (hM.fr hFc).frO hFo
    have hoa1 : E1 oa = some (.inl (G.2.1 1, 1, .inr (.inl (vp_updL f 0 (r1.toInt64))))) := by rw [hE1]; exact xU_self _ _ _
    refine lv_istore (lv' := [(5, .int 0), (0, .ref b), (1, .ref o1), (2, .ref o2), (3, .ref oa), (4, .int (nI i))]) hx hb dL_law_717 hl (by decide) rfl (fun ls hl => ?_)
    refine lv_aload_n hx hb dL_law_719 rfl (lv_at hl 3 rfl) ?_
    refine lv_aload_n hx hb dL_law_720 rfl (lv_at hl 1 rfl) ?_
    refine lv_iload hx hb dL_law_721 (lv_at hl 5 rfl) ?_
    refine lv_iconst (v := 1) hx hb dL_law_723 (by decide) ?_
    refine lv_iadd hx hb dL_law_724 ?_
    rw [x_ai1]
    refine va_sld hx hb hXs hbl hbA hS (vp_in_nI (show i + 1 < L by omega) (by omega)) dL_law_725 ?_
    rw [nI_clamp (show i + 1 < 2 ^ 31 by omega)]
    refine va_calli (va_runV (As := [.int (xs (i + 1))]) (rest := []) ⟨hx, hb, hml, hown, hts⟩ (kX5_state l G E1 σ o2 (xs (i + 1)) A hM1 hA nC nV nG (xMi_of hCls)) (cwV 1 hts gL_law_X5_state rfl rfl rfl (by decide +kernel) ⟨Nat.le_of_ble_eq_true rfl, Nat.le_of_ble_eq_true rfl⟩) (x_preV hX hS hW hM1.1 rfl) rfl rfl hl.1 rfl (lv_room (Nat.le_of_ble_eq_true rfl)) dL_law_726 ⟨by show _ ≤ 601024; omega, by show _ ≤ 7293034; omega⟩) hS (fun _ _ h => h) (fun _ h => h) (fun r6 E2 t H2 locs2 ht hvm hpost2 hB hz1 hk1 hS2 => ?_)
    rw [ht] at hB
    have hW : xW G E2 H2 := hB
    have hS := hS2
    obtain ⟨q, hq, hr6, hMd2, hFr2⟩ := hpost2
    have hq2 := hq.symm.trans hm
    subst hq2
    have hr6 : r6 = r1 := hr6
    subst hr6
    have hMd3 : xMd G E2 o2 (σ) 0 := hMd2
    obtain ⟨A2, hM2, hA2, ht2⟩ := hMd3
    have hoa2 : E2 oa = some (.inl (G.2.1 1, 1, .inr (.inl (vp_updL f 0 (r6.toInt64))))) := hFr2 _ _ hoa1 rfl
    refine lv_istore (lv' := [(6, .int r6), (5, .int 0), (0, .ref b), (1, .ref o1), (2, .ref o2), (3, .ref oa), (4, .int (nI i))]) hx hb dL_law_729 hl (by decide) rfl (fun ls hl => ?_)
    refine lv_aload_n hx hb dL_law_731 rfl (lv_at hl 4 rfl) ?_
    refine x_callSe (va_runV (As := []) (rest := []) ⟨hx, hb, hml, hown, hts⟩ (kX5_thrown l G E2 A2 o2 _ hM2) (cwV 0 hts gL_law_X5_thrown rfl rfl rfl (by decide +kernel) ⟨Nat.le_of_ble_eq_true rfl, Nat.le_of_ble_eq_true rfl⟩) (x_preV hX hS hW hM2.1 rfl) rfl rfl hl.1 rfl (lv_room (Nat.le_of_ble_eq_true rfl)) dL_law_732 ⟨by show _ ≤ 601024; omega, by show _ ≤ 7293034; omega⟩) ?_
    rw [show fX5_thrown A2 = (0 : Int32) from by unfold fX5_thrown; rw [ht2]; rfl]
    refine lv_iload hx hb dL_law_735 (lv_at hl 1 rfl) ?_
    refine lv_icmp_eq (tgt := 742) hx hb dL_law_737 (by decide) (fun _ => ?_) (fun c9 => absurd (by decide) c9)
    refine lv_iload hx hb dL_law_742 (lv_at hl 1 rfl) ?_
    refine lv_if_ne (tgt := 759) hx hb dL_law_744 (by decide) (fun c9 => absurd (by decide) c9) (fun _ => ?_)
    refine lv_aload_n hx hb dL_law_747 rfl (lv_at hl 5 rfl) ?_
    refine lv_iconst (v := 0) hx hb dL_law_748 (by decide) ?_
    refine x_lld (k := 0) hx hb hX.1 hW hoa2 (show vp_in (nI 0) 1 from vp_in_nI (by omega) (by omega)) rfl dL_law_749 ?_
    rw [show vp_updL f 0 (r6.toInt64) 0 = r6.toInt64 from rfl]
    refine lv_iload hx hb dL_law_750 (lv_at hl 0 rfl) ?_
    refine lv_i2l (v := r6.toInt64) hx hb dL_law_752 rfl ?_
    refine W.lcmp hx hb dL_law_753 ?_
    rw [x_cmp]
    refine lv_if_eq (tgt := 759) hx hb dL_law_754 (by decide) (fun _ => ?_) (fun c9 => absurd (by decide) c9)
    refine lv_goto (tgt := 1293) hx hb dL_law_759 (by decide) ?_
    obtain ⟨ct2, vt2, gt2, tb2, vb2, gb2, sa2, nC2, nV2, nG2, hC2, hI2⟩ := hLc
    exact W.widen (by omega) (by omega) (kk _ _ ls E2 ⟨_, _, _, ⟨ct2, vt2, gt2, tb2, vb2, gb2, sa2, nC2, nV2, nG2, (hC2.fr tC_tO hFo).fr tC_tM hFr2, hI2⟩, ⟨A2, hM2, hA2, rfl⟩, hoa2⟩ hW hS (lv_sub hl [2, 3, 4, 5, 6] rfl))
  · have hm := m_state_3 (a0 := xs (i + 1)) hInv hCls hT9
    have hM1 : xMod G E1 o2 A σ := by rw [hE1]; exact hM
    have hoa1 : E1 oa = some (.inl (G.2.1 1, 1, .inr (.inl f))) := by rw [hE1]; exact hoa
    refine lv_istore (lv' := [(5, .int 1), (0, .ref b), (1, .ref o1), (2, .ref o2), (3, .ref oa), (4, .int (nI i))]) hx hb dL_law_717 hl (by decide) rfl (fun ls hl => ?_)
    refine lv_aload_n hx hb dL_law_719 rfl (lv_at hl 3 rfl) ?_
    refine lv_aload_n hx hb dL_law_720 rfl (lv_at hl 1 rfl) ?_
    refine lv_iload hx hb dL_law_721 (lv_at hl 5 rfl) ?_
    refine lv_iconst (v := 1) hx hb dL_law_723 (by decide) ?_
    refine lv_iadd hx hb dL_law_724 ?_
    rw [x_ai1]
    refine va_sld hx hb hXs hbl hbA hS (vp_in_nI (show i + 1 < L by omega) (by omega)) dL_law_725 ?_
    rw [nI_clamp (show i + 1 < 2 ^ 31 by omega)]
    refine va_calli (va_runV (As := [.int (xs (i + 1))]) (rest := []) ⟨hx, hb, hml, hown, hts⟩ (kX5_state l G E1 σ o2 (xs (i + 1)) A hM1 hA nC nV nG (xMi_of hCls)) (cwV 1 hts gL_law_X5_state rfl rfl rfl (by decide +kernel) ⟨Nat.le_of_ble_eq_true rfl, Nat.le_of_ble_eq_true rfl⟩) (x_preV hX hS hW hM1.1 rfl) rfl rfl hl.1 rfl (lv_room (Nat.le_of_ble_eq_true rfl)) dL_law_726 ⟨by show _ ≤ 601024; omega, by show _ ≤ 7293034; omega⟩) hS (fun _ _ h => h) (fun _ h => h) (fun r6 E2 t H2 locs2 ht hvm hpost2 hB hz1 hk1 hS2 => ?_)
    rw [ht] at hB
    have hW : xW G E2 H2 := hB
    have hS := hS2
    obtain ⟨q, hq, hr6, hMd2, hFr2⟩ := hpost2
    rw [show q.2 = 1 from (by rw [← hq]; exact hm)] at hMd2
    have hMd3 : xMd G E2 o2 σ 1 := hMd2
    obtain ⟨A2, hM2, hA2, ht2⟩ := hMd3
    have hoa2 : E2 oa = some (.inl (G.2.1 1, 1, .inr (.inl f))) := hFr2 _ _ hoa1 rfl
    refine lv_istore (lv' := [(6, .int r6), (5, .int 1), (0, .ref b), (1, .ref o1), (2, .ref o2), (3, .ref oa), (4, .int (nI i))]) hx hb dL_law_729 hl (by decide) rfl (fun ls hl => ?_)
    refine lv_aload_n hx hb dL_law_731 rfl (lv_at hl 4 rfl) ?_
    refine x_callSe (va_runV (As := []) (rest := []) ⟨hx, hb, hml, hown, hts⟩ (kX5_thrown l G E2 A2 o2 _ hM2) (cwV 0 hts gL_law_X5_thrown rfl rfl rfl (by decide +kernel) ⟨Nat.le_of_ble_eq_true rfl, Nat.le_of_ble_eq_true rfl⟩) (x_preV hX hS hW hM2.1 rfl) rfl rfl hl.1 rfl (lv_room (Nat.le_of_ble_eq_true rfl)) dL_law_732 ⟨by show _ ≤ 601024; omega, by show _ ≤ 7293034; omega⟩) ?_
    rw [show fX5_thrown A2 = (1 : Int32) from by unfold fX5_thrown; rw [ht2]; rfl]
    refine lv_iload hx hb dL_law_735 (lv_at hl 1 rfl) ?_
    refine lv_icmp_eq (tgt := 742) hx hb dL_law_737 (by decide) (fun _ => ?_) (fun c9 => absurd (by decide) c9)
    refine lv_iload hx hb dL_law_742 (lv_at hl 1 rfl) ?_
    refine lv_if_ne (tgt := 759) hx hb dL_law_744 (by decide) (fun _ => ?_) (fun c9 => absurd c9 (by decide))
    refine lv_goto (tgt := 1293) hx hb dL_law_759 (by decide) ?_
    exact W.widen (by omega) (by omega) (kk _ _ ls E2 ⟨_, _, _, ⟨ct, vt, gt, tb, vb, gb, sa, nC, nV, nG, (show xCls G E1 o1 ct vt gt tb vb gb sa nC nV nG σ from by rw [hE1]; exact hCls).fr tC_tM hFr2, hInv⟩, ⟨A2, hM2, hA2, rfl⟩, hoa2⟩ hW hS (lv_sub hl [2, 3, 4, 5, 6] rfl))

set_option maxHeartbeats 4000000 in
set_option maxRecDepth 100000 in
theorem law_pieces {p : Program} {l : Launch} {e : Env} {s : State} {m : MethodId} {b : Nat} {below : List Frame} {meth : Method} {c : Code} {H : Heap} {locs : List Loc} {cells slots : Nat} {Q : State → Prop} {ls : Array Slot} (hl9 : l.stackTraces = false) (hx : p.tables.exec = Jvm.exec) (hb : c.code = cL_law) (hml : c.maxLocals = 7) (hown : s.vm.findClass RL = some m.cls) (hts : ∀ w ∈ wsL_law, w.before #[Value.ref b] s = true) {G : xG} (hX : xS G s) (hNc : xNc s) {L : Nat} {xs : Nat → Int32} (hXs : va_X b L xs s s.heap) (hbl : b < s.heap.size) (hbA : ¬ xA G b) {i : Nat} (hi : i + 6 ≤ L) (hL : L ≤ 3072) (hcn : cells + 5 ≤ 601024) (hsn : slots + 88 ≤ 7293034) {E : xE} {o1 o2 oa : Nat} (hLs : xLs G E o1 o2 oa) (hW : xW G E H) (hS : va_S (xA G) s.heap H locs) (hl : lv_has ls 7 [(0, .ref b), (1, .ref o1), (2, .ref o2), (3, .ref oa), (4, .int (nI i))]) (kk : ∀ (H1 : Heap) (locs1 : List Loc) (ls1 : Array Slot) (E1 : xE), xLs G E1 o1 o2 oa → xW G E1 H1 → va_S (xA G) s.heap H1 locs1 → lv_has ls1 7 [(0, .ref b), (1, .ref o1), (2, .ref o2), (3, .ref oa), (4, .int (nI i))] → W p l e room_1 s m #[Value.ref b] below meth c H1 locs1 (cells + 5) (slots + 88) Q (F0 m 1293 ls1 [])) : W p l e room_1 s m #[Value.ref b] below meth c H locs cells slots Q (F0 m 762 ls []) := by
  obtain ⟨σ, t0, f, ⟨ct, vt, gt, tb, vb, gb, sa, nC, nV, nG, hCls, hInv⟩, ⟨A, hM, hA, hA19⟩, hoa⟩ := hLs
  refine lv_aload_n hx hb dL_law_762 rfl (lv_at hl 1 rfl) ?_
  refine lv_aload_n hx hb dL_law_763 rfl (lv_at hl 0 rfl) ?_
  refine lv_iload hx hb dL_law_764 (lv_at hl 4 rfl) ?_
  refine lv_iconst (v := 1) hx hb dL_law_766 (by decide) ?_
  refine lv_iadd hx hb dL_law_767 ?_
  rw [x_ai1]
  refine va_sld hx hb hXs hbl hbA hS (vp_in_nI (show i + 1 < L by omega) (by omega)) dL_law_768 ?_
  rw [nI_clamp (show i + 1 < 2 ^ 31 by omega)]
  refine lv_aload_n hx hb dL_law_769 rfl (lv_at hl 0 rfl) ?_
  refine lv_iload hx hb dL_law_770 (lv_at hl 4 rfl) ?_
  refine lv_iconst (v := 2) hx hb dL_law_772 (by decide) ?_
  refine lv_iadd hx hb dL_law_773 ?_
  rw [x_ai2]
  refine va_sld hx hb hXs hbl hbA hS (vp_in_nI (show i + 2 < L by omega) (by omega)) dL_law_774 ?_
  rw [nI_clamp (show i + 2 < 2 ^ 31 by omega)]
  refine x_join (ls' := ls) (rest' := [.int (xs (i + 1)), .ref o1]) 783 (zI (if (xs (i + 2)) = 0 then (false) else (true))) (fun v ev => ?_) (fun J => ?_)
  · subst ev
    refine lv_aload_n hx hb dL_law_783 rfl (lv_at hl 3 rfl) ?_
    refine vx_calli (vx_runSX (As := [.ref o1, .int (xs (i + 1)), .int (zI (if (xs (i + 2)) = 0 then (false) else (true))), .ref oa]) (rest := []) ⟨hx, hb, hml, hown, hts⟩ (kL_pieces l hl9 G E o1 (xs (i + 1)) (if (xs (i + 2)) = 0 then (false) else (true)) oa ct vt gt tb vb gb sa nC nV nG σ hCls f hoa) (vx_cwSW 4 hts gL_law_L_pieces rfl rfl rfl (by decide +kernel) ⟨Nat.le_of_ble_eq_true rfl, Nat.le_of_ble_eq_true rfl⟩) (x_preS2 hX hNc hS hW) rfl rfl hl.1 rfl (lv_room (Nat.le_of_ble_eq_true rfl)) dL_law_784 ⟨by show _ ≤ 601024; omega, by show _ ≤ 7293034; omega⟩) hS (fun _ _ h => h) (fun _ h => h) (fun _ _ h => h) (fun Ex ce q9 ux t H1 locs1 ht hvm hpx hB hz1 hk1 hS1 hce hcv hcl => hB.1.elim) (fun r5 E1 t H1 locs1 ht hvm hpost hB hz1 hk1 hS1 => ?_)
    rw [ht] at hB
    have hW : xW G E1 H1 := hB
    have hS := hS1
    rcases hpost with ⟨rfl, r1, Ec, hP, hE1⟩ | ⟨⟨rfl, hT9⟩, hE1⟩
    · obtain ⟨hm, hLc, hFc⟩ := m_pieces hInv hCls hP
      have hFo : xFr tO Ec E1 := by rw [hE1]; exact xFr_put xFr_rf (hFc _ _ hoa rfl) rfl _
      have hM1 : xMod G E1 o2 A σ := (hM.fr hFc).frO hFo
      have hoa1 : E1 oa = some (.inl (G.2.1 1, 1, .inr (.inl (vp_updL f 0 (r1.toInt64))))) := by rw [hE1]; exact xU_self _ _ _
      refine lv_istore (lv' := [(5, .int 0), (0, .ref b), (1, .ref o1), (2, .ref o2), (3, .ref oa), (4, .int (nI i))]) hx hb dL_law_787 hl (by decide) rfl (fun ls hl => ?_)
      refine lv_aload_n hx hb dL_law_789 rfl (lv_at hl 3 rfl) ?_
      refine lv_aload_n hx hb dL_law_790 rfl (lv_at hl 1 rfl) ?_
      refine lv_iload hx hb dL_law_791 (lv_at hl 5 rfl) ?_
      refine lv_iconst (v := 1) hx hb dL_law_793 (by decide) ?_
      refine lv_iadd hx hb dL_law_794 ?_
      rw [x_ai1]
      refine va_sld hx hb hXs hbl hbA hS (vp_in_nI (show i + 1 < L by omega) (by omega)) dL_law_795 ?_
      rw [nI_clamp (show i + 1 < 2 ^ 31 by omega)]
      refine lv_aload_n hx hb dL_law_796 rfl (lv_at hl 1 rfl) ?_
      refine lv_iload hx hb dL_law_797 (lv_at hl 5 rfl) ?_
      refine lv_iconst (v := 2) hx hb dL_law_799 (by decide) ?_
      refine lv_iadd hx hb dL_law_800 ?_
      rw [x_ai2]
      refine va_sld hx hb hXs hbl hbA hS (vp_in_nI (show i + 2 < L by omega) (by omega)) dL_law_801 ?_
      rw [nI_clamp (show i + 2 < 2 ^ 31 by omega)]
      refine x_join (ls' := ls) (rest' := [.int (xs (i + 1)), .ref o2]) 810 (zI (if (xs (i + 2)) = 0 then (false) else (true))) (fun v ev => ?_) (fun J => ?_)
      · subst ev
        refine va_calli (va_runV (As := [.int (xs (i + 1)), .int (zI (if (xs (i + 2)) = 0 then (false) else (true)))]) (rest := []) ⟨hx, hb, hml, hown, hts⟩ (kX5_pieces l G E1 σ o2 (xs (i + 1)) (if (xs (i + 2)) = 0 then (false) else (true)) A hM1 hA nC nV nG (xMi_of hCls)) (cwV 2 hts gL_law_X5_pieces rfl rfl rfl (by decide +kernel) ⟨Nat.le_of_ble_eq_true rfl, Nat.le_of_ble_eq_true rfl⟩) (x_preV hX hS hW hM1.1 rfl) rfl rfl hl.1 rfl (lv_room (Nat.le_of_ble_eq_true rfl)) dL_law_810 ⟨by show _ ≤ 601024; omega, by show _ ≤ 7293034; omega⟩) hS (fun _ _ h => h) (fun _ h => h) (fun r6 E2 t H2 locs2 ht hvm hpost2 hB hz1 hk1 hS2 => ?_)
        rw [ht] at hB
        have hW : xW G E2 H2 := hB
        have hS := hS2
        obtain ⟨q, hq, hr6, hMd2, hFr2⟩ := hpost2
        have hq2 := hq.symm.trans hm
        subst hq2
        have hr6 : r6 = r1 := hr6
        subst hr6
        have hMd3 : xMd G E2 o2 (σ) 0 := hMd2
        obtain ⟨A2, hM2, hA2, ht2⟩ := hMd3
        have hoa2 : E2 oa = some (.inl (G.2.1 1, 1, .inr (.inl (vp_updL f 0 (r6.toInt64))))) := hFr2 _ _ hoa1 rfl
        refine lv_istore (lv' := [(6, .int r6), (5, .int 0), (0, .ref b), (1, .ref o1), (2, .ref o2), (3, .ref oa), (4, .int (nI i))]) hx hb dL_law_813 hl (by decide) rfl (fun ls hl => ?_)
        refine lv_aload_n hx hb dL_law_815 rfl (lv_at hl 4 rfl) ?_
        refine x_callSe (va_runV (As := []) (rest := []) ⟨hx, hb, hml, hown, hts⟩ (kX5_thrown l G E2 A2 o2 _ hM2) (cwV 0 hts gL_law_X5_thrown rfl rfl rfl (by decide +kernel) ⟨Nat.le_of_ble_eq_true rfl, Nat.le_of_ble_eq_true rfl⟩) (x_preV hX hS hW hM2.1 rfl) rfl rfl hl.1 rfl (lv_room (Nat.le_of_ble_eq_true rfl)) dL_law_816 ⟨by show _ ≤ 601024; omega, by show _ ≤ 7293034; omega⟩) ?_
        rw [show fX5_thrown A2 = (0 : Int32) from by unfold fX5_thrown; rw [ht2]; rfl]
        refine lv_iload hx hb dL_law_819 (lv_at hl 1 rfl) ?_
        refine lv_icmp_eq (tgt := 826) hx hb dL_law_821 (by decide) (fun _ => ?_) (fun c9 => absurd (by decide) c9)
        refine lv_iload hx hb dL_law_826 (lv_at hl 1 rfl) ?_
        refine lv_if_ne (tgt := 843) hx hb dL_law_828 (by decide) (fun c9 => absurd (by decide) c9) (fun _ => ?_)
        refine lv_aload_n hx hb dL_law_831 rfl (lv_at hl 5 rfl) ?_
        refine lv_iconst (v := 0) hx hb dL_law_832 (by decide) ?_
        refine x_lld (k := 0) hx hb hX.1 hW hoa2 (show vp_in (nI 0) 1 from vp_in_nI (by omega) (by omega)) rfl dL_law_833 ?_
        rw [show vp_updL f 0 (r6.toInt64) 0 = r6.toInt64 from rfl]
        refine lv_iload hx hb dL_law_834 (lv_at hl 0 rfl) ?_
        refine lv_i2l (v := r6.toInt64) hx hb dL_law_836 rfl ?_
        refine W.lcmp hx hb dL_law_837 ?_
        rw [x_cmp]
        refine lv_if_eq (tgt := 843) hx hb dL_law_838 (by decide) (fun _ => ?_) (fun c9 => absurd (by decide) c9)
        refine lv_goto (tgt := 1293) hx hb dL_law_843 (by decide) ?_
        obtain ⟨ct2, vt2, gt2, tb2, vb2, gb2, sa2, nC2, nV2, nG2, hC2, hI2⟩ := hLc
        exact W.widen (by omega) (by omega) (kk _ _ ls E2 ⟨_, _, _, ⟨ct2, vt2, gt2, tb2, vb2, gb2, sa2, nC2, nV2, nG2, (hC2.fr tC_tO hFo).fr tC_tM hFr2, hI2⟩, ⟨A2, hM2, hA2, rfl⟩, hoa2⟩ hW hS (lv_sub hl [2, 3, 4, 5, 6] rfl))
      · refine lv_if_eq (tgt := 809) hx hb dL_law_802 (by decide) (fun c_2 => ?_) (fun c_2 => ?_)
        · refine lv_iconst (v := 0) hx hb dL_law_809 (by decide) ?_
          exact J _ (congrArg zI (show false = if (xs (i + 2)) = 0 then (false) else (true) from by rw [if_pos c_2]))
        · refine lv_iconst (v := 1) hx hb dL_law_805 (by decide) ?_
          refine lv_goto (tgt := 810) hx hb dL_law_806 (by decide) ?_
          exact J _ (congrArg zI (show true = if (xs (i + 2)) = 0 then (false) else (true) from by rw [if_neg c_2]))
    · have hm := m_pieces_3 (a0 := xs (i + 1)) (a1 := (if (xs (i + 2)) = 0 then (false) else (true))) hInv hCls hT9
      have hM1 : xMod G E1 o2 A σ := by rw [hE1]; exact hM
      have hoa1 : E1 oa = some (.inl (G.2.1 1, 1, .inr (.inl f))) := by rw [hE1]; exact hoa
      refine lv_istore (lv' := [(5, .int 1), (0, .ref b), (1, .ref o1), (2, .ref o2), (3, .ref oa), (4, .int (nI i))]) hx hb dL_law_787 hl (by decide) rfl (fun ls hl => ?_)
      refine lv_aload_n hx hb dL_law_789 rfl (lv_at hl 3 rfl) ?_
      refine lv_aload_n hx hb dL_law_790 rfl (lv_at hl 1 rfl) ?_
      refine lv_iload hx hb dL_law_791 (lv_at hl 5 rfl) ?_
      refine lv_iconst (v := 1) hx hb dL_law_793 (by decide) ?_
      refine lv_iadd hx hb dL_law_794 ?_
      rw [x_ai1]
      refine va_sld hx hb hXs hbl hbA hS (vp_in_nI (show i + 1 < L by omega) (by omega)) dL_law_795 ?_
      rw [nI_clamp (show i + 1 < 2 ^ 31 by omega)]
      refine lv_aload_n hx hb dL_law_796 rfl (lv_at hl 1 rfl) ?_
      refine lv_iload hx hb dL_law_797 (lv_at hl 5 rfl) ?_
      refine lv_iconst (v := 2) hx hb dL_law_799 (by decide) ?_
      refine lv_iadd hx hb dL_law_800 ?_
      rw [x_ai2]
      refine va_sld hx hb hXs hbl hbA hS (vp_in_nI (show i + 2 < L by omega) (by omega)) dL_law_801 ?_
      rw [nI_clamp (show i + 2 < 2 ^ 31 by omega)]
      refine x_join (ls' := ls) (rest' := [.int (xs (i + 1)), .ref o2]) 810 (zI (if (xs (i + 2)) = 0 then (false) else (true))) (fun v ev => ?_) (fun J => ?_)
      · subst ev
        refine va_calli (va_runV (As := [.int (xs (i + 1)), .int (zI (if (xs (i + 2)) = 0 then (false) else (true)))]) (rest := []) ⟨hx, hb, hml, hown, hts⟩ (kX5_pieces l G E1 σ o2 (xs (i + 1)) (if (xs (i + 2)) = 0 then (false) else (true)) A hM1 hA nC nV nG (xMi_of hCls)) (cwV 2 hts gL_law_X5_pieces rfl rfl rfl (by decide +kernel) ⟨Nat.le_of_ble_eq_true rfl, Nat.le_of_ble_eq_true rfl⟩) (x_preV hX hS hW hM1.1 rfl) rfl rfl hl.1 rfl (lv_room (Nat.le_of_ble_eq_true rfl)) dL_law_810 ⟨by show _ ≤ 601024; omega, by show _ ≤ 7293034; omega⟩) hS (fun _ _ h => h) (fun _ h => h) (fun r6 E2 t H2 locs2 ht hvm hpost2 hB hz1 hk1 hS2 => ?_)
        rw [ht] at hB
        have hW : xW G E2 H2 := hB
        have hS := hS2
        obtain ⟨q, hq, hr6, hMd2, hFr2⟩ := hpost2
        rw [show q.2 = 1 from (by rw [← hq]; exact hm)] at hMd2
        have hMd3 : xMd G E2 o2 σ 1 := hMd2
        obtain ⟨A2, hM2, hA2, ht2⟩ := hMd3
        have hoa2 : E2 oa = some (.inl (G.2.1 1, 1, .inr (.inl f))) := hFr2 _ _ hoa1 rfl
        refine lv_istore (lv' := [(6, .int r6), (5, .int 1), (0, .ref b), (1, .ref o1), (2, .ref o2), (3, .ref oa), (4, .int (nI i))]) hx hb dL_law_813 hl (by decide) rfl (fun ls hl => ?_)
        refine lv_aload_n hx hb dL_law_815 rfl (lv_at hl 4 rfl) ?_
        refine x_callSe (va_runV (As := []) (rest := []) ⟨hx, hb, hml, hown, hts⟩ (kX5_thrown l G E2 A2 o2 _ hM2) (cwV 0 hts gL_law_X5_thrown rfl rfl rfl (by decide +kernel) ⟨Nat.le_of_ble_eq_true rfl, Nat.le_of_ble_eq_true rfl⟩) (x_preV hX hS hW hM2.1 rfl) rfl rfl hl.1 rfl (lv_room (Nat.le_of_ble_eq_true rfl)) dL_law_816 ⟨by show _ ≤ 601024; omega, by show _ ≤ 7293034; omega⟩) ?_
        rw [show fX5_thrown A2 = (1 : Int32) from by unfold fX5_thrown; rw [ht2]; rfl]
        refine lv_iload hx hb dL_law_819 (lv_at hl 1 rfl) ?_
        refine lv_icmp_eq (tgt := 826) hx hb dL_law_821 (by decide) (fun _ => ?_) (fun c9 => absurd (by decide) c9)
        refine lv_iload hx hb dL_law_826 (lv_at hl 1 rfl) ?_
        refine lv_if_ne (tgt := 843) hx hb dL_law_828 (by decide) (fun _ => ?_) (fun c9 => absurd c9 (by decide))
        refine lv_goto (tgt := 1293) hx hb dL_law_843 (by decide) ?_
        exact W.widen (by omega) (by omega) (kk _ _ ls E2 ⟨_, _, _, ⟨ct, vt, gt, tb, vb, gb, sa, nC, nV, nG, (show xCls G E1 o1 ct vt gt tb vb gb sa nC nV nG σ from by rw [hE1]; exact hCls).fr tC_tM hFr2, hInv⟩, ⟨A2, hM2, hA2, rfl⟩, hoa2⟩ hW hS (lv_sub hl [2, 3, 4, 5, 6] rfl))
      · refine lv_if_eq (tgt := 809) hx hb dL_law_802 (by decide) (fun c_3 => ?_) (fun c_3 => ?_)
        · refine lv_iconst (v := 0) hx hb dL_law_809 (by decide) ?_
          exact J _ (congrArg zI (show false = if (xs (i + 2)) = 0 then (false) else (true) from by rw [if_pos c_3]))
        · refine lv_iconst (v := 1) hx hb dL_law_805 (by decide) ?_
          refine lv_goto (tgt := 810) hx hb dL_law_806 (by decide) ?_
          exact J _ (congrArg zI (show true = if (xs (i + 2)) = 0 then (false) else (true) from by rw [if_neg c_3]))
  · refine lv_if_eq (tgt := 782) hx hb dL_law_775 (by decide) (fun c_1 => ?_) (fun c_1 => ?_)
    · refine lv_iconst (v := 0) hx hb dL_law_782 (by decide) ?_
      exact J _ (congrArg zI (show false = if (xs (i + 2)) = 0 then (false) else (true) from by rw [if_pos c_1]))
    · refine lv_iconst (v := 1) hx hb dL_law_778 (by decide) ?_
      refine lv_goto (tgt := 783) hx hb dL_law_779 (by decide) ?_
      exact J _ (congrArg zI (show true = if (xs (i + 2)) = 0 then (false) else (true) from by rw [if_neg c_1]))

set_option maxHeartbeats 4000000 in
set_option maxRecDepth 100000 in
theorem law_made {p : Program} {l : Launch} {e : Env} {s : State} {m : MethodId} {b : Nat} {below : List Frame} {meth : Method} {c : Code} {H : Heap} {locs : List Loc} {cells slots : Nat} {Q : State → Prop} {ls : Array Slot} (hl9 : l.stackTraces = false) (hx : p.tables.exec = Jvm.exec) (hb : c.code = cL_law) (hml : c.maxLocals = 7) (hown : s.vm.findClass RL = some m.cls) (hts : ∀ w ∈ wsL_law, w.before #[Value.ref b] s = true) {G : xG} (hX : xS G s) (hNc : xNc s) {L : Nat} {xs : Nat → Int32} (hXs : va_X b L xs s s.heap) (hbl : b < s.heap.size) (hbA : ¬ xA G b) {i : Nat} (hi : i + 6 ≤ L) (hL : L ≤ 3072) (hcn : cells + 5 ≤ 601024) (hsn : slots + 88 ≤ 7293034) {E : xE} {o1 o2 oa : Nat} (hLs : xLs G E o1 o2 oa) (hW : xW G E H) (hS : va_S (xA G) s.heap H locs) (hl : lv_has ls 7 [(0, .ref b), (1, .ref o1), (2, .ref o2), (3, .ref oa), (4, .int (nI i))]) (kk : ∀ (H1 : Heap) (locs1 : List Loc) (ls1 : Array Slot) (E1 : xE), xLs G E1 o1 o2 oa → xW G E1 H1 → va_S (xA G) s.heap H1 locs1 → lv_has ls1 7 [(0, .ref b), (1, .ref o1), (2, .ref o2), (3, .ref oa), (4, .int (nI i))] → W p l e room_1 s m #[Value.ref b] below meth c H1 locs1 (cells + 5) (slots + 88) Q (F0 m 1293 ls1 [])) : W p l e room_1 s m #[Value.ref b] below meth c H locs cells slots Q (F0 m 846 ls []) := by
  obtain ⟨σ, t0, f, ⟨ct, vt, gt, tb, vb, gb, sa, nC, nV, nG, hCls, hInv⟩, ⟨A, hM, hA, hA19⟩, hoa⟩ := hLs
  refine lv_aload_n hx hb dL_law_846 rfl (lv_at hl 1 rfl) ?_
  refine lv_aload_n hx hb dL_law_847 rfl (lv_at hl 0 rfl) ?_
  refine lv_iload hx hb dL_law_848 (lv_at hl 4 rfl) ?_
  refine lv_iconst (v := 1) hx hb dL_law_850 (by decide) ?_
  refine lv_iadd hx hb dL_law_851 ?_
  rw [x_ai1]
  refine va_sld hx hb hXs hbl hbA hS (vp_in_nI (show i + 1 < L by omega) (by omega)) dL_law_852 ?_
  rw [nI_clamp (show i + 1 < 2 ^ 31 by omega)]
  refine lv_aload_n hx hb dL_law_853 rfl (lv_at hl 3 rfl) ?_
  refine vx_calli (vx_runSX (As := [.ref o1, .int (xs (i + 1)), .ref oa]) (rest := []) ⟨hx, hb, hml, hown, hts⟩ (kL_made l hl9 G E o1 (xs (i + 1)) oa ct vt gt tb vb gb sa nC nV nG σ hCls f hoa) (vx_cwSW 3 hts gL_law_L_made rfl rfl rfl (by decide +kernel) ⟨Nat.le_of_ble_eq_true rfl, Nat.le_of_ble_eq_true rfl⟩) (x_preS2 hX hNc hS hW) rfl rfl hl.1 rfl (lv_room (Nat.le_of_ble_eq_true rfl)) dL_law_854 ⟨by show _ ≤ 601024; omega, by show _ ≤ 7293034; omega⟩) hS (fun _ _ h => h) (fun _ h => h) (fun _ _ h => h) (fun Ex ce q9 ux t H1 locs1 ht hvm hpx hB hz1 hk1 hS1 hce hcv hcl => hB.1.elim) (fun r5 E1 t H1 locs1 ht hvm hpost hB hz1 hk1 hS1 => ?_)
  rw [ht] at hB
  have hW : xW G E1 H1 := hB
  have hS := hS1
  rcases hpost with ⟨rfl, r1, Ec, hP, hE1⟩ | ⟨⟨rfl, hT9⟩, hE1⟩
  · obtain ⟨hm, hLc, hFc⟩ := m_made hInv hCls hP
    have hFo : xFr tO Ec E1 := by rw [hE1]; exact xFr_put xFr_rf (hFc _ _ hoa rfl) rfl _
    have hM1 : xMod G E1 o2 A σ := (hM.fr hFc).frO hFo
    have hoa1 : E1 oa = some (.inl (G.2.1 1, 1, .inr (.inl (vp_updL f 0 (r1.toInt64))))) := by rw [hE1]; exact xU_self _ _ _
    refine lv_istore (lv' := [(5, .int 0), (0, .ref b), (1, .ref o1), (2, .ref o2), (3, .ref oa), (4, .int (nI i))]) hx hb dL_law_857 hl (by decide) rfl (fun ls hl => ?_)
    refine lv_aload_n hx hb dL_law_859 rfl (lv_at hl 3 rfl) ?_
    refine lv_aload_n hx hb dL_law_860 rfl (lv_at hl 1 rfl) ?_
    refine lv_iload hx hb dL_law_861 (lv_at hl 5 rfl) ?_
    refine lv_iconst (v := 1) hx hb dL_law_863 (by decide) ?_
    refine lv_iadd hx hb dL_law_864 ?_
    rw [x_ai1]
    refine va_sld hx hb hXs hbl hbA hS (vp_in_nI (show i + 1 < L by omega) (by omega)) dL_law_865 ?_
    rw [nI_clamp (show i + 1 < 2 ^ 31 by omega)]
    refine va_calli (va_runV (As := [.int (xs (i + 1))]) (rest := []) ⟨hx, hb, hml, hown, hts⟩ (kX5_made l G E1 σ o2 (xs (i + 1)) A hM1 hA nC nV nG (xMi_of hCls)) (cwV 1 hts gL_law_X5_made rfl rfl rfl (by decide +kernel) ⟨Nat.le_of_ble_eq_true rfl, Nat.le_of_ble_eq_true rfl⟩) (x_preV hX hS hW hM1.1 rfl) rfl rfl hl.1 rfl (lv_room (Nat.le_of_ble_eq_true rfl)) dL_law_866 ⟨by show _ ≤ 601024; omega, by show _ ≤ 7293034; omega⟩) hS (fun _ _ h => h) (fun _ h => h) (fun r6 E2 t H2 locs2 ht hvm hpost2 hB hz1 hk1 hS2 => ?_)
    rw [ht] at hB
    have hW : xW G E2 H2 := hB
    have hS := hS2
    obtain ⟨q, hq, hr6, hMd2, hFr2⟩ := hpost2
    have hq2 := hq.symm.trans hm
    subst hq2
    have hr6 : r6 = r1 := hr6
    subst hr6
    have hMd3 : xMd G E2 o2 (σ) 0 := hMd2
    obtain ⟨A2, hM2, hA2, ht2⟩ := hMd3
    have hoa2 : E2 oa = some (.inl (G.2.1 1, 1, .inr (.inl (vp_updL f 0 (r6.toInt64))))) := hFr2 _ _ hoa1 rfl
    refine lv_istore (lv' := [(6, .int r6), (5, .int 0), (0, .ref b), (1, .ref o1), (2, .ref o2), (3, .ref oa), (4, .int (nI i))]) hx hb dL_law_869 hl (by decide) rfl (fun ls hl => ?_)
    refine lv_aload_n hx hb dL_law_871 rfl (lv_at hl 4 rfl) ?_
    refine x_callSe (va_runV (As := []) (rest := []) ⟨hx, hb, hml, hown, hts⟩ (kX5_thrown l G E2 A2 o2 _ hM2) (cwV 0 hts gL_law_X5_thrown rfl rfl rfl (by decide +kernel) ⟨Nat.le_of_ble_eq_true rfl, Nat.le_of_ble_eq_true rfl⟩) (x_preV hX hS hW hM2.1 rfl) rfl rfl hl.1 rfl (lv_room (Nat.le_of_ble_eq_true rfl)) dL_law_872 ⟨by show _ ≤ 601024; omega, by show _ ≤ 7293034; omega⟩) ?_
    rw [show fX5_thrown A2 = (0 : Int32) from by unfold fX5_thrown; rw [ht2]; rfl]
    refine lv_iload hx hb dL_law_875 (lv_at hl 1 rfl) ?_
    refine lv_icmp_eq (tgt := 882) hx hb dL_law_877 (by decide) (fun _ => ?_) (fun c9 => absurd (by decide) c9)
    refine lv_iload hx hb dL_law_882 (lv_at hl 1 rfl) ?_
    refine lv_if_ne (tgt := 899) hx hb dL_law_884 (by decide) (fun c9 => absurd (by decide) c9) (fun _ => ?_)
    refine lv_aload_n hx hb dL_law_887 rfl (lv_at hl 5 rfl) ?_
    refine lv_iconst (v := 0) hx hb dL_law_888 (by decide) ?_
    refine x_lld (k := 0) hx hb hX.1 hW hoa2 (show vp_in (nI 0) 1 from vp_in_nI (by omega) (by omega)) rfl dL_law_889 ?_
    rw [show vp_updL f 0 (r6.toInt64) 0 = r6.toInt64 from rfl]
    refine lv_iload hx hb dL_law_890 (lv_at hl 0 rfl) ?_
    refine lv_i2l (v := r6.toInt64) hx hb dL_law_892 rfl ?_
    refine W.lcmp hx hb dL_law_893 ?_
    rw [x_cmp]
    refine lv_if_eq (tgt := 899) hx hb dL_law_894 (by decide) (fun _ => ?_) (fun c9 => absurd (by decide) c9)
    refine lv_goto (tgt := 1293) hx hb dL_law_899 (by decide) ?_
    obtain ⟨ct2, vt2, gt2, tb2, vb2, gb2, sa2, nC2, nV2, nG2, hC2, hI2⟩ := hLc
    exact W.widen (by omega) (by omega) (kk _ _ ls E2 ⟨_, _, _, ⟨ct2, vt2, gt2, tb2, vb2, gb2, sa2, nC2, nV2, nG2, (hC2.fr tC_tO hFo).fr tC_tM hFr2, hI2⟩, ⟨A2, hM2, hA2, rfl⟩, hoa2⟩ hW hS (lv_sub hl [2, 3, 4, 5, 6] rfl))
  · have hm := m_made_3 (a0 := xs (i + 1)) hInv hCls hT9
    have hM1 : xMod G E1 o2 A σ := by rw [hE1]; exact hM
    have hoa1 : E1 oa = some (.inl (G.2.1 1, 1, .inr (.inl f))) := by rw [hE1]; exact hoa
    refine lv_istore (lv' := [(5, .int 1), (0, .ref b), (1, .ref o1), (2, .ref o2), (3, .ref oa), (4, .int (nI i))]) hx hb dL_law_857 hl (by decide) rfl (fun ls hl => ?_)
    refine lv_aload_n hx hb dL_law_859 rfl (lv_at hl 3 rfl) ?_
    refine lv_aload_n hx hb dL_law_860 rfl (lv_at hl 1 rfl) ?_
    refine lv_iload hx hb dL_law_861 (lv_at hl 5 rfl) ?_
    refine lv_iconst (v := 1) hx hb dL_law_863 (by decide) ?_
    refine lv_iadd hx hb dL_law_864 ?_
    rw [x_ai1]
    refine va_sld hx hb hXs hbl hbA hS (vp_in_nI (show i + 1 < L by omega) (by omega)) dL_law_865 ?_
    rw [nI_clamp (show i + 1 < 2 ^ 31 by omega)]
    refine va_calli (va_runV (As := [.int (xs (i + 1))]) (rest := []) ⟨hx, hb, hml, hown, hts⟩ (kX5_made l G E1 σ o2 (xs (i + 1)) A hM1 hA nC nV nG (xMi_of hCls)) (cwV 1 hts gL_law_X5_made rfl rfl rfl (by decide +kernel) ⟨Nat.le_of_ble_eq_true rfl, Nat.le_of_ble_eq_true rfl⟩) (x_preV hX hS hW hM1.1 rfl) rfl rfl hl.1 rfl (lv_room (Nat.le_of_ble_eq_true rfl)) dL_law_866 ⟨by show _ ≤ 601024; omega, by show _ ≤ 7293034; omega⟩) hS (fun _ _ h => h) (fun _ h => h) (fun r6 E2 t H2 locs2 ht hvm hpost2 hB hz1 hk1 hS2 => ?_)
    rw [ht] at hB
    have hW : xW G E2 H2 := hB
    have hS := hS2
    obtain ⟨q, hq, hr6, hMd2, hFr2⟩ := hpost2
    rw [show q.2 = 1 from (by rw [← hq]; exact hm)] at hMd2
    have hMd3 : xMd G E2 o2 σ 1 := hMd2
    obtain ⟨A2, hM2, hA2, ht2⟩ := hMd3
    have hoa2 : E2 oa = some (.inl (G.2.1 1, 1, .inr (.inl f))) := hFr2 _ _ hoa1 rfl
    refine lv_istore (lv' := [(6, .int r6), (5, .int 1), (0, .ref b), (1, .ref o1), (2, .ref o2), (3, .ref oa), (4, .int (nI i))]) hx hb dL_law_869 hl (by decide) rfl (fun ls hl => ?_)
    refine lv_aload_n hx hb dL_law_871 rfl (lv_at hl 4 rfl) ?_
    refine x_callSe (va_runV (As := []) (rest := []) ⟨hx, hb, hml, hown, hts⟩ (kX5_thrown l G E2 A2 o2 _ hM2) (cwV 0 hts gL_law_X5_thrown rfl rfl rfl (by decide +kernel) ⟨Nat.le_of_ble_eq_true rfl, Nat.le_of_ble_eq_true rfl⟩) (x_preV hX hS hW hM2.1 rfl) rfl rfl hl.1 rfl (lv_room (Nat.le_of_ble_eq_true rfl)) dL_law_872 ⟨by show _ ≤ 601024; omega, by show _ ≤ 7293034; omega⟩) ?_
    rw [show fX5_thrown A2 = (1 : Int32) from by unfold fX5_thrown; rw [ht2]; rfl]
    refine lv_iload hx hb dL_law_875 (lv_at hl 1 rfl) ?_
    refine lv_icmp_eq (tgt := 882) hx hb dL_law_877 (by decide) (fun _ => ?_) (fun c9 => absurd (by decide) c9)
    refine lv_iload hx hb dL_law_882 (lv_at hl 1 rfl) ?_
    refine lv_if_ne (tgt := 899) hx hb dL_law_884 (by decide) (fun _ => ?_) (fun c9 => absurd c9 (by decide))
    refine lv_goto (tgt := 1293) hx hb dL_law_899 (by decide) ?_
    exact W.widen (by omega) (by omega) (kk _ _ ls E2 ⟨_, _, _, ⟨ct, vt, gt, tb, vb, gb, sa, nC, nV, nG, (show xCls G E1 o1 ct vt gt tb vb gb sa nC nV nG σ from by rw [hE1]; exact hCls).fr tC_tM hFr2, hInv⟩, ⟨A2, hM2, hA2, rfl⟩, hoa2⟩ hW hS (lv_sub hl [2, 3, 4, 5, 6] rfl))

set_option maxHeartbeats 4000000 in
set_option maxRecDepth 100000 in
theorem law_value {p : Program} {l : Launch} {e : Env} {s : State} {m : MethodId} {b : Nat} {below : List Frame} {meth : Method} {c : Code} {H : Heap} {locs : List Loc} {cells slots : Nat} {Q : State → Prop} {ls : Array Slot} (hl9 : l.stackTraces = false) (hx : p.tables.exec = Jvm.exec) (hb : c.code = cL_law) (hml : c.maxLocals = 7) (hown : s.vm.findClass RL = some m.cls) (hts : ∀ w ∈ wsL_law, w.before #[Value.ref b] s = true) {G : xG} (hX : xS G s) (hNc : xNc s) {L : Nat} {xs : Nat → Int32} (hXs : va_X b L xs s s.heap) (hbl : b < s.heap.size) (hbA : ¬ xA G b) {i : Nat} (hi : i + 6 ≤ L) (hL : L ≤ 3072) (hcn : cells + 5 ≤ 601024) (hsn : slots + 88 ≤ 7293034) {E : xE} {o1 o2 oa : Nat} (hLs : xLs G E o1 o2 oa) (hW : xW G E H) (hS : va_S (xA G) s.heap H locs) (hl : lv_has ls 7 [(0, .ref b), (1, .ref o1), (2, .ref o2), (3, .ref oa), (4, .int (nI i))]) (kk : ∀ (H1 : Heap) (locs1 : List Loc) (ls1 : Array Slot) (E1 : xE), xLs G E1 o1 o2 oa → xW G E1 H1 → va_S (xA G) s.heap H1 locs1 → lv_has ls1 7 [(0, .ref b), (1, .ref o1), (2, .ref o2), (3, .ref oa), (4, .int (nI i))] → W p l e room_1 s m #[Value.ref b] below meth c H1 locs1 (cells + 5) (slots + 88) Q (F0 m 1293 ls1 [])) : W p l e room_1 s m #[Value.ref b] below meth c H locs cells slots Q (F0 m 902 ls []) := by
  obtain ⟨σ, t0, f, ⟨ct, vt, gt, tb, vb, gb, sa, nC, nV, nG, hCls, hInv⟩, ⟨A, hM, hA, hA19⟩, hoa⟩ := hLs
  refine lv_aload_n hx hb dL_law_902 rfl (lv_at hl 1 rfl) ?_
  refine lv_aload_n hx hb dL_law_903 rfl (lv_at hl 0 rfl) ?_
  refine lv_iload hx hb dL_law_904 (lv_at hl 4 rfl) ?_
  refine lv_iconst (v := 1) hx hb dL_law_906 (by decide) ?_
  refine lv_iadd hx hb dL_law_907 ?_
  rw [x_ai1]
  refine va_sld hx hb hXs hbl hbA hS (vp_in_nI (show i + 1 < L by omega) (by omega)) dL_law_908 ?_
  rw [nI_clamp (show i + 1 < 2 ^ 31 by omega)]
  refine lv_aload_n hx hb dL_law_909 rfl (lv_at hl 0 rfl) ?_
  refine lv_iload hx hb dL_law_910 (lv_at hl 4 rfl) ?_
  refine lv_iconst (v := 2) hx hb dL_law_912 (by decide) ?_
  refine lv_iadd hx hb dL_law_913 ?_
  rw [x_ai2]
  refine va_sld hx hb hXs hbl hbA hS (vp_in_nI (show i + 2 < L by omega) (by omega)) dL_law_914 ?_
  rw [nI_clamp (show i + 2 < 2 ^ 31 by omega)]
  refine lv_aload_n hx hb dL_law_915 rfl (lv_at hl 3 rfl) ?_
  refine vx_calli (vx_runSX (As := [.ref o1, .int (xs (i + 1)), .int (xs (i + 2)), .ref oa]) (rest := []) ⟨hx, hb, hml, hown, hts⟩ (kL_value l hl9 G E o1 (xs (i + 1)) (xs (i + 2)) oa ct vt gt tb vb gb sa nC nV nG σ hCls f hoa) (vx_cwSW 4 hts gL_law_L_value rfl rfl rfl (by decide +kernel) ⟨Nat.le_of_ble_eq_true rfl, Nat.le_of_ble_eq_true rfl⟩) (x_preS2 hX hNc hS hW) rfl rfl hl.1 rfl (lv_room (Nat.le_of_ble_eq_true rfl)) dL_law_916 ⟨by show _ ≤ 601024; omega, by show _ ≤ 7293034; omega⟩) hS (fun _ _ h => h) (fun _ h => h) (fun _ _ h => h) (fun Ex ce q9 ux t H1 locs1 ht hvm hpx hB hz1 hk1 hS1 hce hcv hcl => hB.1.elim) (fun r5 E1 t H1 locs1 ht hvm hpost hB hz1 hk1 hS1 => ?_)
  rw [ht] at hB
  have hW : xW G E1 H1 := hB
  have hS := hS1
  rcases hpost with ⟨rfl, r1, Ec, hP, hE1⟩ | ⟨hT9, hE1⟩
  · obtain ⟨hm, hLc, hFc⟩ := m_value hInv hCls hP
    have hFo : xFr tO Ec E1 := by rw [hE1]; exact xFr_put xFr_rf (hFc _ _ hoa rfl) rfl _
    have hM1 : xMod G E1 o2 A σ := (hM.fr hFc).frO hFo
    have hoa1 : E1 oa = some (.inl (G.2.1 1, 1, .inr (.inl (vp_updL f 0 (r1.toInt64))))) := by rw [hE1]; exact xU_self _ _ _
    refine lv_istore (lv' := [(5, .int 0), (0, .ref b), (1, .ref o1), (2, .ref o2), (3, .ref oa), (4, .int (nI i))]) hx hb dL_law_919 hl (by decide) rfl (fun ls hl => ?_)
    refine lv_aload_n hx hb dL_law_921 rfl (lv_at hl 3 rfl) ?_
    refine lv_aload_n hx hb dL_law_922 rfl (lv_at hl 1 rfl) ?_
    refine lv_iload hx hb dL_law_923 (lv_at hl 5 rfl) ?_
    refine lv_iconst (v := 1) hx hb dL_law_925 (by decide) ?_
    refine lv_iadd hx hb dL_law_926 ?_
    rw [x_ai1]
    refine va_sld hx hb hXs hbl hbA hS (vp_in_nI (show i + 1 < L by omega) (by omega)) dL_law_927 ?_
    rw [nI_clamp (show i + 1 < 2 ^ 31 by omega)]
    refine lv_aload_n hx hb dL_law_928 rfl (lv_at hl 1 rfl) ?_
    refine lv_iload hx hb dL_law_929 (lv_at hl 5 rfl) ?_
    refine lv_iconst (v := 2) hx hb dL_law_931 (by decide) ?_
    refine lv_iadd hx hb dL_law_932 ?_
    rw [x_ai2]
    refine va_sld hx hb hXs hbl hbA hS (vp_in_nI (show i + 2 < L by omega) (by omega)) dL_law_933 ?_
    rw [nI_clamp (show i + 2 < 2 ^ 31 by omega)]
    refine va_calli (va_runV (As := [.int (xs (i + 1)), .int (xs (i + 2))]) (rest := []) ⟨hx, hb, hml, hown, hts⟩ (kX5_value l G E1 σ o2 (xs (i + 1)) (xs (i + 2)) A hM1 hA nC nV nG (xMi_of hCls)) (cwV 2 hts gL_law_X5_value rfl rfl rfl (by decide +kernel) ⟨Nat.le_of_ble_eq_true rfl, Nat.le_of_ble_eq_true rfl⟩) (x_preV hX hS hW hM1.1 rfl) rfl rfl hl.1 rfl (lv_room (Nat.le_of_ble_eq_true rfl)) dL_law_934 ⟨by show _ ≤ 601024; omega, by show _ ≤ 7293034; omega⟩) hS (fun _ _ h => h) (fun _ h => h) (fun r6 E2 t H2 locs2 ht hvm hpost2 hB hz1 hk1 hS2 => ?_)
    rw [ht] at hB
    have hW : xW G E2 H2 := hB
    have hS := hS2
    obtain ⟨q, hq, hr6, hMd2, hFr2⟩ := hpost2
    have hq2 := hq.symm.trans hm
    subst hq2
    have hr6 : r6 = r1 := hr6
    subst hr6
    have hMd3 : xMd G E2 o2 (σ) 0 := hMd2
    obtain ⟨A2, hM2, hA2, ht2⟩ := hMd3
    have hoa2 : E2 oa = some (.inl (G.2.1 1, 1, .inr (.inl (vp_updL f 0 (r6.toInt64))))) := hFr2 _ _ hoa1 rfl
    refine lv_istore (lv' := [(6, .int r6), (5, .int 0), (0, .ref b), (1, .ref o1), (2, .ref o2), (3, .ref oa), (4, .int (nI i))]) hx hb dL_law_937 hl (by decide) rfl (fun ls hl => ?_)
    refine lv_aload_n hx hb dL_law_939 rfl (lv_at hl 4 rfl) ?_
    refine x_callSe (va_runV (As := []) (rest := []) ⟨hx, hb, hml, hown, hts⟩ (kX5_thrown l G E2 A2 o2 _ hM2) (cwV 0 hts gL_law_X5_thrown rfl rfl rfl (by decide +kernel) ⟨Nat.le_of_ble_eq_true rfl, Nat.le_of_ble_eq_true rfl⟩) (x_preV hX hS hW hM2.1 rfl) rfl rfl hl.1 rfl (lv_room (Nat.le_of_ble_eq_true rfl)) dL_law_940 ⟨by show _ ≤ 601024; omega, by show _ ≤ 7293034; omega⟩) ?_
    rw [show fX5_thrown A2 = (0 : Int32) from by unfold fX5_thrown; rw [ht2]; rfl]
    refine lv_iload hx hb dL_law_943 (lv_at hl 1 rfl) ?_
    refine lv_icmp_eq (tgt := 950) hx hb dL_law_945 (by decide) (fun _ => ?_) (fun c9 => absurd (by decide) c9)
    refine lv_iload hx hb dL_law_950 (lv_at hl 1 rfl) ?_
    refine lv_if_ne (tgt := 967) hx hb dL_law_952 (by decide) (fun c9 => absurd (by decide) c9) (fun _ => ?_)
    refine lv_aload_n hx hb dL_law_955 rfl (lv_at hl 5 rfl) ?_
    refine lv_iconst (v := 0) hx hb dL_law_956 (by decide) ?_
    refine x_lld (k := 0) hx hb hX.1 hW hoa2 (show vp_in (nI 0) 1 from vp_in_nI (by omega) (by omega)) rfl dL_law_957 ?_
    rw [show vp_updL f 0 (r6.toInt64) 0 = r6.toInt64 from rfl]
    refine lv_iload hx hb dL_law_958 (lv_at hl 0 rfl) ?_
    refine lv_i2l (v := r6.toInt64) hx hb dL_law_960 rfl ?_
    refine W.lcmp hx hb dL_law_961 ?_
    rw [x_cmp]
    refine lv_if_eq (tgt := 967) hx hb dL_law_962 (by decide) (fun _ => ?_) (fun c9 => absurd (by decide) c9)
    refine lv_goto (tgt := 1293) hx hb dL_law_967 (by decide) ?_
    obtain ⟨ct2, vt2, gt2, tb2, vb2, gb2, sa2, nC2, nV2, nG2, hC2, hI2⟩ := hLc
    exact W.widen (by omega) (by omega) (kk _ _ ls E2 ⟨_, _, _, ⟨ct2, vt2, gt2, tb2, vb2, gb2, sa2, nC2, nV2, nG2, (hC2.fr tC_tO hFo).fr tC_tM hFr2, hI2⟩, ⟨A2, hM2, hA2, rfl⟩, hoa2⟩ hW hS (lv_sub hl [2, 3, 4, 5, 6] rfl))
  · rcases hT9 with ⟨rfl, hT9⟩ | ⟨rfl, hT9⟩
    · have hm := m_value_3 (a0 := xs (i + 1)) (a1 := xs (i + 2)) hInv hCls hT9
      have hM1 : xMod G E1 o2 A σ := by rw [hE1]; exact hM
      have hoa1 : E1 oa = some (.inl (G.2.1 1, 1, .inr (.inl f))) := by rw [hE1]; exact hoa
      refine lv_istore (lv' := [(5, .int 1), (0, .ref b), (1, .ref o1), (2, .ref o2), (3, .ref oa), (4, .int (nI i))]) hx hb dL_law_919 hl (by decide) rfl (fun ls hl => ?_)
      refine lv_aload_n hx hb dL_law_921 rfl (lv_at hl 3 rfl) ?_
      refine lv_aload_n hx hb dL_law_922 rfl (lv_at hl 1 rfl) ?_
      refine lv_iload hx hb dL_law_923 (lv_at hl 5 rfl) ?_
      refine lv_iconst (v := 1) hx hb dL_law_925 (by decide) ?_
      refine lv_iadd hx hb dL_law_926 ?_
      rw [x_ai1]
      refine va_sld hx hb hXs hbl hbA hS (vp_in_nI (show i + 1 < L by omega) (by omega)) dL_law_927 ?_
      rw [nI_clamp (show i + 1 < 2 ^ 31 by omega)]
      refine lv_aload_n hx hb dL_law_928 rfl (lv_at hl 1 rfl) ?_
      refine lv_iload hx hb dL_law_929 (lv_at hl 5 rfl) ?_
      refine lv_iconst (v := 2) hx hb dL_law_931 (by decide) ?_
      refine lv_iadd hx hb dL_law_932 ?_
      rw [x_ai2]
      refine va_sld hx hb hXs hbl hbA hS (vp_in_nI (show i + 2 < L by omega) (by omega)) dL_law_933 ?_
      rw [nI_clamp (show i + 2 < 2 ^ 31 by omega)]
      refine va_calli (va_runV (As := [.int (xs (i + 1)), .int (xs (i + 2))]) (rest := []) ⟨hx, hb, hml, hown, hts⟩ (kX5_value l G E1 σ o2 (xs (i + 1)) (xs (i + 2)) A hM1 hA nC nV nG (xMi_of hCls)) (cwV 2 hts gL_law_X5_value rfl rfl rfl (by decide +kernel) ⟨Nat.le_of_ble_eq_true rfl, Nat.le_of_ble_eq_true rfl⟩) (x_preV hX hS hW hM1.1 rfl) rfl rfl hl.1 rfl (lv_room (Nat.le_of_ble_eq_true rfl)) dL_law_934 ⟨by show _ ≤ 601024; omega, by show _ ≤ 7293034; omega⟩) hS (fun _ _ h => h) (fun _ h => h) (fun r6 E2 t H2 locs2 ht hvm hpost2 hB hz1 hk1 hS2 => ?_)
      rw [ht] at hB
      have hW : xW G E2 H2 := hB
      have hS := hS2
      obtain ⟨q, hq, hr6, hMd2, hFr2⟩ := hpost2
      rw [show q.2 = 1 from (by rw [← hq]; exact hm)] at hMd2
      have hMd3 : xMd G E2 o2 σ 1 := hMd2
      obtain ⟨A2, hM2, hA2, ht2⟩ := hMd3
      have hoa2 : E2 oa = some (.inl (G.2.1 1, 1, .inr (.inl f))) := hFr2 _ _ hoa1 rfl
      refine lv_istore (lv' := [(6, .int r6), (5, .int 1), (0, .ref b), (1, .ref o1), (2, .ref o2), (3, .ref oa), (4, .int (nI i))]) hx hb dL_law_937 hl (by decide) rfl (fun ls hl => ?_)
      refine lv_aload_n hx hb dL_law_939 rfl (lv_at hl 4 rfl) ?_
      refine x_callSe (va_runV (As := []) (rest := []) ⟨hx, hb, hml, hown, hts⟩ (kX5_thrown l G E2 A2 o2 _ hM2) (cwV 0 hts gL_law_X5_thrown rfl rfl rfl (by decide +kernel) ⟨Nat.le_of_ble_eq_true rfl, Nat.le_of_ble_eq_true rfl⟩) (x_preV hX hS hW hM2.1 rfl) rfl rfl hl.1 rfl (lv_room (Nat.le_of_ble_eq_true rfl)) dL_law_940 ⟨by show _ ≤ 601024; omega, by show _ ≤ 7293034; omega⟩) ?_
      rw [show fX5_thrown A2 = (1 : Int32) from by unfold fX5_thrown; rw [ht2]; rfl]
      refine lv_iload hx hb dL_law_943 (lv_at hl 1 rfl) ?_
      refine lv_icmp_eq (tgt := 950) hx hb dL_law_945 (by decide) (fun _ => ?_) (fun c9 => absurd (by decide) c9)
      refine lv_iload hx hb dL_law_950 (lv_at hl 1 rfl) ?_
      refine lv_if_ne (tgt := 967) hx hb dL_law_952 (by decide) (fun _ => ?_) (fun c9 => absurd c9 (by decide))
      refine lv_goto (tgt := 1293) hx hb dL_law_967 (by decide) ?_
      exact W.widen (by omega) (by omega) (kk _ _ ls E2 ⟨_, _, _, ⟨ct, vt, gt, tb, vb, gb, sa, nC, nV, nG, (show xCls G E1 o1 ct vt gt tb vb gb sa nC nV nG σ from by rw [hE1]; exact hCls).fr tC_tM hFr2, hInv⟩, ⟨A2, hM2, hA2, rfl⟩, hoa2⟩ hW hS (lv_sub hl [2, 3, 4, 5, 6] rfl))
    · have hm := m_value_1 (a0 := xs (i + 1)) (a1 := xs (i + 2)) hInv hCls hT9
      have hM1 : xMod G E1 o2 A σ := by rw [hE1]; exact hM
      have hoa1 : E1 oa = some (.inl (G.2.1 1, 1, .inr (.inl f))) := by rw [hE1]; exact hoa
      refine lv_istore (lv' := [(5, .int 2), (0, .ref b), (1, .ref o1), (2, .ref o2), (3, .ref oa), (4, .int (nI i))]) hx hb dL_law_919 hl (by decide) rfl (fun ls hl => ?_)
      refine lv_aload_n hx hb dL_law_921 rfl (lv_at hl 3 rfl) ?_
      refine lv_aload_n hx hb dL_law_922 rfl (lv_at hl 1 rfl) ?_
      refine lv_iload hx hb dL_law_923 (lv_at hl 5 rfl) ?_
      refine lv_iconst (v := 1) hx hb dL_law_925 (by decide) ?_
      refine lv_iadd hx hb dL_law_926 ?_
      rw [x_ai1]
      refine va_sld hx hb hXs hbl hbA hS (vp_in_nI (show i + 1 < L by omega) (by omega)) dL_law_927 ?_
      rw [nI_clamp (show i + 1 < 2 ^ 31 by omega)]
      refine lv_aload_n hx hb dL_law_928 rfl (lv_at hl 1 rfl) ?_
      refine lv_iload hx hb dL_law_929 (lv_at hl 5 rfl) ?_
      refine lv_iconst (v := 2) hx hb dL_law_931 (by decide) ?_
      refine lv_iadd hx hb dL_law_932 ?_
      rw [x_ai2]
      refine va_sld hx hb hXs hbl hbA hS (vp_in_nI (show i + 2 < L by omega) (by omega)) dL_law_933 ?_
      rw [nI_clamp (show i + 2 < 2 ^ 31 by omega)]
      refine va_calli (va_runV (As := [.int (xs (i + 1)), .int (xs (i + 2))]) (rest := []) ⟨hx, hb, hml, hown, hts⟩ (kX5_value l G E1 σ o2 (xs (i + 1)) (xs (i + 2)) A hM1 hA nC nV nG (xMi_of hCls)) (cwV 2 hts gL_law_X5_value rfl rfl rfl (by decide +kernel) ⟨Nat.le_of_ble_eq_true rfl, Nat.le_of_ble_eq_true rfl⟩) (x_preV hX hS hW hM1.1 rfl) rfl rfl hl.1 rfl (lv_room (Nat.le_of_ble_eq_true rfl)) dL_law_934 ⟨by show _ ≤ 601024; omega, by show _ ≤ 7293034; omega⟩) hS (fun _ _ h => h) (fun _ h => h) (fun r6 E2 t H2 locs2 ht hvm hpost2 hB hz1 hk1 hS2 => ?_)
      rw [ht] at hB
      have hW : xW G E2 H2 := hB
      have hS := hS2
      obtain ⟨q, hq, hr6, hMd2, hFr2⟩ := hpost2
      rw [show q.2 = 2 from (by rw [← hq]; exact hm)] at hMd2
      have hMd3 : xMd G E2 o2 σ 2 := hMd2
      obtain ⟨A2, hM2, hA2, ht2⟩ := hMd3
      have hoa2 : E2 oa = some (.inl (G.2.1 1, 1, .inr (.inl f))) := hFr2 _ _ hoa1 rfl
      refine lv_istore (lv' := [(6, .int r6), (5, .int 2), (0, .ref b), (1, .ref o1), (2, .ref o2), (3, .ref oa), (4, .int (nI i))]) hx hb dL_law_937 hl (by decide) rfl (fun ls hl => ?_)
      refine lv_aload_n hx hb dL_law_939 rfl (lv_at hl 4 rfl) ?_
      refine x_callSe (va_runV (As := []) (rest := []) ⟨hx, hb, hml, hown, hts⟩ (kX5_thrown l G E2 A2 o2 _ hM2) (cwV 0 hts gL_law_X5_thrown rfl rfl rfl (by decide +kernel) ⟨Nat.le_of_ble_eq_true rfl, Nat.le_of_ble_eq_true rfl⟩) (x_preV hX hS hW hM2.1 rfl) rfl rfl hl.1 rfl (lv_room (Nat.le_of_ble_eq_true rfl)) dL_law_940 ⟨by show _ ≤ 601024; omega, by show _ ≤ 7293034; omega⟩) ?_
      rw [show fX5_thrown A2 = (2 : Int32) from by unfold fX5_thrown; rw [ht2]; rfl]
      refine lv_iload hx hb dL_law_943 (lv_at hl 1 rfl) ?_
      refine lv_icmp_eq (tgt := 950) hx hb dL_law_945 (by decide) (fun _ => ?_) (fun c9 => absurd (by decide) c9)
      refine lv_iload hx hb dL_law_950 (lv_at hl 1 rfl) ?_
      refine lv_if_ne (tgt := 967) hx hb dL_law_952 (by decide) (fun _ => ?_) (fun c9 => absurd c9 (by decide))
      refine lv_goto (tgt := 1293) hx hb dL_law_967 (by decide) ?_
      exact W.widen (by omega) (by omega) (kk _ _ ls E2 ⟨_, _, _, ⟨ct, vt, gt, tb, vb, gb, sa, nC, nV, nG, (show xCls G E1 o1 ct vt gt tb vb gb sa nC nV nG σ from by rw [hE1]; exact hCls).fr tC_tM hFr2, hInv⟩, ⟨A2, hM2, hA2, rfl⟩, hoa2⟩ hW hS (lv_sub hl [2, 3, 4, 5, 6] rfl))

set_option maxHeartbeats 4000000 in
set_option maxRecDepth 100000 in
theorem law_valueByAll {p : Program} {l : Launch} {e : Env} {s : State} {m : MethodId} {b : Nat} {below : List Frame} {meth : Method} {c : Code} {H : Heap} {locs : List Loc} {cells slots : Nat} {Q : State → Prop} {ls : Array Slot} (hl9 : l.stackTraces = false) (hx : p.tables.exec = Jvm.exec) (hb : c.code = cL_law) (hml : c.maxLocals = 7) (hown : s.vm.findClass RL = some m.cls) (hts : ∀ w ∈ wsL_law, w.before #[Value.ref b] s = true) {G : xG} (hX : xS G s) (hNc : xNc s) {L : Nat} {xs : Nat → Int32} (hXs : va_X b L xs s s.heap) (hbl : b < s.heap.size) (hbA : ¬ xA G b) {i : Nat} (hi : i + 6 ≤ L) (hL : L ≤ 3072) (hcn : cells + 5 ≤ 601024) (hsn : slots + 88 ≤ 7293034) {E : xE} {o1 o2 oa : Nat} (hLs : xLs G E o1 o2 oa) (hW : xW G E H) (hS : va_S (xA G) s.heap H locs) (hl : lv_has ls 7 [(0, .ref b), (1, .ref o1), (2, .ref o2), (3, .ref oa), (4, .int (nI i))]) (kk : ∀ (H1 : Heap) (locs1 : List Loc) (ls1 : Array Slot) (E1 : xE), xLs G E1 o1 o2 oa → xW G E1 H1 → va_S (xA G) s.heap H1 locs1 → lv_has ls1 7 [(0, .ref b), (1, .ref o1), (2, .ref o2), (3, .ref oa), (4, .int (nI i))] → W p l e room_1 s m #[Value.ref b] below meth c H1 locs1 (cells + 5) (slots + 88) Q (F0 m 1293 ls1 [])) : W p l e room_1 s m #[Value.ref b] below meth c H locs cells slots Q (F0 m 970 ls []) := by
  obtain ⟨σ, t0, f, ⟨ct, vt, gt, tb, vb, gb, sa, nC, nV, nG, hCls, hInv⟩, ⟨A, hM, hA, hA19⟩, hoa⟩ := hLs
  refine lv_aload_n hx hb dL_law_970 rfl (lv_at hl 1 rfl) ?_
  refine lv_aload_n hx hb dL_law_971 rfl (lv_at hl 0 rfl) ?_
  refine lv_iload hx hb dL_law_972 (lv_at hl 4 rfl) ?_
  refine lv_iconst (v := 1) hx hb dL_law_974 (by decide) ?_
  refine lv_iadd hx hb dL_law_975 ?_
  rw [x_ai1]
  refine va_sld hx hb hXs hbl hbA hS (vp_in_nI (show i + 1 < L by omega) (by omega)) dL_law_976 ?_
  rw [nI_clamp (show i + 1 < 2 ^ 31 by omega)]
  refine lv_aload_n hx hb dL_law_977 rfl (lv_at hl 0 rfl) ?_
  refine lv_iload hx hb dL_law_978 (lv_at hl 4 rfl) ?_
  refine lv_iconst (v := 2) hx hb dL_law_980 (by decide) ?_
  refine lv_iadd hx hb dL_law_981 ?_
  rw [x_ai2]
  refine va_sld hx hb hXs hbl hbA hS (vp_in_nI (show i + 2 < L by omega) (by omega)) dL_law_982 ?_
  rw [nI_clamp (show i + 2 < 2 ^ 31 by omega)]
  refine lv_aload_n hx hb dL_law_983 rfl (lv_at hl 3 rfl) ?_
  refine vx_calli (vx_runSX (As := [.ref o1, .int (xs (i + 1)), .int (xs (i + 2)), .ref oa]) (rest := []) ⟨hx, hb, hml, hown, hts⟩ (kL_valueByAll l hl9 G E o1 (xs (i + 1)) (xs (i + 2)) oa ct vt gt tb vb gb sa nC nV nG σ hCls f hoa) (vx_cwSW 4 hts gL_law_L_valueByAll rfl rfl rfl (by decide +kernel) ⟨Nat.le_of_ble_eq_true rfl, Nat.le_of_ble_eq_true rfl⟩) (x_preS2 hX hNc hS hW) rfl rfl hl.1 rfl (lv_room (Nat.le_of_ble_eq_true rfl)) dL_law_984 ⟨by show _ ≤ 601024; omega, by show _ ≤ 7293034; omega⟩) hS (fun _ _ h => h) (fun _ h => h) (fun _ _ h => h) (fun Ex ce q9 ux t H1 locs1 ht hvm hpx hB hz1 hk1 hS1 hce hcv hcl => hB.1.elim) (fun r5 E1 t H1 locs1 ht hvm hpost hB hz1 hk1 hS1 => ?_)
  rw [ht] at hB
  have hW : xW G E1 H1 := hB
  have hS := hS1
  rcases hpost with ⟨rfl, r1, Ec, hP, hE1⟩ | ⟨hT9, hE1⟩
  · obtain ⟨hm, hLc, hFc⟩ := m_valueByAll hInv hCls hP
    have hFo : xFr tO Ec E1 := by rw [hE1]; exact xFr_put xFr_rf (hFc _ _ hoa rfl) rfl _
    have hM1 : xMod G E1 o2 A σ := (hM.fr hFc).frO hFo
    have hoa1 : E1 oa = some (.inl (G.2.1 1, 1, .inr (.inl (vp_updL f 0 (r1.toInt64))))) := by rw [hE1]; exact xU_self _ _ _
    refine lv_istore (lv' := [(5, .int 0), (0, .ref b), (1, .ref o1), (2, .ref o2), (3, .ref oa), (4, .int (nI i))]) hx hb dL_law_987 hl (by decide) rfl (fun ls hl => ?_)
    refine lv_aload_n hx hb dL_law_989 rfl (lv_at hl 3 rfl) ?_
    refine lv_aload_n hx hb dL_law_990 rfl (lv_at hl 1 rfl) ?_
    refine lv_iload hx hb dL_law_991 (lv_at hl 5 rfl) ?_
    refine lv_iconst (v := 1) hx hb dL_law_993 (by decide) ?_
    refine lv_iadd hx hb dL_law_994 ?_
    rw [x_ai1]
    refine va_sld hx hb hXs hbl hbA hS (vp_in_nI (show i + 1 < L by omega) (by omega)) dL_law_995 ?_
    rw [nI_clamp (show i + 1 < 2 ^ 31 by omega)]
    refine lv_aload_n hx hb dL_law_996 rfl (lv_at hl 1 rfl) ?_
    refine lv_iload hx hb dL_law_997 (lv_at hl 5 rfl) ?_
    refine lv_iconst (v := 2) hx hb dL_law_999 (by decide) ?_
    refine lv_iadd hx hb dL_law_1000 ?_
    rw [x_ai2]
    refine va_sld hx hb hXs hbl hbA hS (vp_in_nI (show i + 2 < L by omega) (by omega)) dL_law_1001 ?_
    rw [nI_clamp (show i + 2 < 2 ^ 31 by omega)]
    refine va_calli (va_runV (As := [.int (xs (i + 1)), .int (xs (i + 2))]) (rest := []) ⟨hx, hb, hml, hown, hts⟩ (kX5_valueByAll l G E1 σ o2 (xs (i + 1)) (xs (i + 2)) A hM1 hA nC nV nG (xMi_of hCls)) (cwV 2 hts gL_law_X5_valueByAll rfl rfl rfl (by decide +kernel) ⟨Nat.le_of_ble_eq_true rfl, Nat.le_of_ble_eq_true rfl⟩) (x_preV hX hS hW hM1.1 rfl) rfl rfl hl.1 rfl (lv_room (Nat.le_of_ble_eq_true rfl)) dL_law_1002 ⟨by show _ ≤ 601024; omega, by show _ ≤ 7293034; omega⟩) hS (fun _ _ h => h) (fun _ h => h) (fun r6 E2 t H2 locs2 ht hvm hpost2 hB hz1 hk1 hS2 => ?_)
    rw [ht] at hB
    have hW : xW G E2 H2 := hB
    have hS := hS2
    obtain ⟨q, hq, hr6, hMd2, hFr2⟩ := hpost2
    have hq2 := hq.symm.trans hm
    subst hq2
    have hr6 : r6 = r1 := hr6
    subst hr6
    have hMd3 : xMd G E2 o2 (σ) 0 := hMd2
    obtain ⟨A2, hM2, hA2, ht2⟩ := hMd3
    have hoa2 : E2 oa = some (.inl (G.2.1 1, 1, .inr (.inl (vp_updL f 0 (r6.toInt64))))) := hFr2 _ _ hoa1 rfl
    refine lv_istore (lv' := [(6, .int r6), (5, .int 0), (0, .ref b), (1, .ref o1), (2, .ref o2), (3, .ref oa), (4, .int (nI i))]) hx hb dL_law_1005 hl (by decide) rfl (fun ls hl => ?_)
    refine lv_aload_n hx hb dL_law_1007 rfl (lv_at hl 4 rfl) ?_
    refine x_callSe (va_runV (As := []) (rest := []) ⟨hx, hb, hml, hown, hts⟩ (kX5_thrown l G E2 A2 o2 _ hM2) (cwV 0 hts gL_law_X5_thrown rfl rfl rfl (by decide +kernel) ⟨Nat.le_of_ble_eq_true rfl, Nat.le_of_ble_eq_true rfl⟩) (x_preV hX hS hW hM2.1 rfl) rfl rfl hl.1 rfl (lv_room (Nat.le_of_ble_eq_true rfl)) dL_law_1008 ⟨by show _ ≤ 601024; omega, by show _ ≤ 7293034; omega⟩) ?_
    rw [show fX5_thrown A2 = (0 : Int32) from by unfold fX5_thrown; rw [ht2]; rfl]
    refine lv_iload hx hb dL_law_1011 (lv_at hl 1 rfl) ?_
    refine lv_icmp_eq (tgt := 1018) hx hb dL_law_1013 (by decide) (fun _ => ?_) (fun c9 => absurd (by decide) c9)
    refine lv_iload hx hb dL_law_1018 (lv_at hl 1 rfl) ?_
    refine lv_if_ne (tgt := 1035) hx hb dL_law_1020 (by decide) (fun c9 => absurd (by decide) c9) (fun _ => ?_)
    refine lv_aload_n hx hb dL_law_1023 rfl (lv_at hl 5 rfl) ?_
    refine lv_iconst (v := 0) hx hb dL_law_1024 (by decide) ?_
    refine x_lld (k := 0) hx hb hX.1 hW hoa2 (show vp_in (nI 0) 1 from vp_in_nI (by omega) (by omega)) rfl dL_law_1025 ?_
    rw [show vp_updL f 0 (r6.toInt64) 0 = r6.toInt64 from rfl]
    refine lv_iload hx hb dL_law_1026 (lv_at hl 0 rfl) ?_
    refine lv_i2l (v := r6.toInt64) hx hb dL_law_1028 rfl ?_
    refine W.lcmp hx hb dL_law_1029 ?_
    rw [x_cmp]
    refine lv_if_eq (tgt := 1035) hx hb dL_law_1030 (by decide) (fun _ => ?_) (fun c9 => absurd (by decide) c9)
    refine lv_goto (tgt := 1293) hx hb dL_law_1035 (by decide) ?_
    obtain ⟨ct2, vt2, gt2, tb2, vb2, gb2, sa2, nC2, nV2, nG2, hC2, hI2⟩ := hLc
    exact W.widen (by omega) (by omega) (kk _ _ ls E2 ⟨_, _, _, ⟨ct2, vt2, gt2, tb2, vb2, gb2, sa2, nC2, nV2, nG2, (hC2.fr tC_tO hFo).fr tC_tM hFr2, hI2⟩, ⟨A2, hM2, hA2, rfl⟩, hoa2⟩ hW hS (lv_sub hl [2, 3, 4, 5, 6] rfl))
  · rcases hT9 with ⟨rfl, hT9⟩ | ⟨rfl, hT9⟩
    · have hm := m_valueByAll_3 (a0 := xs (i + 1)) (a1 := xs (i + 2)) hInv hCls hT9
      have hM1 : xMod G E1 o2 A σ := by rw [hE1]; exact hM
      have hoa1 : E1 oa = some (.inl (G.2.1 1, 1, .inr (.inl f))) := by rw [hE1]; exact hoa
      refine lv_istore (lv' := [(5, .int 1), (0, .ref b), (1, .ref o1), (2, .ref o2), (3, .ref oa), (4, .int (nI i))]) hx hb dL_law_987 hl (by decide) rfl (fun ls hl => ?_)
      refine lv_aload_n hx hb dL_law_989 rfl (lv_at hl 3 rfl) ?_
      refine lv_aload_n hx hb dL_law_990 rfl (lv_at hl 1 rfl) ?_
      refine lv_iload hx hb dL_law_991 (lv_at hl 5 rfl) ?_
      refine lv_iconst (v := 1) hx hb dL_law_993 (by decide) ?_
      refine lv_iadd hx hb dL_law_994 ?_
      rw [x_ai1]
      refine va_sld hx hb hXs hbl hbA hS (vp_in_nI (show i + 1 < L by omega) (by omega)) dL_law_995 ?_
      rw [nI_clamp (show i + 1 < 2 ^ 31 by omega)]
      refine lv_aload_n hx hb dL_law_996 rfl (lv_at hl 1 rfl) ?_
      refine lv_iload hx hb dL_law_997 (lv_at hl 5 rfl) ?_
      refine lv_iconst (v := 2) hx hb dL_law_999 (by decide) ?_
      refine lv_iadd hx hb dL_law_1000 ?_
      rw [x_ai2]
      refine va_sld hx hb hXs hbl hbA hS (vp_in_nI (show i + 2 < L by omega) (by omega)) dL_law_1001 ?_
      rw [nI_clamp (show i + 2 < 2 ^ 31 by omega)]
      refine va_calli (va_runV (As := [.int (xs (i + 1)), .int (xs (i + 2))]) (rest := []) ⟨hx, hb, hml, hown, hts⟩ (kX5_valueByAll l G E1 σ o2 (xs (i + 1)) (xs (i + 2)) A hM1 hA nC nV nG (xMi_of hCls)) (cwV 2 hts gL_law_X5_valueByAll rfl rfl rfl (by decide +kernel) ⟨Nat.le_of_ble_eq_true rfl, Nat.le_of_ble_eq_true rfl⟩) (x_preV hX hS hW hM1.1 rfl) rfl rfl hl.1 rfl (lv_room (Nat.le_of_ble_eq_true rfl)) dL_law_1002 ⟨by show _ ≤ 601024; omega, by show _ ≤ 7293034; omega⟩) hS (fun _ _ h => h) (fun _ h => h) (fun r6 E2 t H2 locs2 ht hvm hpost2 hB hz1 hk1 hS2 => ?_)
      rw [ht] at hB
      have hW : xW G E2 H2 := hB
      have hS := hS2
      obtain ⟨q, hq, hr6, hMd2, hFr2⟩ := hpost2
      rw [show q.2 = 1 from (by rw [← hq]; exact hm)] at hMd2
      have hMd3 : xMd G E2 o2 σ 1 := hMd2
      obtain ⟨A2, hM2, hA2, ht2⟩ := hMd3
      have hoa2 : E2 oa = some (.inl (G.2.1 1, 1, .inr (.inl f))) := hFr2 _ _ hoa1 rfl
      refine lv_istore (lv' := [(6, .int r6), (5, .int 1), (0, .ref b), (1, .ref o1), (2, .ref o2), (3, .ref oa), (4, .int (nI i))]) hx hb dL_law_1005 hl (by decide) rfl (fun ls hl => ?_)
      refine lv_aload_n hx hb dL_law_1007 rfl (lv_at hl 4 rfl) ?_
      refine x_callSe (va_runV (As := []) (rest := []) ⟨hx, hb, hml, hown, hts⟩ (kX5_thrown l G E2 A2 o2 _ hM2) (cwV 0 hts gL_law_X5_thrown rfl rfl rfl (by decide +kernel) ⟨Nat.le_of_ble_eq_true rfl, Nat.le_of_ble_eq_true rfl⟩) (x_preV hX hS hW hM2.1 rfl) rfl rfl hl.1 rfl (lv_room (Nat.le_of_ble_eq_true rfl)) dL_law_1008 ⟨by show _ ≤ 601024; omega, by show _ ≤ 7293034; omega⟩) ?_
      rw [show fX5_thrown A2 = (1 : Int32) from by unfold fX5_thrown; rw [ht2]; rfl]
      refine lv_iload hx hb dL_law_1011 (lv_at hl 1 rfl) ?_
      refine lv_icmp_eq (tgt := 1018) hx hb dL_law_1013 (by decide) (fun _ => ?_) (fun c9 => absurd (by decide) c9)
      refine lv_iload hx hb dL_law_1018 (lv_at hl 1 rfl) ?_
      refine lv_if_ne (tgt := 1035) hx hb dL_law_1020 (by decide) (fun _ => ?_) (fun c9 => absurd c9 (by decide))
      refine lv_goto (tgt := 1293) hx hb dL_law_1035 (by decide) ?_
      exact W.widen (by omega) (by omega) (kk _ _ ls E2 ⟨_, _, _, ⟨ct, vt, gt, tb, vb, gb, sa, nC, nV, nG, (show xCls G E1 o1 ct vt gt tb vb gb sa nC nV nG σ from by rw [hE1]; exact hCls).fr tC_tM hFr2, hInv⟩, ⟨A2, hM2, hA2, rfl⟩, hoa2⟩ hW hS (lv_sub hl [2, 3, 4, 5, 6] rfl))
    · have hm := m_valueByAll_1 (a0 := xs (i + 1)) (a1 := xs (i + 2)) hInv hCls hT9
      have hM1 : xMod G E1 o2 A σ := by rw [hE1]; exact hM
      have hoa1 : E1 oa = some (.inl (G.2.1 1, 1, .inr (.inl f))) := by rw [hE1]; exact hoa
      refine lv_istore (lv' := [(5, .int 2), (0, .ref b), (1, .ref o1), (2, .ref o2), (3, .ref oa), (4, .int (nI i))]) hx hb dL_law_987 hl (by decide) rfl (fun ls hl => ?_)
      refine lv_aload_n hx hb dL_law_989 rfl (lv_at hl 3 rfl) ?_
      refine lv_aload_n hx hb dL_law_990 rfl (lv_at hl 1 rfl) ?_
      refine lv_iload hx hb dL_law_991 (lv_at hl 5 rfl) ?_
      refine lv_iconst (v := 1) hx hb dL_law_993 (by decide) ?_
      refine lv_iadd hx hb dL_law_994 ?_
      rw [x_ai1]
      refine va_sld hx hb hXs hbl hbA hS (vp_in_nI (show i + 1 < L by omega) (by omega)) dL_law_995 ?_
      rw [nI_clamp (show i + 1 < 2 ^ 31 by omega)]
      refine lv_aload_n hx hb dL_law_996 rfl (lv_at hl 1 rfl) ?_
      refine lv_iload hx hb dL_law_997 (lv_at hl 5 rfl) ?_
      refine lv_iconst (v := 2) hx hb dL_law_999 (by decide) ?_
      refine lv_iadd hx hb dL_law_1000 ?_
      rw [x_ai2]
      refine va_sld hx hb hXs hbl hbA hS (vp_in_nI (show i + 2 < L by omega) (by omega)) dL_law_1001 ?_
      rw [nI_clamp (show i + 2 < 2 ^ 31 by omega)]
      refine va_calli (va_runV (As := [.int (xs (i + 1)), .int (xs (i + 2))]) (rest := []) ⟨hx, hb, hml, hown, hts⟩ (kX5_valueByAll l G E1 σ o2 (xs (i + 1)) (xs (i + 2)) A hM1 hA nC nV nG (xMi_of hCls)) (cwV 2 hts gL_law_X5_valueByAll rfl rfl rfl (by decide +kernel) ⟨Nat.le_of_ble_eq_true rfl, Nat.le_of_ble_eq_true rfl⟩) (x_preV hX hS hW hM1.1 rfl) rfl rfl hl.1 rfl (lv_room (Nat.le_of_ble_eq_true rfl)) dL_law_1002 ⟨by show _ ≤ 601024; omega, by show _ ≤ 7293034; omega⟩) hS (fun _ _ h => h) (fun _ h => h) (fun r6 E2 t H2 locs2 ht hvm hpost2 hB hz1 hk1 hS2 => ?_)
      rw [ht] at hB
      have hW : xW G E2 H2 := hB
      have hS := hS2
      obtain ⟨q, hq, hr6, hMd2, hFr2⟩ := hpost2
      rw [show q.2 = 2 from (by rw [← hq]; exact hm)] at hMd2
      have hMd3 : xMd G E2 o2 σ 2 := hMd2
      obtain ⟨A2, hM2, hA2, ht2⟩ := hMd3
      have hoa2 : E2 oa = some (.inl (G.2.1 1, 1, .inr (.inl f))) := hFr2 _ _ hoa1 rfl
      refine lv_istore (lv' := [(6, .int r6), (5, .int 2), (0, .ref b), (1, .ref o1), (2, .ref o2), (3, .ref oa), (4, .int (nI i))]) hx hb dL_law_1005 hl (by decide) rfl (fun ls hl => ?_)
      refine lv_aload_n hx hb dL_law_1007 rfl (lv_at hl 4 rfl) ?_
      refine x_callSe (va_runV (As := []) (rest := []) ⟨hx, hb, hml, hown, hts⟩ (kX5_thrown l G E2 A2 o2 _ hM2) (cwV 0 hts gL_law_X5_thrown rfl rfl rfl (by decide +kernel) ⟨Nat.le_of_ble_eq_true rfl, Nat.le_of_ble_eq_true rfl⟩) (x_preV hX hS hW hM2.1 rfl) rfl rfl hl.1 rfl (lv_room (Nat.le_of_ble_eq_true rfl)) dL_law_1008 ⟨by show _ ≤ 601024; omega, by show _ ≤ 7293034; omega⟩) ?_
      rw [show fX5_thrown A2 = (2 : Int32) from by unfold fX5_thrown; rw [ht2]; rfl]
      refine lv_iload hx hb dL_law_1011 (lv_at hl 1 rfl) ?_
      refine lv_icmp_eq (tgt := 1018) hx hb dL_law_1013 (by decide) (fun _ => ?_) (fun c9 => absurd (by decide) c9)
      refine lv_iload hx hb dL_law_1018 (lv_at hl 1 rfl) ?_
      refine lv_if_ne (tgt := 1035) hx hb dL_law_1020 (by decide) (fun _ => ?_) (fun c9 => absurd c9 (by decide))
      refine lv_goto (tgt := 1293) hx hb dL_law_1035 (by decide) ?_
      exact W.widen (by omega) (by omega) (kk _ _ ls E2 ⟨_, _, _, ⟨ct, vt, gt, tb, vb, gb, sa, nC, nV, nG, (show xCls G E1 o1 ct vt gt tb vb gb sa nC nV nG σ from by rw [hE1]; exact hCls).fr tC_tM hFr2, hInv⟩, ⟨A2, hM2, hA2, rfl⟩, hoa2⟩ hW hS (lv_sub hl [2, 3, 4, 5, 6] rfl))

set_option maxHeartbeats 4000000 in
set_option maxRecDepth 100000 in
theorem law_vote {p : Program} {l : Launch} {e : Env} {s : State} {m : MethodId} {b : Nat} {below : List Frame} {meth : Method} {c : Code} {H : Heap} {locs : List Loc} {cells slots : Nat} {Q : State → Prop} {ls : Array Slot} (hl9 : l.stackTraces = false) (hx : p.tables.exec = Jvm.exec) (hb : c.code = cL_law) (hml : c.maxLocals = 7) (hown : s.vm.findClass RL = some m.cls) (hts : ∀ w ∈ wsL_law, w.before #[Value.ref b] s = true) {G : xG} (hX : xS G s) (hNc : xNc s) {L : Nat} {xs : Nat → Int32} (hXs : va_X b L xs s s.heap) (hbl : b < s.heap.size) (hbA : ¬ xA G b) {i : Nat} (hi : i + 6 ≤ L) (hL : L ≤ 3072) (hcn : cells + 5 ≤ 601024) (hsn : slots + 88 ≤ 7293034) {E : xE} {o1 o2 oa : Nat} (hLs : xLs G E o1 o2 oa) (hW : xW G E H) (hS : va_S (xA G) s.heap H locs) (hl : lv_has ls 7 [(0, .ref b), (1, .ref o1), (2, .ref o2), (3, .ref oa), (4, .int (nI i))]) (kk : ∀ (H1 : Heap) (locs1 : List Loc) (ls1 : Array Slot) (E1 : xE), xLs G E1 o1 o2 oa → xW G E1 H1 → va_S (xA G) s.heap H1 locs1 → lv_has ls1 7 [(0, .ref b), (1, .ref o1), (2, .ref o2), (3, .ref oa), (4, .int (nI i))] → W p l e room_1 s m #[Value.ref b] below meth c H1 locs1 (cells + 5) (slots + 88) Q (F0 m 1293 ls1 [])) : W p l e room_1 s m #[Value.ref b] below meth c H locs cells slots Q (F0 m 1038 ls []) := by
  obtain ⟨σ, t0, f, ⟨ct, vt, gt, tb, vb, gb, sa, nC, nV, nG, hCls, hInv⟩, ⟨A, hM, hA, hA19⟩, hoa⟩ := hLs
  refine lv_aload_n hx hb dL_law_1038 rfl (lv_at hl 1 rfl) ?_
  refine lv_aload_n hx hb dL_law_1039 rfl (lv_at hl 0 rfl) ?_
  refine lv_iload hx hb dL_law_1040 (lv_at hl 4 rfl) ?_
  refine lv_iconst (v := 1) hx hb dL_law_1042 (by decide) ?_
  refine lv_iadd hx hb dL_law_1043 ?_
  rw [x_ai1]
  refine va_sld hx hb hXs hbl hbA hS (vp_in_nI (show i + 1 < L by omega) (by omega)) dL_law_1044 ?_
  rw [nI_clamp (show i + 1 < 2 ^ 31 by omega)]
  refine lv_aload_n hx hb dL_law_1045 rfl (lv_at hl 0 rfl) ?_
  refine lv_iload hx hb dL_law_1046 (lv_at hl 4 rfl) ?_
  refine lv_iconst (v := 2) hx hb dL_law_1048 (by decide) ?_
  refine lv_iadd hx hb dL_law_1049 ?_
  rw [x_ai2]
  refine va_sld hx hb hXs hbl hbA hS (vp_in_nI (show i + 2 < L by omega) (by omega)) dL_law_1050 ?_
  rw [nI_clamp (show i + 2 < 2 ^ 31 by omega)]
  refine lv_aload_n hx hb dL_law_1051 rfl (lv_at hl 3 rfl) ?_
  refine vx_calli (vx_runSX (As := [.ref o1, .int (xs (i + 1)), .int (xs (i + 2)), .ref oa]) (rest := []) ⟨hx, hb, hml, hown, hts⟩ (kL_vote l hl9 G E o1 (xs (i + 1)) (xs (i + 2)) oa ct vt gt tb vb gb sa nC nV nG σ hCls f hoa) (vx_cwSW 4 hts gL_law_L_vote rfl rfl rfl (by decide +kernel) ⟨Nat.le_of_ble_eq_true rfl, Nat.le_of_ble_eq_true rfl⟩) (x_preS2 hX hNc hS hW) rfl rfl hl.1 rfl (lv_room (Nat.le_of_ble_eq_true rfl)) dL_law_1052 ⟨by show _ ≤ 601024; omega, by show _ ≤ 7293034; omega⟩) hS (fun _ _ h => h) (fun _ h => h) (fun _ _ h => h) (fun Ex ce q9 ux t H1 locs1 ht hvm hpx hB hz1 hk1 hS1 hce hcv hcl => hB.1.elim) (fun r5 E1 t H1 locs1 ht hvm hpost hB hz1 hk1 hS1 => ?_)
  rw [ht] at hB
  have hW : xW G E1 H1 := hB
  have hS := hS1
  rcases hpost with ⟨rfl, r1, Ec, hP, hE1⟩ | ⟨⟨rfl, hT9⟩, hE1⟩
  · obtain ⟨hm, hLc, hFc⟩ := m_vote hInv hCls hP
    have hFo : xFr tO Ec E1 := by rw [hE1]; exact xFr_put xFr_rf (hFc _ _ hoa rfl) rfl _
    have hM1 : xMod G E1 o2 A σ := (hM.fr hFc).frO hFo
    have hoa1 : E1 oa = some (.inl (G.2.1 1, 1, .inr (.inl (vp_updL f 0 (r1.toInt64))))) := by rw [hE1]; exact xU_self _ _ _
    refine lv_istore (lv' := [(5, .int 0), (0, .ref b), (1, .ref o1), (2, .ref o2), (3, .ref oa), (4, .int (nI i))]) hx hb dL_law_1055 hl (by decide) rfl (fun ls hl => ?_)
    refine lv_aload_n hx hb dL_law_1057 rfl (lv_at hl 3 rfl) ?_
    refine lv_aload_n hx hb dL_law_1058 rfl (lv_at hl 1 rfl) ?_
    refine lv_iload hx hb dL_law_1059 (lv_at hl 5 rfl) ?_
    refine lv_iconst (v := 1) hx hb dL_law_1061 (by decide) ?_
    refine lv_iadd hx hb dL_law_1062 ?_
    rw [x_ai1]
    refine va_sld hx hb hXs hbl hbA hS (vp_in_nI (show i + 1 < L by omega) (by omega)) dL_law_1063 ?_
    rw [nI_clamp (show i + 1 < 2 ^ 31 by omega)]
    refine lv_aload_n hx hb dL_law_1064 rfl (lv_at hl 1 rfl) ?_
    refine lv_iload hx hb dL_law_1065 (lv_at hl 5 rfl) ?_
    refine lv_iconst (v := 2) hx hb dL_law_1067 (by decide) ?_
    refine lv_iadd hx hb dL_law_1068 ?_
    rw [x_ai2]
    refine va_sld hx hb hXs hbl hbA hS (vp_in_nI (show i + 2 < L by omega) (by omega)) dL_law_1069 ?_
    rw [nI_clamp (show i + 2 < 2 ^ 31 by omega)]
    refine va_calli (va_runV (As := [.int (xs (i + 1)), .int (xs (i + 2))]) (rest := []) ⟨hx, hb, hml, hown, hts⟩ (kX5_vote l G E1 σ o2 (xs (i + 1)) (xs (i + 2)) A hM1 hA nC nV nG (xMi_of hCls)) (cwV 2 hts gL_law_X5_vote rfl rfl rfl (by decide +kernel) ⟨Nat.le_of_ble_eq_true rfl, Nat.le_of_ble_eq_true rfl⟩) (x_preV hX hS hW hM1.1 rfl) rfl rfl hl.1 rfl (lv_room (Nat.le_of_ble_eq_true rfl)) dL_law_1070 ⟨by show _ ≤ 601024; omega, by show _ ≤ 7293034; omega⟩) hS (fun _ _ h => h) (fun _ h => h) (fun r6 E2 t H2 locs2 ht hvm hpost2 hB hz1 hk1 hS2 => ?_)
    rw [ht] at hB
    have hW : xW G E2 H2 := hB
    have hS := hS2
    obtain ⟨q, hq, hr6, hMd2, hFr2⟩ := hpost2
    have hq2 := hq.symm.trans hm
    subst hq2
    have hr6 : r6 = r1 := hr6
    subst hr6
    have hMd3 : xMd G E2 o2 (sgU σ 8 ((xs (i + 2)).toNatClampNeg) ((σ 8 (xs (i + 2)).toNatClampNeg) ^^^ ((1 : Int32) <<< ((xs (i + 1)) &&& 31)))) 0 := hMd2
    obtain ⟨A2, hM2, hA2, ht2⟩ := hMd3
    have hoa2 : E2 oa = some (.inl (G.2.1 1, 1, .inr (.inl (vp_updL f 0 (r6.toInt64))))) := hFr2 _ _ hoa1 rfl
    refine lv_istore (lv' := [(6, .int r6), (5, .int 0), (0, .ref b), (1, .ref o1), (2, .ref o2), (3, .ref oa), (4, .int (nI i))]) hx hb dL_law_1073 hl (by decide) rfl (fun ls hl => ?_)
    refine lv_aload_n hx hb dL_law_1075 rfl (lv_at hl 4 rfl) ?_
    refine x_callSe (va_runV (As := []) (rest := []) ⟨hx, hb, hml, hown, hts⟩ (kX5_thrown l G E2 A2 o2 _ hM2) (cwV 0 hts gL_law_X5_thrown rfl rfl rfl (by decide +kernel) ⟨Nat.le_of_ble_eq_true rfl, Nat.le_of_ble_eq_true rfl⟩) (x_preV hX hS hW hM2.1 rfl) rfl rfl hl.1 rfl (lv_room (Nat.le_of_ble_eq_true rfl)) dL_law_1076 ⟨by show _ ≤ 601024; omega, by show _ ≤ 7293034; omega⟩) ?_
    rw [show fX5_thrown A2 = (0 : Int32) from by unfold fX5_thrown; rw [ht2]; rfl]
    refine lv_iload hx hb dL_law_1079 (lv_at hl 1 rfl) ?_
    refine lv_icmp_eq (tgt := 1086) hx hb dL_law_1081 (by decide) (fun _ => ?_) (fun c9 => absurd (by decide) c9)
    refine lv_iload hx hb dL_law_1086 (lv_at hl 1 rfl) ?_
    refine lv_if_ne (tgt := 1103) hx hb dL_law_1088 (by decide) (fun c9 => absurd (by decide) c9) (fun _ => ?_)
    refine lv_aload_n hx hb dL_law_1091 rfl (lv_at hl 5 rfl) ?_
    refine lv_iconst (v := 0) hx hb dL_law_1092 (by decide) ?_
    refine x_lld (k := 0) hx hb hX.1 hW hoa2 (show vp_in (nI 0) 1 from vp_in_nI (by omega) (by omega)) rfl dL_law_1093 ?_
    rw [show vp_updL f 0 (r6.toInt64) 0 = r6.toInt64 from rfl]
    refine lv_iload hx hb dL_law_1094 (lv_at hl 0 rfl) ?_
    refine lv_i2l (v := r6.toInt64) hx hb dL_law_1096 rfl ?_
    refine W.lcmp hx hb dL_law_1097 ?_
    rw [x_cmp]
    refine lv_if_eq (tgt := 1103) hx hb dL_law_1098 (by decide) (fun _ => ?_) (fun c9 => absurd (by decide) c9)
    refine lv_goto (tgt := 1293) hx hb dL_law_1103 (by decide) ?_
    obtain ⟨ct2, vt2, gt2, tb2, vb2, gb2, sa2, nC2, nV2, nG2, hC2, hI2⟩ := hLc
    exact W.widen (by omega) (by omega) (kk _ _ ls E2 ⟨_, _, _, ⟨ct2, vt2, gt2, tb2, vb2, gb2, sa2, nC2, nV2, nG2, (hC2.fr tC_tO hFo).fr tC_tM hFr2, hI2⟩, ⟨A2, hM2, hA2, rfl⟩, hoa2⟩ hW hS (lv_sub hl [2, 3, 4, 5, 6] rfl))
  · have hm := m_vote_3 (a0 := xs (i + 1)) (a1 := xs (i + 2)) hInv hCls hT9
    have hM1 : xMod G E1 o2 A σ := by rw [hE1]; exact hM
    have hoa1 : E1 oa = some (.inl (G.2.1 1, 1, .inr (.inl f))) := by rw [hE1]; exact hoa
    refine lv_istore (lv' := [(5, .int 1), (0, .ref b), (1, .ref o1), (2, .ref o2), (3, .ref oa), (4, .int (nI i))]) hx hb dL_law_1055 hl (by decide) rfl (fun ls hl => ?_)
    refine lv_aload_n hx hb dL_law_1057 rfl (lv_at hl 3 rfl) ?_
    refine lv_aload_n hx hb dL_law_1058 rfl (lv_at hl 1 rfl) ?_
    refine lv_iload hx hb dL_law_1059 (lv_at hl 5 rfl) ?_
    refine lv_iconst (v := 1) hx hb dL_law_1061 (by decide) ?_
    refine lv_iadd hx hb dL_law_1062 ?_
    rw [x_ai1]
    refine va_sld hx hb hXs hbl hbA hS (vp_in_nI (show i + 1 < L by omega) (by omega)) dL_law_1063 ?_
    rw [nI_clamp (show i + 1 < 2 ^ 31 by omega)]
    refine lv_aload_n hx hb dL_law_1064 rfl (lv_at hl 1 rfl) ?_
    refine lv_iload hx hb dL_law_1065 (lv_at hl 5 rfl) ?_
    refine lv_iconst (v := 2) hx hb dL_law_1067 (by decide) ?_
    refine lv_iadd hx hb dL_law_1068 ?_
    rw [x_ai2]
    refine va_sld hx hb hXs hbl hbA hS (vp_in_nI (show i + 2 < L by omega) (by omega)) dL_law_1069 ?_
    rw [nI_clamp (show i + 2 < 2 ^ 31 by omega)]
    refine va_calli (va_runV (As := [.int (xs (i + 1)), .int (xs (i + 2))]) (rest := []) ⟨hx, hb, hml, hown, hts⟩ (kX5_vote l G E1 σ o2 (xs (i + 1)) (xs (i + 2)) A hM1 hA nC nV nG (xMi_of hCls)) (cwV 2 hts gL_law_X5_vote rfl rfl rfl (by decide +kernel) ⟨Nat.le_of_ble_eq_true rfl, Nat.le_of_ble_eq_true rfl⟩) (x_preV hX hS hW hM1.1 rfl) rfl rfl hl.1 rfl (lv_room (Nat.le_of_ble_eq_true rfl)) dL_law_1070 ⟨by show _ ≤ 601024; omega, by show _ ≤ 7293034; omega⟩) hS (fun _ _ h => h) (fun _ h => h) (fun r6 E2 t H2 locs2 ht hvm hpost2 hB hz1 hk1 hS2 => ?_)
    rw [ht] at hB
    have hW : xW G E2 H2 := hB
    have hS := hS2
    obtain ⟨q, hq, hr6, hMd2, hFr2⟩ := hpost2
    rw [show q.2 = 1 from (by rw [← hq]; exact hm)] at hMd2
    have hMd3 : xMd G E2 o2 σ 1 := hMd2
    obtain ⟨A2, hM2, hA2, ht2⟩ := hMd3
    have hoa2 : E2 oa = some (.inl (G.2.1 1, 1, .inr (.inl f))) := hFr2 _ _ hoa1 rfl
    refine lv_istore (lv' := [(6, .int r6), (5, .int 1), (0, .ref b), (1, .ref o1), (2, .ref o2), (3, .ref oa), (4, .int (nI i))]) hx hb dL_law_1073 hl (by decide) rfl (fun ls hl => ?_)
    refine lv_aload_n hx hb dL_law_1075 rfl (lv_at hl 4 rfl) ?_
    refine x_callSe (va_runV (As := []) (rest := []) ⟨hx, hb, hml, hown, hts⟩ (kX5_thrown l G E2 A2 o2 _ hM2) (cwV 0 hts gL_law_X5_thrown rfl rfl rfl (by decide +kernel) ⟨Nat.le_of_ble_eq_true rfl, Nat.le_of_ble_eq_true rfl⟩) (x_preV hX hS hW hM2.1 rfl) rfl rfl hl.1 rfl (lv_room (Nat.le_of_ble_eq_true rfl)) dL_law_1076 ⟨by show _ ≤ 601024; omega, by show _ ≤ 7293034; omega⟩) ?_
    rw [show fX5_thrown A2 = (1 : Int32) from by unfold fX5_thrown; rw [ht2]; rfl]
    refine lv_iload hx hb dL_law_1079 (lv_at hl 1 rfl) ?_
    refine lv_icmp_eq (tgt := 1086) hx hb dL_law_1081 (by decide) (fun _ => ?_) (fun c9 => absurd (by decide) c9)
    refine lv_iload hx hb dL_law_1086 (lv_at hl 1 rfl) ?_
    refine lv_if_ne (tgt := 1103) hx hb dL_law_1088 (by decide) (fun _ => ?_) (fun c9 => absurd c9 (by decide))
    refine lv_goto (tgt := 1293) hx hb dL_law_1103 (by decide) ?_
    exact W.widen (by omega) (by omega) (kk _ _ ls E2 ⟨_, _, _, ⟨ct, vt, gt, tb, vb, gb, sa, nC, nV, nG, (show xCls G E1 o1 ct vt gt tb vb gb sa nC nV nG σ from by rw [hE1]; exact hCls).fr tC_tM hFr2, hInv⟩, ⟨A2, hM2, hA2, rfl⟩, hoa2⟩ hW hS (lv_sub hl [2, 3, 4, 5, 6] rfl))

set_option maxHeartbeats 4000000 in
set_option maxRecDepth 100000 in
theorem law_isBanned {p : Program} {l : Launch} {e : Env} {s : State} {m : MethodId} {b : Nat} {below : List Frame} {meth : Method} {c : Code} {H : Heap} {locs : List Loc} {cells slots : Nat} {Q : State → Prop} {ls : Array Slot} (hl9 : l.stackTraces = false) (hx : p.tables.exec = Jvm.exec) (hb : c.code = cL_law) (hml : c.maxLocals = 7) (hown : s.vm.findClass RL = some m.cls) (hts : ∀ w ∈ wsL_law, w.before #[Value.ref b] s = true) {G : xG} (hX : xS G s) (hNc : xNc s) {L : Nat} {xs : Nat → Int32} (hXs : va_X b L xs s s.heap) (hbl : b < s.heap.size) (hbA : ¬ xA G b) {i : Nat} (hi : i + 6 ≤ L) (hL : L ≤ 3072) (hcn : cells + 5 ≤ 601024) (hsn : slots + 88 ≤ 7293034) {E : xE} {o1 o2 oa : Nat} (hLs : xLs G E o1 o2 oa) (hW : xW G E H) (hS : va_S (xA G) s.heap H locs) (hl : lv_has ls 7 [(0, .ref b), (1, .ref o1), (2, .ref o2), (3, .ref oa), (4, .int (nI i))]) (kk : ∀ (H1 : Heap) (locs1 : List Loc) (ls1 : Array Slot) (E1 : xE), xLs G E1 o1 o2 oa → xW G E1 H1 → va_S (xA G) s.heap H1 locs1 → lv_has ls1 7 [(0, .ref b), (1, .ref o1), (2, .ref o2), (3, .ref oa), (4, .int (nI i))] → W p l e room_1 s m #[Value.ref b] below meth c H1 locs1 (cells + 5) (slots + 88) Q (F0 m 1293 ls1 [])) : W p l e room_1 s m #[Value.ref b] below meth c H locs cells slots Q (F0 m 1106 ls []) := by
  obtain ⟨σ, t0, f, ⟨ct, vt, gt, tb, vb, gb, sa, nC, nV, nG, hCls, hInv⟩, ⟨A, hM, hA, hA19⟩, hoa⟩ := hLs
  refine lv_aload_n hx hb dL_law_1106 rfl (lv_at hl 1 rfl) ?_
  refine lv_aload_n hx hb dL_law_1107 rfl (lv_at hl 0 rfl) ?_
  refine lv_iload hx hb dL_law_1108 (lv_at hl 4 rfl) ?_
  refine lv_iconst (v := 1) hx hb dL_law_1110 (by decide) ?_
  refine lv_iadd hx hb dL_law_1111 ?_
  rw [x_ai1]
  refine va_sld hx hb hXs hbl hbA hS (vp_in_nI (show i + 1 < L by omega) (by omega)) dL_law_1112 ?_
  rw [nI_clamp (show i + 1 < 2 ^ 31 by omega)]
  refine lv_aload_n hx hb dL_law_1113 rfl (lv_at hl 3 rfl) ?_
  refine vx_calli (vx_runSX (As := [.ref o1, .int (xs (i + 1)), .ref oa]) (rest := []) ⟨hx, hb, hml, hown, hts⟩ (kL_isBanned l hl9 G E o1 (xs (i + 1)) oa ct vt gt tb vb gb sa nC nV nG σ hCls f hoa) (vx_cwSW 3 hts gL_law_L_isBanned rfl rfl rfl (by decide +kernel) ⟨Nat.le_of_ble_eq_true rfl, Nat.le_of_ble_eq_true rfl⟩) (x_preS2 hX hNc hS hW) rfl rfl hl.1 rfl (lv_room (Nat.le_of_ble_eq_true rfl)) dL_law_1114 ⟨by show _ ≤ 601024; omega, by show _ ≤ 7293034; omega⟩) hS (fun _ _ h => h) (fun _ h => h) (fun _ _ h => h) (fun Ex ce q9 ux t H1 locs1 ht hvm hpx hB hz1 hk1 hS1 hce hcv hcl => hB.1.elim) (fun r5 E1 t H1 locs1 ht hvm hpost hB hz1 hk1 hS1 => ?_)
  rw [ht] at hB
  have hW : xW G E1 H1 := hB
  have hS := hS1
  rcases hpost with ⟨rfl, r1, Ec, hP, hE1⟩ | ⟨⟨rfl, hT9⟩, hE1⟩
  · obtain ⟨hm, hLc, hFc⟩ := m_isBanned hInv hCls hP
    have hFo : xFr tO Ec E1 := by rw [hE1]; exact xFr_put xFr_rf (hFc _ _ hoa rfl) rfl _
    have hM1 : xMod G E1 o2 A σ := (hM.fr hFc).frO hFo
    have hoa1 : E1 oa = some (.inl (G.2.1 1, 1, .inr (.inl (vp_updL f 0 ((if r1 = 0 then (0 : Int64) else 1)))))) := by rw [hE1]; exact xU_self _ _ _
    refine lv_istore (lv' := [(5, .int 0), (0, .ref b), (1, .ref o1), (2, .ref o2), (3, .ref oa), (4, .int (nI i))]) hx hb dL_law_1117 hl (by decide) rfl (fun ls hl => ?_)
    refine lv_aload_n hx hb dL_law_1119 rfl (lv_at hl 3 rfl) ?_
    refine lv_aload_n hx hb dL_law_1120 rfl (lv_at hl 1 rfl) ?_
    refine lv_iload hx hb dL_law_1121 (lv_at hl 5 rfl) ?_
    refine lv_iconst (v := 1) hx hb dL_law_1123 (by decide) ?_
    refine lv_iadd hx hb dL_law_1124 ?_
    rw [x_ai1]
    refine va_sld hx hb hXs hbl hbA hS (vp_in_nI (show i + 1 < L by omega) (by omega)) dL_law_1125 ?_
    rw [nI_clamp (show i + 1 < 2 ^ 31 by omega)]
    refine va_calli (va_runV (As := [.int (xs (i + 1))]) (rest := []) ⟨hx, hb, hml, hown, hts⟩ (kX5_isBanned l G E1 σ o2 (xs (i + 1)) A hM1 hA nC nV nG (xMi_of hCls)) (cwV 1 hts gL_law_X5_isBanned rfl rfl rfl (by decide +kernel) ⟨Nat.le_of_ble_eq_true rfl, Nat.le_of_ble_eq_true rfl⟩) (x_preV hX hS hW hM1.1 rfl) rfl rfl hl.1 rfl (lv_room (Nat.le_of_ble_eq_true rfl)) dL_law_1126 ⟨by show _ ≤ 601024; omega, by show _ ≤ 7293034; omega⟩) hS (fun _ _ h => h) (fun _ h => h) (fun r6 E2 t H2 locs2 ht hvm hpost2 hB hz1 hk1 hS2 => ?_)
    rw [ht] at hB
    have hW : xW G E2 H2 := hB
    have hS := hS2
    obtain ⟨q, hq, hr6, hMd2, hFr2⟩ := hpost2
    have hq2 := hq.symm.trans hm
    subst hq2
    have hr6 : r6 = r1 := hr6
    subst hr6
    have hMd3 : xMd G E2 o2 (σ) 0 := hMd2
    obtain ⟨A2, hM2, hA2, ht2⟩ := hMd3
    have hoa2 : E2 oa = some (.inl (G.2.1 1, 1, .inr (.inl (vp_updL f 0 ((if r6 = 0 then (0 : Int64) else 1)))))) := hFr2 _ _ hoa1 rfl
    refine lv_istore (lv' := [(6, .int r6), (5, .int 0), (0, .ref b), (1, .ref o1), (2, .ref o2), (3, .ref oa), (4, .int (nI i))]) hx hb dL_law_1129 hl (by decide) rfl (fun ls hl => ?_)
    refine lv_aload_n hx hb dL_law_1131 rfl (lv_at hl 4 rfl) ?_
    refine x_callSe (va_runV (As := []) (rest := []) ⟨hx, hb, hml, hown, hts⟩ (kX5_thrown l G E2 A2 o2 _ hM2) (cwV 0 hts gL_law_X5_thrown rfl rfl rfl (by decide +kernel) ⟨Nat.le_of_ble_eq_true rfl, Nat.le_of_ble_eq_true rfl⟩) (x_preV hX hS hW hM2.1 rfl) rfl rfl hl.1 rfl (lv_room (Nat.le_of_ble_eq_true rfl)) dL_law_1132 ⟨by show _ ≤ 601024; omega, by show _ ≤ 7293034; omega⟩) ?_
    rw [show fX5_thrown A2 = (0 : Int32) from by unfold fX5_thrown; rw [ht2]; rfl]
    refine lv_iload hx hb dL_law_1135 (lv_at hl 1 rfl) ?_
    refine lv_icmp_eq (tgt := 1142) hx hb dL_law_1137 (by decide) (fun _ => ?_) (fun c9 => absurd (by decide) c9)
    refine lv_iload hx hb dL_law_1142 (lv_at hl 1 rfl) ?_
    refine lv_if_ne (tgt := 1166) hx hb dL_law_1144 (by decide) (fun c9 => absurd (by decide) c9) (fun _ => ?_)
    refine lv_aload_n hx hb dL_law_1147 rfl (lv_at hl 5 rfl) ?_
    refine lv_iconst (v := 0) hx hb dL_law_1148 (by decide) ?_
    refine x_lld (k := 0) hx hb hX.1 hW hoa2 (show vp_in (nI 0) 1 from vp_in_nI (by omega) (by omega)) rfl dL_law_1149 ?_
    rw [show vp_updL f 0 ((if r6 = 0 then (0 : Int64) else 1)) 0 = (if r6 = 0 then (0 : Int64) else 1) from rfl]
    refine lv_iload hx hb dL_law_1150 (lv_at hl 0 rfl) ?_
    refine lv_if_eq (tgt := 1159) hx hb dL_law_1152 (by decide) (fun c1 => ?_) (fun c1 => ?_)
    · refine lv_lconst (v := 0) hx hb dL_law_1159 (by decide) ?_
      refine W.lcmp hx hb dL_law_1160 ?_
      rw [if_pos c1]
      rw [x_cmp]
      refine lv_if_eq (tgt := 1166) hx hb dL_law_1161 (by decide) (fun _ => ?_) (fun c9 => absurd (by decide) c9)
      refine lv_goto (tgt := 1293) hx hb dL_law_1166 (by decide) ?_
      obtain ⟨ct2, vt2, gt2, tb2, vb2, gb2, sa2, nC2, nV2, nG2, hC2, hI2⟩ := hLc
      exact W.widen (by omega) (by omega) (kk _ _ ls E2 ⟨_, _, _, ⟨ct2, vt2, gt2, tb2, vb2, gb2, sa2, nC2, nV2, nG2, (hC2.fr tC_tO hFo).fr tC_tM hFr2, hI2⟩, ⟨A2, hM2, hA2, rfl⟩, hoa2⟩ hW hS (lv_sub hl [2, 3, 4, 5, 6] rfl))
    · refine lv_lconst (v := 1) hx hb dL_law_1155 (by decide) ?_
      refine lv_goto (tgt := 1160) hx hb dL_law_1156 (by decide) ?_
      refine W.lcmp hx hb dL_law_1160 ?_
      rw [if_neg c1]
      rw [x_cmp]
      refine lv_if_eq (tgt := 1166) hx hb dL_law_1161 (by decide) (fun _ => ?_) (fun c9 => absurd (by decide) c9)
      refine lv_goto (tgt := 1293) hx hb dL_law_1166 (by decide) ?_
      obtain ⟨ct2, vt2, gt2, tb2, vb2, gb2, sa2, nC2, nV2, nG2, hC2, hI2⟩ := hLc
      exact W.widen (by omega) (by omega) (kk _ _ ls E2 ⟨_, _, _, ⟨ct2, vt2, gt2, tb2, vb2, gb2, sa2, nC2, nV2, nG2, (hC2.fr tC_tO hFo).fr tC_tM hFr2, hI2⟩, ⟨A2, hM2, hA2, rfl⟩, hoa2⟩ hW hS (lv_sub hl [2, 3, 4, 5, 6] rfl))
  · have hm := m_isBanned_3 (a0 := xs (i + 1)) hInv hCls hT9
    have hM1 : xMod G E1 o2 A σ := by rw [hE1]; exact hM
    have hoa1 : E1 oa = some (.inl (G.2.1 1, 1, .inr (.inl f))) := by rw [hE1]; exact hoa
    refine lv_istore (lv' := [(5, .int 1), (0, .ref b), (1, .ref o1), (2, .ref o2), (3, .ref oa), (4, .int (nI i))]) hx hb dL_law_1117 hl (by decide) rfl (fun ls hl => ?_)
    refine lv_aload_n hx hb dL_law_1119 rfl (lv_at hl 3 rfl) ?_
    refine lv_aload_n hx hb dL_law_1120 rfl (lv_at hl 1 rfl) ?_
    refine lv_iload hx hb dL_law_1121 (lv_at hl 5 rfl) ?_
    refine lv_iconst (v := 1) hx hb dL_law_1123 (by decide) ?_
    refine lv_iadd hx hb dL_law_1124 ?_
    rw [x_ai1]
    refine va_sld hx hb hXs hbl hbA hS (vp_in_nI (show i + 1 < L by omega) (by omega)) dL_law_1125 ?_
    rw [nI_clamp (show i + 1 < 2 ^ 31 by omega)]
    refine va_calli (va_runV (As := [.int (xs (i + 1))]) (rest := []) ⟨hx, hb, hml, hown, hts⟩ (kX5_isBanned l G E1 σ o2 (xs (i + 1)) A hM1 hA nC nV nG (xMi_of hCls)) (cwV 1 hts gL_law_X5_isBanned rfl rfl rfl (by decide +kernel) ⟨Nat.le_of_ble_eq_true rfl, Nat.le_of_ble_eq_true rfl⟩) (x_preV hX hS hW hM1.1 rfl) rfl rfl hl.1 rfl (lv_room (Nat.le_of_ble_eq_true rfl)) dL_law_1126 ⟨by show _ ≤ 601024; omega, by show _ ≤ 7293034; omega⟩) hS (fun _ _ h => h) (fun _ h => h) (fun r6 E2 t H2 locs2 ht hvm hpost2 hB hz1 hk1 hS2 => ?_)
    rw [ht] at hB
    have hW : xW G E2 H2 := hB
    have hS := hS2
    obtain ⟨q, hq, hr6, hMd2, hFr2⟩ := hpost2
    rw [show q.2 = 1 from (by rw [← hq]; exact hm)] at hMd2
    have hMd3 : xMd G E2 o2 σ 1 := hMd2
    obtain ⟨A2, hM2, hA2, ht2⟩ := hMd3
    have hoa2 : E2 oa = some (.inl (G.2.1 1, 1, .inr (.inl f))) := hFr2 _ _ hoa1 rfl
    refine lv_istore (lv' := [(6, .int r6), (5, .int 1), (0, .ref b), (1, .ref o1), (2, .ref o2), (3, .ref oa), (4, .int (nI i))]) hx hb dL_law_1129 hl (by decide) rfl (fun ls hl => ?_)
    refine lv_aload_n hx hb dL_law_1131 rfl (lv_at hl 4 rfl) ?_
    refine x_callSe (va_runV (As := []) (rest := []) ⟨hx, hb, hml, hown, hts⟩ (kX5_thrown l G E2 A2 o2 _ hM2) (cwV 0 hts gL_law_X5_thrown rfl rfl rfl (by decide +kernel) ⟨Nat.le_of_ble_eq_true rfl, Nat.le_of_ble_eq_true rfl⟩) (x_preV hX hS hW hM2.1 rfl) rfl rfl hl.1 rfl (lv_room (Nat.le_of_ble_eq_true rfl)) dL_law_1132 ⟨by show _ ≤ 601024; omega, by show _ ≤ 7293034; omega⟩) ?_
    rw [show fX5_thrown A2 = (1 : Int32) from by unfold fX5_thrown; rw [ht2]; rfl]
    refine lv_iload hx hb dL_law_1135 (lv_at hl 1 rfl) ?_
    refine lv_icmp_eq (tgt := 1142) hx hb dL_law_1137 (by decide) (fun _ => ?_) (fun c9 => absurd (by decide) c9)
    refine lv_iload hx hb dL_law_1142 (lv_at hl 1 rfl) ?_
    refine lv_if_ne (tgt := 1166) hx hb dL_law_1144 (by decide) (fun _ => ?_) (fun c9 => absurd c9 (by decide))
    refine lv_goto (tgt := 1293) hx hb dL_law_1166 (by decide) ?_
    exact W.widen (by omega) (by omega) (kk _ _ ls E2 ⟨_, _, _, ⟨ct, vt, gt, tb, vb, gb, sa, nC, nV, nG, (show xCls G E1 o1 ct vt gt tb vb gb sa nC nV nG σ from by rw [hE1]; exact hCls).fr tC_tM hFr2, hInv⟩, ⟨A2, hM2, hA2, rfl⟩, hoa2⟩ hW hS (lv_sub hl [2, 3, 4, 5, 6] rfl))

set_option maxHeartbeats 4000000 in
set_option maxRecDepth 100000 in
theorem law_endless {p : Program} {l : Launch} {e : Env} {s : State} {m : MethodId} {b : Nat} {below : List Frame} {meth : Method} {c : Code} {H : Heap} {locs : List Loc} {cells slots : Nat} {Q : State → Prop} {ls : Array Slot} (hl9 : l.stackTraces = false) (hx : p.tables.exec = Jvm.exec) (hb : c.code = cL_law) (hml : c.maxLocals = 7) (hown : s.vm.findClass RL = some m.cls) (hts : ∀ w ∈ wsL_law, w.before #[Value.ref b] s = true) {G : xG} (hX : xS G s) (hNc : xNc s) {L : Nat} {xs : Nat → Int32} (hXs : va_X b L xs s s.heap) (hbl : b < s.heap.size) (hbA : ¬ xA G b) {i : Nat} (hi : i + 6 ≤ L) (hL : L ≤ 3072) (hcn : cells + 5 ≤ 601024) (hsn : slots + 88 ≤ 7293034) {E : xE} {o1 o2 oa : Nat} (hLs : xLs G E o1 o2 oa) (hW : xW G E H) (hS : va_S (xA G) s.heap H locs) (hl : lv_has ls 7 [(0, .ref b), (1, .ref o1), (2, .ref o2), (3, .ref oa), (4, .int (nI i))]) (kk : ∀ (H1 : Heap) (locs1 : List Loc) (ls1 : Array Slot) (E1 : xE), xLs G E1 o1 o2 oa → xW G E1 H1 → va_S (xA G) s.heap H1 locs1 → lv_has ls1 7 [(0, .ref b), (1, .ref o1), (2, .ref o2), (3, .ref oa), (4, .int (nI i))] → W p l e room_1 s m #[Value.ref b] below meth c H1 locs1 (cells + 5) (slots + 88) Q (F0 m 1293 ls1 [])) : W p l e room_1 s m #[Value.ref b] below meth c H locs cells slots Q (F0 m 1169 ls []) := by
  obtain ⟨σ, t0, f, ⟨ct, vt, gt, tb, vb, gb, sa, nC, nV, nG, hCls, hInv⟩, ⟨A, hM, hA, hA19⟩, hoa⟩ := hLs
  refine lv_aload_n hx hb dL_law_1169 rfl (lv_at hl 1 rfl) ?_
  refine lv_aload_n hx hb dL_law_1170 rfl (lv_at hl 0 rfl) ?_
  refine lv_iload hx hb dL_law_1171 (lv_at hl 4 rfl) ?_
  refine lv_iconst (v := 1) hx hb dL_law_1173 (by decide) ?_
  refine lv_iadd hx hb dL_law_1174 ?_
  rw [x_ai1]
  refine va_sld hx hb hXs hbl hbA hS (vp_in_nI (show i + 1 < L by omega) (by omega)) dL_law_1175 ?_
  rw [nI_clamp (show i + 1 < 2 ^ 31 by omega)]
  refine lv_aload_n hx hb dL_law_1176 rfl (lv_at hl 3 rfl) ?_
  refine vx_calli (vx_runSX (As := [.ref o1, .int (xs (i + 1)), .ref oa]) (rest := []) ⟨hx, hb, hml, hown, hts⟩ (kL_endless l hl9 G E o1 (xs (i + 1)) oa ct vt gt tb vb gb sa nC nV nG σ hCls f hoa) (vx_cwSW 3 hts gL_law_L_endless rfl rfl rfl (by decide +kernel) ⟨Nat.le_of_ble_eq_true rfl, Nat.le_of_ble_eq_true rfl⟩) (x_preS2 hX hNc hS hW) rfl rfl hl.1 rfl (lv_room (Nat.le_of_ble_eq_true rfl)) dL_law_1177 ⟨by show _ ≤ 601024; omega, by show _ ≤ 7293034; omega⟩) hS (fun _ _ h => h) (fun _ h => h) (fun _ _ h => h) (fun Ex ce q9 ux t H1 locs1 ht hvm hpx hB hz1 hk1 hS1 hce hcv hcl => hB.1.elim) (fun r5 E1 t H1 locs1 ht hvm hpost hB hz1 hk1 hS1 => ?_)
  rw [ht] at hB
  have hW : xW G E1 H1 := hB
  have hS := hS1
  rcases hpost with ⟨rfl, r1, Ec, hP, hE1⟩ | ⟨⟨rfl, hT9⟩, hE1⟩
  · obtain ⟨hm, hLc, hFc⟩ := m_endless hInv hCls hP
    have hFo : xFr tO Ec E1 := by rw [hE1]; exact xFr_put xFr_rf (hFc _ _ hoa rfl) rfl _
    have hM1 : xMod G E1 o2 A σ := (hM.fr hFc).frO hFo
    have hoa1 : E1 oa = some (.inl (G.2.1 1, 1, .inr (.inl (vp_updL f 0 (r1.toInt64))))) := by rw [hE1]; exact xU_self _ _ _
    refine lv_istore (lv' := [(5, .int 0), (0, .ref b), (1, .ref o1), (2, .ref o2), (3, .ref oa), (4, .int (nI i))]) hx hb dL_law_1180 hl (by decide) rfl (fun ls hl => ?_)
    refine lv_aload_n hx hb dL_law_1182 rfl (lv_at hl 3 rfl) ?_
    refine lv_aload_n hx hb dL_law_1183 rfl (lv_at hl 1 rfl) ?_
    refine lv_iload hx hb dL_law_1184 (lv_at hl 5 rfl) ?_
    refine lv_iconst (v := 1) hx hb dL_law_1186 (by decide) ?_
    refine lv_iadd hx hb dL_law_1187 ?_
    rw [x_ai1]
    refine va_sld hx hb hXs hbl hbA hS (vp_in_nI (show i + 1 < L by omega) (by omega)) dL_law_1188 ?_
    rw [nI_clamp (show i + 1 < 2 ^ 31 by omega)]
    refine va_calli (va_runV (As := [.int (xs (i + 1))]) (rest := []) ⟨hx, hb, hml, hown, hts⟩ (kX5_endless l G E1 σ o2 (xs (i + 1)) A hM1 hA nC nV nG (xMi_of hCls)) (cwV 1 hts gL_law_X5_endless rfl rfl rfl (by decide +kernel) ⟨Nat.le_of_ble_eq_true rfl, Nat.le_of_ble_eq_true rfl⟩) (x_preV hX hS hW hM1.1 rfl) rfl rfl hl.1 rfl (lv_room (Nat.le_of_ble_eq_true rfl)) dL_law_1189 ⟨by show _ ≤ 601024; omega, by show _ ≤ 7293034; omega⟩) hS (fun _ _ h => h) (fun _ h => h) (fun r6 E2 t H2 locs2 ht hvm hpost2 hB hz1 hk1 hS2 => ?_)
    rw [ht] at hB
    have hW : xW G E2 H2 := hB
    have hS := hS2
    obtain ⟨q, hq, hr6, hMd2, hFr2⟩ := hpost2
    have hq2 := hq.symm.trans hm
    subst hq2
    have hr6 : r6 = r1 := hr6
    subst hr6
    have hMd3 : xMd G E2 o2 (σ) 0 := hMd2
    obtain ⟨A2, hM2, hA2, ht2⟩ := hMd3
    have hoa2 : E2 oa = some (.inl (G.2.1 1, 1, .inr (.inl (vp_updL f 0 (r6.toInt64))))) := hFr2 _ _ hoa1 rfl
    refine lv_istore (lv' := [(6, .int r6), (5, .int 0), (0, .ref b), (1, .ref o1), (2, .ref o2), (3, .ref oa), (4, .int (nI i))]) hx hb dL_law_1192 hl (by decide) rfl (fun ls hl => ?_)
    refine lv_aload_n hx hb dL_law_1194 rfl (lv_at hl 4 rfl) ?_
    refine x_callSe (va_runV (As := []) (rest := []) ⟨hx, hb, hml, hown, hts⟩ (kX5_thrown l G E2 A2 o2 _ hM2) (cwV 0 hts gL_law_X5_thrown rfl rfl rfl (by decide +kernel) ⟨Nat.le_of_ble_eq_true rfl, Nat.le_of_ble_eq_true rfl⟩) (x_preV hX hS hW hM2.1 rfl) rfl rfl hl.1 rfl (lv_room (Nat.le_of_ble_eq_true rfl)) dL_law_1195 ⟨by show _ ≤ 601024; omega, by show _ ≤ 7293034; omega⟩) ?_
    rw [show fX5_thrown A2 = (0 : Int32) from by unfold fX5_thrown; rw [ht2]; rfl]
    refine lv_iload hx hb dL_law_1198 (lv_at hl 1 rfl) ?_
    refine lv_icmp_eq (tgt := 1205) hx hb dL_law_1200 (by decide) (fun _ => ?_) (fun c9 => absurd (by decide) c9)
    refine lv_iload hx hb dL_law_1205 (lv_at hl 1 rfl) ?_
    refine lv_if_ne (tgt := 1222) hx hb dL_law_1207 (by decide) (fun c9 => absurd (by decide) c9) (fun _ => ?_)
    refine lv_aload_n hx hb dL_law_1210 rfl (lv_at hl 5 rfl) ?_
    refine lv_iconst (v := 0) hx hb dL_law_1211 (by decide) ?_
    refine x_lld (k := 0) hx hb hX.1 hW hoa2 (show vp_in (nI 0) 1 from vp_in_nI (by omega) (by omega)) rfl dL_law_1212 ?_
    rw [show vp_updL f 0 (r6.toInt64) 0 = r6.toInt64 from rfl]
    refine lv_iload hx hb dL_law_1213 (lv_at hl 0 rfl) ?_
    refine lv_i2l (v := r6.toInt64) hx hb dL_law_1215 rfl ?_
    refine W.lcmp hx hb dL_law_1216 ?_
    rw [x_cmp]
    refine lv_if_eq (tgt := 1222) hx hb dL_law_1217 (by decide) (fun _ => ?_) (fun c9 => absurd (by decide) c9)
    refine lv_goto (tgt := 1293) hx hb dL_law_1222 (by decide) ?_
    obtain ⟨ct2, vt2, gt2, tb2, vb2, gb2, sa2, nC2, nV2, nG2, hC2, hI2⟩ := hLc
    exact W.widen (by omega) (by omega) (kk _ _ ls E2 ⟨_, _, _, ⟨ct2, vt2, gt2, tb2, vb2, gb2, sa2, nC2, nV2, nG2, (hC2.fr tC_tO hFo).fr tC_tM hFr2, hI2⟩, ⟨A2, hM2, hA2, rfl⟩, hoa2⟩ hW hS (lv_sub hl [2, 3, 4, 5, 6] rfl))
  · have hm := m_endless_3 (a0 := xs (i + 1)) hInv hCls hT9
    have hM1 : xMod G E1 o2 A σ := by rw [hE1]; exact hM
    have hoa1 : E1 oa = some (.inl (G.2.1 1, 1, .inr (.inl f))) := by rw [hE1]; exact hoa
    refine lv_istore (lv' := [(5, .int 1), (0, .ref b), (1, .ref o1), (2, .ref o2), (3, .ref oa), (4, .int (nI i))]) hx hb dL_law_1180 hl (by decide) rfl (fun ls hl => ?_)
    refine lv_aload_n hx hb dL_law_1182 rfl (lv_at hl 3 rfl) ?_
    refine lv_aload_n hx hb dL_law_1183 rfl (lv_at hl 1 rfl) ?_
    refine lv_iload hx hb dL_law_1184 (lv_at hl 5 rfl) ?_
    refine lv_iconst (v := 1) hx hb dL_law_1186 (by decide) ?_
    refine lv_iadd hx hb dL_law_1187 ?_
    rw [x_ai1]
    refine va_sld hx hb hXs hbl hbA hS (vp_in_nI (show i + 1 < L by omega) (by omega)) dL_law_1188 ?_
    rw [nI_clamp (show i + 1 < 2 ^ 31 by omega)]
    refine va_calli (va_runV (As := [.int (xs (i + 1))]) (rest := []) ⟨hx, hb, hml, hown, hts⟩ (kX5_endless l G E1 σ o2 (xs (i + 1)) A hM1 hA nC nV nG (xMi_of hCls)) (cwV 1 hts gL_law_X5_endless rfl rfl rfl (by decide +kernel) ⟨Nat.le_of_ble_eq_true rfl, Nat.le_of_ble_eq_true rfl⟩) (x_preV hX hS hW hM1.1 rfl) rfl rfl hl.1 rfl (lv_room (Nat.le_of_ble_eq_true rfl)) dL_law_1189 ⟨by show _ ≤ 601024; omega, by show _ ≤ 7293034; omega⟩) hS (fun _ _ h => h) (fun _ h => h) (fun r6 E2 t H2 locs2 ht hvm hpost2 hB hz1 hk1 hS2 => ?_)
    rw [ht] at hB
    have hW : xW G E2 H2 := hB
    have hS := hS2
    obtain ⟨q, hq, hr6, hMd2, hFr2⟩ := hpost2
    rw [show q.2 = 1 from (by rw [← hq]; exact hm)] at hMd2
    have hMd3 : xMd G E2 o2 σ 1 := hMd2
    obtain ⟨A2, hM2, hA2, ht2⟩ := hMd3
    have hoa2 : E2 oa = some (.inl (G.2.1 1, 1, .inr (.inl f))) := hFr2 _ _ hoa1 rfl
    refine lv_istore (lv' := [(6, .int r6), (5, .int 1), (0, .ref b), (1, .ref o1), (2, .ref o2), (3, .ref oa), (4, .int (nI i))]) hx hb dL_law_1192 hl (by decide) rfl (fun ls hl => ?_)
    refine lv_aload_n hx hb dL_law_1194 rfl (lv_at hl 4 rfl) ?_
    refine x_callSe (va_runV (As := []) (rest := []) ⟨hx, hb, hml, hown, hts⟩ (kX5_thrown l G E2 A2 o2 _ hM2) (cwV 0 hts gL_law_X5_thrown rfl rfl rfl (by decide +kernel) ⟨Nat.le_of_ble_eq_true rfl, Nat.le_of_ble_eq_true rfl⟩) (x_preV hX hS hW hM2.1 rfl) rfl rfl hl.1 rfl (lv_room (Nat.le_of_ble_eq_true rfl)) dL_law_1195 ⟨by show _ ≤ 601024; omega, by show _ ≤ 7293034; omega⟩) ?_
    rw [show fX5_thrown A2 = (1 : Int32) from by unfold fX5_thrown; rw [ht2]; rfl]
    refine lv_iload hx hb dL_law_1198 (lv_at hl 1 rfl) ?_
    refine lv_icmp_eq (tgt := 1205) hx hb dL_law_1200 (by decide) (fun _ => ?_) (fun c9 => absurd (by decide) c9)
    refine lv_iload hx hb dL_law_1205 (lv_at hl 1 rfl) ?_
    refine lv_if_ne (tgt := 1222) hx hb dL_law_1207 (by decide) (fun _ => ?_) (fun c9 => absurd c9 (by decide))
    refine lv_goto (tgt := 1293) hx hb dL_law_1222 (by decide) ?_
    exact W.widen (by omega) (by omega) (kk _ _ ls E2 ⟨_, _, _, ⟨ct, vt, gt, tb, vb, gb, sa, nC, nV, nG, (show xCls G E1 o1 ct vt gt tb vb gb sa nC nV nG σ from by rw [hE1]; exact hCls).fr tC_tM hFr2, hInv⟩, ⟨A2, hM2, hA2, rfl⟩, hoa2⟩ hW hS (lv_sub hl [2, 3, 4, 5, 6] rfl))

set_option maxHeartbeats 4000000 in
set_option maxRecDepth 100000 in
theorem law_points {p : Program} {l : Launch} {e : Env} {s : State} {m : MethodId} {b : Nat} {below : List Frame} {meth : Method} {c : Code} {H : Heap} {locs : List Loc} {cells slots : Nat} {Q : State → Prop} {ls : Array Slot} (hl9 : l.stackTraces = false) (hx : p.tables.exec = Jvm.exec) (hb : c.code = cL_law) (hml : c.maxLocals = 7) (hown : s.vm.findClass RL = some m.cls) (hts : ∀ w ∈ wsL_law, w.before #[Value.ref b] s = true) {G : xG} (hX : xS G s) (hNc : xNc s) {L : Nat} {xs : Nat → Int32} (hXs : va_X b L xs s s.heap) (hbl : b < s.heap.size) (hbA : ¬ xA G b) {i : Nat} (hi : i + 6 ≤ L) (hL : L ≤ 3072) (hcn : cells + 5 ≤ 601024) (hsn : slots + 88 ≤ 7293034) {E : xE} {o1 o2 oa : Nat} (hLs : xLs G E o1 o2 oa) (hW : xW G E H) (hS : va_S (xA G) s.heap H locs) (hl : lv_has ls 7 [(0, .ref b), (1, .ref o1), (2, .ref o2), (3, .ref oa), (4, .int (nI i))]) (kk : ∀ (H1 : Heap) (locs1 : List Loc) (ls1 : Array Slot) (E1 : xE), xLs G E1 o1 o2 oa → xW G E1 H1 → va_S (xA G) s.heap H1 locs1 → lv_has ls1 7 [(0, .ref b), (1, .ref o1), (2, .ref o2), (3, .ref oa), (4, .int (nI i))] → W p l e room_1 s m #[Value.ref b] below meth c H1 locs1 (cells + 5) (slots + 88) Q (F0 m 1293 ls1 [])) : W p l e room_1 s m #[Value.ref b] below meth c H locs cells slots Q (F0 m 1225 ls []) := by
  obtain ⟨σ, t0, f, ⟨ct, vt, gt, tb, vb, gb, sa, nC, nV, nG, hCls, hInv⟩, ⟨A, hM, hA, hA19⟩, hoa⟩ := hLs
  refine lv_aload_n hx hb dL_law_1225 rfl (lv_at hl 1 rfl) ?_
  refine lv_aload_n hx hb dL_law_1226 rfl (lv_at hl 0 rfl) ?_
  refine lv_iload hx hb dL_law_1227 (lv_at hl 4 rfl) ?_
  refine lv_iconst (v := 1) hx hb dL_law_1229 (by decide) ?_
  refine lv_iadd hx hb dL_law_1230 ?_
  rw [x_ai1]
  refine va_sld hx hb hXs hbl hbA hS (vp_in_nI (show i + 1 < L by omega) (by omega)) dL_law_1231 ?_
  rw [nI_clamp (show i + 1 < 2 ^ 31 by omega)]
  refine lv_aload_n hx hb dL_law_1232 rfl (lv_at hl 0 rfl) ?_
  refine lv_iload hx hb dL_law_1233 (lv_at hl 4 rfl) ?_
  refine lv_iconst (v := 2) hx hb dL_law_1235 (by decide) ?_
  refine lv_iadd hx hb dL_law_1236 ?_
  rw [x_ai2]
  refine va_sld hx hb hXs hbl hbA hS (vp_in_nI (show i + 2 < L by omega) (by omega)) dL_law_1237 ?_
  rw [nI_clamp (show i + 2 < 2 ^ 31 by omega)]
  refine lv_aload_n hx hb dL_law_1238 rfl (lv_at hl 3 rfl) ?_
  refine vx_calli (vx_runSX (As := [.ref o1, .int (xs (i + 1)), .int (xs (i + 2)), .ref oa]) (rest := []) ⟨hx, hb, hml, hown, hts⟩ (kL_points l hl9 G E o1 (xs (i + 1)) (xs (i + 2)) oa ct vt gt tb vb gb sa nC nV nG σ hCls f hoa) (vx_cwSW 4 hts gL_law_L_points rfl rfl rfl (by decide +kernel) ⟨Nat.le_of_ble_eq_true rfl, Nat.le_of_ble_eq_true rfl⟩) (x_preS2 hX hNc hS hW) rfl rfl hl.1 rfl (lv_room (Nat.le_of_ble_eq_true rfl)) dL_law_1239 ⟨by show _ ≤ 601024; omega, by show _ ≤ 7293034; omega⟩) hS (fun _ _ h => h) (fun _ h => h) (fun _ _ h => h) (fun Ex ce q9 ux t H1 locs1 ht hvm hpx hB hz1 hk1 hS1 hce hcv hcl => hB.1.elim) (fun r5 E1 t H1 locs1 ht hvm hpost hB hz1 hk1 hS1 => ?_)
  rw [ht] at hB
  have hW : xW G E1 H1 := hB
  have hS := hS1
  rcases hpost with ⟨rfl, r1, Ec, hP, hE1⟩ | ⟨⟨rfl, hT9⟩, hE1⟩
  · obtain ⟨hm, hLc, hFc⟩ := m_points hInv hCls hP
    have hFo : xFr tO Ec E1 := by rw [hE1]; exact xFr_put xFr_rf (hFc _ _ hoa rfl) rfl _
    have hM1 : xMod G E1 o2 A σ := (hM.fr hFc).frO hFo
    have hoa1 : E1 oa = some (.inl (G.2.1 1, 1, .inr (.inl (vp_updL f 0 (r1.toInt64))))) := by rw [hE1]; exact xU_self _ _ _
    refine lv_istore (lv' := [(5, .int 0), (0, .ref b), (1, .ref o1), (2, .ref o2), (3, .ref oa), (4, .int (nI i))]) hx hb dL_law_1242 hl (by decide) rfl (fun ls hl => ?_)
    refine lv_aload_n hx hb dL_law_1244 rfl (lv_at hl 3 rfl) ?_
    refine lv_aload_n hx hb dL_law_1245 rfl (lv_at hl 1 rfl) ?_
    refine lv_iload hx hb dL_law_1246 (lv_at hl 5 rfl) ?_
    refine lv_iconst (v := 1) hx hb dL_law_1248 (by decide) ?_
    refine lv_iadd hx hb dL_law_1249 ?_
    rw [x_ai1]
    refine va_sld hx hb hXs hbl hbA hS (vp_in_nI (show i + 1 < L by omega) (by omega)) dL_law_1250 ?_
    rw [nI_clamp (show i + 1 < 2 ^ 31 by omega)]
    refine lv_aload_n hx hb dL_law_1251 rfl (lv_at hl 1 rfl) ?_
    refine lv_iload hx hb dL_law_1252 (lv_at hl 5 rfl) ?_
    refine lv_iconst (v := 2) hx hb dL_law_1254 (by decide) ?_
    refine lv_iadd hx hb dL_law_1255 ?_
    rw [x_ai2]
    refine va_sld hx hb hXs hbl hbA hS (vp_in_nI (show i + 2 < L by omega) (by omega)) dL_law_1256 ?_
    rw [nI_clamp (show i + 2 < 2 ^ 31 by omega)]
    refine va_calli (va_runV (As := [.int (xs (i + 1)), .int (xs (i + 2))]) (rest := []) ⟨hx, hb, hml, hown, hts⟩ (kX5_points l G E1 σ o2 (xs (i + 1)) (xs (i + 2)) A hM1 hA nC nV nG (xMi_of hCls)) (cwV 2 hts gL_law_X5_points rfl rfl rfl (by decide +kernel) ⟨Nat.le_of_ble_eq_true rfl, Nat.le_of_ble_eq_true rfl⟩) (x_preV hX hS hW hM1.1 rfl) rfl rfl hl.1 rfl (lv_room (Nat.le_of_ble_eq_true rfl)) dL_law_1257 ⟨by show _ ≤ 601024; omega, by show _ ≤ 7293034; omega⟩) hS (fun _ _ h => h) (fun _ h => h) (fun r6 E2 t H2 locs2 ht hvm hpost2 hB hz1 hk1 hS2 => ?_)
    rw [ht] at hB
    have hW : xW G E2 H2 := hB
    have hS := hS2
    obtain ⟨q, hq, hr6, hMd2, hFr2⟩ := hpost2
    have hq2 := hq.symm.trans hm
    subst hq2
    have hr6 : r6 = r1 := hr6
    subst hr6
    have hMd3 : xMd G E2 o2 (σ) 0 := hMd2
    obtain ⟨A2, hM2, hA2, ht2⟩ := hMd3
    have hoa2 : E2 oa = some (.inl (G.2.1 1, 1, .inr (.inl (vp_updL f 0 (r6.toInt64))))) := hFr2 _ _ hoa1 rfl
    refine lv_istore (lv' := [(6, .int r6), (5, .int 0), (0, .ref b), (1, .ref o1), (2, .ref o2), (3, .ref oa), (4, .int (nI i))]) hx hb dL_law_1260 hl (by decide) rfl (fun ls hl => ?_)
    refine lv_aload_n hx hb dL_law_1262 rfl (lv_at hl 4 rfl) ?_
    refine x_callSe (va_runV (As := []) (rest := []) ⟨hx, hb, hml, hown, hts⟩ (kX5_thrown l G E2 A2 o2 _ hM2) (cwV 0 hts gL_law_X5_thrown rfl rfl rfl (by decide +kernel) ⟨Nat.le_of_ble_eq_true rfl, Nat.le_of_ble_eq_true rfl⟩) (x_preV hX hS hW hM2.1 rfl) rfl rfl hl.1 rfl (lv_room (Nat.le_of_ble_eq_true rfl)) dL_law_1263 ⟨by show _ ≤ 601024; omega, by show _ ≤ 7293034; omega⟩) ?_
    rw [show fX5_thrown A2 = (0 : Int32) from by unfold fX5_thrown; rw [ht2]; rfl]
    refine lv_iload hx hb dL_law_1266 (lv_at hl 1 rfl) ?_
    refine lv_icmp_eq (tgt := 1273) hx hb dL_law_1268 (by decide) (fun _ => ?_) (fun c9 => absurd (by decide) c9)
    refine lv_iload hx hb dL_law_1273 (lv_at hl 1 rfl) ?_
    refine lv_if_ne (tgt := 1290) hx hb dL_law_1275 (by decide) (fun c9 => absurd (by decide) c9) (fun _ => ?_)
    refine lv_aload_n hx hb dL_law_1278 rfl (lv_at hl 5 rfl) ?_
    refine lv_iconst (v := 0) hx hb dL_law_1279 (by decide) ?_
    refine x_lld (k := 0) hx hb hX.1 hW hoa2 (show vp_in (nI 0) 1 from vp_in_nI (by omega) (by omega)) rfl dL_law_1280 ?_
    rw [show vp_updL f 0 (r6.toInt64) 0 = r6.toInt64 from rfl]
    refine lv_iload hx hb dL_law_1281 (lv_at hl 0 rfl) ?_
    refine lv_i2l (v := r6.toInt64) hx hb dL_law_1283 rfl ?_
    refine W.lcmp hx hb dL_law_1284 ?_
    rw [x_cmp]
    refine lv_if_eq (tgt := 1290) hx hb dL_law_1285 (by decide) (fun _ => ?_) (fun c9 => absurd (by decide) c9)
    refine lv_goto (tgt := 1293) hx hb dL_law_1290 (by decide) ?_
    obtain ⟨ct2, vt2, gt2, tb2, vb2, gb2, sa2, nC2, nV2, nG2, hC2, hI2⟩ := hLc
    exact W.widen (by omega) (by omega) (kk _ _ ls E2 ⟨_, _, _, ⟨ct2, vt2, gt2, tb2, vb2, gb2, sa2, nC2, nV2, nG2, (hC2.fr tC_tO hFo).fr tC_tM hFr2, hI2⟩, ⟨A2, hM2, hA2, rfl⟩, hoa2⟩ hW hS (lv_sub hl [2, 3, 4, 5, 6] rfl))
  · have hm := m_points_3 (a0 := xs (i + 1)) (a1 := xs (i + 2)) hInv hCls hT9
    have hM1 : xMod G E1 o2 A σ := by rw [hE1]; exact hM
    have hoa1 : E1 oa = some (.inl (G.2.1 1, 1, .inr (.inl f))) := by rw [hE1]; exact hoa
    refine lv_istore (lv' := [(5, .int 1), (0, .ref b), (1, .ref o1), (2, .ref o2), (3, .ref oa), (4, .int (nI i))]) hx hb dL_law_1242 hl (by decide) rfl (fun ls hl => ?_)
    refine lv_aload_n hx hb dL_law_1244 rfl (lv_at hl 3 rfl) ?_
    refine lv_aload_n hx hb dL_law_1245 rfl (lv_at hl 1 rfl) ?_
    refine lv_iload hx hb dL_law_1246 (lv_at hl 5 rfl) ?_
    refine lv_iconst (v := 1) hx hb dL_law_1248 (by decide) ?_
    refine lv_iadd hx hb dL_law_1249 ?_
    rw [x_ai1]
    refine va_sld hx hb hXs hbl hbA hS (vp_in_nI (show i + 1 < L by omega) (by omega)) dL_law_1250 ?_
    rw [nI_clamp (show i + 1 < 2 ^ 31 by omega)]
    refine lv_aload_n hx hb dL_law_1251 rfl (lv_at hl 1 rfl) ?_
    refine lv_iload hx hb dL_law_1252 (lv_at hl 5 rfl) ?_
    refine lv_iconst (v := 2) hx hb dL_law_1254 (by decide) ?_
    refine lv_iadd hx hb dL_law_1255 ?_
    rw [x_ai2]
    refine va_sld hx hb hXs hbl hbA hS (vp_in_nI (show i + 2 < L by omega) (by omega)) dL_law_1256 ?_
    rw [nI_clamp (show i + 2 < 2 ^ 31 by omega)]
    refine va_calli (va_runV (As := [.int (xs (i + 1)), .int (xs (i + 2))]) (rest := []) ⟨hx, hb, hml, hown, hts⟩ (kX5_points l G E1 σ o2 (xs (i + 1)) (xs (i + 2)) A hM1 hA nC nV nG (xMi_of hCls)) (cwV 2 hts gL_law_X5_points rfl rfl rfl (by decide +kernel) ⟨Nat.le_of_ble_eq_true rfl, Nat.le_of_ble_eq_true rfl⟩) (x_preV hX hS hW hM1.1 rfl) rfl rfl hl.1 rfl (lv_room (Nat.le_of_ble_eq_true rfl)) dL_law_1257 ⟨by show _ ≤ 601024; omega, by show _ ≤ 7293034; omega⟩) hS (fun _ _ h => h) (fun _ h => h) (fun r6 E2 t H2 locs2 ht hvm hpost2 hB hz1 hk1 hS2 => ?_)
    rw [ht] at hB
    have hW : xW G E2 H2 := hB
    have hS := hS2
    obtain ⟨q, hq, hr6, hMd2, hFr2⟩ := hpost2
    rw [show q.2 = 1 from (by rw [← hq]; exact hm)] at hMd2
    have hMd3 : xMd G E2 o2 σ 1 := hMd2
    obtain ⟨A2, hM2, hA2, ht2⟩ := hMd3
    have hoa2 : E2 oa = some (.inl (G.2.1 1, 1, .inr (.inl f))) := hFr2 _ _ hoa1 rfl
    refine lv_istore (lv' := [(6, .int r6), (5, .int 1), (0, .ref b), (1, .ref o1), (2, .ref o2), (3, .ref oa), (4, .int (nI i))]) hx hb dL_law_1260 hl (by decide) rfl (fun ls hl => ?_)
    refine lv_aload_n hx hb dL_law_1262 rfl (lv_at hl 4 rfl) ?_
    refine x_callSe (va_runV (As := []) (rest := []) ⟨hx, hb, hml, hown, hts⟩ (kX5_thrown l G E2 A2 o2 _ hM2) (cwV 0 hts gL_law_X5_thrown rfl rfl rfl (by decide +kernel) ⟨Nat.le_of_ble_eq_true rfl, Nat.le_of_ble_eq_true rfl⟩) (x_preV hX hS hW hM2.1 rfl) rfl rfl hl.1 rfl (lv_room (Nat.le_of_ble_eq_true rfl)) dL_law_1263 ⟨by show _ ≤ 601024; omega, by show _ ≤ 7293034; omega⟩) ?_
    rw [show fX5_thrown A2 = (1 : Int32) from by unfold fX5_thrown; rw [ht2]; rfl]
    refine lv_iload hx hb dL_law_1266 (lv_at hl 1 rfl) ?_
    refine lv_icmp_eq (tgt := 1273) hx hb dL_law_1268 (by decide) (fun _ => ?_) (fun c9 => absurd (by decide) c9)
    refine lv_iload hx hb dL_law_1273 (lv_at hl 1 rfl) ?_
    refine lv_if_ne (tgt := 1290) hx hb dL_law_1275 (by decide) (fun _ => ?_) (fun c9 => absurd c9 (by decide))
    refine lv_goto (tgt := 1293) hx hb dL_law_1290 (by decide) ?_
    exact W.widen (by omega) (by omega) (kk _ _ ls E2 ⟨_, _, _, ⟨ct, vt, gt, tb, vb, gb, sa, nC, nV, nG, (show xCls G E1 o1 ct vt gt tb vb gb sa nC nV nG σ from by rw [hE1]; exact hCls).fr tC_tM hFr2, hInv⟩, ⟨A2, hM2, hA2, rfl⟩, hoa2⟩ hW hS (lv_sub hl [2, 3, 4, 5, 6] rfl))
