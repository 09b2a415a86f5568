theorem xMi_of {G : xG} {E : xE} {o : Nat} {ct vt gt : Nat} {tb vb gb : Nat → Option Nat} {sa : Nat → Nat} {nC nV nG : Nat} {σ : xSg} (h : xCls G E o ct vt gt tb vb gb sa nC nV nG σ) : xMi σ nC nV nG := by
  obtain ⟨hE, h0, h5, h10, hT, hV, hGs⟩ := h
  refine ⟨⟨h0, hT.2.1, fun k hk => ?_⟩, h5, hV.2.1, h10, hGs.2.1, fun u hu => ?_⟩
  · obtain ⟨ca, r, -, -, hr, h4⟩ := hT.2.2.2 k hk
    exact ⟨r, hr, h4⟩
  · obtain ⟨ga, hga, va, gr, v, d, sq, hG1, h16, h60, h11, hvl, hvb, hGr, hSn, hsq, hop⟩ := hGs.2.2.2.1 u hu
    exact ⟨d, v, ⟨by have := hGs.2.1; omega, h16, h60, h11, by have := hV.2.1; omega⟩, hvl, hop⟩
theorem xMod.fr {G : xG} {E E1 : xE} {o : Nat} {A : Nat → Nat} {σ : xSg} (h : xMod G E o A σ) (f : xFr tC E E1) : xMod G E1 o A σ := by
  obtain ⟨h0, h1, h2, h3, h4, h6, h7, h8, h9, h11, h12, h13, h14, h15, h16, h17, h18⟩ := h
  exact ⟨f _ _ h0 rfl, f _ _ h1 rfl, f _ _ h2 rfl, f _ _ h3 rfl, f _ _ h4 rfl, f _ _ h6 rfl, f _ _ h7 rfl, f _ _ h8 rfl, f _ _ h9 rfl, f _ _ h11 rfl, f _ _ h12 rfl, f _ _ h13 rfl, f _ _ h14 rfl, f _ _ h15 rfl, f _ _ h16 rfl, f _ _ h17 rfl, f _ _ h18 rfl⟩
/-- the long row of one isn't of either -/
def tO : va_E → Bool
  | .inl (_, n, .inr (.inl _)) => n == 1
  | _ => false
theorem xMod.frO {G : xG} {E E1 : xE} {o : Nat} {A : Nat → Nat} {σ : xSg} (h : xMod G E o A σ) (f : xFr tO E E1) : xMod G E1 o A σ := by
  obtain ⟨h0, h1, h2, h3, h4, h6, h7, h8, h9, h11, h12, h13, h14, h15, h16, h17, h18⟩ := h
  exact ⟨f _ _ h0 rfl, f _ _ h1 rfl, f _ _ h2 rfl, f _ _ h3 rfl, f _ _ h4 rfl, f _ _ h6 rfl, f _ _ h7 rfl, f _ _ h8 rfl, f _ _ h9 rfl, f _ _ h11 rfl, f _ _ h12 rfl, f _ _ h13 rfl, f _ _ h14 rfl, f _ _ h15 rfl, f _ _ h16 rfl, f _ _ h17 rfl, f _ _ h18 rfl⟩
/-- the class's cells stay where only others change -/
theorem xCls.fr {G : xG} {T : va_E → Bool} (hT : ∀ e, tC e = true → T e = false) {E E1 : xE} {o : Nat} {ct vt gt : Nat} {tb vb gb : Nat → Option Nat} {sa : Nat → Nat} {nC nV nG : Nat} {σ : xSg} (h : xCls G E o ct vt gt tb vb gb sa nC nV nG σ) (f : xFr T E E1) : xCls G E1 o ct vt gt tb vb gb sa nC nV nG σ := by
  have g : ∀ (b : Nat) (e : va_E), E b = some e → tC e = true → E1 b = some e := fun b e hb ht => f b e hb (hT e ht)
  obtain ⟨hE, h0, h5, h10, hT, hV, hGs⟩ := h
  have hT2 : xCardsAt G E1 ct tb nC σ := by
    obtain ⟨a1, a2, a3, a4⟩ := hT
    refine ⟨g _ _ a1 rfl, a2, a3, fun j hj => ?_⟩
    obtain ⟨ca, r, d1, d2, d3, d4⟩ := a4 j hj
    exact ⟨ca, r, d1, g _ _ d2 rfl, d3, d4⟩
  refine ⟨g _ _ hE rfl, h0, h5, h10, hT2, ⟨g _ _ hV.1 rfl, hV.2.1, hV.2.2.1, fun v hv => ?_, hV.2.2.2.2⟩, ⟨g _ _ hGs.1 rfl, hGs.2.1, hGs.2.2.1, fun u hu => ?_, hGs.2.2.2.2⟩⟩
  · obtain ⟨va, vr, q1, q2, q3⟩ := hV.2.2.2.1 v hv
    exact ⟨va, vr, q1, g _ _ q2 rfl, g _ _ q3 rfl⟩
  · obtain ⟨ga, hga, va, gr, v, d, sq, hG1, h16, h60, h11, hvl, hvb, hGr, hSn, hsq, hop⟩ := hGs.2.2.2.1 u hu
    exact ⟨ga, hga, va, gr, v, d, sq, g _ _ hG1 rfl, h16, h60, h11, hvl, hvb, g _ _ hGr rfl, g _ _ hSn rfl, hsq, hop⟩
theorem tC_tM : ∀ e, tC e = true → tM e = false
  | .inr (n, _), h => by
    show (n == 5) = false
    have : n < 5 := of_decide_eq_true h
    exact beq_false_of_ne (by omega)
  | .inl (_, _, .inl _), h => by cases h
  | .inl (_, _, .inr (.inl _)), _ => rfl
  | .inl (_, _, .inr (.inr _)), _ => rfl
theorem tC_tO : ∀ e, tC e = true → tO e = false
  | .inr (n, _), h => rfl
  | .inl (_, _, .inl _), h => rfl
  | .inl (_, n, .inr (.inl _)), h => by
    show (n == 1) = false
    have : n = 61 := by simpa [tC] using h
    rw [this]; rfl
  | .inl (_, _, .inr (.inr _)), _ => rfl
/-- both of a state, and the row of one long -/
def xLs (G : xG) (E : xE) (o1 o2 oa : Nat) : Prop := ∃ (σ : xSg) (t : Nat) (f : Nat → Int64), xLc G E o1 σ ∧ xMd G E o2 σ t ∧ E oa = some (.inl (G.2.1 1, 1, .inr (.inl f)))
theorem x_blind2 {G : xG} {E : xE} {av : List Value} : FrameBlind (va_Pc av (xB2 G E)) := fun a U g mk h => ⟨h.1, ⟨h.2.1.1.same (U := U.calling g mk a) rfl rfl, h.2.1.2⟩, h.2.2⟩
theorem x_preS2 {s : State} {H : Heap} {locs : List Loc} {G : xG} {E : xE} {As : List Value} (hX : xS G s) (hN : xNc s) (hS : va_S (xA G) s.heap H locs) (hW : xW G E H) : PreS s H (va_Pc As (xB2 G E)) As :=
  ⟨x_blind2, fun U hU hw => ⟨rfl, ⟨hX.go hS hU hw, by rw [hU]; exact hW⟩, hN.moved hw.alike⟩⟩
theorem x_cmp (x : Int64) : lg_cmp x x = 0 := by
  unfold lg_cmp
  simp

theorem x_ai1 (i : Nat) : nI i + 1 = nI (i + 1) := by rw [show (1 : Int32) = nI 1 from rfl, nI_add]
theorem x_ai2 (i : Nat) : nI i + 2 = nI (i + 2) := by rw [show (2 : Int32) = nI 2 from rfl, nI_add]
theorem x_ai3 (i : Nat) : nI i + 3 = nI (i + 3) := by rw [show (3 : Int32) = nI 3 from rfl, nI_add]
theorem x_ai4 (i : Nat) : nI i + 4 = nI (i + 4) := by rw [show (4 : Int32) = nI 4 from rfl, nI_add]
theorem x_ai5 (i : Nat) : nI i + 5 = nI (i + 5) := by rw [show (5 : Int32) = nI 5 from rfl, nI_add]
set_option maxHeartbeats 4000000 in
set_option maxRecDepth 100000 in
theorem law_card {p : Program} {l : Launch} {e : Env} {s : State} {m : MethodId} {b : Nat} {below : List Frame} {meth : Method} {c : Code} {H : Heap} {locs : List Loc} {cells slots : Nat} {Q : State → Prop} {ls : Array Slot} (hl9 : l.stackTraces = false) (hx : p.tables.exec = Jvm.exec) (hb : c.code = cL_law) (hml : c.maxLocals = 7) (hown : s.vm.findClass RL = some m.cls) (hts : ∀ w ∈ wsL_law, w.before #[Value.ref b] s = true) {G : xG} (hX : xS G s) (hNc : xNc s) {L : Nat} {xs : Nat → Int32} (hXs : va_X b L xs s s.heap) (hbl : b < s.heap.size) (hbA : ¬ xA G b) {i : Nat} (hi : i + 6 ≤ L) (hL : L ≤ 3072) (hcn : cells + 5 ≤ 601024) (hsn : slots + 88 ≤ 7293034) {E : xE} {o1 o2 oa : Nat} (hLs : xLs G E o1 o2 oa) (hW : xW G E H) (hS : va_S (xA G) s.heap H locs) (hl : lv_has ls 7 [(0, .ref b), (1, .ref o1), (2, .ref o2), (3, .ref oa), (4, .int (nI i))]) (kk : ∀ (H1 : Heap) (locs1 : List Loc) (ls1 : Array Slot) (E1 : xE), xLs G E1 o1 o2 oa → xW G E1 H1 → va_S (xA G) s.heap H1 locs1 → lv_has ls1 7 [(0, .ref b), (1, .ref o1), (2, .ref o2), (3, .ref oa), (4, .int (nI i))] → W p l e room_1 s m #[Value.ref b] below meth c H1 locs1 (cells + 5) (slots + 88) Q (F0 m 1293 ls1 [])) : W p l e room_1 s m #[Value.ref b] below meth c H locs cells slots Q (F0 m 120 ls []) := by
  obtain ⟨σ, t0, f, ⟨ct, vt, gt, tb, vb, gb, sa, nC, nV, nG, hCls, hInv⟩, ⟨A, hM, hA, hA19⟩, hoa⟩ := hLs
  refine lv_aload_n hx hb dL_law_120 rfl (lv_at hl 1 rfl) ?_
  refine lv_aload_n hx hb dL_law_121 rfl (lv_at hl 0 rfl) ?_
  refine lv_iload hx hb dL_law_122 (lv_at hl 4 rfl) ?_
  refine lv_iconst (v := 1) hx hb dL_law_124 (by decide) ?_
  refine lv_iadd hx hb dL_law_125 ?_
  rw [x_ai1]
  refine va_sld hx hb hXs hbl hbA hS (vp_in_nI (show i + 1 < L by omega) (by omega)) dL_law_126 ?_
  rw [nI_clamp (show i + 1 < 2 ^ 31 by omega)]
  refine lv_aload_n hx hb dL_law_127 rfl (lv_at hl 0 rfl) ?_
  refine lv_iload hx hb dL_law_128 (lv_at hl 4 rfl) ?_
  refine lv_iconst (v := 2) hx hb dL_law_130 (by decide) ?_
  refine lv_iadd hx hb dL_law_131 ?_
  rw [x_ai2]
  refine va_sld hx hb hXs hbl hbA hS (vp_in_nI (show i + 2 < L by omega) (by omega)) dL_law_132 ?_
  rw [nI_clamp (show i + 2 < 2 ^ 31 by omega)]
  refine lv_aload_n hx hb dL_law_133 rfl (lv_at hl 0 rfl) ?_
  refine lv_iload hx hb dL_law_134 (lv_at hl 4 rfl) ?_
  refine lv_iconst (v := 3) hx hb dL_law_136 (by decide) ?_
  refine lv_iadd hx hb dL_law_137 ?_
  rw [x_ai3]
  refine va_sld hx hb hXs hbl hbA hS (vp_in_nI (show i + 3 < L by omega) (by omega)) dL_law_138 ?_
  rw [nI_clamp (show i + 3 < 2 ^ 31 by omega)]
  refine lv_aload_n hx hb dL_law_139 rfl (lv_at hl 0 rfl) ?_
  refine lv_iload hx hb dL_law_140 (lv_at hl 4 rfl) ?_
  refine lv_iconst (v := 4) hx hb dL_law_142 (by decide) ?_
  refine lv_iadd hx hb dL_law_143 ?_
  rw [x_ai4]
  refine va_sld hx hb hXs hbl hbA hS (vp_in_nI (show i + 4 < L by omega) (by omega)) dL_law_144 ?_
  rw [nI_clamp (show i + 4 < 2 ^ 31 by omega)]
  refine lv_aload_n hx hb dL_law_145 rfl (lv_at hl 3 rfl) ?_
  refine vx_calli (vx_runSX (As := [.ref o1, .int (xs (i + 1)), .int (xs (i + 2)), .int (xs (i + 3)), .int (xs (i + 4)), .ref oa]) (rest := []) ⟨hx, hb, hml, hown, hts⟩ (kL_card l hl9 G E o1 (xs (i + 1)) (xs (i + 2)) (xs (i + 3)) (xs (i + 4)) oa ct vt gt tb vb gb sa nC nV nG σ hCls f hoa) (vx_cwSW 6 hts gL_law_L_card rfl rfl rfl (by decide +kernel) ⟨Nat.le_of_ble_eq_true rfl, Nat.le_of_ble_eq_true rfl⟩) (x_preS2 hX hNc hS hW) rfl rfl hl.1 rfl (lv_room (Nat.le_of_ble_eq_true rfl)) dL_law_146 ⟨by show _ ≤ 601024; omega, by show _ ≤ 7293034; omega⟩) hS (fun _ _ h => h) (fun _ h => h) (fun _ _ h => h) (fun Ex ce q9 ux t H1 locs1 ht hvm hpx hB hz1 hk1 hS1 hce hcv hcl => hB.1.elim) (fun r5 E1 t H1 locs1 ht hvm hpost hB hz1 hk1 hS1 => ?_)
  rw [ht] at hB
  have hW : xW G E1 H1 := hB
  have hS := hS1
  rcases hpost with ⟨rfl, r1, Ec, hP, hE1⟩ | ⟨hT9, hE1⟩
  · obtain ⟨hm, hLc, hFc⟩ := m_card hInv hCls hP
    have hFo : xFr tO Ec E1 := by rw [hE1]; exact xFr_put xFr_rf (hFc _ _ hoa rfl) rfl _
    have hM1 : xMod G E1 o2 A σ := (hM.fr hFc).frO hFo
    have hoa1 : E1 oa = some (.inl (G.2.1 1, 1, .inr (.inl (vp_updL f 0 (r1.toInt64))))) := by rw [hE1]; exact xU_self _ _ _
    refine lv_istore (lv' := [(5, .int 0), (0, .ref b), (1, .ref o1), (2, .ref o2), (3, .ref oa), (4, .int (nI i))]) hx hb dL_law_149 hl (by decide) rfl (fun ls hl => ?_)
    refine lv_aload_n hx hb dL_law_151 rfl (lv_at hl 3 rfl) ?_
    refine lv_aload_n hx hb dL_law_152 rfl (lv_at hl 1 rfl) ?_
    refine lv_iload hx hb dL_law_153 (lv_at hl 5 rfl) ?_
    refine lv_iconst (v := 1) hx hb dL_law_155 (by decide) ?_
    refine lv_iadd hx hb dL_law_156 ?_
    rw [x_ai1]
    refine va_sld hx hb hXs hbl hbA hS (vp_in_nI (show i + 1 < L by omega) (by omega)) dL_law_157 ?_
    rw [nI_clamp (show i + 1 < 2 ^ 31 by omega)]
    refine lv_aload_n hx hb dL_law_158 rfl (lv_at hl 1 rfl) ?_
    refine lv_iload hx hb dL_law_159 (lv_at hl 5 rfl) ?_
    refine lv_iconst (v := 2) hx hb dL_law_161 (by decide) ?_
    refine lv_iadd hx hb dL_law_162 ?_
    rw [x_ai2]
    refine va_sld hx hb hXs hbl hbA hS (vp_in_nI (show i + 2 < L by omega) (by omega)) dL_law_163 ?_
    rw [nI_clamp (show i + 2 < 2 ^ 31 by omega)]
    refine lv_aload_n hx hb dL_law_164 rfl (lv_at hl 1 rfl) ?_
    refine lv_iload hx hb dL_law_165 (lv_at hl 5 rfl) ?_
    refine lv_iconst (v := 3) hx hb dL_law_167 (by decide) ?_
    refine lv_iadd hx hb dL_law_168 ?_
    rw [x_ai3]
    refine va_sld hx hb hXs hbl hbA hS (vp_in_nI (show i + 3 < L by omega) (by omega)) dL_law_169 ?_
    rw [nI_clamp (show i + 3 < 2 ^ 31 by omega)]
    refine lv_aload_n hx hb dL_law_170 rfl (lv_at hl 1 rfl) ?_
    refine lv_iload hx hb dL_law_171 (lv_at hl 5 rfl) ?_
    refine lv_iconst (v := 4) hx hb dL_law_173 (by decide) ?_
    refine lv_iadd hx hb dL_law_174 ?_
    rw [x_ai4]
    refine va_sld hx hb hXs hbl hbA hS (vp_in_nI (show i + 4 < L by omega) (by omega)) dL_law_175 ?_
    rw [nI_clamp (show i + 4 < 2 ^ 31 by omega)]
    refine va_calli (va_runV (As := [.int (xs (i + 1)), .int (xs (i + 2)), .int (xs (i + 3)), .int (xs (i + 4))]) (rest := []) ⟨hx, hb, hml, hown, hts⟩ (kX5_card l G E1 σ o2 (xs (i + 1)) (xs (i + 2)) (xs (i + 3)) (xs (i + 4)) A hM1 hA nC nV nG (xMi_of hCls)) (cwV 4 hts gL_law_X5_card rfl rfl rfl (by decide +kernel) ⟨Nat.le_of_ble_eq_true rfl, Nat.le_of_ble_eq_true rfl⟩) (x_preV hX hS hW hM1.1 rfl) rfl rfl hl.1 rfl (lv_room (Nat.le_of_ble_eq_true rfl)) dL_law_176 ⟨by show _ ≤ 601024; omega, by show _ ≤ 7293034; omega⟩) hS (fun _ _ h => h) (fun _ h => h) (fun r6 E2 t H2 locs2 ht hvm hpost2 hB hz1 hk1 hS2 => ?_)
    rw [ht] at hB
    have hW : xW G E2 H2 := hB
    have hS := hS2
    obtain ⟨q, hq, hr6, hMd2, hFr2⟩ := hpost2
    have hq2 := hq.symm.trans hm
    subst hq2
    have hr6 : r6 = r1 := hr6
    subst hr6
    have hMd3 : xMd G E2 o2 (sgCard σ nC (xs (i + 1)) (xs (i + 2)) (xs (i + 3)) (if (xs (i + 1)) = 0 then (1 : Int32) else (xs (i + 4)))) 0 := hMd2
    obtain ⟨A2, hM2, hA2, ht2⟩ := hMd3
    have hoa2 : E2 oa = some (.inl (G.2.1 1, 1, .inr (.inl (vp_updL f 0 (r1.toInt64))))) := hFr2 _ _ hoa1 rfl
    refine lv_istore (lv' := [(6, .int r6), (5, .int 0), (0, .ref b), (1, .ref o1), (2, .ref o2), (3, .ref oa), (4, .int (nI i))]) hx hb dL_law_179 hl (by decide) rfl (fun ls hl => ?_)
    refine lv_aload_n hx hb dL_law_181 rfl (lv_at hl 4 rfl) ?_
    refine x_callSe (va_runV (As := []) (rest := []) ⟨hx, hb, hml, hown, hts⟩ (kX5_thrown l G E2 A2 o2 _ hM2) (cwV 0 hts gL_law_X5_thrown rfl rfl rfl (by decide +kernel) ⟨Nat.le_of_ble_eq_true rfl, Nat.le_of_ble_eq_true rfl⟩) (x_preV hX hS hW hM2.1 rfl) rfl rfl hl.1 rfl (lv_room (Nat.le_of_ble_eq_true rfl)) dL_law_182 ⟨by show _ ≤ 601024; omega, by show _ ≤ 7293034; omega⟩) ?_
    rw [show fX5_thrown A2 = (0 : Int32) from by unfold fX5_thrown; rw [ht2]; rfl]
    refine lv_iload hx hb dL_law_185 (lv_at hl 1 rfl) ?_
    refine lv_icmp_eq (tgt := 192) hx hb dL_law_187 (by decide) (fun _ => ?_) (fun c9 => absurd (by decide) c9)
    refine lv_iload hx hb dL_law_192 (lv_at hl 1 rfl) ?_
    refine lv_if_ne (tgt := 209) hx hb dL_law_194 (by decide) (fun c9 => absurd (by decide) c9) (fun _ => ?_)
    refine lv_aload_n hx hb dL_law_197 rfl (lv_at hl 5 rfl) ?_
    refine lv_iconst (v := 0) hx hb dL_law_198 (by decide) ?_
    refine x_lld (k := 0) hx hb hX.1 hW hoa2 (show vp_in (nI 0) 1 from vp_in_nI (by omega) (by omega)) rfl dL_law_199 ?_
    rw [show vp_updL f 0 (r6.toInt64) 0 = r6.toInt64 from rfl]
    refine lv_iload hx hb dL_law_200 (lv_at hl 0 rfl) ?_
    refine lv_i2l (v := r6.toInt64) hx hb dL_law_202 rfl ?_
    refine W.lcmp hx hb dL_law_203 ?_
    rw [x_cmp]
    refine lv_if_eq (tgt := 209) hx hb dL_law_204 (by decide) (fun _ => ?_) (fun c9 => absurd (by decide) c9)
    refine lv_goto (tgt := 1293) hx hb dL_law_209 (by decide) ?_
    obtain ⟨ct2, vt2, gt2, tb2, vb2, gb2, sa2, nC2, nV2, nG2, hC2, hI2⟩ := hLc
    exact W.widen (by omega) (by omega) (kk _ _ ls E2 ⟨_, _, _, ⟨ct2, vt2, gt2, tb2, vb2, gb2, sa2, nC2, nV2, nG2, (hC2.fr tC_tO hFo).fr tC_tM hFr2, hI2⟩, ⟨A2, hM2, hA2, rfl⟩, hoa2⟩ hW hS (lv_sub hl [2, 3, 4, 5, 6] rfl))
  · rcases hT9 with ⟨rfl, hT9⟩ | ⟨rfl, hT9⟩
    · have hm := m_card_1 hInv hCls hT9
      have hM1 : xMod G E1 o2 A σ := by rw [hE1]; exact hM
      have hoa1 : E1 oa = some (.inl (G.2.1 1, 1, .inr (.inl f))) := by rw [hE1]; exact hoa
      refine lv_istore (lv' := [(5, .int 1), (0, .ref b), (1, .ref o1), (2, .ref o2), (3, .ref oa), (4, .int (nI i))]) hx hb dL_law_149 hl (by decide) rfl (fun ls hl => ?_)
      refine lv_aload_n hx hb dL_law_151 rfl (lv_at hl 3 rfl) ?_
      refine lv_aload_n hx hb dL_law_152 rfl (lv_at hl 1 rfl) ?_
      refine lv_iload hx hb dL_law_153 (lv_at hl 5 rfl) ?_
      refine lv_iconst (v := 1) hx hb dL_law_155 (by decide) ?_
      refine lv_iadd hx hb dL_law_156 ?_
      rw [x_ai1]
      refine va_sld hx hb hXs hbl hbA hS (vp_in_nI (show i + 1 < L by omega) (by omega)) dL_law_157 ?_
      rw [nI_clamp (show i + 1 < 2 ^ 31 by omega)]
      refine lv_aload_n hx hb dL_law_158 rfl (lv_at hl 1 rfl) ?_
      refine lv_iload hx hb dL_law_159 (lv_at hl 5 rfl) ?_
      refine lv_iconst (v := 2) hx hb dL_law_161 (by decide) ?_
      refine lv_iadd hx hb dL_law_162 ?_
      rw [x_ai2]
      refine va_sld hx hb hXs hbl hbA hS (vp_in_nI (show i + 2 < L by omega) (by omega)) dL_law_163 ?_
      rw [nI_clamp (show i + 2 < 2 ^ 31 by omega)]
      refine lv_aload_n hx hb dL_law_164 rfl (lv_at hl 1 rfl) ?_
      refine lv_iload hx hb dL_law_165 (lv_at hl 5 rfl) ?_
      refine lv_iconst (v := 3) hx hb dL_law_167 (by decide) ?_
      refine lv_iadd hx hb dL_law_168 ?_
      rw [x_ai3]
      refine va_sld hx hb hXs hbl hbA hS (vp_in_nI (show i + 3 < L by omega) (by omega)) dL_law_169 ?_
      rw [nI_clamp (show i + 3 < 2 ^ 31 by omega)]
      refine lv_aload_n hx hb dL_law_170 rfl (lv_at hl 1 rfl) ?_
      refine lv_iload hx hb dL_law_171 (lv_at hl 5 rfl) ?_
      refine lv_iconst (v := 4) hx hb dL_law_173 (by decide) ?_
      refine lv_iadd hx hb dL_law_174 ?_
      rw [x_ai4]
      refine va_sld hx hb hXs hbl hbA hS (vp_in_nI (show i + 4 < L by omega) (by omega)) dL_law_175 ?_
      rw [nI_clamp (show i + 4 < 2 ^ 31 by omega)]
      refine va_calli (va_runV (As := [.int (xs (i + 1)), .int (xs (i + 2)), .int (xs (i + 3)), .int (xs (i + 4))]) (rest := []) ⟨hx, hb, hml, hown, hts⟩ (kX5_card l G E1 σ o2 (xs (i + 1)) (xs (i + 2)) (xs (i + 3)) (xs (i + 4)) A hM1 hA nC nV nG (xMi_of hCls)) (cwV 4 hts gL_law_X5_card rfl rfl rfl (by decide +kernel) ⟨Nat.le_of_ble_eq_true rfl, Nat.le_of_ble_eq_true rfl⟩) (x_preV hX hS hW hM1.1 rfl) rfl rfl hl.1 rfl (lv_room (Nat.le_of_ble_eq_true rfl)) dL_law_176 ⟨by show _ ≤ 601024; omega, by show _ ≤ 7293034; omega⟩) hS (fun _ _ h => h) (fun _ h => h) (fun r6 E2 t H2 locs2 ht hvm hpost2 hB hz1 hk1 hS2 => ?_)
      rw [ht] at hB
      have hW : xW G E2 H2 := hB
      have hS := hS2
      obtain ⟨q, hq, hr6, hMd2, hFr2⟩ := hpost2
      rw [show q.2 = 1 from (by rw [← hq]; exact hm)] at hMd2
      have hMd3 : xMd G E2 o2 σ 1 := hMd2
      obtain ⟨A2, hM2, hA2, ht2⟩ := hMd3
      have hoa2 : E2 oa = some (.inl (G.2.1 1, 1, .inr (.inl f))) := hFr2 _ _ hoa1 rfl
      refine lv_istore (lv' := [(6, .int r6), (5, .int 1), (0, .ref b), (1, .ref o1), (2, .ref o2), (3, .ref oa), (4, .int (nI i))]) hx hb dL_law_179 hl (by decide) rfl (fun ls hl => ?_)
      refine lv_aload_n hx hb dL_law_181 rfl (lv_at hl 4 rfl) ?_
      refine x_callSe (va_runV (As := []) (rest := []) ⟨hx, hb, hml, hown, hts⟩ (kX5_thrown l G E2 A2 o2 _ hM2) (cwV 0 hts gL_law_X5_thrown rfl rfl rfl (by decide +kernel) ⟨Nat.le_of_ble_eq_true rfl, Nat.le_of_ble_eq_true rfl⟩) (x_preV hX hS hW hM2.1 rfl) rfl rfl hl.1 rfl (lv_room (Nat.le_of_ble_eq_true rfl)) dL_law_182 ⟨by show _ ≤ 601024; omega, by show _ ≤ 7293034; omega⟩) ?_
      rw [show fX5_thrown A2 = (1 : Int32) from by unfold fX5_thrown; rw [ht2]; rfl]
      refine lv_iload hx hb dL_law_185 (lv_at hl 1 rfl) ?_
      refine lv_icmp_eq (tgt := 192) hx hb dL_law_187 (by decide) (fun _ => ?_) (fun c9 => absurd (by decide) c9)
      refine lv_iload hx hb dL_law_192 (lv_at hl 1 rfl) ?_
      refine lv_if_ne (tgt := 209) hx hb dL_law_194 (by decide) (fun _ => ?_) (fun c9 => absurd c9 (by decide))
      refine lv_goto (tgt := 1293) hx hb dL_law_209 (by decide) ?_
      exact W.widen (by omega) (by omega) (kk _ _ ls E2 ⟨_, _, _, ⟨ct, vt, gt, tb, vb, gb, sa, nC, nV, nG, (show xCls G E1 o1 ct vt gt tb vb gb sa nC nV nG σ from by rw [hE1]; exact hCls).fr tC_tM hFr2, hInv⟩, ⟨A2, hM2, hA2, rfl⟩, hoa2⟩ hW hS (lv_sub hl [2, 3, 4, 5, 6] rfl))
    · have hm := m_card_2 hInv hCls hT9
      have hM1 : xMod G E1 o2 A σ := by rw [hE1]; exact hM
      have hoa1 : E1 oa = some (.inl (G.2.1 1, 1, .inr (.inl f))) := by rw [hE1]; exact hoa
      refine lv_istore (lv' := [(5, .int 2), (0, .ref b), (1, .ref o1), (2, .ref o2), (3, .ref oa), (4, .int (nI i))]) hx hb dL_law_149 hl (by decide) rfl (fun ls hl => ?_)
      refine lv_aload_n hx hb dL_law_151 rfl (lv_at hl 3 rfl) ?_
      refine lv_aload_n hx hb dL_law_152 rfl (lv_at hl 1 rfl) ?_
      refine lv_iload hx hb dL_law_153 (lv_at hl 5 rfl) ?_
      refine lv_iconst (v := 1) hx hb dL_law_155 (by decide) ?_
      refine lv_iadd hx hb dL_law_156 ?_
      rw [x_ai1]
      refine va_sld hx hb hXs hbl hbA hS (vp_in_nI (show i + 1 < L by omega) (by omega)) dL_law_157 ?_
      rw [nI_clamp (show i + 1 < 2 ^ 31 by omega)]
      refine lv_aload_n hx hb dL_law_158 rfl (lv_at hl 1 rfl) ?_
      refine lv_iload hx hb dL_law_159 (lv_at hl 5 rfl) ?_
      refine lv_iconst (v := 2) hx hb dL_law_161 (by decide) ?_
      refine lv_iadd hx hb dL_law_162 ?_
      rw [x_ai2]
      refine va_sld hx hb hXs hbl hbA hS (vp_in_nI (show i + 2 < L by omega) (by omega)) dL_law_163 ?_
      rw [nI_clamp (show i + 2 < 2 ^ 31 by omega)]
      refine lv_aload_n hx hb dL_law_164 rfl (lv_at hl 1 rfl) ?_
      refine lv_iload hx hb dL_law_165 (lv_at hl 5 rfl) ?_
      refine lv_iconst (v := 3) hx hb dL_law_167 (by decide) ?_
      refine lv_iadd hx hb dL_law_168 ?_
      rw [x_ai3]
      refine va_sld hx hb hXs hbl hbA hS (vp_in_nI (show i + 3 < L by omega) (by omega)) dL_law_169 ?_
      rw [nI_clamp (show i + 3 < 2 ^ 31 by omega)]
      refine lv_aload_n hx hb dL_law_170 rfl (lv_at hl 1 rfl) ?_
      refine lv_iload hx hb dL_law_171 (lv_at hl 5 rfl) ?_
      refine lv_iconst (v := 4) hx hb dL_law_173 (by decide) ?_
      refine lv_iadd hx hb dL_law_174 ?_
      rw [x_ai4]
      refine va_sld hx hb hXs hbl hbA hS (vp_in_nI (show i + 4 < L by omega) (by omega)) dL_law_175 ?_
      rw [nI_clamp (show i + 4 < 2 ^ 31 by omega)]
      refine va_calli (va_runV (As := [.int (xs (i + 1)), .int (xs (i + 2)), .int (xs (i + 3)), .int (xs (i + 4))]) (rest := []) ⟨hx, hb, hml, hown, hts⟩ (kX5_card l G E1 σ o2 (xs (i + 1)) (xs (i + 2)) (xs (i + 3)) (xs (i + 4)) A hM1 hA nC nV nG (xMi_of hCls)) (cwV 4 hts gL_law_X5_card rfl rfl rfl (by decide +kernel) ⟨Nat.le_of_ble_eq_true rfl, Nat.le_of_ble_eq_true rfl⟩) (x_preV hX hS hW hM1.1 rfl) rfl rfl hl.1 rfl (lv_room (Nat.le_of_ble_eq_true rfl)) dL_law_176 ⟨by show _ ≤ 601024; omega, by show _ ≤ 7293034; omega⟩) hS (fun _ _ h => h) (fun _ h => h) (fun r6 E2 t H2 locs2 ht hvm hpost2 hB hz1 hk1 hS2 => ?_)
      rw [ht] at hB
      have hW : xW G E2 H2 := hB
      have hS := hS2
      obtain ⟨q, hq, hr6, hMd2, hFr2⟩ := hpost2
      rw [show q.2 = 2 from (by rw [← hq]; exact hm)] at hMd2
      have hMd3 : xMd G E2 o2 σ 2 := hMd2
      obtain ⟨A2, hM2, hA2, ht2⟩ := hMd3
      have hoa2 : E2 oa = some (.inl (G.2.1 1, 1, .inr (.inl f))) := hFr2 _ _ hoa1 rfl
      refine lv_istore (lv' := [(6, .int r6), (5, .int 2), (0, .ref b), (1, .ref o1), (2, .ref o2), (3, .ref oa), (4, .int (nI i))]) hx hb dL_law_179 hl (by decide) rfl (fun ls hl => ?_)
      refine lv_aload_n hx hb dL_law_181 rfl (lv_at hl 4 rfl) ?_
      refine x_callSe (va_runV (As := []) (rest := []) ⟨hx, hb, hml, hown, hts⟩ (kX5_thrown l G E2 A2 o2 _ hM2) (cwV 0 hts gL_law_X5_thrown rfl rfl rfl (by decide +kernel) ⟨Nat.le_of_ble_eq_true rfl, Nat.le_of_ble_eq_true rfl⟩) (x_preV hX hS hW hM2.1 rfl) rfl rfl hl.1 rfl (lv_room (Nat.le_of_ble_eq_true rfl)) dL_law_182 ⟨by show _ ≤ 601024; omega, by show _ ≤ 7293034; omega⟩) ?_
      rw [show fX5_thrown A2 = (2 : Int32) from by unfold fX5_thrown; rw [ht2]; rfl]
      refine lv_iload hx hb dL_law_185 (lv_at hl 1 rfl) ?_
      refine lv_icmp_eq (tgt := 192) hx hb dL_law_187 (by decide) (fun _ => ?_) (fun c9 => absurd (by decide) c9)
      refine lv_iload hx hb dL_law_192 (lv_at hl 1 rfl) ?_
      refine lv_if_ne (tgt := 209) hx hb dL_law_194 (by decide) (fun _ => ?_) (fun c9 => absurd c9 (by decide))
      refine lv_goto (tgt := 1293) hx hb dL_law_209 (by decide) ?_
      exact W.widen (by omega) (by omega) (kk _ _ ls E2 ⟨_, _, _, ⟨ct, vt, gt, tb, vb, gb, sa, nC, nV, nG, (show xCls G E1 o1 ct vt gt tb vb gb sa nC nV nG σ from by rw [hE1]; exact hCls).fr tC_tM hFr2, hInv⟩, ⟨A2, hM2, hA2, rfl⟩, hoa2⟩ hW hS (lv_sub hl [2, 3, 4, 5, 6] rfl))

set_option maxHeartbeats 4000000 in
set_option maxRecDepth 100000 in
theorem law_can {p : Program} {l : Launch} {e : Env} {s : State} {m : MethodId} {b : Nat} {below : List Frame} {meth : Method} {c : Code} {H : Heap} {locs : List Loc} {cells slots : Nat} {Q : State → Prop} {ls : Array Slot} (hl9 : l.stackTraces = false) (hx : p.tables.exec = Jvm.exec) (hb : c.code = cL_law) (hml : c.maxLocals = 7) (hown : s.vm.findClass RL = some m.cls) (hts : ∀ w ∈ wsL_law, w.before #[Value.ref b] s = true) {G : xG} (hX : xS G s) (hNc : xNc s) {L : Nat} {xs : Nat → Int32} (hXs : va_X b L xs s s.heap) (hbl : b < s.heap.size) (hbA : ¬ xA G b) {i : Nat} (hi : i + 6 ≤ L) (hL : L ≤ 3072) (hcn : cells + 5 ≤ 601024) (hsn : slots + 88 ≤ 7293034) {E : xE} {o1 o2 oa : Nat} (hLs : xLs G E o1 o2 oa) (hW : xW G E H) (hS : va_S (xA G) s.heap H locs) (hl : lv_has ls 7 [(0, .ref b), (1, .ref o1), (2, .ref o2), (3, .ref oa), (4, .int (nI i))]) (kk : ∀ (H1 : Heap) (locs1 : List Loc) (ls1 : Array Slot) (E1 : xE), xLs G E1 o1 o2 oa → xW G E1 H1 → va_S (xA G) s.heap H1 locs1 → lv_has ls1 7 [(0, .ref b), (1, .ref o1), (2, .ref o2), (3, .ref oa), (4, .int (nI i))] → W p l e room_1 s m #[Value.ref b] below meth c H1 locs1 (cells + 5) (slots + 88) Q (F0 m 1293 ls1 [])) : W p l e room_1 s m #[Value.ref b] below meth c H locs cells slots Q (F0 m 452 ls []) := by
  obtain ⟨σ, t0, f, ⟨ct, vt, gt, tb, vb, gb, sa, nC, nV, nG, hCls, hInv⟩, ⟨A, hM, hA, hA19⟩, hoa⟩ := hLs
  refine lv_aload_n hx hb dL_law_452 rfl (lv_at hl 1 rfl) ?_
  refine lv_aload_n hx hb dL_law_453 rfl (lv_at hl 0 rfl) ?_
  refine lv_iload hx hb dL_law_454 (lv_at hl 4 rfl) ?_
  refine lv_iconst (v := 1) hx hb dL_law_456 (by decide) ?_
  refine lv_iadd hx hb dL_law_457 ?_
  rw [x_ai1]
  refine va_sld hx hb hXs hbl hbA hS (vp_in_nI (show i + 1 < L by omega) (by omega)) dL_law_458 ?_
  rw [nI_clamp (show i + 1 < 2 ^ 31 by omega)]
  refine lv_aload_n hx hb dL_law_459 rfl (lv_at hl 0 rfl) ?_
  refine lv_iload hx hb dL_law_460 (lv_at hl 4 rfl) ?_
  refine lv_iconst (v := 2) hx hb dL_law_462 (by decide) ?_
  refine lv_iadd hx hb dL_law_463 ?_
  rw [x_ai2]
  refine va_sld hx hb hXs hbl hbA hS (vp_in_nI (show i + 2 < L by omega) (by omega)) dL_law_464 ?_
  rw [nI_clamp (show i + 2 < 2 ^ 31 by omega)]
  refine lv_aload_n hx hb dL_law_465 rfl (lv_at hl 0 rfl) ?_
  refine lv_iload hx hb dL_law_466 (lv_at hl 4 rfl) ?_
  refine lv_iconst (v := 3) hx hb dL_law_468 (by decide) ?_
  refine lv_iadd hx hb dL_law_469 ?_
  rw [x_ai3]
  refine va_sld hx hb hXs hbl hbA hS (vp_in_nI (show i + 3 < L by omega) (by omega)) dL_law_470 ?_
  rw [nI_clamp (show i + 3 < 2 ^ 31 by omega)]
  refine lv_aload_n hx hb dL_law_471 rfl (lv_at hl 3 rfl) ?_
  refine vx_calli (vx_runSX (As := [.ref o1, .int (xs (i + 1)), .int (xs (i + 2)), .int (xs (i + 3)), .ref oa]) (rest := []) ⟨hx, hb, hml, hown, hts⟩ (kL_can l hl9 G E o1 (xs (i + 1)) (xs (i + 2)) (xs (i + 3)) oa ct vt gt tb vb gb sa nC nV nG σ hCls f hoa) (vx_cwSW 5 hts gL_law_L_can rfl rfl rfl (by decide +kernel) ⟨Nat.le_of_ble_eq_true rfl, Nat.le_of_ble_eq_true rfl⟩) (x_preS2 hX hNc hS hW) rfl rfl hl.1 rfl (lv_room (Nat.le_of_ble_eq_true rfl)) dL_law_472 ⟨by show _ ≤ 601024; omega, by show _ ≤ 7293034; omega⟩) hS (fun _ _ h => h) (fun _ h => h) (fun _ _ h => h) (fun Ex ce q9 ux t H1 locs1 ht hvm hpx hB hz1 hk1 hS1 hce hcv hcl => hB.1.elim) (fun r5 E1 t H1 locs1 ht hvm hpost hB hz1 hk1 hS1 => ?_)
  rw [ht] at hB
  have hW : xW G E1 H1 := hB
  have hS := hS1
  rcases hpost with ⟨rfl, r1, Ec, hP, hE1⟩ | ⟨⟨rfl, hT9⟩, hE1⟩
  · obtain ⟨hm, hLc, hFc⟩ := m_can hInv hCls hP
    have hFo : xFr tO Ec E1 := by rw [hE1]; exact xFr_put xFr_rf (hFc _ _ hoa rfl) rfl _
    have hM1 : xMod G E1 o2 A σ := (hM.fr hFc).frO hFo
    have hoa1 : E1 oa = some (.inl (G.2.1 1, 1, .inr (.inl (vp_updL f 0 ((if r1 = 0 then (0 : Int64) else 1)))))) := by rw [hE1]; exact xU_self _ _ _
    refine lv_istore (lv' := [(5, .int 0), (0, .ref b), (1, .ref o1), (2, .ref o2), (3, .ref oa), (4, .int (nI i))]) hx hb dL_law_475 hl (by decide) rfl (fun ls hl => ?_)
    refine lv_aload_n hx hb dL_law_477 rfl (lv_at hl 3 rfl) ?_
    refine lv_aload_n hx hb dL_law_478 rfl (lv_at hl 1 rfl) ?_
    refine lv_iload hx hb dL_law_479 (lv_at hl 5 rfl) ?_
    refine lv_iconst (v := 1) hx hb dL_law_481 (by decide) ?_
    refine lv_iadd hx hb dL_law_482 ?_
    rw [x_ai1]
    refine va_sld hx hb hXs hbl hbA hS (vp_in_nI (show i + 1 < L by omega) (by omega)) dL_law_483 ?_
    rw [nI_clamp (show i + 1 < 2 ^ 31 by omega)]
    refine lv_aload_n hx hb dL_law_484 rfl (lv_at hl 1 rfl) ?_
    refine lv_iload hx hb dL_law_485 (lv_at hl 5 rfl) ?_
    refine lv_iconst (v := 2) hx hb dL_law_487 (by decide) ?_
    refine lv_iadd hx hb dL_law_488 ?_
    rw [x_ai2]
    refine va_sld hx hb hXs hbl hbA hS (vp_in_nI (show i + 2 < L by omega) (by omega)) dL_law_489 ?_
    rw [nI_clamp (show i + 2 < 2 ^ 31 by omega)]
    refine lv_aload_n hx hb dL_law_490 rfl (lv_at hl 1 rfl) ?_
    refine lv_iload hx hb dL_law_491 (lv_at hl 5 rfl) ?_
    refine lv_iconst (v := 3) hx hb dL_law_493 (by decide) ?_
    refine lv_iadd hx hb dL_law_494 ?_
    rw [x_ai3]
    refine va_sld hx hb hXs hbl hbA hS (vp_in_nI (show i + 3 < L by omega) (by omega)) dL_law_495 ?_
    rw [nI_clamp (show i + 3 < 2 ^ 31 by omega)]
    refine va_calli (va_runV (As := [.int (xs (i + 1)), .int (xs (i + 2)), .int (xs (i + 3))]) (rest := []) ⟨hx, hb, hml, hown, hts⟩ (kX5_can l G E1 σ o2 (xs (i + 1)) (xs (i + 2)) (xs (i + 3)) A hM1 hA nC nV nG (xMi_of hCls)) (cwV 3 hts gL_law_X5_can rfl rfl rfl (by decide +kernel) ⟨Nat.le_of_ble_eq_true rfl, Nat.le_of_ble_eq_true rfl⟩) (x_preV hX hS hW hM1.1 rfl) rfl rfl hl.1 rfl (lv_room (Nat.le_of_ble_eq_true rfl)) dL_law_496 ⟨by show _ ≤ 601024; omega, by show _ ≤ 7293034; omega⟩) hS (fun _ _ h => h) (fun _ h => h) (fun r6 E2 t H2 locs2 ht hvm hpost2 hB hz1 hk1 hS2 => ?_)
    rw [ht] at hB
    have hW : xW G E2 H2 := hB
    have hS := hS2
    obtain ⟨q, hq, hr6, hMd2, hFr2⟩ := hpost2
    have hq2 := hq.symm.trans hm
    subst hq2
    have hr6 : r6 = r1 := hr6
    subst hr6
    have hMd3 : xMd G E2 o2 (σ) 0 := hMd2
    obtain ⟨A2, hM2, hA2, ht2⟩ := hMd3
    have hoa2 : E2 oa = some (.inl (G.2.1 1, 1, .inr (.inl (vp_updL f 0 ((if r1 = 0 then (0 : Int64) else 1)))))) := hFr2 _ _ hoa1 rfl
    refine lv_istore (lv' := [(6, .int r6), (5, .int 0), (0, .ref b), (1, .ref o1), (2, .ref o2), (3, .ref oa), (4, .int (nI i))]) hx hb dL_law_499 hl (by decide) rfl (fun ls hl => ?_)
    refine lv_aload_n hx hb dL_law_501 rfl (lv_at hl 4 rfl) ?_
    refine x_callSe (va_runV (As := []) (rest := []) ⟨hx, hb, hml, hown, hts⟩ (kX5_thrown l G E2 A2 o2 _ hM2) (cwV 0 hts gL_law_X5_thrown rfl rfl rfl (by decide +kernel) ⟨Nat.le_of_ble_eq_true rfl, Nat.le_of_ble_eq_true rfl⟩) (x_preV hX hS hW hM2.1 rfl) rfl rfl hl.1 rfl (lv_room (Nat.le_of_ble_eq_true rfl)) dL_law_502 ⟨by show _ ≤ 601024; omega, by show _ ≤ 7293034; omega⟩) ?_
    rw [show fX5_thrown A2 = (0 : Int32) from by unfold fX5_thrown; rw [ht2]; rfl]
    refine lv_iload hx hb dL_law_505 (lv_at hl 1 rfl) ?_
    refine lv_icmp_eq (tgt := 512) hx hb dL_law_507 (by decide) (fun _ => ?_) (fun c9 => absurd (by decide) c9)
    refine lv_iload hx hb dL_law_512 (lv_at hl 1 rfl) ?_
    refine lv_if_ne (tgt := 536) hx hb dL_law_514 (by decide) (fun c9 => absurd (by decide) c9) (fun _ => ?_)
    refine lv_aload_n hx hb dL_law_517 rfl (lv_at hl 5 rfl) ?_
    refine lv_iconst (v := 0) hx hb dL_law_518 (by decide) ?_
    refine x_lld (k := 0) hx hb hX.1 hW hoa2 (show vp_in (nI 0) 1 from vp_in_nI (by omega) (by omega)) rfl dL_law_519 ?_
    rw [show vp_updL f 0 ((if r6 = 0 then (0 : Int64) else 1)) 0 = (if r6 = 0 then (0 : Int64) else 1) from rfl]
    refine lv_iload hx hb dL_law_520 (lv_at hl 0 rfl) ?_
    refine lv_if_eq (tgt := 529) hx hb dL_law_522 (by decide) (fun c1 => ?_) (fun c1 => ?_)
    · refine lv_lconst (v := 0) hx hb dL_law_529 (by decide) ?_
      refine W.lcmp hx hb dL_law_530 ?_
      rw [if_pos c1]
      rw [x_cmp]
      refine lv_if_eq (tgt := 536) hx hb dL_law_531 (by decide) (fun _ => ?_) (fun c9 => absurd (by decide) c9)
      refine lv_goto (tgt := 1293) hx hb dL_law_536 (by decide) ?_
      obtain ⟨ct2, vt2, gt2, tb2, vb2, gb2, sa2, nC2, nV2, nG2, hC2, hI2⟩ := hLc
      exact W.widen (by omega) (by omega) (kk _ _ ls E2 ⟨_, _, _, ⟨ct2, vt2, gt2, tb2, vb2, gb2, sa2, nC2, nV2, nG2, (hC2.fr tC_tO hFo).fr tC_tM hFr2, hI2⟩, ⟨A2, hM2, hA2, rfl⟩, hoa2⟩ hW hS (lv_sub hl [2, 3, 4, 5, 6] rfl))
    · refine lv_lconst (v := 1) hx hb dL_law_525 (by decide) ?_
      refine lv_goto (tgt := 530) hx hb dL_law_526 (by decide) ?_
      refine W.lcmp hx hb dL_law_530 ?_
      rw [if_neg c1]
      rw [x_cmp]
      refine lv_if_eq (tgt := 536) hx hb dL_law_531 (by decide) (fun _ => ?_) (fun c9 => absurd (by decide) c9)
      refine lv_goto (tgt := 1293) hx hb dL_law_536 (by decide) ?_
      obtain ⟨ct2, vt2, gt2, tb2, vb2, gb2, sa2, nC2, nV2, nG2, hC2, hI2⟩ := hLc
      exact W.widen (by omega) (by omega) (kk _ _ ls E2 ⟨_, _, _, ⟨ct2, vt2, gt2, tb2, vb2, gb2, sa2, nC2, nV2, nG2, (hC2.fr tC_tO hFo).fr tC_tM hFr2, hI2⟩, ⟨A2, hM2, hA2, rfl⟩, hoa2⟩ hW hS (lv_sub hl [2, 3, 4, 5, 6] rfl))
  · have hm := m_can_3 hInv hCls hT9
    have hM1 : xMod G E1 o2 A σ := by rw [hE1]; exact hM
    have hoa1 : E1 oa = some (.inl (G.2.1 1, 1, .inr (.inl f))) := by rw [hE1]; exact hoa
    refine lv_istore (lv' := [(5, .int 1), (0, .ref b), (1, .ref o1), (2, .ref o2), (3, .ref oa), (4, .int (nI i))]) hx hb dL_law_475 hl (by decide) rfl (fun ls hl => ?_)
    refine lv_aload_n hx hb dL_law_477 rfl (lv_at hl 3 rfl) ?_
    refine lv_aload_n hx hb dL_law_478 rfl (lv_at hl 1 rfl) ?_
    refine lv_iload hx hb dL_law_479 (lv_at hl 5 rfl) ?_
    refine lv_iconst (v := 1) hx hb dL_law_481 (by decide) ?_
    refine lv_iadd hx hb dL_law_482 ?_
    rw [x_ai1]
    refine va_sld hx hb hXs hbl hbA hS (vp_in_nI (show i + 1 < L by omega) (by omega)) dL_law_483 ?_
    rw [nI_clamp (show i + 1 < 2 ^ 31 by omega)]
    refine lv_aload_n hx hb dL_law_484 rfl (lv_at hl 1 rfl) ?_
    refine lv_iload hx hb dL_law_485 (lv_at hl 5 rfl) ?_
    refine lv_iconst (v := 2) hx hb dL_law_487 (by decide) ?_
    refine lv_iadd hx hb dL_law_488 ?_
    rw [x_ai2]
    refine va_sld hx hb hXs hbl hbA hS (vp_in_nI (show i + 2 < L by omega) (by omega)) dL_law_489 ?_
    rw [nI_clamp (show i + 2 < 2 ^ 31 by omega)]
    refine lv_aload_n hx hb dL_law_490 rfl (lv_at hl 1 rfl) ?_
    refine lv_iload hx hb dL_law_491 (lv_at hl 5 rfl) ?_
    refine lv_iconst (v := 3) hx hb dL_law_493 (by decide) ?_
    refine lv_iadd hx hb dL_law_494 ?_
    rw [x_ai3]
    refine va_sld hx hb hXs hbl hbA hS (vp_in_nI (show i + 3 < L by omega) (by omega)) dL_law_495 ?_
    rw [nI_clamp (show i + 3 < 2 ^ 31 by omega)]
    refine va_calli (va_runV (As := [.int (xs (i + 1)), .int (xs (i + 2)), .int (xs (i + 3))]) (rest := []) ⟨hx, hb, hml, hown, hts⟩ (kX5_can l G E1 σ o2 (xs (i + 1)) (xs (i + 2)) (xs (i + 3)) A hM1 hA nC nV nG (xMi_of hCls)) (cwV 3 hts gL_law_X5_can rfl rfl rfl (by decide +kernel) ⟨Nat.le_of_ble_eq_true rfl, Nat.le_of_ble_eq_true rfl⟩) (x_preV hX hS hW hM1.1 rfl) rfl rfl hl.1 rfl (lv_room (Nat.le_of_ble_eq_true rfl)) dL_law_496 ⟨by show _ ≤ 601024; omega, by show _ ≤ 7293034; omega⟩) hS (fun _ _ h => h) (fun _ h => h) (fun r6 E2 t H2 locs2 ht hvm hpost2 hB hz1 hk1 hS2 => ?_)
    rw [ht] at hB
    have hW : xW G E2 H2 := hB
    have hS := hS2
    obtain ⟨q, hq, hr6, hMd2, hFr2⟩ := hpost2
    rw [show q.2 = 1 from (by rw [← hq]; exact hm)] at hMd2
    have hMd3 : xMd G E2 o2 σ 1 := hMd2
    obtain ⟨A2, hM2, hA2, ht2⟩ := hMd3
    have hoa2 : E2 oa = some (.inl (G.2.1 1, 1, .inr (.inl f))) := hFr2 _ _ hoa1 rfl
    refine lv_istore (lv' := [(6, .int r6), (5, .int 1), (0, .ref b), (1, .ref o1), (2, .ref o2), (3, .ref oa), (4, .int (nI i))]) hx hb dL_law_499 hl (by decide) rfl (fun ls hl => ?_)
    refine lv_aload_n hx hb dL_law_501 rfl (lv_at hl 4 rfl) ?_
    refine x_callSe (va_runV (As := []) (rest := []) ⟨hx, hb, hml, hown, hts⟩ (kX5_thrown l G E2 A2 o2 _ hM2) (cwV 0 hts gL_law_X5_thrown rfl rfl rfl (by decide +kernel) ⟨Nat.le_of_ble_eq_true rfl, Nat.le_of_ble_eq_true rfl⟩) (x_preV hX hS hW hM2.1 rfl) rfl rfl hl.1 rfl (lv_room (Nat.le_of_ble_eq_true rfl)) dL_law_502 ⟨by show _ ≤ 601024; omega, by show _ ≤ 7293034; omega⟩) ?_
    rw [show fX5_thrown A2 = (1 : Int32) from by unfold fX5_thrown; rw [ht2]; rfl]
    refine lv_iload hx hb dL_law_505 (lv_at hl 1 rfl) ?_
    refine lv_icmp_eq (tgt := 512) hx hb dL_law_507 (by decide) (fun _ => ?_) (fun c9 => absurd (by decide) c9)
    refine lv_iload hx hb dL_law_512 (lv_at hl 1 rfl) ?_
    refine lv_if_ne (tgt := 536) hx hb dL_law_514 (by decide) (fun _ => ?_) (fun c9 => absurd c9 (by decide))
    refine lv_goto (tgt := 1293) hx hb dL_law_536 (by decide) ?_
    exact W.widen (by omega) (by omega) (kk _ _ ls E2 ⟨_, _, _, ⟨ct, vt, gt, tb, vb, gb, sa, nC, nV, nG, (show xCls G E1 o1 ct vt gt tb vb gb sa nC nV nG σ from by rw [hE1]; exact hCls).fr tC_tM hFr2, hInv⟩, ⟨A2, hM2, hA2, rfl⟩, hoa2⟩ hW hS (lv_sub hl [2, 3, 4, 5, 6] rfl))

set_option maxHeartbeats 4000000 in
set_option maxRecDepth 100000 in
theorem law_state {p : Program} {l : Launch} {e : Env} {s : State} {m : MethodId} {b : Nat} {below : List Frame} {meth : Method} {c : Code} {H : Heap} {locs : List Loc} {cells slots : Nat} {Q : State → Prop} {ls : Array Slot} (hl9 : l.stackTraces = false) (hx : p.tables.exec = Jvm.exec) (hb : c.code = cL_law) (hml : c.maxLocals = 7) (hown : s.vm.findClass RL = some m.cls) (hts : ∀ w ∈ wsL_law, w.before #[Value.ref b] s = true) {G : xG} (hX : xS G s) (hNc : xNc s) {L : Nat} {xs : Nat → Int32} (hXs : va_X b L xs s s.heap) (hbl : b < s.heap.size) (hbA : ¬ xA G b) {i : Nat} (hi : i + 6 ≤ L) (hL : L ≤ 3072) (hcn : cells + 5 ≤ 601024) (hsn : slots + 88 ≤ 7293034) {E : xE} {o1 o2 oa : Nat} (hLs : xLs G E o1 o2 oa) (hW : xW G E H) (hS : va_S (xA G) s.heap H locs) (hl : lv_has ls 7 [(0, .ref b), (1, .ref o1), (2, .ref o2), (3, .ref oa), (4, .int (nI i))]) (kk : ∀ (H1 : Heap) (locs1 : List Loc) (ls1 : Array Slot) (E1 : xE), xLs G E1 o1 o2 oa → xW G E1 H1 → va_S (xA G) s.heap H1 locs1 → lv_has ls1 7 [(0, .ref b), (1, .ref o1), (2, .ref o2), (3, .ref oa), (4, .int (nI i))] → W p l e room_1 s m #[Value.ref b] below meth c H1 locs1 (cells + 5) (slots + 88) Q (F0 m 1293 ls1 [])) : W p l e room_1 s m #[Value.ref b] below meth c H locs cells slots Q (F0 m 706 ls []) := by
  obtain ⟨σ, t0, f, ⟨ct, vt, gt, tb, vb, gb, sa, nC, nV, nG, hCls, hInv⟩, ⟨A, hM, hA, hA19⟩, hoa⟩ := hLs
  refine lv_aload_n hx hb dL_law_706 rfl (lv_at hl 1 rfl) ?_
  refine lv_aload_n hx hb dL_law_707 rfl (lv_at hl 0 rfl) ?_
  refine lv_iload hx hb dL_law_708 (lv_at hl 4 rfl) ?_
  refine lv_iconst (v := 1) hx hb dL_law_710 (by decide) ?_
  refine lv_iadd hx hb dL_law_711 ?_
  rw [x_ai1]
  refine va_sld hx hb hXs hbl hbA hS (vp_in_nI (show i + 1 < L by omega) (by omega)) dL_law_712 ?_
  rw [nI_clamp (show i + 1 < 2 ^ 31 by omega)]
  refine lv_aload_n hx hb dL_law_713 rfl (lv_at hl 3 rfl) ?_
  refine vx_calli (vx_runSX (As := [.ref o1, .int (xs (i + 1)), .ref oa]) (rest := []) ⟨hx, hb, hml, hown, hts⟩ (kL_state l hl9 G E o1 (xs (i + 1)) oa ct vt gt tb vb gb sa nC nV nG σ hCls f hoa) (vx_cwSW 3 hts gL_law_L_state rfl rfl rfl (by decide +kernel) ⟨Nat.le_of_ble_eq_true rfl, Nat.le_of_ble_eq_true rfl⟩) (x_preS2 hX hNc hS hW) rfl rfl hl.1 rfl (lv_room (Nat.le_of_ble_eq_true rfl)) dL_law_714 ⟨by show _ ≤ 601024; omega, by show _ ≤ 7293034; omega⟩) hS (fun _ _ h => h) (fun _ h => h) (fun _ _ h => h) (fun Ex ce q9 ux t H1 locs1 ht hvm hpx hB hz1 hk1 hS1 hce hcv hcl => hB.1.elim) (fun r5 E1 t H1 locs1 ht hvm hpost hB hz1 hk1 hS1 => ?_)
  rw [ht] at hB
  have hW : xW G E1 H1 := hB
  have hS := hS1
  rcases hpost with ⟨rfl, r1, Ec, hP, hE1⟩ | ⟨⟨rfl, hT9⟩, hE1⟩
  · obtain ⟨hm, hLc, hFc⟩ := m_state hInv hCls hP
    have hFo : xFr tO Ec E1 := by rw [hE1]; exact xFr_put xFr_rf (hFc _ _ hoa rfl) rfl _
    have hM1 : xMod G E1 o2 A σ := (hM.fr hFc).frO hFo
    have hoa1 : E1 oa = some (.inl (G.2.1 1, 1, .inr (.inl (vp_updL f 0 (r1.toInt64))))) := by rw [hE1]; exact xU_self _ _ _
    refine lv_istore (lv' := [(5, .int 0), (0, .ref b), (1, .ref o1), (2, .ref o2), (3, .ref oa), (4, .int (nI i))]) hx hb dL_law_717 hl (by decide) rfl (fun ls hl => ?_)
    refine lv_aload_n hx hb dL_law_719 rfl (lv_at hl 3 rfl) ?_
    refine lv_aload_n hx hb dL_law_720 rfl (lv_at hl 1 rfl) ?_
    refine lv_iload hx hb dL_law_721 (lv_at hl 5 rfl) ?_
    refine lv_iconst (v := 1) hx hb dL_law_723 (by decide) ?_
    refine lv_iadd hx hb dL_law_724 ?_
    rw [x_ai1]
    refine va_sld hx hb hXs hbl hbA hS (vp_in_nI (show i + 1 < L by omega) (by omega)) dL_law_725 ?_
    rw [nI_clamp (show i + 1 < 2 ^ 31 by omega)]
    refine va_calli (va_runV (As := [.int (xs (i + 1))]) (rest := []) ⟨hx, hb, hml, hown, hts⟩ (kX5_state l G E1 σ o2 (xs (i + 1)) A hM1 hA nC nV nG (xMi_of hCls)) (cwV 1 hts gL_law_X5_state rfl rfl rfl (by decide +kernel) ⟨Nat.le_of_ble_eq_true rfl, Nat.le_of_ble_eq_true rfl⟩) (x_preV hX hS hW hM1.1 rfl) rfl rfl hl.1 rfl (lv_room (Nat.le_of_ble_eq_true rfl)) dL_law_726 ⟨by show _ ≤ 601024; omega, by show _ ≤ 7293034; omega⟩) hS (fun _ _ h => h) (fun _ h => h) (fun r6 E2 t H2 locs2 ht hvm hpost2 hB hz1 hk1 hS2 => ?_)
    rw [ht] at hB
    have hW : xW G E2 H2 := hB
    have hS := hS2
    obtain ⟨q, hq, hr6, hMd2, hFr2⟩ := hpost2
    have hq2 := hq.symm.trans hm
    subst hq2
    have hr6 : r6 = r1 := hr6
    subst hr6
    have hMd3 : xMd G E2 o2 (σ) 0 := hMd2
    obtain ⟨A2, hM2, hA2, ht2⟩ := hMd3
    have hoa2 : E2 oa = some (.inl (G.2.1 1, 1, .inr (.inl (vp_updL f 0 (r1.toInt64))))) := hFr2 _ _ hoa1 rfl
    refine lv_istore (lv' := [(6, .int r6), (5, .int 0), (0, .ref b), (1, .ref o1), (2, .ref o2), (3, .ref oa), (4, .int (nI i))]) hx hb dL_law_729 hl (by decide) rfl (fun ls hl => ?_)
    refine lv_aload_n hx hb dL_law_731 rfl (lv_at hl 4 rfl) ?_
    refine x_callSe (va_runV (As := []) (rest := []) ⟨hx, hb, hml, hown, hts⟩ (kX5_thrown l G E2 A2 o2 _ hM2) (cwV 0 hts gL_law_X5_thrown rfl rfl rfl (by decide +kernel) ⟨Nat.le_of_ble_eq_true rfl, Nat.le_of_ble_eq_true rfl⟩) (x_preV hX hS hW hM2.1 rfl) rfl rfl hl.1 rfl (lv_room (Nat.le_of_ble_eq_true rfl)) dL_law_732 ⟨by show _ ≤ 601024; omega, by show _ ≤ 7293034; omega⟩) ?_
    rw [show fX5_thrown A2 = (0 : Int32) from by unfold fX5_thrown; rw [ht2]; rfl]
    refine lv_iload hx hb dL_law_735 (lv_at hl 1 rfl) ?_
    refine lv_icmp_eq (tgt := 742) hx hb dL_law_737 (by decide) (fun _ => ?_) (fun c9 => absurd (by decide) c9)
    refine lv_iload hx hb dL_law_742 (lv_at hl 1 rfl) ?_
    refine lv_if_ne (tgt := 759) hx hb dL_law_744 (by decide) (fun c9 => absurd (by decide) c9) (fun _ => ?_)
    refine lv_aload_n hx hb dL_law_747 rfl (lv_at hl 5 rfl) ?_
    refine lv_iconst (v := 0) hx hb dL_law_748 (by decide) ?_
    refine x_lld (k := 0) hx hb hX.1 hW hoa2 (show vp_in (nI 0) 1 from vp_in_nI (by omega) (by omega)) rfl dL_law_749 ?_
    rw [show vp_updL f 0 (r6.toInt64) 0 = r6.toInt64 from rfl]
    refine lv_iload hx hb dL_law_750 (lv_at hl 0 rfl) ?_
    refine lv_i2l (v := r6.toInt64) hx hb dL_law_752 rfl ?_
    refine W.lcmp hx hb dL_law_753 ?_
    rw [x_cmp]
    refine lv_if_eq (tgt := 759) hx hb dL_law_754 (by decide) (fun _ => ?_) (fun c9 => absurd (by decide) c9)
    refine lv_goto (tgt := 1293) hx hb dL_law_759 (by decide) ?_
    obtain ⟨ct2, vt2, gt2, tb2, vb2, gb2, sa2, nC2, nV2, nG2, hC2, hI2⟩ := hLc
    exact W.widen (by omega) (by omega) (kk _ _ ls E2 ⟨_, _, _, ⟨ct2, vt2, gt2, tb2, vb2, gb2, sa2, nC2, nV2, nG2, (hC2.fr tC_tO hFo).fr tC_tM hFr2, hI2⟩, ⟨A2, hM2, hA2, rfl⟩, hoa2⟩ hW hS (lv_sub hl [2, 3, 4, 5, 6] rfl))
  · have hm := m_state_3 hInv hCls hT9
    have hM1 : xMod G E1 o2 A σ := by rw [hE1]; exact hM
    have hoa1 : E1 oa = some (.inl (G.2.1 1, 1, .inr (.inl f))) := by rw [hE1]; exact hoa
    refine lv_istore (lv' := [(5, .int 1), (0, .ref b), (1, .ref o1), (2, .ref o2), (3, .ref oa), (4, .int (nI i))]) hx hb dL_law_717 hl (by decide) rfl (fun ls hl => ?_)
    refine lv_aload_n hx hb dL_law_719 rfl (lv_at hl 3 rfl) ?_
    refine lv_aload_n hx hb dL_law_720 rfl (lv_at hl 1 rfl) ?_
    refine lv_iload hx hb dL_law_721 (lv_at hl 5 rfl) ?_
    refine lv_iconst (v := 1) hx hb dL_law_723 (by decide) ?_
    refine lv_iadd hx hb dL_law_724 ?_
    rw [x_ai1]
    refine va_sld hx hb hXs hbl hbA hS (vp_in_nI (show i + 1 < L by omega) (by omega)) dL_law_725 ?_
    rw [nI_clamp (show i + 1 < 2 ^ 31 by omega)]
    refine va_calli (va_runV (As := [.int (xs (i + 1))]) (rest := []) ⟨hx, hb, hml, hown, hts⟩ (kX5_state l G E1 σ o2 (xs (i + 1)) A hM1 hA nC nV nG (xMi_of hCls)) (cwV 1 hts gL_law_X5_state rfl rfl rfl (by decide +kernel) ⟨Nat.le_of_ble_eq_true rfl, Nat.le_of_ble_eq_true rfl⟩) (x_preV hX hS hW hM1.1 rfl) rfl rfl hl.1 rfl (lv_room (Nat.le_of_ble_eq_true rfl)) dL_law_726 ⟨by show _ ≤ 601024; omega, by show _ ≤ 7293034; omega⟩) hS (fun _ _ h => h) (fun _ h => h) (fun r6 E2 t H2 locs2 ht hvm hpost2 hB hz1 hk1 hS2 => ?_)
    rw [ht] at hB
    have hW : xW G E2 H2 := hB
    have hS := hS2
    obtain ⟨q, hq, hr6, hMd2, hFr2⟩ := hpost2
    rw [show q.2 = 1 from (by rw [← hq]; exact hm)] at hMd2
    have hMd3 : xMd G E2 o2 σ 1 := hMd2
    obtain ⟨A2, hM2, hA2, ht2⟩ := hMd3
    have hoa2 : E2 oa = some (.inl (G.2.1 1, 1, .inr (.inl f))) := hFr2 _ _ hoa1 rfl
    refine lv_istore (lv' := [(6, .int r6), (5, .int 1), (0, .ref b), (1, .ref o1), (2, .ref o2), (3, .ref oa), (4, .int (nI i))]) hx hb dL_law_729 hl (by decide) rfl (fun ls hl => ?_)
    refine lv_aload_n hx hb dL_law_731 rfl (lv_at hl 4 rfl) ?_
    refine x_callSe (va_runV (As := []) (rest := []) ⟨hx, hb, hml, hown, hts⟩ (kX5_thrown l G E2 A2 o2 _ hM2) (cwV 0 hts gL_law_X5_thrown rfl rfl rfl (by decide +kernel) ⟨Nat.le_of_ble_eq_true rfl, Nat.le_of_ble_eq_true rfl⟩) (x_preV hX hS hW hM2.1 rfl) rfl rfl hl.1 rfl (lv_room (Nat.le_of_ble_eq_true rfl)) dL_law_732 ⟨by show _ ≤ 601024; omega, by show _ ≤ 7293034; omega⟩) ?_
    rw [show fX5_thrown A2 = (1 : Int32) from by unfold fX5_thrown; rw [ht2]; rfl]
    refine lv_iload hx hb dL_law_735 (lv_at hl 1 rfl) ?_
    refine lv_icmp_eq (tgt := 742) hx hb dL_law_737 (by decide) (fun _ => ?_) (fun c9 => absurd (by decide) c9)
    refine lv_iload hx hb dL_law_742 (lv_at hl 1 rfl) ?_
    refine lv_if_ne (tgt := 759) hx hb dL_law_744 (by decide) (fun _ => ?_) (fun c9 => absurd c9 (by decide))
    refine lv_goto (tgt := 1293) hx hb dL_law_759 (by decide) ?_
    exact W.widen (by omega) (by omega) (kk _ _ ls E2 ⟨_, _, _, ⟨ct, vt, gt, tb, vb, gb, sa, nC, nV, nG, (show xCls G E1 o1 ct vt gt tb vb gb sa nC nV nG σ from by rw [hE1]; exact hCls).fr tC_tM hFr2, hInv⟩, ⟨A2, hM2, hA2, rfl⟩, hoa2⟩ hW hS (lv_sub hl [2, 3, 4, 5, 6] rfl))
