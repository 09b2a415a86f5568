def tX4_vote (nV : Nat) (a0 a1 : Int32) : Nat := if (tX4_checkPlayer a0) = 0 then (if (tIx (nI nV) a1) = 0 then (0) else tIx (nI nV) a1) else tX4_checkPlayer a0
set_option maxHeartbeats 4000000 in
set_option maxRecDepth 100000 in
theorem kX4_vote (l : Launch) (hl9 : l.stackTraces = false) (G : xG) (E : xE) (o : Nat) (a0 : Int32) (a1 : Int32) (ct vt gt : Nat) (tb vb gb : Nat → Option Nat) (sa : Nat → Nat) (nC nV nG : Nat) (σ : xSg) (hCls : xCls G E o ct vt gt tb vb gb sa nC nV nG σ) : vx_Met l yX4_vote wsX4_vote ({ frames := 7, cells := 2, slots := 12, locals := 112 }) (va_Pc [.ref o, .int a0, .int a1] (xB G E)) (va_Qi (S := xE) (fun r E' => tX4_vote nV a0 a1 = 0 ∧ ∃ v : Nat, a1 = nI v ∧ v < nV ∧ r = fJ6_bitCount_0f7a4 ((σ 8 v) ^^^ ((1 : Int32) <<< (a0 &&& 31))) ∧ xCls G E' o ct vt gt tb vb gb sa nC nV nG (sgU σ 8 v ((σ 8 v) ^^^ ((1 : Int32) <<< (a0 &&& 31)))) ∧ xFr tC E E') (fun E' t => xW G E' t.heap) (xA G)) (xX G E (fun n => xEx n (tX4_vote nV a0 a1))) 2 12 (xA G) := by
  refine vx_ofW (cc := cX4_vote) (maxL := 4) (ret := (some .int)) (by decide) rfl ?_
  intro p e s m args below meth c s₁ B hml hno hv
  obtain ⟨rfl, hX, hW⟩ := hv
  have hx := B.exec
  have hb := B.bytes
  have hr := B.returns
  have hts := atoms_spec (ws := wsX4_vote) B.pre
  have hown : s.vm.findClass RX4 = some m.cls := findClass_of_methodNamed B.named
  have hlocks := B.notSynchronized
  have hS : va_S (xA G) s.heap s.heap [] := va_S.rf
  have hiX3 : ∀ w ∈ u_ws RX3 TX3 3, w ∈ wsX4_vote := by decide +kernel
  have hf172 := hts (Cond.fieldLink RX4 172 "VariantMill$Variant" "voters" "I") (by decide +kernel)
  have hl := lv_entry ([.ref o, .int a0, .int a1]) (n := 4) (Nat.le_of_ble_eq_true rfl)
  rw [lg_entry_eq]
  generalize (lg_sl ([.ref o, .int a0, .int a1]) ++ List.replicate (4 - (lg_sl ([.ref o, .int a0, .int a1])).length) Slot.unset).toArray = ls at hl ⊢
  have hl : lv_has ls 4 [(0, .ref o), (1, .int a0), (2, .int a1)] := hl
  obtain ⟨H, hH⟩ : ∃ z, z = s.heap := ⟨_, rfl⟩
  rw [← hH] at hW
  have hS : va_S (xA G) s.heap H [] := by rw [hH]; exact hS
  rw [← hH]
  have hCls0 := hCls
  obtain ⟨hE, h0, h5, h10, hT, hV, hGs⟩ := hCls
  refine lv_iload_n hx hb dX4_vote_0 rfl (lv_at hl 1 rfl) ?_
  refine vx_callv (vx_runS (As := [.int a0]) (rest := []) ⟨hx, hb, hml, hown, hts⟩ (kX4_checkPlayer l hl9 G E a0) (va_cwS 1 hts gX4_vote_X4_checkPlayer rfl rfl rfl (by decide +kernel) ⟨Nat.le_of_ble_eq_true rfl, Nat.le_of_ble_eq_true rfl⟩) (x_preS hX hS hW) rfl rfl hl.1 rfl (lv_room (Nat.le_of_ble_eq_true rfl)) dX4_vote_1 ⟨Nat.le_of_ble_eq_true rfl, Nat.le_of_ble_eq_true rfl⟩) hS (fun _ _ h => h) (fun _ h => h) (fun _ _ h => h) (fun Ex ce q9 ux t H1 locs1 ht hvm hpx hB hz1 hk1 hS1 hce hcv hcl => ?_) (fun E1 t H1 locs1 ht hvm hw hB hz1 hk1 hS1 => ?_)
  · obtain ⟨hpx, hB⟩ := hB
    rw [ht] at hB
    exact vx_widen (k := 2) (n := 12) (Nat.le_of_ble_eq_true rfl) (Nat.le_of_ble_eq_true rfl) (vx_out (fun x hx9 => (hno x hx9).elim) hlocks hce hcv hcl (fun t9 ht9 hv9 => ⟨(), trivial, ⟨(by rw [(show tX4_vote nV a0 a1 = tX4_checkPlayer a0 from by unfold tX4_vote; rw [if_neg (xEx_ne hpx)])]; exact hpx), by rw [ht9]; exact hB⟩, hS1.F ht9⟩) hS1.2.2 (Nat.le_refl _) (Nat.le_refl _))
  · rw [ht] at hB
    have hS := hS1
    obtain ⟨hk4, hEe⟩ := hw
    rw [hEe] at hB
    have hW : xW G E H1 := hB
    refine lv_aload_n hx hb dX4_vote_4 rfl (lv_at hl 0 rfl) ?_
    refine lv_iload_n hx hb dX4_vote_5 rfl (lv_at hl 2 rfl) ?_
    refine vx_callr (vx_runV (As := [.int a1]) (rest := []) ⟨hx, hb, hml, hown, hts⟩ (kX4_variantAt l hl9 G E o a1 ct vt gt nC nV nG vb hE hV.1 hV.2.1 hV.2.2.1 hV.some) (cwV 1 hts gX4_vote_X4_variantAt rfl rfl rfl (by decide +kernel) ⟨Nat.le_of_ble_eq_true rfl, Nat.le_of_ble_eq_true rfl⟩) (x_preV hX hS hW hE rfl) rfl rfl hl.1 rfl (lv_room (Nat.le_of_ble_eq_true rfl)) dX4_vote_6 ⟨Nat.le_of_ble_eq_true rfl, Nat.le_of_ble_eq_true rfl⟩) hS (fun _ _ h => h) (fun _ h => h) (fun _ _ h => h) (fun Ex ce q9 ux t H1 locs1 ht hvm hpx hB hz1 hk1 hS1 hce hcv hcl => ?_) (fun E5 r6 t H1 locs1 ht hvm hw hB hz1 hk1 hS1 => ?_)
    · obtain ⟨hpx, hB⟩ := hB
      rw [ht] at hB
      exact vx_widen (k := 2) (n := 12) (Nat.le_of_ble_eq_true rfl) (Nat.le_of_ble_eq_true rfl) (vx_out (fun x hx9 => (hno x hx9).elim) hlocks hce hcv hcl (fun t9 ht9 hv9 => ⟨(), trivial, ⟨(by rw [(show tX4_vote nV a0 a1 = tIx (nI nV) a1 from by unfold tX4_vote; rw [if_pos hk4, if_neg (xEx_ne hpx)])]; exact hpx), by rw [ht9]; exact hB⟩, hS1.F ht9⟩) hS1.2.2 (Nat.le_refl _) (Nat.le_refl _))
    · rw [ht] at hB
      have hS := hS1
      obtain ⟨⟨v, hav, hvl, hvb, hEe⟩, hB⟩ := hB
      rw [hEe] at hB
      have hW : xW G E H1 := hB
      obtain ⟨va2, vr, hva, hVa, hVr⟩ := hV.2.2.2.1 v hvl
      obtain rfl : r6 = va2 := Option.some.inj (hvb.symm.trans hva)
      have ht0 : tIx (nI nV) a1 = 0 := by rw [hav]; exact tIx_ok hvl (by have := hV.2.1; omega)
      refine lv_astore_n (lv' := [(3, .ref r6), (0, .ref o), (1, .int a0), (2, .int a1)]) hx hb dX4_vote_9 rfl hl (by decide) rfl (fun ls hl => ?_)
      refine lv_aload_n hx hb dX4_vote_10 rfl (lv_at hl 0 rfl) ?_
      refine lv_dup hx hb dX4_vote_11 rfl ?_
      refine va_get (D := G.1) (ci := 3) (v := .int (σ 8 v)) (C := RX3) (T := TX3) (N := 3) hx hb hts hiX3 hown hX.1 (x1 hW hVa) 0 rfl rfl 1 (by decide) hf172 (fun _ h9 => h9) rfl dX4_vote_12 ?_
      refine lv_iconst (v := 1) hx hb dX4_vote_15 (by decide) ?_
      refine lv_iload_n hx hb dX4_vote_16 rfl (lv_at hl 2 rfl) ?_
      refine lv_ishl hx hb dX4_vote_17 ?_
      refine lv_ixor hx hb dX4_vote_18 ?_
      refine x_put (G := G) (ci := 3) (v := .int ((σ 8 v) ^^^ ((1 : Int32) <<< (a0 &&& 31)))) (ty := .int) (C := RX3) (T := TX3) (N := 3) hx hb hts hiX3 tyX3 tyX3_ok nmX3 hown hX.1 hW hS hVa rfl 1 (by decide) hf172 (fun _ h9 => h9) rfl (by decide +kernel) rfl rfl (Nat.le_of_ble_eq_true rfl) dX4_vote_19 (fun H locs hW hS => ?_)
      obtain ⟨E8, eE8⟩ : ∃ z, z = xU E r6 (.inr (3, [.ref vr, .int ((σ 8 v) ^^^ ((1 : Int32) <<< (a0 &&& 31))), .int (σ 9 v)])) := ⟨_, rfl⟩
      have hW : xW G E8 H := by rw [eE8]; exact hW
      have hE9 : E8 o = some (.inr (4, [.ref ct, .ref vt, .ref gt, .int (nI nC), .int (nI nV), .int (nI nG)])) := by rw [eE8]; exact xU_of hE hVa (fun h => by simp at h)
      have hv_ct9 : E8 ct = some (.inl (G.2.1 2, 8, .inr (.inr (.inr (.inr tb))))) := by rw [eE8]; exact xU_of hT.1 hVa (fun h => by simp at h)
      have hv_vt9 : E8 vt = some (.inl (G.2.1 3, 4, .inr (.inr (.inr (.inr vb))))) := by rw [eE8]; exact xU_of hV.1 hVa (fun h => by simp at h)
      have hv_gt9 : E8 gt = some (.inl (G.2.1 4, 12, .inr (.inr (.inr (.inr gb))))) := by rw [eE8]; exact xU_of hGs.1 hVa (fun h => by simp at h)
      have hVr9 : E8 vr = some (.inr (2, [.ref ct, .int (σ 7 v), .int (σ 6 v)])) := by rw [eE8]; exact xU_of hVr hVa (fun h => by simp at h)
      have hVa9 : E8 r6 = some (.inr (3, [.ref vr, .int ((σ 8 v) ^^^ ((1 : Int32) <<< (a0 &&& 31))), .int (σ 9 v)])) := by rw [eE8]; exact xU_self _ _ _
      refine lv_aload_n hx hb dX4_vote_22 rfl (lv_at hl 0 rfl) ?_
      refine va_get (D := G.1) (ci := 3) (v := .int ((σ 8 v) ^^^ ((1 : Int32) <<< (a0 &&& 31)))) (C := RX3) (T := TX3) (N := 3) hx hb hts hiX3 hown hX.1 (x1 hW hVa9) 0 rfl rfl 1 (by decide) hf172 (fun _ h9 => h9) rfl dX4_vote_23 ?_
      refine x_callSe (va_runS (As := [.int ((σ 8 v) ^^^ ((1 : Int32) <<< (a0 &&& 31)))]) (rest := []) ⟨hx, hb, hml, hown, hts⟩ (kJ6_bitCount_0f7a4 l ((σ 8 v) ^^^ ((1 : Int32) <<< (a0 &&& 31)))) (va_cwS 1 hts gX4_vote_J6_bitCount_0f7a4 rfl rfl rfl (by decide +kernel) ⟨Nat.le_of_ble_eq_true rfl, Nat.le_of_ble_eq_true rfl⟩) x_preT rfl rfl hl.1 rfl (lv_room (Nat.le_of_ble_eq_true rfl)) dX4_vote_26 ⟨Nat.le_of_ble_eq_true rfl, Nat.le_of_ble_eq_true rfl⟩) ?_
      exact vx_ret (W.widen (k := 2) (n := 12) (Nat.le_of_ble_eq_true rfl) (Nat.le_of_ble_eq_true rfl) (W.iret (v := fJ6_bitCount_0f7a4 ((σ 8 v) ^^^ ((1 : Int32) <<< (a0 &&& 31)))) hx hb hr (fun t ht hw => ⟨⟨_, E8, rfl, ⟨(show tX4_vote nV a0 a1 = 0 from by unfold tX4_vote; rw [if_pos hk4, if_pos ht0]), v, hav, hvl, rfl, (show xCls G E8 o ct vt gt tb vb gb sa nC nV nG _ ∧ xFr tC E E8 from by rw [eE8]; exact xCls_vote hCls0 hvl hvb hVa _)⟩, (show xW G E8 t.heap from by rw [ht]; exact hW)⟩, hS.F ht⟩) hS.2.2 dX4_vote_29))

def tX4_setCards (nC nV : Nat) (a0 a1 : Int32) : Nat := if (tIx (nI nV) a0) = 0 then (if (fX4_isSetOfCards (nI nC) a1) = true then (0) else (1)) else tIx (nI nV) a0
set_option maxHeartbeats 4000000 in
set_option maxRecDepth 100000 in
theorem kX4_setCards (l : Launch) (hl9 : l.stackTraces = false) (G : xG) (E : xE) (o : Nat) (a0 : Int32) (a1 : Int32) (ct vt gt : Nat) (tb vb gb : Nat → Option Nat) (sa : Nat → Nat) (nC nV nG : Nat) (σ : xSg) (hCls : xCls G E o ct vt gt tb vb gb sa nC nV nG σ) : vx_Met l yX4_setCards wsX4_setCards ({ frames := 7, cells := 2, slots := 12, locals := 112 }) (va_Pc [.ref o, .int a0, .int a1] (xB G E)) (va_Qi (S := xE) (fun r E' => tX4_setCards nC nV a0 a1 = 0 ∧ ∃ v : Nat, a0 = nI v ∧ v < nV ∧ r = σ 7 v ∧ xCls G E' o ct vt gt tb vb gb sa nC nV nG (sgU σ 7 v a1) ∧ xFr tC E E') (fun E' t => xW G E' t.heap) (xA G)) (xX G E (fun n => xEx n (tX4_setCards nC nV a0 a1))) 2 12 (xA G) := by
  refine vx_ofW (cc := cX4_setCards) (maxL := 5) (ret := (some .int)) (by decide) rfl ?_
  intro p e s m args below meth c s₁ B hml hno hv
  obtain ⟨rfl, hX, hW⟩ := hv
  have hx := B.exec
  have hb := B.bytes
  have hr := B.returns
  have hts := atoms_spec (ws := wsX4_setCards) B.pre
  have hown : s.vm.findClass RX4 = some m.cls := findClass_of_methodNamed B.named
  have hlocks := B.notSynchronized
  have hS : va_S (xA G) s.heap s.heap [] := va_S.rf
  have hiX3 : ∀ w ∈ u_ws RX3 TX3 3, w ∈ wsX4_setCards := by decide +kernel
  have hf76 := hts (Cond.fieldLink RX4 76 "VariantMill$Variant" "rules" "LVariantMill$Rules;") (by decide +kernel)
  have hcl62 := hts (Cond.classLink RX4 62 RX2) (by decide +kernel)
  have hinX2 := hts (Cond.instantiable RX2 3) (by decide +kernel)
  have hiniRX2 := hts (Cond.initialized RX2) (by decide +kernel)
  have hiX2 : ∀ w ∈ u_ws RX2 TX2 3, w ∈ wsX4_setCards := by decide +kernel
  have hiX4 : ∀ w ∈ u_ws RX4 TX4 6, w ∈ wsX4_setCards := by decide +kernel
  have hf11 := hts (Cond.fieldLink RX4 11 "VariantMill" "cardTable" "[LVariantMill$Card;") (by decide +kernel)
  have hf80 := hts (Cond.fieldLink RX4 80 "VariantMill$Rules" "holes" "I") (by decide +kernel)
  have hml64 := hts (Cond.methodLink RX4 64 yX2_init) (by decide +kernel)
  have himX2_init := hts (Cond.instanceMethod yX2_init) (by decide +kernel)
  have hf83 := hts (Cond.fieldLink RX4 83 "VariantMill$Rules" "cards" "I") (by decide +kernel)
  have hl := lv_entry ([.ref o, .int a0, .int a1]) (n := 5) (Nat.le_of_ble_eq_true rfl)
  rw [lg_entry_eq]
  generalize (lg_sl ([.ref o, .int a0, .int a1]) ++ List.replicate (5 - (lg_sl ([.ref o, .int a0, .int a1])).length) Slot.unset).toArray = ls at hl ⊢
  have hl : lv_has ls 5 [(0, .ref o), (1, .int a0), (2, .int a1)] := hl
  obtain ⟨H, hH⟩ : ∃ z, z = s.heap := ⟨_, rfl⟩
  rw [← hH] at hW
  have hS : va_S (xA G) s.heap H [] := by rw [hH]; exact hS
  rw [← hH]
  have hCls0 := hCls
  obtain ⟨hE, h0, h5, h10, hT, hV, hGs⟩ := hCls
  refine lv_aload_n hx hb dX4_setCards_0 rfl (lv_at hl 0 rfl) ?_
  refine lv_iload_n hx hb dX4_setCards_1 rfl (lv_at hl 1 rfl) ?_
  refine vx_callr (vx_runV (As := [.int a0]) (rest := []) ⟨hx, hb, hml, hown, hts⟩ (kX4_variantAt l hl9 G E o a0 ct vt gt nC nV nG vb hE hV.1 hV.2.1 hV.2.2.1 hV.some) (cwV 1 hts gX4_setCards_X4_variantAt rfl rfl rfl (by decide +kernel) ⟨Nat.le_of_ble_eq_true rfl, Nat.le_of_ble_eq_true rfl⟩) (x_preV hX hS hW hE rfl) rfl rfl hl.1 rfl (lv_room (Nat.le_of_ble_eq_true rfl)) dX4_setCards_2 ⟨Nat.le_of_ble_eq_true rfl, Nat.le_of_ble_eq_true rfl⟩) hS (fun _ _ h => h) (fun _ h => h) (fun _ _ h => h) (fun Ex ce q9 ux t H1 locs1 ht hvm hpx hB hz1 hk1 hS1 hce hcv hcl => ?_) (fun E1 r2 t H1 locs1 ht hvm hw hB hz1 hk1 hS1 => ?_)
  · obtain ⟨hpx, hB⟩ := hB
    rw [ht] at hB
    exact vx_widen (k := 2) (n := 12) (Nat.le_of_ble_eq_true rfl) (Nat.le_of_ble_eq_true rfl) (vx_out (fun x hx9 => (hno x hx9).elim) hlocks hce hcv hcl (fun t9 ht9 hv9 => ⟨(), trivial, ⟨(by rw [(show tX4_setCards nC nV a0 a1 = tIx (nI nV) a0 from by unfold tX4_setCards; rw [if_neg (xEx_ne hpx)])]; exact hpx), by rw [ht9]; exact hB⟩, hS1.F ht9⟩) hS1.2.2 (Nat.le_refl _) (Nat.le_refl _))
  · rw [ht] at hB
    have hS := hS1
    obtain ⟨⟨v, hav, hvl, hvb, hEe⟩, hB⟩ := hB
    rw [hEe] at hB
    have hW : xW G E H1 := hB
    obtain ⟨va2, vr, hva, hVa, hVr⟩ := hV.2.2.2.1 v hvl
    obtain rfl : r2 = va2 := Option.some.inj (hvb.symm.trans hva)
    have ht0 : tIx (nI nV) a0 = 0 := by rw [hav]; exact tIx_ok hvl (by have := hV.2.1; omega)
    refine lv_astore_n (lv' := [(3, .ref r2), (0, .ref o), (1, .int a0), (2, .int a1)]) hx hb dX4_setCards_5 rfl hl (by decide) rfl (fun ls hl => ?_)
    refine lv_aload_n hx hb dX4_setCards_6 rfl (lv_at hl 1 rfl) ?_
    refine lv_iload_n hx hb dX4_setCards_7 rfl (lv_at hl 3 rfl) ?_
    refine x_callSe (va_runV (As := [.int a1]) (rest := []) ⟨hx, hb, hml, hown, hts⟩ (kX4_isSetOfCards l G _ (nI nC) o a1 ct vt gt (nI nV) (nI nG) hE) (cwV 1 hts gX4_setCards_X4_isSetOfCards rfl rfl rfl (by decide +kernel) ⟨Nat.le_of_ble_eq_true rfl, Nat.le_of_ble_eq_true rfl⟩) (x_preV hX hS hW hE rfl) rfl rfl hl.1 rfl (lv_room (Nat.le_of_ble_eq_true rfl)) dX4_setCards_8 ⟨Nat.le_of_ble_eq_true rfl, Nat.le_of_ble_eq_true rfl⟩) ?_
    refine x_ifz_ne (b := fX4_isSetOfCards (nI nC) a1) (tgt := 24) hx hb dX4_setCards_11 (by decide) (fun c_4 => ?_) (fun c_4 => ?_)
    · refine lv_aload_n hx hb dX4_setCards_24 rfl (lv_at hl 0 rfl) ?_
      refine va_get (D := G.1) (ci := 3) (v := .ref vr) (C := RX3) (T := TX3) (N := 3) hx hb hts hiX3 hown hX.1 (x1 hW hVa) 0 rfl rfl 0 (by decide) hf76 (fun _ h9 => h9) rfl dX4_setCards_25 ?_
      refine lv_astore (lv' := [(4, .ref vr), (3, .ref r2), (0, .ref o), (1, .int a0), (2, .int a1)]) hx hb dX4_setCards_28 hl (by decide) rfl (fun ls hl => ?_)
      refine lv_aload_n hx hb dX4_setCards_30 rfl (lv_at hl 1 rfl) ?_
      refine x_new (G := G) (ci := 2) (fs := [.null, .int 0, .int 0]) (C := RX2) (T := TX2) (N := 3) hx hb hts hiX2 tyX2 tyX2_ok hown hcl62 hinX2 hiniRX2 hX.1 hW hS rfl (fun j hj => by rcases (show j = 0 ∨ j = 1 ∨ j = 2 by omega) with rfl | rfl | rfl <;> rfl) (Nat.le_of_ble_eq_true rfl) (Nat.le_of_ble_eq_true rfl) dX4_setCards_31 (fun q5 H1 hqq5 hzq5 hW1 hS1 => ?_)
      have hne6 : o ≠ q5 := by rw [hqq5]; exact Nat.ne_of_lt (hW.lt hE)
      have hne6' : q5 ≠ o := Ne.symm hne6
      have hne7 : ct ≠ q5 := by rw [hqq5]; exact Nat.ne_of_lt (hW.lt hT.1)
      have hne7' : q5 ≠ ct := Ne.symm hne7
      have hne8 : vt ≠ q5 := by rw [hqq5]; exact Nat.ne_of_lt (hW.lt hV.1)
      have hne8' : q5 ≠ vt := Ne.symm hne8
      have hne9 : gt ≠ q5 := by rw [hqq5]; exact Nat.ne_of_lt (hW.lt hGs.1)
      have hne9' : q5 ≠ gt := Ne.symm hne9
      have hne10 : r2 ≠ q5 := by rw [hqq5]; exact Nat.ne_of_lt (hW.lt hVa)
      have hne10' : q5 ≠ r2 := Ne.symm hne10
      have hne11 : vr ≠ q5 := by rw [hqq5]; exact Nat.ne_of_lt (hW.lt hVr)
      have hne11' : q5 ≠ vr := Ne.symm hne11
      have hnoq5 : E q5 = none := by rw [hqq5]; exact hW.new
      have hltq5 : G.2.2 ≤ q5 := by rw [hqq5]; exact hW.1
      have hW := hW1
      have hS := hS1
      generalize H1 = H at hW hS ⊢
      obtain ⟨E12, eE12⟩ : ∃ z, z = xU E q5 (.inr (2, [.null, .int 0, .int 0])) := ⟨_, rfl⟩
      have hW : xW G E12 H := by rw [eE12]; exact hW
      have hE9 : E12 o = some (.inr (4, [.ref ct, .ref vt, .ref gt, .int (nI nC), .int (nI nV), .int (nI nG)])) := by rw [eE12]; exact (xU_ne _ _ hne6).trans hE
      have hv_ct9 : E12 ct = some (.inl (G.2.1 2, 8, .inr (.inr (.inr (.inr tb))))) := by rw [eE12]; exact (xU_ne _ _ hne7).trans hT.1
      have hv_vt9 : E12 vt = some (.inl (G.2.1 3, 4, .inr (.inr (.inr (.inr vb))))) := by rw [eE12]; exact (xU_ne _ _ hne8).trans hV.1
      have hv_gt9 : E12 gt = some (.inl (G.2.1 4, 12, .inr (.inr (.inr (.inr gb))))) := by rw [eE12]; exact (xU_ne _ _ hne9).trans hGs.1
      have hVa9 : E12 r2 = some (.inr (3, [.ref vr, .int (σ 8 v), .int (σ 9 v)])) := by rw [eE12]; exact (xU_ne _ _ hne10).trans hVa
      have hVr9 : E12 vr = some (.inr (2, [.ref ct, .int (σ 7 v), .int (σ 6 v)])) := by rw [eE12]; exact (xU_ne _ _ hne11).trans hVr
      have hnq59 : E12 q5 = some (.inr (2, [.null, .int 0, .int 0])) := by rw [eE12]; exact xU_self _ _ _
      refine lv_dup hx hb dX4_setCards_34 rfl ?_
      refine lv_aload_n hx hb dX4_setCards_35 rfl (lv_at hl 2 rfl) ?_
      refine va_get (D := G.1) (ci := 4) (v := .ref ct) (C := RX4) (T := TX4) (N := 6) hx hb hts hiX4 hown hX.1 (x1 hW hE9) 0 rfl rfl 0 (by decide) hf11 (fun _ h9 => h9) rfl dX4_setCards_36 ?_
      refine lv_iload_n hx hb dX4_setCards_39 rfl (lv_at hl 4 rfl) ?_
      refine lv_aload hx hb dX4_setCards_40 (lv_at hl 0 rfl) ?_
      refine va_get (D := G.1) (ci := 2) (v := .int (σ 6 v)) (C := RX2) (T := TX2) (N := 3) hx hb hts hiX2 hown hX.1 (x1 hW hVr9) 0 rfl rfl 2 (by decide) hf80 (fun _ h9 => h9) rfl dX4_setCards_42 ?_
      refine va_callv (va_runI (As := [.ref ct, .int a1, .int (σ 6 v)]) (rest := [.ref q5, .ref r2]) ⟨hx, hb, hml, hown, hts⟩ (kX2_init l G _ q5 ct a1 (σ 6 v) hnq59) (cwI 3 hts gX4_setCards_X2_init rfl rfl rfl hiniRX2 hml64 himX2_init rfl (by decide +kernel) ⟨Nat.le_of_ble_eq_true rfl, Nat.le_of_ble_eq_true rfl⟩) (x_preS hX hS hW) rfl rfl hl.1 rfl (lv_room (Nat.le_of_ble_eq_true rfl)) dX4_setCards_45 ⟨Nat.le_of_ble_eq_true rfl, Nat.le_of_ble_eq_true rfl⟩) hS (fun _ _ h => h) (fun _ h => h) (fun E13 t H1 locs1 ht hvm hw hB hz1 hk1 hS1 => ?_)
      rw [ht] at hB
      have hS := hS1
      have ehE13 : E13 = xU E12 q5 (.inr (2, [.ref ct, .int a1, .int (σ 6 v)])) := hw
      have hW : xW G E13 H1 := hB
      have hE99 : E13 o = some (.inr (4, [.ref ct, .ref vt, .ref gt, .int (nI nC), .int (nI nV), .int (nI nG)])) := by rw [ehE13]; exact (xU_ne _ _ hne6).trans (hE9)
      have hv_ct99 : E13 ct = some (.inl (G.2.1 2, 8, .inr (.inr (.inr (.inr tb))))) := by rw [ehE13]; exact (xU_ne _ _ hne7).trans (hv_ct9)
      have hv_vt99 : E13 vt = some (.inl (G.2.1 3, 4, .inr (.inr (.inr (.inr vb))))) := by rw [ehE13]; exact (xU_ne _ _ hne8).trans (hv_vt9)
      have hv_gt99 : E13 gt = some (.inl (G.2.1 4, 12, .inr (.inr (.inr (.inr gb))))) := by rw [ehE13]; exact (xU_ne _ _ hne9).trans (hv_gt9)
      have hVa99 : E13 r2 = some (.inr (3, [.ref vr, .int (σ 8 v), .int (σ 9 v)])) := by rw [ehE13]; exact (xU_ne _ _ hne10).trans (hVa9)
      have hVr99 : E13 vr = some (.inr (2, [.ref ct, .int (σ 7 v), .int (σ 6 v)])) := by rw [ehE13]; exact (xU_ne _ _ hne11).trans (hVr9)
      have hnew15 : E13 q5 = some (.inr (2, [.ref ct, .int a1, .int (σ 6 v)])) := by rw [ehE13]; exact xU_self _ _ _
      refine x_put (G := G) (ci := 3) (v := .ref q5) (ty := .object "VariantMill$Rules") (C := RX3) (T := TX3) (N := 3) hx hb hts hiX3 tyX3 tyX3_ok nmX3 hown hX.1 hW hS hVa99 rfl 0 (by decide) hf76 (fun _ h9 => h9) rfl (by decide +kernel) rfl rfl (Nat.le_of_ble_eq_true rfl) dX4_setCards_48 (fun H locs hW hS => ?_)
      obtain ⟨E16, eE16⟩ : ∃ z, z = xU E13 r2 (.inr (3, [.ref q5, .int (σ 8 v), .int (σ 9 v)])) := ⟨_, rfl⟩
      have hW : xW G E16 H := by rw [eE16]; exact hW
      have hE999 : E16 o = some (.inr (4, [.ref ct, .ref vt, .ref gt, .int (nI nC), .int (nI nV), .int (nI nG)])) := by rw [eE16]; exact xU_of hE99 hVa99 (fun h => by simp at h)
      have hv_ct999 : E16 ct = some (.inl (G.2.1 2, 8, .inr (.inr (.inr (.inr tb))))) := by rw [eE16]; exact xU_of hv_ct99 hVa99 (fun h => by simp at h)
      have hv_vt999 : E16 vt = some (.inl (G.2.1 3, 4, .inr (.inr (.inr (.inr vb))))) := by rw [eE16]; exact xU_of hv_vt99 hVa99 (fun h => by simp at h)
      have hv_gt999 : E16 gt = some (.inl (G.2.1 4, 12, .inr (.inr (.inr (.inr gb))))) := by rw [eE16]; exact xU_of hv_gt99 hVa99 (fun h => by simp at h)
      have hVr999 : E16 vr = some (.inr (2, [.ref ct, .int (σ 7 v), .int (σ 6 v)])) := by rw [eE16]; exact xU_of hVr99 hVa99 (fun h => by simp at h)
      have hnew159 : E16 q5 = some (.inr (2, [.ref ct, .int a1, .int (σ 6 v)])) := by rw [eE16]; exact (xU_ne _ _ hne10').trans hnew15
      have hVa999 : E16 r2 = some (.inr (3, [.ref q5, .int (σ 8 v), .int (σ 9 v)])) := by rw [eE16]; exact xU_self _ _ _
      refine lv_aload hx hb dX4_setCards_51 (lv_at hl 0 rfl) ?_
      refine va_get (D := G.1) (ci := 2) (v := .int (σ 7 v)) (C := RX2) (T := TX2) (N := 3) hx hb hts hiX2 hown hX.1 (x1 hW hVr999) 0 rfl rfl 1 (by decide) hf83 (fun _ h9 => h9) rfl dX4_setCards_53 ?_
      exact vx_ret (W.widen (k := 2) (n := 12) (Nat.le_of_ble_eq_true rfl) (Nat.le_of_ble_eq_true rfl) (W.iret (v := σ 7 v) hx hb hr (fun t ht hw => ⟨⟨_, E16, rfl, ⟨(show tX4_setCards nC nV a0 a1 = 0 from by unfold tX4_setCards; rw [if_pos ht0, if_pos c_4]), v, hav, hvl, rfl, xCls_set (q := q5) hCls0 hvl hvb hVa hnoq5 a1 (by rw [eE16, ehE13, eE12]; simp only [xU_xU])⟩, (show xW G E16 t.heap from by rw [ht]; exact hW)⟩, hS.F ht⟩) hS.2.2 dX4_setCards_56))
    · exact x_throw hx hb hl9 hown (cls := "java/lang/IllegalArgumentException") (text := "no such cards") (ik := 31) (is := 74) (ic := 35) hts hX hS hW (by decide +kernel) (by decide +kernel) (by decide +kernel) (by decide +kernel) (fun w h => List.mem_cons_of_mem _ (List.mem_append_left _ (List.mem_append_right _ h))) (by decide +kernel) (by decide +kernel) (hl.1.trans hml.symm) dX4_setCards_14 dX4_setCards_17 dX4_setCards_18 dX4_setCards_20 dX4_setCards_23 hno (Nat.le_of_ble_eq_true rfl) (Nat.le_of_ble_eq_true rfl) (Nat.le_of_ble_eq_true rfl) (Nat.le_of_ble_eq_true rfl) hlocks (Or.inl ⟨(show tX4_setCards nC nV a0 a1 = 1 from by unfold tX4_setCards; rw [if_pos ht0, if_neg (Bool.eq_false_iff.mp c_4)]), rfl⟩) (Nat.le_of_ble_eq_true rfl) (Nat.le_of_ble_eq_true rfl)

def tX4_card (nC : Nat) (a0 a1 a2 a3 : Int32) : Nat := if a0 < 0 then (1) else (if 2 < a0 then (1) else (if (fX4_isStep a1 a2) = true then (if a3 < 1 then (1) else (if a3 ≤ 4 then (if (nI nC) < 8 then (0) else (2)) else (1))) else (1)))
theorem x_reach {nC : Nat} {a0 a1 a2 a3 : Int32} (h : tX4_card nC a0 a1 a2 a3 = 0) : ∃ r : Nat, (if a0 = 0 then (1 : Int32) else a3) = nI r ∧ r ≤ 4 := by
  by_cases h0 : a0 = 0
  · exact ⟨1, by rw [if_pos h0]; rfl, by omega⟩
  · rw [if_neg h0]
    have h3 : ¬ a3 < 1 ∧ a3 ≤ 4 := by
      unfold tX4_card at h
      split at h <;> try (cases h; done)
      split at h <;> try (cases h; done)
      split at h <;> try (cases h; done)
      split at h <;> try (cases h; done)
      split at h <;> try (cases h; done)
      exact ⟨by assumption, by assumption⟩
    have hp : ¬ a3 < 0 := fun z => h3.1 (Int32.lt_trans z (by decide))
    obtain ⟨j, hj, rfl⟩ := nI_of hp
    exact ⟨j, rfl, (nI_leI hj (by omega : 4 < 2 ^ 31)).mp h3.2⟩
set_option maxHeartbeats 4000000 in
set_option maxRecDepth 100000 in
theorem kX4_card (l : Launch) (hl9 : l.stackTraces = false) (G : xG) (E : xE) (o : Nat) (a0 : Int32) (a1 : Int32) (a2 : Int32) (a3 : Int32) (ct vt gt : Nat) (tb vb gb : Nat → Option Nat) (sa : Nat → Nat) (nC nV nG : Nat) (σ : xSg) (hCls : xCls G E o ct vt gt tb vb gb sa nC nV nG σ) : vx_Met l yX4_card wsX4_card ({ frames := 6, cells := 1, slots := 6, locals := 90 }) (va_Pc [.ref o, .int a0, .int a1, .int a2, .int a3] (xB G E)) (va_Qi (S := xE) (fun r E' => tX4_card nC a0 a1 a2 a3 = 0 ∧ r = nI nC ∧ nC < 8 ∧ ∃ q : Nat, xCls G E' o ct vt gt (va_up tb nC (some q)) vb gb sa (nC + 1) nV nG (sgCard σ nC a0 a1 a2 (if a0 = 0 then (1 : Int32) else a3)) ∧ xFr tC E E') (fun E' t => xW G E' t.heap) (xA G)) (xX G E (fun n => xEx n (tX4_card nC a0 a1 a2 a3))) 1 6 (xA G) := by
  refine vx_ofW (cc := cX4_card) (maxL := 6) (ret := (some .int)) (by decide) rfl ?_
  intro p e s m args below meth c s₁ B hml hno hv
  obtain ⟨rfl, hX, hW⟩ := hv
  have hx := B.exec
  have hb := B.bytes
  have hr := B.returns
  have hts := atoms_spec (ws := wsX4_card) B.pre
  have hown : s.vm.findClass RX4 = some m.cls := findClass_of_methodNamed B.named
  have hlocks := B.notSynchronized
  have hS : va_S (xA G) s.heap s.heap [] := va_S.rf
  have hiX4 : ∀ w ∈ u_ws RX4 TX4 6, w ∈ wsX4_card := by decide +kernel
  have hf38 := hts (Cond.fieldLink RX4 38 "VariantMill" "cardCount" "I") (by decide +kernel)
  have hf11 := hts (Cond.fieldLink RX4 11 "VariantMill" "cardTable" "[LVariantMill$Card;") (by decide +kernel)
  have hcl9 := hts (Cond.classLink RX4 9 RX0) (by decide +kernel)
  have hinX0 := hts (Cond.instantiable RX0 4) (by decide +kernel)
  have hiniRX0 := hts (Cond.initialized RX0) (by decide +kernel)
  have hiX0 : ∀ w ∈ u_ws RX0 TX0 4, w ∈ wsX4_card := by decide +kernel
  have hml47 := hts (Cond.methodLink RX4 47 yX0_init) (by decide +kernel)
  have himX0_init := hts (Cond.instanceMethod yX0_init) (by decide +kernel)
  have hl := lv_entry ([.ref o, .int a0, .int a1, .int a2, .int a3]) (n := 6) (Nat.le_of_ble_eq_true rfl)
  rw [lg_entry_eq]
  generalize (lg_sl ([.ref o, .int a0, .int a1, .int a2, .int a3]) ++ List.replicate (6 - (lg_sl ([.ref o, .int a0, .int a1, .int a2, .int a3])).length) Slot.unset).toArray = ls at hl ⊢
  have hl : lv_has ls 6 [(0, .ref o), (1, .int a0), (2, .int a1), (3, .int a2), (4, .int a3)] := hl
  obtain ⟨H, hH⟩ : ∃ z, z = s.heap := ⟨_, rfl⟩
  rw [← hH] at hW
  have hS : va_S (xA G) s.heap H [] := by rw [hH]; exact hS
  rw [← hH]
  have hCls0 := hCls
  obtain ⟨hE, h0, h5, h10, hT, hV, hGs⟩ := hCls
  have hcb := hT.2.1
  refine lv_iload_n hx hb dX4_card_0 rfl (lv_at hl 1 rfl) ?_
  refine lv_if_lt (tgt := 29) hx hb dX4_card_1 (by decide) (fun c_1 => ?_) (fun c_1 => ?_)
  · exact x_throw hx hb hl9 hown (cls := "java/lang/IllegalArgumentException") (text := "no such card can be") (ik := 31) (is := 33) (ic := 35) hts hX hS hW (by decide +kernel) (by decide +kernel) (by decide +kernel) (by decide +kernel) (fun w h => List.mem_cons_of_mem _ (List.mem_append_left _ (List.mem_append_right _ h))) (by decide +kernel) (by decide +kernel) (hl.1.trans hml.symm) dX4_card_29 dX4_card_32 dX4_card_33 dX4_card_35 dX4_card_38 hno (Nat.le_of_ble_eq_true rfl) (Nat.le_of_ble_eq_true rfl) (Nat.le_of_ble_eq_true rfl) (Nat.le_of_ble_eq_true rfl) hlocks (Or.inl ⟨(show tX4_card nC a0 a1 a2 a3 = 1 from by unfold tX4_card; rw [if_pos c_1]), rfl⟩) (Nat.le_of_ble_eq_true rfl) (Nat.le_of_ble_eq_true rfl)
  · refine lv_iload_n hx hb dX4_card_4 rfl (lv_at hl 1 rfl) ?_
    refine lv_iconst (v := 2) hx hb dX4_card_5 (by decide) ?_
    refine lv_icmp_gt (tgt := 29) hx hb dX4_card_6 (by decide) (fun c_2 => ?_) (fun c_2 => ?_)
    · exact x_throw hx hb hl9 hown (cls := "java/lang/IllegalArgumentException") (text := "no such card can be") (ik := 31) (is := 33) (ic := 35) hts hX hS hW (by decide +kernel) (by decide +kernel) (by decide +kernel) (by decide +kernel) (fun w h => List.mem_cons_of_mem _ (List.mem_append_left _ (List.mem_append_right _ h))) (by decide +kernel) (by decide +kernel) (hl.1.trans hml.symm) dX4_card_29 dX4_card_32 dX4_card_33 dX4_card_35 dX4_card_38 hno (Nat.le_of_ble_eq_true rfl) (Nat.le_of_ble_eq_true rfl) (Nat.le_of_ble_eq_true rfl) (Nat.le_of_ble_eq_true rfl) hlocks (Or.inl ⟨(show tX4_card nC a0 a1 a2 a3 = 1 from by unfold tX4_card; rw [if_neg c_1, if_pos c_2]), rfl⟩) (Nat.le_of_ble_eq_true rfl) (Nat.le_of_ble_eq_true rfl)
    · refine lv_iload_n hx hb dX4_card_9 rfl (lv_at hl 2 rfl) ?_
      refine lv_iload_n hx hb dX4_card_10 rfl (lv_at hl 3 rfl) ?_
      refine x_callSe (va_runS (As := [.int a1, .int a2]) (rest := []) ⟨hx, hb, hml, hown, hts⟩ (kX4_isStep l a1 a2) (va_cwS 2 hts gX4_card_X4_isStep rfl rfl rfl (by decide +kernel) ⟨Nat.le_of_ble_eq_true rfl, Nat.le_of_ble_eq_true rfl⟩) x_preT rfl rfl hl.1 rfl (lv_room (Nat.le_of_ble_eq_true rfl)) dX4_card_11 ⟨Nat.le_of_ble_eq_true rfl, Nat.le_of_ble_eq_true rfl⟩) ?_
      refine x_ifz_eq (b := fX4_isStep a1 a2) (tgt := 29) hx hb dX4_card_14 (by decide) (fun c_3 => ?_) (fun c_3 => ?_)
      · exact x_throw hx hb hl9 hown (cls := "java/lang/IllegalArgumentException") (text := "no such card can be") (ik := 31) (is := 33) (ic := 35) hts hX hS hW (by decide +kernel) (by decide +kernel) (by decide +kernel) (by decide +kernel) (fun w h => List.mem_cons_of_mem _ (List.mem_append_left _ (List.mem_append_right _ h))) (by decide +kernel) (by decide +kernel) (hl.1.trans hml.symm) dX4_card_29 dX4_card_32 dX4_card_33 dX4_card_35 dX4_card_38 hno (Nat.le_of_ble_eq_true rfl) (Nat.le_of_ble_eq_true rfl) (Nat.le_of_ble_eq_true rfl) (Nat.le_of_ble_eq_true rfl) hlocks (Or.inl ⟨(show tX4_card nC a0 a1 a2 a3 = 1 from by unfold tX4_card; rw [if_neg c_1, if_neg c_2, if_neg (Bool.eq_false_iff.mp c_3)]), rfl⟩) (Nat.le_of_ble_eq_true rfl) (Nat.le_of_ble_eq_true rfl)
      · refine lv_iload hx hb dX4_card_17 (lv_at hl 4 rfl) ?_
        refine lv_iconst (v := 1) hx hb dX4_card_19 (by decide) ?_
        refine lv_icmp_lt (tgt := 29) hx hb dX4_card_20 (by decide) (fun c_4 => ?_) (fun c_4 => ?_)
        · exact x_throw hx hb hl9 hown (cls := "java/lang/IllegalArgumentException") (text := "no such card can be") (ik := 31) (is := 33) (ic := 35) hts hX hS hW (by decide +kernel) (by decide +kernel) (by decide +kernel) (by decide +kernel) (fun w h => List.mem_cons_of_mem _ (List.mem_append_left _ (List.mem_append_right _ h))) (by decide +kernel) (by decide +kernel) (hl.1.trans hml.symm) dX4_card_29 dX4_card_32 dX4_card_33 dX4_card_35 dX4_card_38 hno (Nat.le_of_ble_eq_true rfl) (Nat.le_of_ble_eq_true rfl) (Nat.le_of_ble_eq_true rfl) (Nat.le_of_ble_eq_true rfl) hlocks (Or.inl ⟨(show tX4_card nC a0 a1 a2 a3 = 1 from by unfold tX4_card; rw [if_neg c_1, if_neg c_2, if_pos c_3, if_pos c_4]), rfl⟩) (Nat.le_of_ble_eq_true rfl) (Nat.le_of_ble_eq_true rfl)
        · refine lv_iload hx hb dX4_card_23 (lv_at hl 4 rfl) ?_
          refine lv_iconst (v := 4) hx hb dX4_card_25 (by decide) ?_
          refine lv_icmp_le (tgt := 39) hx hb dX4_card_26 (by decide) (fun c_5 => ?_) (fun c_5 => ?_)
          · refine lv_aload_n hx hb dX4_card_39 rfl (lv_at hl 0 rfl) ?_
            refine va_get (D := G.1) (ci := 4) (v := .int (nI nC)) (C := RX4) (T := TX4) (N := 6) hx hb hts hiX4 hown hX.1 (x1 hW hE) 0 rfl rfl 3 (by decide) hf38 (fun _ h9 => h9) rfl dX4_card_40 ?_
            refine lv_aload_n hx hb dX4_card_43 rfl (lv_at hl 0 rfl) ?_
            refine va_get (D := G.1) (ci := 4) (v := .ref ct) (C := RX4) (T := TX4) (N := 6) hx hb hts hiX4 hown hX.1 (x1 hW hE) 0 rfl rfl 0 (by decide) hf11 (fun _ h9 => h9) rfl dX4_card_44 ?_
            refine va_alen (D := G.1) hx hb hX.1 (x1 hW hT.1) 0 2 rfl rfl (v := 8) rfl dX4_card_47 ?_
            refine lv_icmp_lt (tgt := 61) hx hb dX4_card_48 (by decide) (fun c_6 => ?_) (fun c_6 => ?_)
            · have hcn : nC < 8 := (nI_ltI (by have := hcb; omega) (by omega)).mp c_6
              refine lv_aload_n hx hb dX4_card_61 rfl (lv_at hl 0 rfl) ?_
              refine va_get (D := G.1) (ci := 4) (v := .int (nI nC)) (C := RX4) (T := TX4) (N := 6) hx hb hts hiX4 hown hX.1 (x1 hW hE) 0 rfl rfl 3 (by decide) hf38 (fun _ h9 => h9) rfl dX4_card_62 ?_
              refine lv_istore (lv' := [(5, .int (nI nC)), (0, .ref o), (1, .int a0), (2, .int a1), (3, .int a2), (4, .int a3)]) hx hb dX4_card_65 hl (by decide) rfl (fun ls hl => ?_)
              refine lv_aload_n hx hb dX4_card_67 rfl (lv_at hl 1 rfl) ?_
              refine va_get (D := G.1) (ci := 4) (v := .ref ct) (C := RX4) (T := TX4) (N := 6) hx hb hts hiX4 hown hX.1 (x1 hW hE) 0 rfl rfl 0 (by decide) hf11 (fun _ h9 => h9) rfl dX4_card_68 ?_
              refine lv_iload hx hb dX4_card_71 (lv_at hl 0 rfl) ?_
              refine x_new (G := G) (ci := 0) (fs := [.int 0, .int 0, .int 0, .int 0]) (C := RX0) (T := TX0) (N := 4) hx hb hts hiX0 tyX0 tyX0_ok hown hcl9 hinX0 hiniRX0 hX.1 hW hS rfl (fun j hj => by rcases (show j = 0 ∨ j = 1 ∨ j = 2 ∨ j = 3 by omega) with rfl | rfl | rfl | rfl <;> rfl) (Nat.le_of_ble_eq_true rfl) (Nat.le_of_ble_eq_true rfl) dX4_card_73 (fun q7 H1 hqq7 hzq7 hW1 hS1 => ?_)
              have hne8 : o ≠ q7 := by rw [hqq7]; exact Nat.ne_of_lt (hW.lt hE)
              have hne8' : q7 ≠ o := Ne.symm hne8
              have hne9 : ct ≠ q7 := by rw [hqq7]; exact Nat.ne_of_lt (hW.lt hT.1)
              have hne9' : q7 ≠ ct := Ne.symm hne9
              have hne10 : vt ≠ q7 := by rw [hqq7]; exact Nat.ne_of_lt (hW.lt hV.1)
              have hne10' : q7 ≠ vt := Ne.symm hne10
              have hne11 : gt ≠ q7 := by rw [hqq7]; exact Nat.ne_of_lt (hW.lt hGs.1)
              have hne11' : q7 ≠ gt := Ne.symm hne11
              have hnoq7 : E q7 = none := by rw [hqq7]; exact hW.new
              have hltq7 : G.2.2 ≤ q7 := by rw [hqq7]; exact hW.1
              have hW := hW1
              have hS := hS1
              generalize H1 = H at hW hS ⊢
              obtain ⟨E12, eE12⟩ : ∃ z, z = xU E q7 (.inr (0, [.int 0, .int 0, .int 0, .int 0])) := ⟨_, rfl⟩
              have hW : xW G E12 H := by rw [eE12]; exact hW
              have hE9 : E12 o = some (.inr (4, [.ref ct, .ref vt, .ref gt, .int (nI nC), .int (nI nV), .int (nI nG)])) := by rw [eE12]; exact (xU_ne _ _ hne8).trans hE
              have hv_ct9 : E12 ct = some (.inl (G.2.1 2, 8, .inr (.inr (.inr (.inr tb))))) := by rw [eE12]; exact (xU_ne _ _ hne9).trans hT.1
              have hv_vt9 : E12 vt = some (.inl (G.2.1 3, 4, .inr (.inr (.inr (.inr vb))))) := by rw [eE12]; exact (xU_ne _ _ hne10).trans hV.1
              have hv_gt9 : E12 gt = some (.inl (G.2.1 4, 12, .inr (.inr (.inr (.inr gb))))) := by rw [eE12]; exact (xU_ne _ _ hne11).trans hGs.1
              have hnq79 : E12 q7 = some (.inr (0, [.int 0, .int 0, .int 0, .int 0])) := by rw [eE12]; exact xU_self _ _ _
              refine lv_dup hx hb dX4_card_76 rfl ?_
              refine lv_iload_n hx hb dX4_card_77 rfl (lv_at hl 2 rfl) ?_
              refine lv_iload_n hx hb dX4_card_78 rfl (lv_at hl 3 rfl) ?_
              refine lv_iload_n hx hb dX4_card_79 rfl (lv_at hl 4 rfl) ?_
              refine lv_iload hx hb dX4_card_80 (lv_at hl 5 rfl) ?_
              refine va_callv (va_runI (As := [.int a0, .int a1, .int a2, .int a3]) (rest := [.ref q7, .int (nI nC), .ref ct]) ⟨hx, hb, hml, hown, hts⟩ (kX0_init l G _ q7 a0 a1 a2 a3 hnq79) (cwI 4 hts gX4_card_X0_init rfl rfl rfl hiniRX0 hml47 himX0_init rfl (by decide +kernel) ⟨Nat.le_of_ble_eq_true rfl, Nat.le_of_ble_eq_true rfl⟩) (x_preS hX hS hW) rfl rfl hl.1 rfl (lv_room (Nat.le_of_ble_eq_true rfl)) dX4_card_82 ⟨Nat.le_of_ble_eq_true rfl, Nat.le_of_ble_eq_true rfl⟩) hS (fun _ _ h => h) (fun _ h => h) (fun E13 t H1 locs1 ht hvm hw hB hz1 hk1 hS1 => ?_)
              rw [ht] at hB
              have hS := hS1
              have ehE13 : E13 = xU E12 q7 (.inr (0, [.int a0, .int a1, .int a2, .int (if a0 = 0 then (1 : Int32) else a3)])) := hw
              have hW : xW G E13 H1 := hB
              have hE99 : E13 o = some (.inr (4, [.ref ct, .ref vt, .ref gt, .int (nI nC), .int (nI nV), .int (nI nG)])) := by rw [ehE13]; exact (xU_ne _ _ hne8).trans (hE9)
              have hv_ct99 : E13 ct = some (.inl (G.2.1 2, 8, .inr (.inr (.inr (.inr tb))))) := by rw [ehE13]; exact (xU_ne _ _ hne9).trans (hv_ct9)
              have hv_vt99 : E13 vt = some (.inl (G.2.1 3, 4, .inr (.inr (.inr (.inr vb))))) := by rw [ehE13]; exact (xU_ne _ _ hne10).trans (hv_vt9)
              have hv_gt99 : E13 gt = some (.inl (G.2.1 4, 12, .inr (.inr (.inr (.inr gb))))) := by rw [ehE13]; exact (xU_ne _ _ hne11).trans (hv_gt9)
              have hnew15 : E13 q7 = some (.inr (0, [.int a0, .int a1, .int a2, .int (if a0 = 0 then (1 : Int32) else a3)])) := by rw [ehE13]; exact xU_self _ _ _
              refine x_astq (G := G) hx hb hX.1 hW hS 2 0 hv_ct99 rfl hnew15 rfl (vp_in_nI hcn (by omega)) dX4_card_85 (fun H locs hW hS => ?_)
              rw [show (nI nC).toNatClampNeg = nC from (nI_clamp (by omega))] at hW
              obtain ⟨E16, eE16⟩ : ∃ z, z = xU E13 ct (.inl (G.2.1 2, 8, .inr (.inr (.inr (.inr (va_up tb nC (some q7))))))) := ⟨_, rfl⟩
              have hW : xW G E16 H := by rw [eE16]; exact hW
              have hE999 : E16 o = some (.inr (4, [.ref ct, .ref vt, .ref gt, .int (nI nC), .int (nI nV), .int (nI nG)])) := by rw [eE16]; exact xU_of hE99 hv_ct99 (fun h => by simp at h)
              have hv_vt999 : E16 vt = some (.inl (G.2.1 3, 4, .inr (.inr (.inr (.inr vb))))) := by rw [eE16]; exact xU_of hv_vt99 hv_ct99 (fun h => by simp at h)
              have hv_gt999 : E16 gt = some (.inl (G.2.1 4, 12, .inr (.inr (.inr (.inr gb))))) := by rw [eE16]; exact xU_of hv_gt99 hv_ct99 (fun h => by simp at h)
              have hnew159 : E16 q7 = some (.inr (0, [.int a0, .int a1, .int a2, .int (if a0 = 0 then (1 : Int32) else a3)])) := by rw [eE16]; exact (xU_ne _ _ hne9').trans hnew15
              have hv_ct999 : E16 ct = some (.inl (G.2.1 2, 8, .inr (.inr (.inr (.inr (va_up tb nC (some q7))))))) := by rw [eE16]; exact xU_self _ _ _
              refine lv_aload_n hx hb dX4_card_86 rfl (lv_at hl 1 rfl) ?_
              refine lv_iload hx hb dX4_card_87 (lv_at hl 0 rfl) ?_
              refine lv_iconst (v := 1) hx hb dX4_card_89 (by decide) ?_
              refine lv_iadd hx hb dX4_card_90 ?_
              rw [nI_1]
              refine x_put (G := G) (ci := 4) (v := .int (nI (nC + 1))) (ty := .int) (C := RX4) (T := TX4) (N := 6) hx hb hts hiX4 tyX4 tyX4_ok nmX4 hown hX.1 hW hS hE999 rfl 3 (by decide) hf38 (fun _ h9 => h9) rfl (by decide +kernel) rfl rfl (Nat.le_of_ble_eq_true rfl) dX4_card_91 (fun H locs hW hS => ?_)
              obtain ⟨E17, eE17⟩ : ∃ z, z = xU E16 o (.inr (4, [.ref ct, .ref vt, .ref gt, .int (nI (nC + 1)), .int (nI nV), .int (nI nG)])) := ⟨_, rfl⟩
              have hW : xW G E17 H := by rw [eE17]; exact hW
              have hv_ct9999 : E17 ct = some (.inl (G.2.1 2, 8, .inr (.inr (.inr (.inr (va_up tb nC (some q7))))))) := by rw [eE17]; exact xU_of hv_ct999 hE999 (fun h => by simp at h)
              have hv_vt9999 : E17 vt = some (.inl (G.2.1 3, 4, .inr (.inr (.inr (.inr vb))))) := by rw [eE17]; exact xU_of hv_vt999 hE999 (fun h => by simp at h)
              have hv_gt9999 : E17 gt = some (.inl (G.2.1 4, 12, .inr (.inr (.inr (.inr gb))))) := by rw [eE17]; exact xU_of hv_gt999 hE999 (fun h => by simp at h)
              have hnew1599 : E17 q7 = some (.inr (0, [.int a0, .int a1, .int a2, .int (if a0 = 0 then (1 : Int32) else a3)])) := by rw [eE17]; exact (xU_ne _ _ hne8').trans hnew159
              have hE9999 : E17 o = some (.inr (4, [.ref ct, .ref vt, .ref gt, .int (nI (nC + 1)), .int (nI nV), .int (nI nG)])) := by rw [eE17]; exact xU_self _ _ _
              refine lv_iload hx hb dX4_card_94 (lv_at hl 0 rfl) ?_
              exact vx_ret (W.widen (k := 1) (n := 6) (Nat.le_of_ble_eq_true rfl) (Nat.le_of_ble_eq_true rfl) (W.iret (v := nI nC) hx hb hr (fun t ht hw => ⟨⟨_, E17, rfl, ⟨(show tX4_card nC a0 a1 a2 a3 = 0 from by unfold tX4_card; rw [if_neg c_1, if_neg c_2, if_pos c_3, if_neg c_4, if_pos c_5, if_pos c_6]), rfl, hcn, q7, xCls_card (q := q7) hCls0 hcn hnoq7 a0 a1 a2 (if a0 = 0 then (1 : Int32) else a3) (x_reach (show tX4_card nC a0 a1 a2 a3 = 0 from by unfold tX4_card; rw [if_neg c_1, if_neg c_2, if_pos c_3, if_neg c_4, if_pos c_5, if_pos c_6])).choose_spec.1 (x_reach (show tX4_card nC a0 a1 a2 a3 = 0 from by unfold tX4_card; rw [if_neg c_1, if_neg c_2, if_pos c_3, if_neg c_4, if_pos c_5, if_pos c_6])).choose_spec.2 (by rw [eE17, eE16, ehE13, eE12]; simp only [xU_xU])⟩, (show xW G E17 t.heap from by rw [ht]; exact hW)⟩, hS.F ht⟩) hS.2.2 dX4_card_96))
            · exact x_throw hx hb hl9 hown (cls := "java/lang/IllegalStateException") (text := "there are 8 cards") (ik := 42) (is := 44) (ic := 46) hts hX hS hW (by decide +kernel) (by decide +kernel) (by decide +kernel) (by decide +kernel) (fun w h => List.mem_cons_of_mem _ (List.mem_append_right _ h)) (by decide +kernel) (by decide +kernel) (hl.1.trans hml.symm) dX4_card_51 dX4_card_54 dX4_card_55 dX4_card_57 dX4_card_60 hno (Nat.le_of_ble_eq_true rfl) (Nat.le_of_ble_eq_true rfl) (Nat.le_of_ble_eq_true rfl) (Nat.le_of_ble_eq_true rfl) hlocks (Or.inr (Or.inl ⟨(show tX4_card nC a0 a1 a2 a3 = 2 from by unfold tX4_card; rw [if_neg c_1, if_neg c_2, if_pos c_3, if_neg c_4, if_pos c_5, if_neg c_6]), rfl⟩)) (Nat.le_of_ble_eq_true rfl) (Nat.le_of_ble_eq_true rfl)
          · exact x_throw hx hb hl9 hown (cls := "java/lang/IllegalArgumentException") (text := "no such card can be") (ik := 31) (is := 33) (ic := 35) hts hX hS hW (by decide +kernel) (by decide +kernel) (by decide +kernel) (by decide +kernel) (fun w h => List.mem_cons_of_mem _ (List.mem_append_left _ (List.mem_append_right _ h))) (by decide +kernel) (by decide +kernel) (hl.1.trans hml.symm) dX4_card_29 dX4_card_32 dX4_card_33 dX4_card_35 dX4_card_38 hno (Nat.le_of_ble_eq_true rfl) (Nat.le_of_ble_eq_true rfl) (Nat.le_of_ble_eq_true rfl) (Nat.le_of_ble_eq_true rfl) hlocks (Or.inl ⟨(show tX4_card nC a0 a1 a2 a3 = 1 from by unfold tX4_card; rw [if_neg c_1, if_neg c_2, if_pos c_3, if_neg c_4, if_neg c_5]), rfl⟩) (Nat.le_of_ble_eq_true rfl) (Nat.le_of_ble_eq_true rfl)
