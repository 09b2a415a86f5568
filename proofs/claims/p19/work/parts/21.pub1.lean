def tX4_state (nG : Nat) (a0 : Int32) : Nat := if (tIx (nI nG) a0) = 0 then (0) else tIx (nI nG) a0
set_option maxHeartbeats 4000000 in
set_option maxRecDepth 100000 in
theorem kX4_state (l : Launch) (hl9 : l.stackTraces = false) (G : xG) (E : xE) (o : Nat) (a0 : Int32) (ct vt gt : Nat) (tb vb gb : Nat → Option Nat) (sa : Nat → Nat) (nC nV nG : Nat) (σ : xSg) (hCls : xCls G E o ct vt gt tb vb gb sa nC nV nG σ) : vx_Met l yX4_state wsX4_state ({ frames := 7, cells := 1, slots := 6, locals := 112 }) (va_Pc [.ref o, .int a0] (xB G E)) (va_Qi (S := xE) (fun r E' => tX4_state nG a0 = 0 ∧ E' = E ∧ ∃ u d v : Nat, a0 = nI u ∧ u < nG ∧ v < nV ∧ xGm σ u d v ∧ (σ 15 u = 0 → d < 60) ∧ r = σ 15 u) (fun E' t => xW G E' t.heap) (xA G)) (xX G E (fun n => xEx n (tX4_state nG a0))) 1 6 (xA G) := by
  refine vx_ofW (cc := cX4_state) (maxL := 2) (ret := (some .int)) (by decide) rfl ?_
  intro p e s m args below meth c s₁ B hml hno hv
  obtain ⟨rfl, hX, hW⟩ := hv
  have hx := B.exec
  have hb := B.bytes
  have hr := B.returns
  have hts := atoms_spec (ws := wsX4_state) B.pre
  have hown : s.vm.findClass RX4 = some m.cls := findClass_of_methodNamed B.named
  have hlocks := B.notSynchronized
  have hS : va_S (xA G) s.heap s.heap [] := va_S.rf
  have hiX1 : ∀ w ∈ u_ws RX1 TX1 9, w ∈ wsX4_state := by decide +kernel
  have hf121 := hts (Cond.fieldLink RX4 121 "VariantMill$Game" "state" "I") (by decide +kernel)
  have hl := lv_entry ([.ref o, .int a0]) (n := 2) (Nat.le_of_ble_eq_true rfl)
  rw [lg_entry_eq]
  generalize (lg_sl ([.ref o, .int a0]) ++ List.replicate (2 - (lg_sl ([.ref o, .int a0])).length) Slot.unset).toArray = ls at hl ⊢
  have hl : lv_has ls 2 [(0, .ref o), (1, .int a0)] := hl
  obtain ⟨H, hH⟩ : ∃ z, z = s.heap := ⟨_, rfl⟩
  rw [← hH] at hW
  have hS : va_S (xA G) s.heap H [] := by rw [hH]; exact hS
  rw [← hH]
  obtain ⟨hE, h0, h5, h10, hT, hV, hGs⟩ := hCls
  refine lv_aload_n hx hb dX4_state_0 rfl (lv_at hl 0 rfl) ?_
  refine lv_iload_n hx hb dX4_state_1 rfl (lv_at hl 1 rfl) ?_
  refine vx_callr (vx_runV (As := [.int a0]) (rest := []) ⟨hx, hb, hml, hown, hts⟩ (kX4_gameAt l hl9 G E o a0 ct vt gt nC nV nG gb hE hGs.1 hGs.2.1 hGs.2.2.1 hGs.some) (cwV 1 hts gX4_state_X4_gameAt rfl rfl rfl (by decide +kernel) ⟨Nat.le_of_ble_eq_true rfl, Nat.le_of_ble_eq_true rfl⟩) (x_preV hX hS hW hE rfl) rfl rfl hl.1 rfl (lv_room (Nat.le_of_ble_eq_true rfl)) dX4_state_2 ⟨Nat.le_of_ble_eq_true rfl, Nat.le_of_ble_eq_true rfl⟩) hS (fun _ _ h => h) (fun _ h => h) (fun _ _ h => h) (fun Ex ce q9 ux t H1 locs1 ht hvm hpx hB hz1 hk1 hS1 hce hcv hcl => ?_) (fun E1 r2 t H1 locs1 ht hvm hw hB hz1 hk1 hS1 => ?_)
  · obtain ⟨hpx, hB⟩ := hB
    rw [ht] at hB
    exact vx_widen (k := 1) (n := 6) (Nat.le_of_ble_eq_true rfl) (Nat.le_of_ble_eq_true rfl) (vx_out (fun x hx9 => (hno x hx9).elim) hlocks hce hcv hcl (fun t9 ht9 hv9 => ⟨(), trivial, ⟨(by rw [(show tX4_state nG a0 = tIx (nI nG) a0 from by unfold tX4_state; rw [if_neg (xEx_ne hpx)])]; exact hpx), by rw [ht9]; exact hB⟩, hS1.F ht9⟩) hS1.2.2 (Nat.le_refl _) (Nat.le_refl _))
  · rw [ht] at hB
    have hS := hS1
    obtain ⟨⟨u, hau, hu, hgb, hEe⟩, hB⟩ := hB
    rw [hEe] at hB
    have hW : xW G E H1 := hB
    obtain ⟨ga, hga, va, gr, v, d, sq, hG1, h16, h60, h11, hvl, hvb, hGr, hSn, hsq, hop⟩ := hGs.2.2.2.1 u hu
    obtain rfl : r2 = ga := Option.some.inj (hgb.symm.trans hga)
    obtain ⟨va2, vr, hva, hVa, hVr⟩ := hV.2.2.2.1 v hvl
    obtain rfl : va = va2 := Option.some.inj (hvb.symm.trans hva)
    have ht0 : tIx (nI nG) a0 = 0 := by rw [hau]; exact tIx_ok hu (by have := hGs.2.1; omega)
    have hGm : xGm σ u d v := ⟨by have := hGs.2.1; omega, h16, h60, h11, by have := hV.2.1; omega⟩
    refine va_get (D := G.1) (ci := 1) (v := .int (σ 15 u)) (C := RX1) (T := TX1) (N := 9) hx hb hts hiX1 hown hX.1 (x1 hW hG1) 0 rfl rfl 8 (by decide) hf121 (fun _ h9 => h9) rfl dX4_state_5 ?_
    exact vx_ret (W.widen (k := 1) (n := 6) (Nat.le_of_ble_eq_true rfl) (Nat.le_of_ble_eq_true rfl) (W.iret (v := σ 15 u) hx hb hr (fun t ht hw => ⟨⟨_, E, rfl, ⟨(show tX4_state nG a0 = 0 from by unfold tX4_state; rw [if_pos ht0]), rfl, u, d, v, hau, hu, hvl, hGm, hop, rfl⟩, (show xW G E t.heap from by rw [ht]; exact hW)⟩, hS.F ht⟩) hS.2.2 dX4_state_8))

def tX4_made (nG : Nat) (a0 : Int32) : Nat := if (tIx (nI nG) a0) = 0 then (0) else tIx (nI nG) a0
set_option maxHeartbeats 4000000 in
set_option maxRecDepth 100000 in
theorem kX4_made (l : Launch) (hl9 : l.stackTraces = false) (G : xG) (E : xE) (o : Nat) (a0 : Int32) (ct vt gt : Nat) (tb vb gb : Nat → Option Nat) (sa : Nat → Nat) (nC nV nG : Nat) (σ : xSg) (hCls : xCls G E o ct vt gt tb vb gb sa nC nV nG σ) : vx_Met l yX4_made wsX4_made ({ frames := 7, cells := 1, slots := 6, locals := 112 }) (va_Pc [.ref o, .int a0] (xB G E)) (va_Qi (S := xE) (fun r E' => tX4_made nG a0 = 0 ∧ E' = E ∧ ∃ u d v : Nat, a0 = nI u ∧ u < nG ∧ v < nV ∧ xGm σ u d v ∧ (σ 15 u = 0 → d < 60) ∧ r = nI d) (fun E' t => xW G E' t.heap) (xA G)) (xX G E (fun n => xEx n (tX4_made nG a0))) 1 6 (xA G) := by
  refine vx_ofW (cc := cX4_made) (maxL := 2) (ret := (some .int)) (by decide) rfl ?_
  intro p e s m args below meth c s₁ B hml hno hv
  obtain ⟨rfl, hX, hW⟩ := hv
  have hx := B.exec
  have hb := B.bytes
  have hr := B.returns
  have hts := atoms_spec (ws := wsX4_made) B.pre
  have hown : s.vm.findClass RX4 = some m.cls := findClass_of_methodNamed B.named
  have hlocks := B.notSynchronized
  have hS : va_S (xA G) s.heap s.heap [] := va_S.rf
  have hiX1 : ∀ w ∈ u_ws RX1 TX1 9, w ∈ wsX4_made := by decide +kernel
  have hf147 := hts (Cond.fieldLink RX4 147 "VariantMill$Game" "made" "I") (by decide +kernel)
  have hl := lv_entry ([.ref o, .int a0]) (n := 2) (Nat.le_of_ble_eq_true rfl)
  rw [lg_entry_eq]
  generalize (lg_sl ([.ref o, .int a0]) ++ List.replicate (2 - (lg_sl ([.ref o, .int a0])).length) Slot.unset).toArray = ls at hl ⊢
  have hl : lv_has ls 2 [(0, .ref o), (1, .int a0)] := hl
  obtain ⟨H, hH⟩ : ∃ z, z = s.heap := ⟨_, rfl⟩
  rw [← hH] at hW
  have hS : va_S (xA G) s.heap H [] := by rw [hH]; exact hS
  rw [← hH]
  obtain ⟨hE, h0, h5, h10, hT, hV, hGs⟩ := hCls
  refine lv_aload_n hx hb dX4_made_0 rfl (lv_at hl 0 rfl) ?_
  refine lv_iload_n hx hb dX4_made_1 rfl (lv_at hl 1 rfl) ?_
  refine vx_callr (vx_runV (As := [.int a0]) (rest := []) ⟨hx, hb, hml, hown, hts⟩ (kX4_gameAt l hl9 G E o a0 ct vt gt nC nV nG gb hE hGs.1 hGs.2.1 hGs.2.2.1 hGs.some) (cwV 1 hts gX4_made_X4_gameAt rfl rfl rfl (by decide +kernel) ⟨Nat.le_of_ble_eq_true rfl, Nat.le_of_ble_eq_true rfl⟩) (x_preV hX hS hW hE rfl) rfl rfl hl.1 rfl (lv_room (Nat.le_of_ble_eq_true rfl)) dX4_made_2 ⟨Nat.le_of_ble_eq_true rfl, Nat.le_of_ble_eq_true rfl⟩) hS (fun _ _ h => h) (fun _ h => h) (fun _ _ h => h) (fun Ex ce q9 ux t H1 locs1 ht hvm hpx hB hz1 hk1 hS1 hce hcv hcl => ?_) (fun E1 r2 t H1 locs1 ht hvm hw hB hz1 hk1 hS1 => ?_)
  · obtain ⟨hpx, hB⟩ := hB
    rw [ht] at hB
    exact vx_widen (k := 1) (n := 6) (Nat.le_of_ble_eq_true rfl) (Nat.le_of_ble_eq_true rfl) (vx_out (fun x hx9 => (hno x hx9).elim) hlocks hce hcv hcl (fun t9 ht9 hv9 => ⟨(), trivial, ⟨(by rw [(show tX4_made nG a0 = tIx (nI nG) a0 from by unfold tX4_made; rw [if_neg (xEx_ne hpx)])]; exact hpx), by rw [ht9]; exact hB⟩, hS1.F ht9⟩) hS1.2.2 (Nat.le_refl _) (Nat.le_refl _))
  · rw [ht] at hB
    have hS := hS1
    obtain ⟨⟨u, hau, hu, hgb, hEe⟩, hB⟩ := hB
    rw [hEe] at hB
    have hW : xW G E H1 := hB
    obtain ⟨ga, hga, va, gr, v, d, sq, hG1, h16, h60, h11, hvl, hvb, hGr, hSn, hsq, hop⟩ := hGs.2.2.2.1 u hu
    obtain rfl : r2 = ga := Option.some.inj (hgb.symm.trans hga)
    obtain ⟨va2, vr, hva, hVa, hVr⟩ := hV.2.2.2.1 v hvl
    obtain rfl : va = va2 := Option.some.inj (hvb.symm.trans hva)
    have ht0 : tIx (nI nG) a0 = 0 := by rw [hau]; exact tIx_ok hu (by have := hGs.2.1; omega)
    have hGm : xGm σ u d v := ⟨by have := hGs.2.1; omega, h16, h60, h11, by have := hV.2.1; omega⟩
    refine va_get (D := G.1) (ci := 1) (v := .int (nI d)) (C := RX1) (T := TX1) (N := 9) hx hb hts hiX1 hown hX.1 (x1 hW hG1) 0 rfl rfl 7 (by decide) hf147 (fun _ h9 => h9) rfl dX4_made_5 ?_
    exact vx_ret (W.widen (k := 1) (n := 6) (Nat.le_of_ble_eq_true rfl) (Nat.le_of_ble_eq_true rfl) (W.iret (v := nI d) hx hb hr (fun t ht hw => ⟨⟨_, E, rfl, ⟨(show tX4_made nG a0 = 0 from by unfold tX4_made; rw [if_pos ht0]), rfl, u, d, v, hau, hu, hvl, hGm, hop, rfl⟩, (show xW G E t.heap from by rw [ht]; exact hW)⟩, hS.F ht⟩) hS.2.2 dX4_made_8))

def tX4_pieces (nG : Nat) (a0 : Int32) : Nat := if (tIx (nI nG) a0) = 0 then (0) else tIx (nI nG) a0
set_option maxHeartbeats 4000000 in
set_option maxRecDepth 100000 in
theorem kX4_pieces (l : Launch) (hl9 : l.stackTraces = false) (G : xG) (E : xE) (o : Nat) (a0 : Int32) (a1 : Bool) (ct vt gt : Nat) (tb vb gb : Nat → Option Nat) (sa : Nat → Nat) (nC nV nG : Nat) (σ : xSg) (hCls : xCls G E o ct vt gt tb vb gb sa nC nV nG σ) : vx_Met l yX4_pieces wsX4_pieces ({ frames := 7, cells := 1, slots := 6, locals := 112 }) (va_Pc [.ref o, .int a0, .int (zI a1)] (xB G E)) (va_Qi (S := xE) (fun r E' => tX4_pieces nG a0 = 0 ∧ E' = E ∧ ∃ u d v : Nat, a0 = nI u ∧ u < nG ∧ v < nV ∧ xGm σ u d v ∧ (σ 15 u = 0 → d < 60) ∧ r = (if a1 = true then σ 18 (61 * u + d) else σ 17 (61 * u + d))) (fun E' t => xW G E' t.heap) (xA G)) (xX G E (fun n => xEx n (tX4_pieces nG a0))) 1 6 (xA G) := by
  refine vx_ofW (cc := cX4_pieces) (maxL := 4) (ret := (some .int)) (by decide) rfl ?_
  intro p e s m args below meth c s₁ B hml hno hv
  obtain ⟨rfl, hX, hW⟩ := hv
  have hx := B.exec
  have hb := B.bytes
  have hr := B.returns
  have hts := atoms_spec (ws := wsX4_pieces) B.pre
  have hown : s.vm.findClass RX4 = some m.cls := findClass_of_methodNamed B.named
  have hlocks := B.notSynchronized
  have hS : va_S (xA G) s.heap s.heap [] := va_S.rf
  have hiX1 : ∀ w ∈ u_ws RX1 TX1 9, w ∈ wsX4_pieces := by decide +kernel
  have hf144 := hts (Cond.fieldLink RX4 144 "VariantMill$Game" "ofFirst" "I") (by decide +kernel)
  have hf141 := hts (Cond.fieldLink RX4 141 "VariantMill$Game" "ofSecond" "I") (by decide +kernel)
  have hl := lv_entry ([.ref o, .int a0, .int (zI a1)]) (n := 4) (Nat.le_of_ble_eq_true rfl)
  rw [lg_entry_eq]
  generalize (lg_sl ([.ref o, .int a0, .int (zI a1)]) ++ List.replicate (4 - (lg_sl ([.ref o, .int a0, .int (zI a1)])).length) Slot.unset).toArray = ls at hl ⊢
  have hl : lv_has ls 4 [(0, .ref o), (1, .int a0), (2, .int (zI a1))] := hl
  obtain ⟨H, hH⟩ : ∃ z, z = s.heap := ⟨_, rfl⟩
  rw [← hH] at hW
  have hS : va_S (xA G) s.heap H [] := by rw [hH]; exact hS
  rw [← hH]
  obtain ⟨hE, h0, h5, h10, hT, hV, hGs⟩ := hCls
  refine lv_aload_n hx hb dX4_pieces_0 rfl (lv_at hl 0 rfl) ?_
  refine lv_iload_n hx hb dX4_pieces_1 rfl (lv_at hl 1 rfl) ?_
  refine vx_callr (vx_runV (As := [.int a0]) (rest := []) ⟨hx, hb, hml, hown, hts⟩ (kX4_gameAt l hl9 G E o a0 ct vt gt nC nV nG gb hE hGs.1 hGs.2.1 hGs.2.2.1 hGs.some) (cwV 1 hts gX4_pieces_X4_gameAt rfl rfl rfl (by decide +kernel) ⟨Nat.le_of_ble_eq_true rfl, Nat.le_of_ble_eq_true rfl⟩) (x_preV hX hS hW hE rfl) rfl rfl hl.1 rfl (lv_room (Nat.le_of_ble_eq_true rfl)) dX4_pieces_2 ⟨Nat.le_of_ble_eq_true rfl, Nat.le_of_ble_eq_true rfl⟩) hS (fun _ _ h => h) (fun _ h => h) (fun _ _ h => h) (fun Ex ce q9 ux t H1 locs1 ht hvm hpx hB hz1 hk1 hS1 hce hcv hcl => ?_) (fun E1 r2 t H1 locs1 ht hvm hw hB hz1 hk1 hS1 => ?_)
  · obtain ⟨hpx, hB⟩ := hB
    rw [ht] at hB
    exact vx_widen (k := 1) (n := 6) (Nat.le_of_ble_eq_true rfl) (Nat.le_of_ble_eq_true rfl) (vx_out (fun x hx9 => (hno x hx9).elim) hlocks hce hcv hcl (fun t9 ht9 hv9 => ⟨(), trivial, ⟨(by rw [(show tX4_pieces nG a0 = tIx (nI nG) a0 from by unfold tX4_pieces; rw [if_neg (xEx_ne hpx)])]; exact hpx), by rw [ht9]; exact hB⟩, hS1.F ht9⟩) hS1.2.2 (Nat.le_refl _) (Nat.le_refl _))
  · rw [ht] at hB
    have hS := hS1
    obtain ⟨⟨u, hau, hu, hgb, hEe⟩, hB⟩ := hB
    rw [hEe] at hB
    have hW : xW G E H1 := hB
    obtain ⟨ga, hga, va, gr, v, d, sq, hG1, h16, h60, h11, hvl, hvb, hGr, hSn, hsq, hop⟩ := hGs.2.2.2.1 u hu
    obtain rfl : r2 = ga := Option.some.inj (hgb.symm.trans hga)
    obtain ⟨va2, vr, hva, hVa, hVr⟩ := hV.2.2.2.1 v hvl
    obtain rfl : va = va2 := Option.some.inj (hvb.symm.trans hva)
    have ht0 : tIx (nI nG) a0 = 0 := by rw [hau]; exact tIx_ok hu (by have := hGs.2.1; omega)
    have hGm : xGm σ u d v := ⟨by have := hGs.2.1; omega, h16, h60, h11, by have := hV.2.1; omega⟩
    refine lv_astore_n (lv' := [(3, .ref r2), (0, .ref o), (1, .int a0), (2, .int (zI a1))]) hx hb dX4_pieces_5 rfl hl (by decide) rfl (fun ls hl => ?_)
    refine lv_iload_n hx hb dX4_pieces_6 rfl (lv_at hl 3 rfl) ?_
    refine x_join (ls' := ls) (rest' := []) 21 ((if a1 = true then ((σ 18 (61 * u + d))) else ((σ 17 (61 * u + d))))) (fun v ev => ?_) (fun J => ?_)
    · subst ev
      exact vx_ret (W.widen (k := 1) (n := 6) (Nat.le_of_ble_eq_true rfl) (Nat.le_of_ble_eq_true rfl) (W.iret (v := (if a1 = true then ((σ 18 (61 * u + d))) else ((σ 17 (61 * u + d))))) hx hb hr (fun t ht hw => ⟨⟨_, E, rfl, ⟨(show tX4_pieces nG a0 = 0 from by unfold tX4_pieces; rw [if_pos ht0]), rfl, u, d, v, hau, hu, hvl, hGm, hop, rfl⟩, (show xW G E t.heap from by rw [ht]; exact hW)⟩, hS.F ht⟩) hS.2.2 dX4_pieces_21))
    · refine x_ifz_eq (b := a1) (tgt := 17) hx hb dX4_pieces_7 (by decide) (fun c_4 => ?_) (fun c_4 => ?_)
      · refine lv_aload_n hx hb dX4_pieces_17 rfl (lv_at hl 0 rfl) ?_
        refine va_get (D := G.1) (ci := 1) (v := .int (σ 17 (61 * u + d))) (C := RX1) (T := TX1) (N := 9) hx hb hts hiX1 hown hX.1 (x1 hW hG1) 0 rfl rfl 5 (by decide) hf144 (fun _ h9 => h9) rfl dX4_pieces_18 ?_
        exact J _ (show (σ 17 (61 * u + d) : Int32) = if a1 = true then ((σ 18 (61 * u + d))) else ((σ 17 (61 * u + d))) from by rw [if_neg (Bool.eq_false_iff.mp c_4)])
      · refine lv_aload_n hx hb dX4_pieces_10 rfl (lv_at hl 0 rfl) ?_
        refine va_get (D := G.1) (ci := 1) (v := .int (σ 18 (61 * u + d))) (C := RX1) (T := TX1) (N := 9) hx hb hts hiX1 hown hX.1 (x1 hW hG1) 0 rfl rfl 6 (by decide) hf141 (fun _ h9 => h9) rfl dX4_pieces_11 ?_
        refine lv_goto (tgt := 21) hx hb dX4_pieces_14 (by decide) ?_
        exact J _ (show (σ 18 (61 * u + d) : Int32) = if a1 = true then ((σ 18 (61 * u + d))) else ((σ 17 (61 * u + d))) from by rw [if_pos c_4])

def tX4_can (nG : Nat) (a0 a1 a2 : Int32) : Nat := if (tIx (nI nG) a0) = 0 then (if (tX4_checkCell a1) = 0 then (if (tX4_checkCell a2) = 0 then (0) else tX4_checkCell a2) else tX4_checkCell a1) else tIx (nI nG) a0
set_option maxHeartbeats 4000000 in
set_option maxRecDepth 100000 in
theorem kX4_can (l : Launch) (hl9 : l.stackTraces = false) (G : xG) (E : xE) (o : Nat) (a0 : Int32) (a1 : Int32) (a2 : Int32) (ct vt gt : Nat) (tb vb gb : Nat → Option Nat) (sa : Nat → Nat) (nC nV nG : Nat) (σ : xSg) (hCls : xCls G E o ct vt gt tb vb gb sa nC nV nG σ) : vx_Met l yX4_can wsX4_can ({ frames := 7, cells := 3, slots := 18, locals := 112 }) (va_Pc [.ref o, .int a0, .int a1, .int a2] (xB G E)) (va_Qi (S := xE) (fun r E' => tX4_can nG a0 a1 a2 = 0 ∧ E' = E ∧ ∃ u d v : Nat, a0 = nI u ∧ u < nG ∧ v < nV ∧ xGm σ u d v ∧ (σ 15 u = 0 → d < 60) ∧ r = zI (fX1_allows σ nC (σ 12 u) (σ 6 v) (σ 17 (61 * u + d)) (σ 18 (61 * u + d)) (nI d) (σ 15 u) a1 a2)) (fun E' t => xW G E' t.heap) (xA G)) (xX G E (fun n => xEx n (tX4_can nG a0 a1 a2))) 3 18 (xA G) := by
  refine vx_ofW (cc := cX4_can) (maxL := 5) (ret := (some .boolean)) (by decide) rfl ?_
  intro p e s m args below meth c s₁ B hml hno hv
  obtain ⟨rfl, hX, hW⟩ := hv
  have hx := B.exec
  have hb := B.bytes
  have hr := B.returns
  have hts := atoms_spec (ws := wsX4_can) B.pre
  have hown : s.vm.findClass RX4 = some m.cls := findClass_of_methodNamed B.named
  have hlocks := B.notSynchronized
  have hS : va_S (xA G) s.heap s.heap [] := va_S.rf
  have hl := lv_entry ([.ref o, .int a0, .int a1, .int a2]) (n := 5) (Nat.le_of_ble_eq_true rfl)
  rw [lg_entry_eq]
  generalize (lg_sl ([.ref o, .int a0, .int a1, .int a2]) ++ List.replicate (5 - (lg_sl ([.ref o, .int a0, .int a1, .int a2])).length) Slot.unset).toArray = ls at hl ⊢
  have hl : lv_has ls 5 [(0, .ref o), (1, .int a0), (2, .int a1), (3, .int a2)] := hl
  obtain ⟨H, hH⟩ : ∃ z, z = s.heap := ⟨_, rfl⟩
  rw [← hH] at hW
  have hS : va_S (xA G) s.heap H [] := by rw [hH]; exact hS
  rw [← hH]
  obtain ⟨hE, h0, h5, h10, hT, hV, hGs⟩ := hCls
  refine lv_aload_n hx hb dX4_can_0 rfl (lv_at hl 0 rfl) ?_
  refine lv_iload_n hx hb dX4_can_1 rfl (lv_at hl 1 rfl) ?_
  refine vx_callr (vx_runV (As := [.int a0]) (rest := []) ⟨hx, hb, hml, hown, hts⟩ (kX4_gameAt l hl9 G E o a0 ct vt gt nC nV nG gb hE hGs.1 hGs.2.1 hGs.2.2.1 hGs.some) (cwV 1 hts gX4_can_X4_gameAt rfl rfl rfl (by decide +kernel) ⟨Nat.le_of_ble_eq_true rfl, Nat.le_of_ble_eq_true rfl⟩) (x_preV hX hS hW hE rfl) rfl rfl hl.1 rfl (lv_room (Nat.le_of_ble_eq_true rfl)) dX4_can_2 ⟨Nat.le_of_ble_eq_true rfl, Nat.le_of_ble_eq_true rfl⟩) hS (fun _ _ h => h) (fun _ h => h) (fun _ _ h => h) (fun Ex ce q9 ux t H1 locs1 ht hvm hpx hB hz1 hk1 hS1 hce hcv hcl => ?_) (fun E1 r2 t H1 locs1 ht hvm hw hB hz1 hk1 hS1 => ?_)
  · obtain ⟨hpx, hB⟩ := hB
    rw [ht] at hB
    exact vx_widen (k := 3) (n := 18) (Nat.le_of_ble_eq_true rfl) (Nat.le_of_ble_eq_true rfl) (vx_out (fun x hx9 => (hno x hx9).elim) hlocks hce hcv hcl (fun t9 ht9 hv9 => ⟨(), trivial, ⟨(by rw [(show tX4_can nG a0 a1 a2 = tIx (nI nG) a0 from by unfold tX4_can; rw [if_neg (xEx_ne hpx)])]; exact hpx), by rw [ht9]; exact hB⟩, hS1.F ht9⟩) hS1.2.2 (Nat.le_refl _) (Nat.le_refl _))
  · rw [ht] at hB
    have hS := hS1
    obtain ⟨⟨u, hau, hu, hgb, hEe⟩, hB⟩ := hB
    rw [hEe] at hB
    have hW : xW G E H1 := hB
    obtain ⟨ga, hga, va, gr, v, d, sq, hG1, h16, h60, h11, hvl, hvb, hGr, hSn, hsq, hop⟩ := hGs.2.2.2.1 u hu
    obtain rfl : r2 = ga := Option.some.inj (hgb.symm.trans hga)
    obtain ⟨va2, vr, hva, hVa, hVr⟩ := hV.2.2.2.1 v hvl
    obtain rfl : va = va2 := Option.some.inj (hvb.symm.trans hva)
    have ht0 : tIx (nI nG) a0 = 0 := by rw [hau]; exact tIx_ok hu (by have := hGs.2.1; omega)
    have hGm : xGm σ u d v := ⟨by have := hGs.2.1; omega, h16, h60, h11, by have := hV.2.1; omega⟩
    refine lv_astore (lv' := [(4, .ref r2), (0, .ref o), (1, .int a0), (2, .int a1), (3, .int a2)]) hx hb dX4_can_5 hl (by decide) rfl (fun ls hl => ?_)
    refine lv_iload_n hx hb dX4_can_7 rfl (lv_at hl 3 rfl) ?_
    refine vx_callv (vx_runS (As := [.int a1]) (rest := []) ⟨hx, hb, hml, hown, hts⟩ (kX4_checkCell l hl9 G E a1) (va_cwS 1 hts gX4_can_X4_checkCell rfl rfl rfl (by decide +kernel) ⟨Nat.le_of_ble_eq_true rfl, Nat.le_of_ble_eq_true rfl⟩) (x_preS hX hS hW) rfl rfl hl.1 rfl (lv_room (Nat.le_of_ble_eq_true rfl)) dX4_can_8 ⟨Nat.le_of_ble_eq_true rfl, Nat.le_of_ble_eq_true rfl⟩) hS (fun _ _ h => h) (fun _ h => h) (fun _ _ h => h) (fun Ex ce q9 ux t H1 locs1 ht hvm hpx hB hz1 hk1 hS1 hce hcv hcl => ?_) (fun E4 t H1 locs1 ht hvm hw hB hz1 hk1 hS1 => ?_)
    · obtain ⟨hpx, hB⟩ := hB
      rw [ht] at hB
      exact vx_widen (k := 3) (n := 18) (Nat.le_of_ble_eq_true rfl) (Nat.le_of_ble_eq_true rfl) (vx_out (fun x hx9 => (hno x hx9).elim) hlocks hce hcv hcl (fun t9 ht9 hv9 => ⟨(), trivial, ⟨(by rw [(show tX4_can nG a0 a1 a2 = tX4_checkCell a1 from by unfold tX4_can; rw [if_pos ht0, if_neg (xEx_ne hpx)])]; exact hpx), by rw [ht9]; exact hB⟩, hS1.F ht9⟩) hS1.2.2 (Nat.le_refl _) (Nat.le_refl _))
    · rw [ht] at hB
      have hS := hS1
      obtain ⟨hk7, hEe⟩ := hw
      rw [hEe] at hB
      have hW : xW G E H1 := hB
      refine lv_iload_n hx hb dX4_can_11 rfl (lv_at hl 4 rfl) ?_
      refine vx_callv (vx_runS (As := [.int a2]) (rest := []) ⟨hx, hb, hml, hown, hts⟩ (kX4_checkCell l hl9 G E a2) (va_cwS 1 hts gX4_can_X4_checkCell rfl rfl rfl (by decide +kernel) ⟨Nat.le_of_ble_eq_true rfl, Nat.le_of_ble_eq_true rfl⟩) (x_preS hX hS hW) rfl rfl hl.1 rfl (lv_room (Nat.le_of_ble_eq_true rfl)) dX4_can_12 ⟨Nat.le_of_ble_eq_true rfl, Nat.le_of_ble_eq_true rfl⟩) hS (fun _ _ h => h) (fun _ h => h) (fun _ _ h => h) (fun Ex ce q9 ux t H1 locs1 ht hvm hpx hB hz1 hk1 hS1 hce hcv hcl => ?_) (fun E8 t H1 locs1 ht hvm hw hB hz1 hk1 hS1 => ?_)
      · obtain ⟨hpx, hB⟩ := hB
        rw [ht] at hB
        exact vx_widen (k := 3) (n := 18) (Nat.le_of_ble_eq_true rfl) (Nat.le_of_ble_eq_true rfl) (vx_out (fun x hx9 => (hno x hx9).elim) hlocks hce hcv hcl (fun t9 ht9 hv9 => ⟨(), trivial, ⟨(by rw [(show tX4_can nG a0 a1 a2 = tX4_checkCell a2 from by unfold tX4_can; rw [if_pos ht0, if_pos hk7, if_neg (xEx_ne hpx)])]; exact hpx), by rw [ht9]; exact hB⟩, hS1.F ht9⟩) hS1.2.2 (Nat.le_refl _) (Nat.le_refl _))
      · rw [ht] at hB
        have hS := hS1
        obtain ⟨hk11, hEe⟩ := hw
        rw [hEe] at hB
        have hW : xW G E H1 := hB
        refine lv_aload hx hb dX4_can_15 (lv_at hl 0 rfl) ?_
        refine lv_iload_n hx hb dX4_can_17 rfl (lv_at hl 3 rfl) ?_
        refine lv_iload_n hx hb dX4_can_18 rfl (lv_at hl 4 rfl) ?_
        refine x_callSe (va_runV (As := [.int a1, .int a2]) (rest := []) ⟨hx, hb, hml, hown, hts⟩ (kX1_allows l G _ (σ) nC (σ 12 u) (σ 6 v) (σ 17 (61 * u + d)) (σ 18 (61 * u + d)) (nI d) (σ 15 u) r2 a1 a2 va gr (sa u) (σ 13 u) (σ 14 u) hG1 ct tb hGr hT) (cwV 2 hts gX4_can_X1_allows rfl rfl rfl (by decide +kernel) ⟨Nat.le_of_ble_eq_true rfl, Nat.le_of_ble_eq_true rfl⟩) (x_preV hX hS hW hG1 rfl) rfl rfl hl.1 rfl (lv_room (Nat.le_of_ble_eq_true rfl)) dX4_can_19 ⟨Nat.le_of_ble_eq_true rfl, Nat.le_of_ble_eq_true rfl⟩) ?_
        exact vx_ret (W.widen (k := 3) (n := 18) (Nat.le_of_ble_eq_true rfl) (Nat.le_of_ble_eq_true rfl) (W.zret (v := zI (fX1_allows (σ) nC (σ 12 u) (σ 6 v) (σ 17 (61 * u + d)) (σ 18 (61 * u + d)) (nI d) (σ 15 u) a1 a2)) hx hb hr (xz_nar _) (fun t ht hw => ⟨⟨_, E, rfl, ⟨(show tX4_can nG a0 a1 a2 = 0 from by unfold tX4_can; rw [if_pos ht0, if_pos hk7, if_pos hk11]), rfl, u, d, v, hau, hu, hvl, hGm, hop, rfl⟩, (show xW G E t.heap from by rw [ht]; exact hW)⟩, hS.F ht⟩) hS.2.2 dX4_can_22))

def tX4_isBanned (nV : Nat) (a0 : Int32) : Nat := if (tIx (nI nV) a0) = 0 then (0) else tIx (nI nV) a0
set_option maxHeartbeats 4000000 in
set_option maxRecDepth 100000 in
theorem kX4_isBanned (l : Launch) (hl9 : l.stackTraces = false) (G : xG) (E : xE) (o : Nat) (a0 : Int32) (ct vt gt : Nat) (tb vb gb : Nat → Option Nat) (sa : Nat → Nat) (nC nV nG : Nat) (σ : xSg) (hCls : xCls G E o ct vt gt tb vb gb sa nC nV nG σ) : vx_Met l yX4_isBanned wsX4_isBanned ({ frames := 7, cells := 1, slots := 6, locals := 112 }) (va_Pc [.ref o, .int a0] (xB G E)) (va_Qi (S := xE) (fun r E' => tX4_isBanned nV a0 = 0 ∧ E' = E ∧ ∃ v : Nat, a0 = nI v ∧ v < nV ∧ r = zI (fX3_isOut (σ 8 v) (σ 9 v))) (fun E' t => xW G E' t.heap) (xA G)) (xX G E (fun n => xEx n (tX4_isBanned nV a0))) 1 6 (xA G) := by
  refine vx_ofW (cc := cX4_isBanned) (maxL := 2) (ret := (some .boolean)) (by decide) rfl ?_
  intro p e s m args below meth c s₁ B hml hno hv
  obtain ⟨rfl, hX, hW⟩ := hv
  have hx := B.exec
  have hb := B.bytes
  have hr := B.returns
  have hts := atoms_spec (ws := wsX4_isBanned) B.pre
  have hown : s.vm.findClass RX4 = some m.cls := findClass_of_methodNamed B.named
  have hlocks := B.notSynchronized
  have hS : va_S (xA G) s.heap s.heap [] := va_S.rf
  have hl := lv_entry ([.ref o, .int a0]) (n := 2) (Nat.le_of_ble_eq_true rfl)
  rw [lg_entry_eq]
  generalize (lg_sl ([.ref o, .int a0]) ++ List.replicate (2 - (lg_sl ([.ref o, .int a0])).length) Slot.unset).toArray = ls at hl ⊢
  have hl : lv_has ls 2 [(0, .ref o), (1, .int a0)] := hl
  obtain ⟨H, hH⟩ : ∃ z, z = s.heap := ⟨_, rfl⟩
  rw [← hH] at hW
  have hS : va_S (xA G) s.heap H [] := by rw [hH]; exact hS
  rw [← hH]
  obtain ⟨hE, h0, h5, h10, hT, hV, hGs⟩ := hCls
  refine lv_aload_n hx hb dX4_isBanned_0 rfl (lv_at hl 0 rfl) ?_
  refine lv_iload_n hx hb dX4_isBanned_1 rfl (lv_at hl 1 rfl) ?_
  refine vx_callr (vx_runV (As := [.int a0]) (rest := []) ⟨hx, hb, hml, hown, hts⟩ (kX4_variantAt l hl9 G E o a0 ct vt gt nC nV nG vb hE hV.1 hV.2.1 hV.2.2.1 hV.some) (cwV 1 hts gX4_isBanned_X4_variantAt rfl rfl rfl (by decide +kernel) ⟨Nat.le_of_ble_eq_true rfl, Nat.le_of_ble_eq_true rfl⟩) (x_preV hX hS hW hE rfl) rfl rfl hl.1 rfl (lv_room (Nat.le_of_ble_eq_true rfl)) dX4_isBanned_2 ⟨Nat.le_of_ble_eq_true rfl, Nat.le_of_ble_eq_true rfl⟩) hS (fun _ _ h => h) (fun _ h => h) (fun _ _ h => h) (fun Ex ce q9 ux t H1 locs1 ht hvm hpx hB hz1 hk1 hS1 hce hcv hcl => ?_) (fun E1 r2 t H1 locs1 ht hvm hw hB hz1 hk1 hS1 => ?_)
  · obtain ⟨hpx, hB⟩ := hB
    rw [ht] at hB
    exact vx_widen (k := 1) (n := 6) (Nat.le_of_ble_eq_true rfl) (Nat.le_of_ble_eq_true rfl) (vx_out (fun x hx9 => (hno x hx9).elim) hlocks hce hcv hcl (fun t9 ht9 hv9 => ⟨(), trivial, ⟨(by rw [(show tX4_isBanned nV a0 = tIx (nI nV) a0 from by unfold tX4_isBanned; rw [if_neg (xEx_ne hpx)])]; exact hpx), by rw [ht9]; exact hB⟩, hS1.F ht9⟩) hS1.2.2 (Nat.le_refl _) (Nat.le_refl _))
  · rw [ht] at hB
    have hS := hS1
    obtain ⟨⟨v, hav, hvl, hvb, hEe⟩, hB⟩ := hB
    rw [hEe] at hB
    have hW : xW G E H1 := hB
    obtain ⟨va2, vr, hva, hVa, hVr⟩ := hV.2.2.2.1 v hvl
    obtain rfl : r2 = va2 := Option.some.inj (hvb.symm.trans hva)
    have ht0 : tIx (nI nV) a0 = 0 := by rw [hav]; exact tIx_ok hvl (by have := hV.2.1; omega)
    refine x_callSe (va_runV (As := []) (rest := []) ⟨hx, hb, hml, hown, hts⟩ (kX3_isOut l G _ (σ 8 v) (σ 9 v) r2 vr hVa) (cwV 0 hts gX4_isBanned_X3_isOut rfl rfl rfl (by decide +kernel) ⟨Nat.le_of_ble_eq_true rfl, Nat.le_of_ble_eq_true rfl⟩) (x_preV hX hS hW hVa rfl) rfl rfl hl.1 rfl (lv_room (Nat.le_of_ble_eq_true rfl)) dX4_isBanned_5 ⟨Nat.le_of_ble_eq_true rfl, Nat.le_of_ble_eq_true rfl⟩) ?_
    exact vx_ret (W.widen (k := 1) (n := 6) (Nat.le_of_ble_eq_true rfl) (Nat.le_of_ble_eq_true rfl) (W.zret (v := zI (fX3_isOut (σ 8 v) (σ 9 v))) hx hb hr (xz_nar _) (fun t ht hw => ⟨⟨_, E, rfl, ⟨(show tX4_isBanned nV a0 = 0 from by unfold tX4_isBanned; rw [if_pos ht0]), rfl, v, hav, hvl, rfl⟩, (show xW G E t.heap from by rw [ht]; exact hW)⟩, hS.F ht⟩) hS.2.2 dX4_isBanned_8))

def tX4_endless (nV : Nat) (a0 : Int32) : Nat := if (tIx (nI nV) a0) = 0 then (0) else tIx (nI nV) a0
set_option maxHeartbeats 4000000 in
set_option maxRecDepth 100000 in
theorem kX4_endless (l : Launch) (hl9 : l.stackTraces = false) (G : xG) (E : xE) (o : Nat) (a0 : Int32) (ct vt gt : Nat) (tb vb gb : Nat → Option Nat) (sa : Nat → Nat) (nC nV nG : Nat) (σ : xSg) (hCls : xCls G E o ct vt gt tb vb gb sa nC nV nG σ) : vx_Met l yX4_endless wsX4_endless ({ frames := 7, cells := 1, slots := 6, locals := 112 }) (va_Pc [.ref o, .int a0] (xB G E)) (va_Qi (S := xE) (fun r E' => tX4_endless nV a0 = 0 ∧ E' = E ∧ ∃ v : Nat, a0 = nI v ∧ v < nV ∧ r = σ 9 v) (fun E' t => xW G E' t.heap) (xA G)) (xX G E (fun n => xEx n (tX4_endless nV a0))) 1 6 (xA G) := by
  refine vx_ofW (cc := cX4_endless) (maxL := 2) (ret := (some .int)) (by decide) rfl ?_
  intro p e s m args below meth c s₁ B hml hno hv
  obtain ⟨rfl, hX, hW⟩ := hv
  have hx := B.exec
  have hb := B.bytes
  have hr := B.returns
  have hts := atoms_spec (ws := wsX4_endless) B.pre
  have hown : s.vm.findClass RX4 = some m.cls := findClass_of_methodNamed B.named
  have hlocks := B.notSynchronized
  have hS : va_S (xA G) s.heap s.heap [] := va_S.rf
  have hiX3 : ∀ w ∈ u_ws RX3 TX3 3, w ∈ wsX4_endless := by decide +kernel
  have hf181 := hts (Cond.fieldLink RX4 181 "VariantMill$Variant" "endlessGames" "I") (by decide +kernel)
  have hl := lv_entry ([.ref o, .int a0]) (n := 2) (Nat.le_of_ble_eq_true rfl)
  rw [lg_entry_eq]
  generalize (lg_sl ([.ref o, .int a0]) ++ List.replicate (2 - (lg_sl ([.ref o, .int a0])).length) Slot.unset).toArray = ls at hl ⊢
  have hl : lv_has ls 2 [(0, .ref o), (1, .int a0)] := hl
  obtain ⟨H, hH⟩ : ∃ z, z = s.heap := ⟨_, rfl⟩
  rw [← hH] at hW
  have hS : va_S (xA G) s.heap H [] := by rw [hH]; exact hS
  rw [← hH]
  obtain ⟨hE, h0, h5, h10, hT, hV, hGs⟩ := hCls
  refine lv_aload_n hx hb dX4_endless_0 rfl (lv_at hl 0 rfl) ?_
  refine lv_iload_n hx hb dX4_endless_1 rfl (lv_at hl 1 rfl) ?_
  refine vx_callr (vx_runV (As := [.int a0]) (rest := []) ⟨hx, hb, hml, hown, hts⟩ (kX4_variantAt l hl9 G E o a0 ct vt gt nC nV nG vb hE hV.1 hV.2.1 hV.2.2.1 hV.some) (cwV 1 hts gX4_endless_X4_variantAt rfl rfl rfl (by decide +kernel) ⟨Nat.le_of_ble_eq_true rfl, Nat.le_of_ble_eq_true rfl⟩) (x_preV hX hS hW hE rfl) rfl rfl hl.1 rfl (lv_room (Nat.le_of_ble_eq_true rfl)) dX4_endless_2 ⟨Nat.le_of_ble_eq_true rfl, Nat.le_of_ble_eq_true rfl⟩) hS (fun _ _ h => h) (fun _ h => h) (fun _ _ h => h) (fun Ex ce q9 ux t H1 locs1 ht hvm hpx hB hz1 hk1 hS1 hce hcv hcl => ?_) (fun E1 r2 t H1 locs1 ht hvm hw hB hz1 hk1 hS1 => ?_)
  · obtain ⟨hpx, hB⟩ := hB
    rw [ht] at hB
    exact vx_widen (k := 1) (n := 6) (Nat.le_of_ble_eq_true rfl) (Nat.le_of_ble_eq_true rfl) (vx_out (fun x hx9 => (hno x hx9).elim) hlocks hce hcv hcl (fun t9 ht9 hv9 => ⟨(), trivial, ⟨(by rw [(show tX4_endless nV a0 = tIx (nI nV) a0 from by unfold tX4_endless; rw [if_neg (xEx_ne hpx)])]; exact hpx), by rw [ht9]; exact hB⟩, hS1.F ht9⟩) hS1.2.2 (Nat.le_refl _) (Nat.le_refl _))
  · rw [ht] at hB
    have hS := hS1
    obtain ⟨⟨v, hav, hvl, hvb, hEe⟩, hB⟩ := hB
    rw [hEe] at hB
    have hW : xW G E H1 := hB
    obtain ⟨va2, vr, hva, hVa, hVr⟩ := hV.2.2.2.1 v hvl
    obtain rfl : r2 = va2 := Option.some.inj (hvb.symm.trans hva)
    have ht0 : tIx (nI nV) a0 = 0 := by rw [hav]; exact tIx_ok hvl (by have := hV.2.1; omega)
    refine va_get (D := G.1) (ci := 3) (v := .int (σ 9 v)) (C := RX3) (T := TX3) (N := 3) hx hb hts hiX3 hown hX.1 (x1 hW hVa) 0 rfl rfl 2 (by decide) hf181 (fun _ h9 => h9) rfl dX4_endless_5 ?_
    exact vx_ret (W.widen (k := 1) (n := 6) (Nat.le_of_ble_eq_true rfl) (Nat.le_of_ble_eq_true rfl) (W.iret (v := σ 9 v) hx hb hr (fun t ht hw => ⟨⟨_, E, rfl, ⟨(show tX4_endless nV a0 = 0 from by unfold tX4_endless; rw [if_pos ht0]), rfl, v, hav, hvl, rfl⟩, (show xW G E t.heap from by rw [ht]; exact hW)⟩, hS.F ht⟩) hS.2.2 dX4_endless_8))
