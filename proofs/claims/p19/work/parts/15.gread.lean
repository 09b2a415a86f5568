theorem x_dn {k : Nat} (h : 2 ≤ k) : (nI k - 2) + Int32.ofInt (-2) = nI (k - 2) - 2 := by
  have e : Int32.ofInt (-2) = -(2 : Int32) := by decide
  rw [e, ← Int32.sub_eq_add_neg]
  congr 1
  rw [show (2 : Int32) = nI 2 from rfl, pk_sub h]
theorem x_dn2 {k : Nat} (h : ¬ nI k - 2 < 0) (hk : k < 2 ^ 30) : 2 ≤ k := by
  rcases Nat.lt_or_ge k 2 with q | q
  · exact absurd (pk_sneg (by omega) q) h
  · exact q
theorem x_dn3 (d : Nat) : nI d = nI (d + 2) - 2 := by
  rw [show (2 : Int32) = nI 2 from rfl, pk_sub (by omega), Nat.add_sub_cancel]
theorem x_tmI {g k d : Nat} (h2 : 2 ≤ k) (hk : k ≤ d + 2) (hd : d ≤ 60) (hg : g < 12) : vp_in (61 * nI g + (nI k - 2)) 732 ∧ (61 * nI g + (nI k - 2)).toNatClampNeg = 61 * g + (k - 2) := by
  have e : 61 * nI g + (nI k - 2) = nI (61 * g + (k - 2)) := by
    rw [show (2 : Int32) = nI 2 from rfl, pk_sub h2, show (61 : Int32) = nI 61 from rfl, pk_mul, nI_add]
  rw [e]
  exact ⟨vp_in_nI (by omega) (by omega), nI_clamp (by omega)⟩

def gX5_times (σ : xSg) (d : Nat) (v : Nat) (g : Nat) : Nat → Nat → Int32 → Int32
  | 0, _, _ => 0
  | n + 1, k, v2 => if (nI k - 2) < 0 then v2 else (gX5_times σ d v g n (k - 2) (v2 + (zI (if (σ 17 (61 * g + (k - 2))) = (σ 17 (61 * g + d)) then (if (σ 18 (61 * g + (k - 2))) = (σ 18 (61 * g + d)) then (true) else (false)) else (false)))))
def fX5_times (σ : xSg) (d : Nat) (v : Nat) (g : Nat) : Int32 := gX5_times σ d v g (d + 3) (d + 2) 0
def fX3_isOut (vo : Int32) (en : Int32) : Bool := if 3 ≤ (fJ6_bitCount_0f7a4 vo) then true else (if en < 2 then false else true)
set_option maxHeartbeats 4000000 in
set_option maxRecDepth 100000 in
theorem kX3_isOut (l : Launch) (G : xG) (E : xE) (vo : Int32) (en : Int32) (o : Nat) (vr : Nat) (hE : E o = some (.inr (3, [.ref vr, .int vo, .int en]))) : Met l yX3_isOut wsX3_isOut ({ frames := 1, cells := 0, slots := 0, locals := 20 }) (va_Pc [.ref o] (xB G E)) (vp_Si (fun r => r = zI (fX3_isOut vo en))) 0 0 (fun _ => False) := by
  refine Met.ofW (cc := cX3_isOut) (maxL := 1) (ret := (some .boolean)) (by decide) rfl ?_
  intro p e s m args below meth c s₁ B hml hv
  obtain ⟨rfl, hX, hW⟩ := hv
  have hx := B.exec
  have hb := B.bytes
  have hr := B.returns
  have hts := atoms_spec (ws := wsX3_isOut) B.pre
  have hown : s.vm.findClass RX3 = some m.cls := findClass_of_methodNamed B.named
  have hlocks := B.notSynchronized
  have hS : va_S (xA G) s.heap s.heap [] := va_S.rf
  have hiX3 : ∀ w ∈ u_ws RX3 TX3 3, w ∈ wsX3_isOut := by decide +kernel
  have hf15 := hts (Cond.fieldLink RX3 15 "VariantMill$Variant" "voters" "I") (by decide +kernel)
  have hf25 := hts (Cond.fieldLink RX3 25 "VariantMill$Variant" "endlessGames" "I") (by decide +kernel)
  have hl := lv_entry ([.ref o]) (n := 1) (Nat.le_of_ble_eq_true rfl)
  rw [lg_entry_eq]
  generalize (lg_sl ([.ref o]) ++ List.replicate (1 - (lg_sl ([.ref o])).length) Slot.unset).toArray = ls at hl ⊢
  have hl : lv_has ls 1 [(0, .ref o)] := hl
  refine lv_aload_n hx hb dX3_isOut_0 rfl (lv_at hl 0 rfl) ?_
  refine va_get (D := G.1) (ci := 3) (v := .int vo) (C := RX3) (T := TX3) (N := 3) hx hb hts hiX3 hown hX.1 (x1 hW hE) 0 rfl rfl 1 (by decide) hf15 (fun _ h9 => h9) rfl dX3_isOut_1 ?_
  refine x_callSe (va_runS (As := [.int vo]) (rest := []) ⟨hx, hb, hml, hown, hts⟩ (kJ6_bitCount_0f7a4 l vo) (va_cwS 1 hts gX3_isOut_J6_bitCount_0f7a4 rfl rfl rfl (by decide +kernel) ⟨Nat.le_of_ble_eq_true rfl, Nat.le_of_ble_eq_true rfl⟩) x_preT rfl rfl hl.1 rfl (lv_room (Nat.le_of_ble_eq_true rfl)) dX3_isOut_4 ⟨Nat.le_of_ble_eq_true rfl, Nat.le_of_ble_eq_true rfl⟩) ?_
  refine lv_iconst (v := 3) hx hb dX3_isOut_7 (by decide) ?_
  refine lv_icmp_ge (tgt := 19) hx hb dX3_isOut_8 (by decide) (fun c_1 => ?_) (fun c_1 => ?_)
  · refine lv_iconst (v := 1) hx hb dX3_isOut_19 (by decide) ?_
    refine lv_goto (tgt := 24) hx hb dX3_isOut_20 (by decide) ?_
    exact W.zret (v := 1) hx hb hr rfl (fun t ht hw => ⟨_, rfl, (congrArg zI (show true = fX3_isOut vo en from by unfold fX3_isOut; rw [if_pos c_1])), ht⟩) (fun _ h => nomatch h) dX3_isOut_24
  · refine lv_aload_n hx hb dX3_isOut_11 rfl (lv_at hl 0 rfl) ?_
    refine va_get (D := G.1) (ci := 3) (v := .int en) (C := RX3) (T := TX3) (N := 3) hx hb hts hiX3 hown hX.1 (x1 hW hE) 0 rfl rfl 2 (by decide) hf25 (fun _ h9 => h9) rfl dX3_isOut_12 ?_
    refine lv_iconst (v := 2) hx hb dX3_isOut_15 (by decide) ?_
    refine lv_icmp_lt (tgt := 23) hx hb dX3_isOut_16 (by decide) (fun c_2 => ?_) (fun c_2 => ?_)
    · refine lv_iconst (v := 0) hx hb dX3_isOut_23 (by decide) ?_
      exact W.zret (v := 0) hx hb hr rfl (fun t ht hw => ⟨_, rfl, (congrArg zI (show false = fX3_isOut vo en from by unfold fX3_isOut; rw [if_neg c_1, if_pos c_2])), ht⟩) (fun _ h => nomatch h) dX3_isOut_24
    · refine lv_iconst (v := 1) hx hb dX3_isOut_19 (by decide) ?_
      refine lv_goto (tgt := 24) hx hb dX3_isOut_20 (by decide) ?_
      exact W.zret (v := 1) hx hb hr rfl (fun t ht hw => ⟨_, rfl, (congrArg zI (show true = fX3_isOut vo en from by unfold fX3_isOut; rw [if_neg c_1, if_neg c_2])), ht⟩) (fun _ h => nomatch h) dX3_isOut_24

def fX1_isSecondToMove (md : Int32) : Bool := if (md - md / 2 * 2) = 1 then true else false
set_option maxHeartbeats 4000000 in
set_option maxRecDepth 100000 in
theorem kX1_isSecondToMove (l : Launch) (G : xG) (E : xE) (md : Int32) (o : Nat) (gv gr sn : Nat) (q1 : Int32) (q2 : Int32) (p1 : Int32) (p2 : Int32) (sta : Int32) (hE : E o = some (.inr (1, [.ref gv, .ref gr, .int q1, .int q2, .ref sn, .int p1, .int p2, .int md, .int sta]))) : Met l yX1_isSecondToMove wsX1_isSecondToMove ({ frames := 0, cells := 0, slots := 0, locals := 0 }) (va_Pc [.ref o] (xB G E)) (vp_Si (fun r => r = zI (fX1_isSecondToMove md))) 0 0 (fun _ => False) := by
  refine Met.ofW (cc := cX1_isSecondToMove) (maxL := 1) (ret := (some .boolean)) (by decide) rfl ?_
  intro p e s m args below meth c s₁ B hml hv
  obtain ⟨rfl, hX, hW⟩ := hv
  have hx := B.exec
  have hb := B.bytes
  have hr := B.returns
  have hts := atoms_spec (ws := wsX1_isSecondToMove) B.pre
  have hown : s.vm.findClass RX1 = some m.cls := findClass_of_methodNamed B.named
  have hlocks := B.notSynchronized
  have hS : va_S (xA G) s.heap s.heap [] := va_S.rf
  have hiX1 : ∀ w ∈ u_ws RX1 TX1 9, w ∈ wsX1_isSecondToMove := by decide +kernel
  have hf46 := hts (Cond.fieldLink RX1 46 "VariantMill$Game" "made" "I") (by decide +kernel)
  have hl := lv_entry ([.ref o]) (n := 1) (Nat.le_of_ble_eq_true rfl)
  rw [lg_entry_eq]
  generalize (lg_sl ([.ref o]) ++ List.replicate (1 - (lg_sl ([.ref o])).length) Slot.unset).toArray = ls at hl ⊢
  have hl : lv_has ls 1 [(0, .ref o)] := hl
  refine lv_aload_n hx hb dX1_isSecondToMove_0 rfl (lv_at hl 0 rfl) ?_
  refine va_get (D := G.1) (ci := 1) (v := .int md) (C := RX1) (T := TX1) (N := 9) hx hb hts hiX1 hown hX.1 (x1 hW hE) 0 rfl rfl 7 (by decide) hf46 (fun _ h9 => h9) rfl dX1_isSecondToMove_1 ?_
  refine lv_iconst (v := 2) hx hb dX1_isSecondToMove_4 (by decide) ?_
  refine lv_irem hx hb dX1_isSecondToMove_5 (by decide) ?_
  refine lv_iconst (v := 1) hx hb dX1_isSecondToMove_6 (by decide) ?_
  refine lv_icmp_ne (tgt := 14) hx hb dX1_isSecondToMove_7 (by decide) (fun c_1 => ?_) (fun c_1 => ?_)
  · refine lv_iconst (v := 0) hx hb dX1_isSecondToMove_14 (by decide) ?_
    exact W.zret (v := 0) hx hb hr rfl (fun t ht hw => ⟨_, rfl, (congrArg zI (show false = fX1_isSecondToMove md from by unfold fX1_isSecondToMove; rw [if_neg c_1])), ht⟩) (fun _ h => nomatch h) dX1_isSecondToMove_15
  · refine lv_iconst (v := 1) hx hb dX1_isSecondToMove_10 (by decide) ?_
    refine lv_goto (tgt := 15) hx hb dX1_isSecondToMove_11 (by decide) ?_
    exact W.zret (v := 1) hx hb hr rfl (fun t ht hw => ⟨_, rfl, (congrArg zI (show true = fX1_isSecondToMove md from by unfold fX1_isSecondToMove; rw [if_pos c_1])), ht⟩) (fun _ h => nomatch h) dX1_isSecondToMove_15

def fX1_ofMover (p1 : Int32) (p2 : Int32) (md : Int32) : Int32 := if (fX1_isSecondToMove md) = true then p2 else p1
set_option maxHeartbeats 4000000 in
set_option maxRecDepth 100000 in
theorem kX1_ofMover (l : Launch) (G : xG) (E : xE) (p1 : Int32) (p2 : Int32) (md : Int32) (o : Nat) (gv gr sn : Nat) (q1 : Int32) (q2 : Int32) (sta : Int32) (hE : E o = some (.inr (1, [.ref gv, .ref gr, .int q1, .int q2, .ref sn, .int p1, .int p2, .int md, .int sta]))) : Met l yX1_ofMover wsX1_ofMover ({ frames := 1, cells := 0, slots := 0, locals := 20 }) (va_Pc [.ref o] (xB G E)) (vp_Si (fun r => r = fX1_ofMover p1 p2 md)) 0 0 (fun _ => False) := by
  refine Met.ofW (cc := cX1_ofMover) (maxL := 1) (ret := (some .int)) (by decide) rfl ?_
  intro p e s m args below meth c s₁ B hml hv
  obtain ⟨rfl, hX, hW⟩ := hv
  have hx := B.exec
  have hb := B.bytes
  have hr := B.returns
  have hts := atoms_spec (ws := wsX1_ofMover) B.pre
  have hown : s.vm.findClass RX1 = some m.cls := findClass_of_methodNamed B.named
  have hlocks := B.notSynchronized
  have hS : va_S (xA G) s.heap s.heap [] := va_S.rf
  have hiX1 : ∀ w ∈ u_ws RX1 TX1 9, w ∈ wsX1_ofMover := by decide +kernel
  have hf29 := hts (Cond.fieldLink RX1 29 "VariantMill$Game" "ofFirst" "I") (by decide +kernel)
  have hf32 := hts (Cond.fieldLink RX1 32 "VariantMill$Game" "ofSecond" "I") (by decide +kernel)
  have hl := lv_entry ([.ref o]) (n := 1) (Nat.le_of_ble_eq_true rfl)
  rw [lg_entry_eq]
  generalize (lg_sl ([.ref o]) ++ List.replicate (1 - (lg_sl ([.ref o])).length) Slot.unset).toArray = ls at hl ⊢
  have hl : lv_has ls 1 [(0, .ref o)] := hl
  refine lv_aload_n hx hb dX1_ofMover_0 rfl (lv_at hl 0 rfl) ?_
  refine x_callSe (va_runV (As := []) (rest := []) ⟨hx, hb, hml, hown, hts⟩ (kX1_isSecondToMove l G _ md o gv gr sn q1 q2 p1 p2 sta hE) (cwV 0 hts gX1_ofMover_X1_isSecondToMove rfl rfl rfl (by decide +kernel) ⟨Nat.le_of_ble_eq_true rfl, Nat.le_of_ble_eq_true rfl⟩) (x_preV hX hS hW hE rfl) rfl rfl hl.1 rfl (lv_room (Nat.le_of_ble_eq_true rfl)) dX1_ofMover_1 ⟨Nat.le_of_ble_eq_true rfl, Nat.le_of_ble_eq_true rfl⟩) ?_
  refine x_ifz_eq (b := fX1_isSecondToMove md) (tgt := 14) hx hb dX1_ofMover_4 (by decide) (fun c_1 => ?_) (fun c_1 => ?_)
  · refine lv_aload_n hx hb dX1_ofMover_14 rfl (lv_at hl 0 rfl) ?_
    refine va_get (D := G.1) (ci := 1) (v := .int p1) (C := RX1) (T := TX1) (N := 9) hx hb hts hiX1 hown hX.1 (x1 hW hE) 0 rfl rfl 5 (by decide) hf29 (fun _ h9 => h9) rfl dX1_ofMover_15 ?_
    exact W.iret (v := p1) hx hb hr (fun t ht hw => ⟨_, rfl, (show (p1 : Int32) = fX1_ofMover p1 p2 md from by unfold fX1_ofMover; rw [if_neg (Bool.eq_false_iff.mp c_1)]), ht⟩) (fun _ h => nomatch h) dX1_ofMover_18
  · refine lv_aload_n hx hb dX1_ofMover_7 rfl (lv_at hl 0 rfl) ?_
    refine va_get (D := G.1) (ci := 1) (v := .int p2) (C := RX1) (T := TX1) (N := 9) hx hb hts hiX1 hown hX.1 (x1 hW hE) 0 rfl rfl 6 (by decide) hf32 (fun _ h9 => h9) rfl dX1_ofMover_8 ?_
    refine lv_goto (tgt := 18) hx hb dX1_ofMover_11 (by decide) ?_
    exact W.iret (v := p2) hx hb hr (fun t ht hw => ⟨_, rfl, (show (p2 : Int32) = fX1_ofMover p1 p2 md from by unfold fX1_ofMover; rw [if_pos c_1]), ht⟩) (fun _ h => nomatch h) dX1_ofMover_18

def fX1_ofWaiting (p1 : Int32) (p2 : Int32) (md : Int32) : Int32 := if (fX1_isSecondToMove md) = true then p1 else p2
set_option maxHeartbeats 4000000 in
set_option maxRecDepth 100000 in
theorem kX1_ofWaiting (l : Launch) (G : xG) (E : xE) (p1 : Int32) (p2 : Int32) (md : Int32) (o : Nat) (gv gr sn : Nat) (q1 : Int32) (q2 : Int32) (sta : Int32) (hE : E o = some (.inr (1, [.ref gv, .ref gr, .int q1, .int q2, .ref sn, .int p1, .int p2, .int md, .int sta]))) : Met l yX1_ofWaiting wsX1_ofWaiting ({ frames := 1, cells := 0, slots := 0, locals := 20 }) (va_Pc [.ref o] (xB G E)) (vp_Si (fun r => r = fX1_ofWaiting p1 p2 md)) 0 0 (fun _ => False) := by
  refine Met.ofW (cc := cX1_ofWaiting) (maxL := 1) (ret := (some .int)) (by decide) rfl ?_
  intro p e s m args below meth c s₁ B hml hv
  obtain ⟨rfl, hX, hW⟩ := hv
  have hx := B.exec
  have hb := B.bytes
  have hr := B.returns
  have hts := atoms_spec (ws := wsX1_ofWaiting) B.pre
  have hown : s.vm.findClass RX1 = some m.cls := findClass_of_methodNamed B.named
  have hlocks := B.notSynchronized
  have hS : va_S (xA G) s.heap s.heap [] := va_S.rf
  have hiX1 : ∀ w ∈ u_ws RX1 TX1 9, w ∈ wsX1_ofWaiting := by decide +kernel
  have hf32 := hts (Cond.fieldLink RX1 32 "VariantMill$Game" "ofSecond" "I") (by decide +kernel)
  have hf29 := hts (Cond.fieldLink RX1 29 "VariantMill$Game" "ofFirst" "I") (by decide +kernel)
  have hl := lv_entry ([.ref o]) (n := 1) (Nat.le_of_ble_eq_true rfl)
  rw [lg_entry_eq]
  generalize (lg_sl ([.ref o]) ++ List.replicate (1 - (lg_sl ([.ref o])).length) Slot.unset).toArray = ls at hl ⊢
  have hl : lv_has ls 1 [(0, .ref o)] := hl
  refine lv_aload_n hx hb dX1_ofWaiting_0 rfl (lv_at hl 0 rfl) ?_
  refine x_callSe (va_runV (As := []) (rest := []) ⟨hx, hb, hml, hown, hts⟩ (kX1_isSecondToMove l G _ md o gv gr sn q1 q2 p1 p2 sta hE) (cwV 0 hts gX1_ofWaiting_X1_isSecondToMove rfl rfl rfl (by decide +kernel) ⟨Nat.le_of_ble_eq_true rfl, Nat.le_of_ble_eq_true rfl⟩) (x_preV hX hS hW hE rfl) rfl rfl hl.1 rfl (lv_room (Nat.le_of_ble_eq_true rfl)) dX1_ofWaiting_1 ⟨Nat.le_of_ble_eq_true rfl, Nat.le_of_ble_eq_true rfl⟩) ?_
  refine x_ifz_eq (b := fX1_isSecondToMove md) (tgt := 14) hx hb dX1_ofWaiting_4 (by decide) (fun c_1 => ?_) (fun c_1 => ?_)
  · refine lv_aload_n hx hb dX1_ofWaiting_14 rfl (lv_at hl 0 rfl) ?_
    refine va_get (D := G.1) (ci := 1) (v := .int p2) (C := RX1) (T := TX1) (N := 9) hx hb hts hiX1 hown hX.1 (x1 hW hE) 0 rfl rfl 6 (by decide) hf32 (fun _ h9 => h9) rfl dX1_ofWaiting_15 ?_
    exact W.iret (v := p2) hx hb hr (fun t ht hw => ⟨_, rfl, (show (p2 : Int32) = fX1_ofWaiting p1 p2 md from by unfold fX1_ofWaiting; rw [if_neg (Bool.eq_false_iff.mp c_1)]), ht⟩) (fun _ h => nomatch h) dX1_ofWaiting_18
  · refine lv_aload_n hx hb dX1_ofWaiting_7 rfl (lv_at hl 0 rfl) ?_
    refine va_get (D := G.1) (ci := 1) (v := .int p1) (C := RX1) (T := TX1) (N := 9) hx hb hts hiX1 hown hX.1 (x1 hW hE) 0 rfl rfl 5 (by decide) hf29 (fun _ h9 => h9) rfl dX1_ofWaiting_8 ?_
    refine lv_goto (tgt := 18) hx hb dX1_ofWaiting_11 (by decide) ?_
    exact W.iret (v := p1) hx hb hr (fun t ht hw => ⟨_, rfl, (show (p1 : Int32) = fX1_ofWaiting p1 p2 md from by unfold fX1_ofWaiting; rw [if_pos c_1]), ht⟩) (fun _ h => nomatch h) dX1_ofWaiting_18

def fX1_pointsFor (q1 : Int32) (q2 : Int32) (sta : Int32) (a0 : Int32) : Int32 := if sta = 3 then (if a0 = q1 then 1 else (if a0 = q2 then 1 else 0)) else (if sta = 1 then (if a0 = q1 then 3 else (if sta = 2 then (if a0 = q2 then 3 else 0) else 0)) else (if sta = 2 then (if a0 = q2 then 3 else 0) else 0))
set_option maxHeartbeats 4000000 in
set_option maxRecDepth 100000 in
theorem kX1_pointsFor (l : Launch) (G : xG) (E : xE) (q1 : Int32) (q2 : Int32) (sta : Int32) (o : Nat) (a0 : Int32) (gv gr sn : Nat) (p1 : Int32) (p2 : Int32) (md : Int32) (hE : E o = some (.inr (1, [.ref gv, .ref gr, .int q1, .int q2, .ref sn, .int p1, .int p2, .int md, .int sta]))) : Met l yX1_pointsFor wsX1_pointsFor ({ frames := 0, cells := 0, slots := 0, locals := 0 }) (va_Pc [.ref o, .int a0] (xB G E)) (vp_Si (fun r => r = fX1_pointsFor q1 q2 sta a0)) 0 0 (fun _ => False) := by
  refine Met.ofW (cc := cX1_pointsFor) (maxL := 3) (ret := (some .int)) (by decide) rfl ?_
  intro p e s m args below meth c s₁ B hml hv
  obtain ⟨rfl, hX, hW⟩ := hv
  have hx := B.exec
  have hb := B.bytes
  have hr := B.returns
  have hts := atoms_spec (ws := wsX1_pointsFor) B.pre
  have hown : s.vm.findClass RX1 = some m.cls := findClass_of_methodNamed B.named
  have hlocks := B.notSynchronized
  have hS : va_S (xA G) s.heap s.heap [] := va_S.rf
  have hiX1 : ∀ w ∈ u_ws RX1 TX1 9, w ∈ wsX1_pointsFor := by decide +kernel
  have hf35 := hts (Cond.fieldLink RX1 35 "VariantMill$Game" "state" "I") (by decide +kernel)
  have hf26 := hts (Cond.fieldLink RX1 26 "VariantMill$Game" "second" "I") (by decide +kernel)
  have hf22 := hts (Cond.fieldLink RX1 22 "VariantMill$Game" "first" "I") (by decide +kernel)
  have hl := lv_entry ([.ref o, .int a0]) (n := 3) (Nat.le_of_ble_eq_true rfl)
  rw [lg_entry_eq]
  generalize (lg_sl ([.ref o, .int a0]) ++ List.replicate (3 - (lg_sl ([.ref o, .int a0])).length) Slot.unset).toArray = ls at hl ⊢
  have hl : lv_has ls 3 [(0, .ref o), (1, .int a0)] := hl
  refine lv_aload_n hx hb dX1_pointsFor_0 rfl (lv_at hl 0 rfl) ?_
  refine va_get (D := G.1) (ci := 1) (v := .int sta) (C := RX1) (T := TX1) (N := 9) hx hb hts hiX1 hown hX.1 (x1 hW hE) 0 rfl rfl 8 (by decide) hf35 (fun _ h9 => h9) rfl dX1_pointsFor_1 ?_
  refine lv_iconst (v := 3) hx hb dX1_pointsFor_4 (by decide) ?_
  refine lv_icmp_ne (tgt := 30) hx hb dX1_pointsFor_5 (by decide) (fun c_1 => ?_) (fun c_1 => ?_)
  · refine lv_aload_n hx hb dX1_pointsFor_30 rfl (lv_at hl 0 rfl) ?_
    refine va_get (D := G.1) (ci := 1) (v := .int sta) (C := RX1) (T := TX1) (N := 9) hx hb hts hiX1 hown hX.1 (x1 hW hE) 0 rfl rfl 8 (by decide) hf35 (fun _ h9 => h9) rfl dX1_pointsFor_31 ?_
    refine lv_iconst (v := 1) hx hb dX1_pointsFor_34 (by decide) ?_
    refine lv_icmp_ne (tgt := 46) hx hb dX1_pointsFor_35 (by decide) (fun c_2 => ?_) (fun c_2 => ?_)
    · refine lv_aload_n hx hb dX1_pointsFor_46 rfl (lv_at hl 0 rfl) ?_
      refine va_get (D := G.1) (ci := 1) (v := .int sta) (C := RX1) (T := TX1) (N := 9) hx hb hts hiX1 hown hX.1 (x1 hW hE) 0 rfl rfl 8 (by decide) hf35 (fun _ h9 => h9) rfl dX1_pointsFor_47 ?_
      refine lv_iconst (v := 2) hx hb dX1_pointsFor_50 (by decide) ?_
      refine lv_icmp_ne (tgt := 66) hx hb dX1_pointsFor_51 (by decide) (fun c_3 => ?_) (fun c_3 => ?_)
      · refine lv_iconst (v := 0) hx hb dX1_pointsFor_66 (by decide) ?_
        refine lv_istore_n (lv' := [(2, .int 0), (0, .ref o), (1, .int a0)]) hx hb dX1_pointsFor_67 rfl hl (by decide) rfl (fun ls hl => ?_)
        refine lv_iload_n hx hb dX1_pointsFor_68 rfl (lv_at hl 0 rfl) ?_
        refine lv_if_eq (tgt := 76) hx hb dX1_pointsFor_69 (by decide) (fun _ => ?_) (fun c9 => absurd (by decide) c9)
        refine lv_iconst (v := 0) hx hb dX1_pointsFor_76 (by decide) ?_
        exact W.iret (v := 0) hx hb hr (fun t ht hw => ⟨_, rfl, (show (0 : Int32) = fX1_pointsFor q1 q2 sta a0 from by unfold fX1_pointsFor; rw [if_neg c_1, if_neg c_2, if_neg c_3]), ht⟩) (fun _ h => nomatch h) dX1_pointsFor_77
      · refine lv_iload_n hx hb dX1_pointsFor_54 rfl (lv_at hl 1 rfl) ?_
        refine lv_aload_n hx hb dX1_pointsFor_55 rfl (lv_at hl 0 rfl) ?_
        refine va_get (D := G.1) (ci := 1) (v := .int q2) (C := RX1) (T := TX1) (N := 9) hx hb hts hiX1 hown hX.1 (x1 hW hE) 0 rfl rfl 3 (by decide) hf26 (fun _ h9 => h9) rfl dX1_pointsFor_56 ?_
        refine lv_icmp_ne (tgt := 66) hx hb dX1_pointsFor_59 (by decide) (fun c_4 => ?_) (fun c_4 => ?_)
        · refine lv_iconst (v := 0) hx hb dX1_pointsFor_66 (by decide) ?_
          refine lv_istore_n (lv' := [(2, .int 0), (0, .ref o), (1, .int a0)]) hx hb dX1_pointsFor_67 rfl hl (by decide) rfl (fun ls hl => ?_)
          refine lv_iload_n hx hb dX1_pointsFor_68 rfl (lv_at hl 0 rfl) ?_
          refine lv_if_eq (tgt := 76) hx hb dX1_pointsFor_69 (by decide) (fun _ => ?_) (fun c9 => absurd (by decide) c9)
          refine lv_iconst (v := 0) hx hb dX1_pointsFor_76 (by decide) ?_
          exact W.iret (v := 0) hx hb hr (fun t ht hw => ⟨_, rfl, (show (0 : Int32) = fX1_pointsFor q1 q2 sta a0 from by unfold fX1_pointsFor; rw [if_neg c_1, if_neg c_2, if_pos c_3, if_neg c_4]), ht⟩) (fun _ h => nomatch h) dX1_pointsFor_77
        · refine lv_iconst (v := 1) hx hb dX1_pointsFor_62 (by decide) ?_
          refine lv_goto (tgt := 67) hx hb dX1_pointsFor_63 (by decide) ?_
          refine lv_istore_n (lv' := [(2, .int 1), (0, .ref o), (1, .int a0)]) hx hb dX1_pointsFor_67 rfl hl (by decide) rfl (fun ls hl => ?_)
          refine lv_iload_n hx hb dX1_pointsFor_68 rfl (lv_at hl 0 rfl) ?_
          refine lv_if_eq (tgt := 76) hx hb dX1_pointsFor_69 (by decide) (fun c9 => absurd c9 (by decide)) (fun _ => ?_)
          refine lv_iconst (v := 3) hx hb dX1_pointsFor_72 (by decide) ?_
          refine lv_goto (tgt := 77) hx hb dX1_pointsFor_73 (by decide) ?_
          exact W.iret (v := 3) hx hb hr (fun t ht hw => ⟨_, rfl, (show (3 : Int32) = fX1_pointsFor q1 q2 sta a0 from by unfold fX1_pointsFor; rw [if_neg c_1, if_neg c_2, if_pos c_3, if_pos c_4]), ht⟩) (fun _ h => nomatch h) dX1_pointsFor_77
    · refine lv_iload_n hx hb dX1_pointsFor_38 rfl (lv_at hl 1 rfl) ?_
      refine lv_aload_n hx hb dX1_pointsFor_39 rfl (lv_at hl 0 rfl) ?_
      refine va_get (D := G.1) (ci := 1) (v := .int q1) (C := RX1) (T := TX1) (N := 9) hx hb hts hiX1 hown hX.1 (x1 hW hE) 0 rfl rfl 2 (by decide) hf22 (fun _ h9 => h9) rfl dX1_pointsFor_40 ?_
      refine lv_icmp_eq (tgt := 62) hx hb dX1_pointsFor_43 (by decide) (fun c_5 => ?_) (fun c_5 => ?_)
      · refine lv_iconst (v := 1) hx hb dX1_pointsFor_62 (by decide) ?_
        refine lv_goto (tgt := 67) hx hb dX1_pointsFor_63 (by decide) ?_
        refine lv_istore_n (lv' := [(2, .int 1), (0, .ref o), (1, .int a0)]) hx hb dX1_pointsFor_67 rfl hl (by decide) rfl (fun ls hl => ?_)
        refine lv_iload_n hx hb dX1_pointsFor_68 rfl (lv_at hl 0 rfl) ?_
        refine lv_if_eq (tgt := 76) hx hb dX1_pointsFor_69 (by decide) (fun c9 => absurd c9 (by decide)) (fun _ => ?_)
        refine lv_iconst (v := 3) hx hb dX1_pointsFor_72 (by decide) ?_
        refine lv_goto (tgt := 77) hx hb dX1_pointsFor_73 (by decide) ?_
        exact W.iret (v := 3) hx hb hr (fun t ht hw => ⟨_, rfl, (show (3 : Int32) = fX1_pointsFor q1 q2 sta a0 from by unfold fX1_pointsFor; rw [if_neg c_1, if_pos c_2, if_pos c_5]), ht⟩) (fun _ h => nomatch h) dX1_pointsFor_77
      · refine lv_aload_n hx hb dX1_pointsFor_46 rfl (lv_at hl 0 rfl) ?_
        refine va_get (D := G.1) (ci := 1) (v := .int sta) (C := RX1) (T := TX1) (N := 9) hx hb hts hiX1 hown hX.1 (x1 hW hE) 0 rfl rfl 8 (by decide) hf35 (fun _ h9 => h9) rfl dX1_pointsFor_47 ?_
        refine lv_iconst (v := 2) hx hb dX1_pointsFor_50 (by decide) ?_
        refine lv_icmp_ne (tgt := 66) hx hb dX1_pointsFor_51 (by decide) (fun c_6 => ?_) (fun c_6 => ?_)
        · refine lv_iconst (v := 0) hx hb dX1_pointsFor_66 (by decide) ?_
          refine lv_istore_n (lv' := [(2, .int 0), (0, .ref o), (1, .int a0)]) hx hb dX1_pointsFor_67 rfl hl (by decide) rfl (fun ls hl => ?_)
          refine lv_iload_n hx hb dX1_pointsFor_68 rfl (lv_at hl 0 rfl) ?_
          refine lv_if_eq (tgt := 76) hx hb dX1_pointsFor_69 (by decide) (fun _ => ?_) (fun c9 => absurd (by decide) c9)
          refine lv_iconst (v := 0) hx hb dX1_pointsFor_76 (by decide) ?_
          exact W.iret (v := 0) hx hb hr (fun t ht hw => ⟨_, rfl, (show (0 : Int32) = fX1_pointsFor q1 q2 sta a0 from by unfold fX1_pointsFor; rw [if_neg c_1, if_pos c_2, if_neg c_5, if_neg c_6]), ht⟩) (fun _ h => nomatch h) dX1_pointsFor_77
        · refine lv_iload_n hx hb dX1_pointsFor_54 rfl (lv_at hl 1 rfl) ?_
          refine lv_aload_n hx hb dX1_pointsFor_55 rfl (lv_at hl 0 rfl) ?_
          refine va_get (D := G.1) (ci := 1) (v := .int q2) (C := RX1) (T := TX1) (N := 9) hx hb hts hiX1 hown hX.1 (x1 hW hE) 0 rfl rfl 3 (by decide) hf26 (fun _ h9 => h9) rfl dX1_pointsFor_56 ?_
          refine lv_icmp_ne (tgt := 66) hx hb dX1_pointsFor_59 (by decide) (fun c_7 => ?_) (fun c_7 => ?_)
          · refine lv_iconst (v := 0) hx hb dX1_pointsFor_66 (by decide) ?_
            refine lv_istore_n (lv' := [(2, .int 0), (0, .ref o), (1, .int a0)]) hx hb dX1_pointsFor_67 rfl hl (by decide) rfl (fun ls hl => ?_)
            refine lv_iload_n hx hb dX1_pointsFor_68 rfl (lv_at hl 0 rfl) ?_
            refine lv_if_eq (tgt := 76) hx hb dX1_pointsFor_69 (by decide) (fun _ => ?_) (fun c9 => absurd (by decide) c9)
            refine lv_iconst (v := 0) hx hb dX1_pointsFor_76 (by decide) ?_
            exact W.iret (v := 0) hx hb hr (fun t ht hw => ⟨_, rfl, (show (0 : Int32) = fX1_pointsFor q1 q2 sta a0 from by unfold fX1_pointsFor; rw [if_neg c_1, if_pos c_2, if_neg c_5, if_pos c_6, if_neg c_7]), ht⟩) (fun _ h => nomatch h) dX1_pointsFor_77
          · refine lv_iconst (v := 1) hx hb dX1_pointsFor_62 (by decide) ?_
            refine lv_goto (tgt := 67) hx hb dX1_pointsFor_63 (by decide) ?_
            refine lv_istore_n (lv' := [(2, .int 1), (0, .ref o), (1, .int a0)]) hx hb dX1_pointsFor_67 rfl hl (by decide) rfl (fun ls hl => ?_)
            refine lv_iload_n hx hb dX1_pointsFor_68 rfl (lv_at hl 0 rfl) ?_
            refine lv_if_eq (tgt := 76) hx hb dX1_pointsFor_69 (by decide) (fun c9 => absurd c9 (by decide)) (fun _ => ?_)
            refine lv_iconst (v := 3) hx hb dX1_pointsFor_72 (by decide) ?_
            refine lv_goto (tgt := 77) hx hb dX1_pointsFor_73 (by decide) ?_
            exact W.iret (v := 3) hx hb hr (fun t ht hw => ⟨_, rfl, (show (3 : Int32) = fX1_pointsFor q1 q2 sta a0 from by unfold fX1_pointsFor; rw [if_neg c_1, if_pos c_2, if_neg c_5, if_pos c_6, if_pos c_7]), ht⟩) (fun _ h => nomatch h) dX1_pointsFor_77
  · refine lv_iload_n hx hb dX1_pointsFor_8 rfl (lv_at hl 1 rfl) ?_
    refine lv_aload_n hx hb dX1_pointsFor_9 rfl (lv_at hl 0 rfl) ?_
    refine va_get (D := G.1) (ci := 1) (v := .int q1) (C := RX1) (T := TX1) (N := 9) hx hb hts hiX1 hown hX.1 (x1 hW hE) 0 rfl rfl 2 (by decide) hf22 (fun _ h9 => h9) rfl dX1_pointsFor_10 ?_
    refine lv_icmp_eq (tgt := 24) hx hb dX1_pointsFor_13 (by decide) (fun c_8 => ?_) (fun c_8 => ?_)
    · refine lv_iconst (v := 1) hx hb dX1_pointsFor_24 (by decide) ?_
      refine lv_goto (tgt := 29) hx hb dX1_pointsFor_25 (by decide) ?_
      exact W.iret (v := 1) hx hb hr (fun t ht hw => ⟨_, rfl, (show (1 : Int32) = fX1_pointsFor q1 q2 sta a0 from by unfold fX1_pointsFor; rw [if_pos c_1, if_pos c_8]), ht⟩) (fun _ h => nomatch h) dX1_pointsFor_29
    · refine lv_iload_n hx hb dX1_pointsFor_16 rfl (lv_at hl 1 rfl) ?_
      refine lv_aload_n hx hb dX1_pointsFor_17 rfl (lv_at hl 0 rfl) ?_
      refine va_get (D := G.1) (ci := 1) (v := .int q2) (C := RX1) (T := TX1) (N := 9) hx hb hts hiX1 hown hX.1 (x1 hW hE) 0 rfl rfl 3 (by decide) hf26 (fun _ h9 => h9) rfl dX1_pointsFor_18 ?_
      refine lv_icmp_ne (tgt := 28) hx hb dX1_pointsFor_21 (by decide) (fun c_9 => ?_) (fun c_9 => ?_)
      · refine lv_iconst (v := 0) hx hb dX1_pointsFor_28 (by decide) ?_
        exact W.iret (v := 0) hx hb hr (fun t ht hw => ⟨_, rfl, (show (0 : Int32) = fX1_pointsFor q1 q2 sta a0 from by unfold fX1_pointsFor; rw [if_pos c_1, if_neg c_8, if_neg c_9]), ht⟩) (fun _ h => nomatch h) dX1_pointsFor_29
      · refine lv_iconst (v := 1) hx hb dX1_pointsFor_24 (by decide) ?_
        refine lv_goto (tgt := 29) hx hb dX1_pointsFor_25 (by decide) ?_
        exact W.iret (v := 1) hx hb hr (fun t ht hw => ⟨_, rfl, (show (1 : Int32) = fX1_pointsFor q1 q2 sta a0 from by unfold fX1_pointsFor; rw [if_pos c_1, if_neg c_8, if_pos c_9]), ht⟩) (fun _ h => nomatch h) dX1_pointsFor_29

def fX1_allows (σ : xSg) (nC : Nat) (S : Int32) (h : Int32) (p1 : Int32) (p2 : Int32) (md : Int32) (sta : Int32) (a0 : Int32) (a1 : Int32) : Bool := if sta = 0 then (if (fX4_isIn (fX1_ofMover p1 p2 md) a0) = true then (if (fX4_isIn (fX1_ofMover p1 p2 md) a1) = true then false else (if (fX2_someCardLeads (σ) nC S h a0 a1 (p1 ||| p2) (fX1_isSecondToMove md)) = true then true else false)) else false) else false
set_option maxHeartbeats 4000000 in
set_option maxRecDepth 100000 in
theorem kX1_allows (l : Launch) (G : xG) (E : xE) (σ : xSg) (nC : Nat) (S : Int32) (h : Int32) (p1 : Int32) (p2 : Int32) (md : Int32) (sta : Int32) (o : Nat) (a0 : Int32) (a1 : Int32) (gv gr sn : Nat) (q1 : Int32) (q2 : Int32) (hE : E o = some (.inr (1, [.ref gv, .ref gr, .int q1, .int q2, .ref sn, .int p1, .int p2, .int md, .int sta]))) (ta : Nat) (tb : Nat → Option Nat) (hR : E gr = some (.inr (2, [.ref ta, .int S, .int h]))) (hT : xCardsAt G E ta tb nC σ) : Met l yX1_allows wsX1_allows ({ frames := 3, cells := 0, slots := 0, locals := 80 }) (va_Pc [.ref o, .int a0, .int a1] (xB G E)) (vp_Si (fun r => r = zI (fX1_allows σ nC S h p1 p2 md sta a0 a1))) 0 0 (fun _ => False) := by
  refine Met.ofW (cc := cX1_allows) (maxL := 3) (ret := (some .boolean)) (by decide) rfl ?_
  intro p e s m args below meth c s₁ B hml hv
  obtain ⟨rfl, hX, hW⟩ := hv
  have hx := B.exec
  have hb := B.bytes
  have hr := B.returns
  have hts := atoms_spec (ws := wsX1_allows) B.pre
  have hown : s.vm.findClass RX1 = some m.cls := findClass_of_methodNamed B.named
  have hlocks := B.notSynchronized
  have hS : va_S (xA G) s.heap s.heap [] := va_S.rf
  have hiX1 : ∀ w ∈ u_ws RX1 TX1 9, w ∈ wsX1_allows := by decide +kernel
  have hf35 := hts (Cond.fieldLink RX1 35 "VariantMill$Game" "state" "I") (by decide +kernel)
  have hiniRX4 := hts (Cond.initialized RX4) (by decide +kernel)
  have hstX4_isIn := hts (Cond.static yX4_isIn) (by decide +kernel)
  have hf21 := hts (Cond.fieldLink RX1 21 "VariantMill$Game" "rules" "LVariantMill$Rules;") (by decide +kernel)
  have hf29 := hts (Cond.fieldLink RX1 29 "VariantMill$Game" "ofFirst" "I") (by decide +kernel)
  have hf32 := hts (Cond.fieldLink RX1 32 "VariantMill$Game" "ofSecond" "I") (by decide +kernel)
  have hl := lv_entry ([.ref o, .int a0, .int a1]) (n := 3) (Nat.le_of_ble_eq_true rfl)
  rw [lg_entry_eq]
  generalize (lg_sl ([.ref o, .int a0, .int a1]) ++ List.replicate (3 - (lg_sl ([.ref o, .int a0, .int a1])).length) Slot.unset).toArray = ls at hl ⊢
  have hl : lv_has ls 3 [(0, .ref o), (1, .int a0), (2, .int a1)] := hl
  refine lv_aload_n hx hb dX1_allows_0 rfl (lv_at hl 0 rfl) ?_
  refine va_get (D := G.1) (ci := 1) (v := .int sta) (C := RX1) (T := TX1) (N := 9) hx hb hts hiX1 hown hX.1 (x1 hW hE) 0 rfl rfl 8 (by decide) hf35 (fun _ h9 => h9) rfl dX1_allows_1 ?_
  refine lv_if_ne (tgt := 58) hx hb dX1_allows_4 (by decide) (fun c_1 => ?_) (fun c_1 => ?_)
  · refine lv_iconst (v := 0) hx hb dX1_allows_58 (by decide) ?_
    exact W.zret (v := 0) hx hb hr rfl (fun t ht hw => ⟨_, rfl, (congrArg zI (show false = fX1_allows σ nC S h p1 p2 md sta a0 a1 from by unfold fX1_allows; rw [if_neg c_1])), ht⟩) (fun _ h => nomatch h) dX1_allows_59
  · refine lv_aload_n hx hb dX1_allows_7 rfl (lv_at hl 0 rfl) ?_
    refine x_callSe (va_runV (As := []) (rest := []) ⟨hx, hb, hml, hown, hts⟩ (kX1_ofMover l G _ p1 p2 md o gv gr sn q1 q2 sta hE) (cwV 0 hts gX1_allows_X1_ofMover rfl rfl rfl (by decide +kernel) ⟨Nat.le_of_ble_eq_true rfl, Nat.le_of_ble_eq_true rfl⟩) (x_preV hX hS hW hE rfl) rfl rfl hl.1 rfl (lv_room (Nat.le_of_ble_eq_true rfl)) dX1_allows_8 ⟨Nat.le_of_ble_eq_true rfl, Nat.le_of_ble_eq_true rfl⟩) ?_
    refine lv_iload_n hx hb dX1_allows_11 rfl (lv_at hl 1 rfl) ?_
    refine x_callSe (va_runSN (As := [.int (fX1_ofMover p1 p2 md), .int a0]) (rest := []) ⟨hx, hb, hml, hown, hts⟩ (kX4_isIn l (fX1_ofMover p1 p2 md) a0) ⟨va_cnB 2 hts gX1_allows_X4_isIn_n57 rfl rfl rfl hX.2.1.2.2.2.1 hiniRX4 (by decide +kernel) ⟨Nat.le_of_ble_eq_true rfl, Nat.le_of_ble_eq_true rfl⟩, hstX4_isIn, trivial⟩ x_preT rfl rfl hl.1 rfl (lv_room (Nat.le_of_ble_eq_true rfl)) dX1_allows_12 ⟨Nat.le_of_ble_eq_true rfl, Nat.le_of_ble_eq_true rfl⟩) ?_
    refine x_ifz_eq (b := fX4_isIn (fX1_ofMover p1 p2 md) a0) (tgt := 58) hx hb dX1_allows_15 (by decide) (fun c_2 => ?_) (fun c_2 => ?_)
    · refine lv_iconst (v := 0) hx hb dX1_allows_58 (by decide) ?_
      exact W.zret (v := 0) hx hb hr rfl (fun t ht hw => ⟨_, rfl, (congrArg zI (show false = fX1_allows σ nC S h p1 p2 md sta a0 a1 from by unfold fX1_allows; rw [if_pos c_1, if_neg (Bool.eq_false_iff.mp c_2)])), ht⟩) (fun _ h => nomatch h) dX1_allows_59
    · refine lv_aload_n hx hb dX1_allows_18 rfl (lv_at hl 0 rfl) ?_
      refine x_callSe (va_runV (As := []) (rest := []) ⟨hx, hb, hml, hown, hts⟩ (kX1_ofMover l G _ p1 p2 md o gv gr sn q1 q2 sta hE) (cwV 0 hts gX1_allows_X1_ofMover rfl rfl rfl (by decide +kernel) ⟨Nat.le_of_ble_eq_true rfl, Nat.le_of_ble_eq_true rfl⟩) (x_preV hX hS hW hE rfl) rfl rfl hl.1 rfl (lv_room (Nat.le_of_ble_eq_true rfl)) dX1_allows_19 ⟨Nat.le_of_ble_eq_true rfl, Nat.le_of_ble_eq_true rfl⟩) ?_
      refine lv_iload_n hx hb dX1_allows_22 rfl (lv_at hl 2 rfl) ?_
      refine x_callSe (va_runSN (As := [.int (fX1_ofMover p1 p2 md), .int a1]) (rest := []) ⟨hx, hb, hml, hown, hts⟩ (kX4_isIn l (fX1_ofMover p1 p2 md) a1) ⟨va_cnB 2 hts gX1_allows_X4_isIn_n57 rfl rfl rfl hX.2.1.2.2.2.1 hiniRX4 (by decide +kernel) ⟨Nat.le_of_ble_eq_true rfl, Nat.le_of_ble_eq_true rfl⟩, hstX4_isIn, trivial⟩ x_preT rfl rfl hl.1 rfl (lv_room (Nat.le_of_ble_eq_true rfl)) dX1_allows_23 ⟨Nat.le_of_ble_eq_true rfl, Nat.le_of_ble_eq_true rfl⟩) ?_
      refine x_ifz_ne (b := fX4_isIn (fX1_ofMover p1 p2 md) a1) (tgt := 58) hx hb dX1_allows_26 (by decide) (fun c_3 => ?_) (fun c_3 => ?_)
      · refine lv_iconst (v := 0) hx hb dX1_allows_58 (by decide) ?_
        exact W.zret (v := 0) hx hb hr rfl (fun t ht hw => ⟨_, rfl, (congrArg zI (show false = fX1_allows σ nC S h p1 p2 md sta a0 a1 from by unfold fX1_allows; rw [if_pos c_1, if_pos c_2, if_pos c_3])), ht⟩) (fun _ h => nomatch h) dX1_allows_59
      · refine lv_aload_n hx hb dX1_allows_29 rfl (lv_at hl 0 rfl) ?_
        refine va_get (D := G.1) (ci := 1) (v := .ref gr) (C := RX1) (T := TX1) (N := 9) hx hb hts hiX1 hown hX.1 (x1 hW hE) 0 rfl rfl 1 (by decide) hf21 (fun _ h9 => h9) rfl dX1_allows_30 ?_
        refine lv_iload_n hx hb dX1_allows_33 rfl (lv_at hl 1 rfl) ?_
        refine lv_iload_n hx hb dX1_allows_34 rfl (lv_at hl 2 rfl) ?_
        refine lv_aload_n hx hb dX1_allows_35 rfl (lv_at hl 0 rfl) ?_
        refine va_get (D := G.1) (ci := 1) (v := .int p1) (C := RX1) (T := TX1) (N := 9) hx hb hts hiX1 hown hX.1 (x1 hW hE) 0 rfl rfl 5 (by decide) hf29 (fun _ h9 => h9) rfl dX1_allows_36 ?_
        refine lv_aload_n hx hb dX1_allows_39 rfl (lv_at hl 0 rfl) ?_
        refine va_get (D := G.1) (ci := 1) (v := .int p2) (C := RX1) (T := TX1) (N := 9) hx hb hts hiX1 hown hX.1 (x1 hW hE) 0 rfl rfl 6 (by decide) hf32 (fun _ h9 => h9) rfl dX1_allows_40 ?_
        refine lv_ior hx hb dX1_allows_43 ?_
        refine lv_aload_n hx hb dX1_allows_44 rfl (lv_at hl 0 rfl) ?_
        refine x_callSe (va_runV (As := []) (rest := [.int (p1 ||| p2), .int a1, .int a0, .ref gr]) ⟨hx, hb, hml, hown, hts⟩ (kX1_isSecondToMove l G _ md o gv gr sn q1 q2 p1 p2 sta hE) (cwV 0 hts gX1_allows_X1_isSecondToMove rfl rfl rfl (by decide +kernel) ⟨Nat.le_of_ble_eq_true rfl, Nat.le_of_ble_eq_true rfl⟩) (x_preV hX hS hW hE rfl) rfl rfl hl.1 rfl (lv_room (Nat.le_of_ble_eq_true rfl)) dX1_allows_45 ⟨Nat.le_of_ble_eq_true rfl, Nat.le_of_ble_eq_true rfl⟩) ?_
        refine x_callSe (va_runV (As := [.int a0, .int a1, .int (p1 ||| p2), .int (zI (fX1_isSecondToMove md))]) (rest := []) ⟨hx, hb, hml, hown, hts⟩ (kX2_someCardLeads l G _ (σ) nC S h gr a0 a1 (p1 ||| p2) (fX1_isSecondToMove md) ta tb hR hT) (cwV 4 hts gX1_allows_X2_someCardLeads rfl rfl rfl (by decide +kernel) ⟨Nat.le_of_ble_eq_true rfl, Nat.le_of_ble_eq_true rfl⟩) (x_preV hX hS hW hR rfl) rfl rfl hl.1 rfl (lv_room (Nat.le_of_ble_eq_true rfl)) dX1_allows_48 ⟨Nat.le_of_ble_eq_true rfl, Nat.le_of_ble_eq_true rfl⟩) ?_
        refine x_ifz_eq (b := fX2_someCardLeads (σ) nC S h a0 a1 (p1 ||| p2) (fX1_isSecondToMove md)) (tgt := 58) hx hb dX1_allows_51 (by decide) (fun c_4 => ?_) (fun c_4 => ?_)
        · refine lv_iconst (v := 0) hx hb dX1_allows_58 (by decide) ?_
          exact W.zret (v := 0) hx hb hr rfl (fun t ht hw => ⟨_, rfl, (congrArg zI (show false = fX1_allows σ nC S h p1 p2 md sta a0 a1 from by unfold fX1_allows; rw [if_pos c_1, if_pos c_2, if_neg (Bool.eq_false_iff.mp c_3), if_neg (Bool.eq_false_iff.mp c_4)])), ht⟩) (fun _ h => nomatch h) dX1_allows_59
        · refine lv_iconst (v := 1) hx hb dX1_allows_54 (by decide) ?_
          refine lv_goto (tgt := 59) hx hb dX1_allows_55 (by decide) ?_
          exact W.zret (v := 1) hx hb hr rfl (fun t ht hw => ⟨_, rfl, (congrArg zI (show true = fX1_allows σ nC S h p1 p2 md sta a0 a1 from by unfold fX1_allows; rw [if_pos c_1, if_pos c_2, if_neg (Bool.eq_false_iff.mp c_3), if_pos c_4])), ht⟩) (fun _ h => nomatch h) dX1_allows_59

def g2X4_isAmongAllMoves (σ : xSg) (nC : Nat) (S : Int32) (h : Int32) (p1 : Int32) (p2 : Int32) (md : Int32) (a1 : Int32) (a2 : Int32) (k : Nat) (cont : Bool → Bool) : Nat → Nat → Bool → Bool
  | 0, _, _ => false
  | n2 + 1, k2, v3 => if 25 ≤ (nI k2) then (cont v3) else (if (fX4_isIn (fX2_endsFrom (σ) nC S h (nI k) (fX1_ofMover p1 p2 md) (fX1_ofWaiting p1 p2 md) (fX1_isSecondToMove md)) (nI k2)) = true then (if (nI k) = a1 then (if (nI k2) = a2 then (g2X4_isAmongAllMoves σ nC S h p1 p2 md a1 a2 k cont n2 (k2 + 1) true) else (g2X4_isAmongAllMoves σ nC S h p1 p2 md a1 a2 k cont n2 (k2 + 1) v3)) else (g2X4_isAmongAllMoves σ nC S h p1 p2 md a1 a2 k cont n2 (k2 + 1) v3)) else (g2X4_isAmongAllMoves σ nC S h p1 p2 md a1 a2 k cont n2 (k2 + 1) v3))
def gX4_isAmongAllMoves (σ : xSg) (nC : Nat) (S : Int32) (h : Int32) (p1 : Int32) (p2 : Int32) (md : Int32) (a1 : Int32) (a2 : Int32) : Nat → Nat → Bool → Bool
  | 0, _, _ => false
  | n + 1, k, v3 => if 25 ≤ (nI k) then v3 else (g2X4_isAmongAllMoves σ nC S h p1 p2 md a1 a2 k (fun v3 => gX4_isAmongAllMoves σ nC S h p1 p2 md a1 a2 n (k + 1) v3) 26 0 v3)
def fX4_isAmongAllMoves (σ : xSg) (nC : Nat) (S : Int32) (h : Int32) (p1 : Int32) (p2 : Int32) (md : Int32) (a1 : Int32) (a2 : Int32) : Bool := gX4_isAmongAllMoves σ nC S h p1 p2 md a1 a2 26 0 false
set_option maxHeartbeats 4000000 in
set_option maxRecDepth 100000 in
theorem kX4_isAmongAllMoves (l : Launch) (G : xG) (E : xE) (σ : xSg) (nC : Nat) (S : Int32) (h : Int32) (p1 : Int32) (p2 : Int32) (md : Int32) (o : Nat) (a1 : Int32) (a2 : Int32) (gv gr sn : Nat) (q1 : Int32) (q2 : Int32) (sta : Int32) (hE : E o = some (.inr (1, [.ref gv, .ref gr, .int q1, .int q2, .ref sn, .int p1, .int p2, .int md, .int sta]))) (ta : Nat) (tb : Nat → Option Nat) (hR : E gr = some (.inr (2, [.ref ta, .int S, .int h]))) (hT : xCardsAt G E ta tb nC σ) : Met l yX4_isAmongAllMoves wsX4_isAmongAllMoves ({ frames := 3, cells := 0, slots := 0, locals := 81 }) (va_Pc [.ref o, .int a1, .int a2] (xB G E)) (vp_Si (fun r => r = zI (fX4_isAmongAllMoves σ nC S h p1 p2 md a1 a2))) 0 0 (fun _ => False) := by
  refine Met.ofW (cc := cX4_isAmongAllMoves) (maxL := 7) (ret := (some .boolean)) (by decide) rfl ?_
  intro p e s m args below meth c s₁ B hml hv
  obtain ⟨rfl, hX, hW⟩ := hv
  have hx := B.exec
  have hb := B.bytes
  have hr := B.returns
  have hts := atoms_spec (ws := wsX4_isAmongAllMoves) B.pre
  have hown : s.vm.findClass RX4 = some m.cls := findClass_of_methodNamed B.named
  have hlocks := B.notSynchronized
  have hS : va_S (xA G) s.heap s.heap [] := va_S.rf
  have hiX1 : ∀ w ∈ u_ws RX1 TX1 9, w ∈ wsX4_isAmongAllMoves := by decide +kernel
  have hf153 := hts (Cond.fieldLink RX4 153 "VariantMill$Game" "rules" "LVariantMill$Rules;") (by decide +kernel)
  have hl := lv_entry ([.ref o, .int a1, .int a2]) (n := 7) (Nat.le_of_ble_eq_true rfl)
  rw [lg_entry_eq]
  generalize (lg_sl ([.ref o, .int a1, .int a2]) ++ List.replicate (7 - (lg_sl ([.ref o, .int a1, .int a2])).length) Slot.unset).toArray = ls at hl ⊢
  have hl : lv_has ls 7 [(0, .ref o), (1, .int a1), (2, .int a2)] := hl
  refine x_loopK (σ := Nat × Nat × Bool) 5 7 (fun x => [(0, .ref o), (1, .int a1), (2, .int a2), (4, .int (nI x.2.1)), (3, .int (zI x.2.2))]) (fun x => fX4_isAmongAllMoves σ nC S h p1 p2 md a1 a2 = gX4_isAmongAllMoves σ nC S h p1 p2 md a1 a2 x.1 x.2.1 x.2.2 ∧ x.2.1 ≤ 25 ∧ x.1 + x.2.1 = 25 + 1) (fun x => x.1) ?_ (fun LP => ?_)
  · rintro ⟨n, k, v3⟩ ls ⟨hv, hk, hn⟩ hl ih
    dsimp only at hv hk hn
    rcases n with _ | n
    · omega
    · have hl : lv_has ls 7 [(0, .ref o), (1, .int a1), (2, .int a2), (4, .int (nI k)), (3, .int (zI v3))] := hl
      refine lv_iload hx hb dX4_isAmongAllMoves_5 (lv_at hl 3 rfl) ?_
      refine lv_bipush (v := 25) hx hb dX4_isAmongAllMoves_7 (by decide) ?_
      refine lv_icmp_ge (tgt := 81) hx hb dX4_isAmongAllMoves_9 (by decide) (fun c_1 => ?_) (fun c_1 => ?_)
      · refine lv_iload_n hx hb dX4_isAmongAllMoves_81 rfl (lv_at hl 4 rfl) ?_
        exact W.zret (v := zI v3) hx hb hr (xz_nar _) (fun t ht hw => ⟨_, rfl, (congrArg zI (show v3 = fX4_isAmongAllMoves σ nC S h p1 p2 md a1 a2 from by rw [hv, gX4_isAmongAllMoves]; rw [if_pos c_1])), ht⟩) (fun _ h => nomatch h) dX4_isAmongAllMoves_82
      · have hk1 : k < 25 := x_nge (B := 25) c_1 (by omega)
        refine lv_aload_n hx hb dX4_isAmongAllMoves_12 rfl (lv_at hl 0 rfl) ?_
        refine va_get (D := G.1) (ci := 1) (v := .ref gr) (C := RX1) (T := TX1) (N := 9) hx hb hts hiX1 hown hX.1 (x1 hW hE) 0 rfl rfl 1 (by decide) hf153 (fun _ h9 => h9) rfl dX4_isAmongAllMoves_13 ?_
        refine lv_iload hx hb dX4_isAmongAllMoves_16 (lv_at hl 3 rfl) ?_
        refine lv_aload_n hx hb dX4_isAmongAllMoves_18 rfl (lv_at hl 0 rfl) ?_
        refine x_callSe (va_runV (As := []) (rest := [.int (nI k), .ref gr]) ⟨hx, hb, hml, hown, hts⟩ (kX1_ofMover l G _ p1 p2 md o gv gr sn q1 q2 sta hE) (cwV 0 hts gX4_isAmongAllMoves_X1_ofMover rfl rfl rfl (by decide +kernel) ⟨Nat.le_of_ble_eq_true rfl, Nat.le_of_ble_eq_true rfl⟩) (x_preV hX hS hW hE rfl) rfl rfl hl.1 rfl (lv_room (Nat.le_of_ble_eq_true rfl)) dX4_isAmongAllMoves_19 ⟨Nat.le_of_ble_eq_true rfl, Nat.le_of_ble_eq_true rfl⟩) ?_
        refine lv_aload_n hx hb dX4_isAmongAllMoves_22 rfl (lv_at hl 0 rfl) ?_
        refine x_callSe (va_runV (As := []) (rest := [.int (fX1_ofMover p1 p2 md), .int (nI k), .ref gr]) ⟨hx, hb, hml, hown, hts⟩ (kX1_ofWaiting l G _ p1 p2 md o gv gr sn q1 q2 sta hE) (cwV 0 hts gX4_isAmongAllMoves_X1_ofWaiting rfl rfl rfl (by decide +kernel) ⟨Nat.le_of_ble_eq_true rfl, Nat.le_of_ble_eq_true rfl⟩) (x_preV hX hS hW hE rfl) rfl rfl hl.1 rfl (lv_room (Nat.le_of_ble_eq_true rfl)) dX4_isAmongAllMoves_23 ⟨Nat.le_of_ble_eq_true rfl, Nat.le_of_ble_eq_true rfl⟩) ?_
        refine lv_aload_n hx hb dX4_isAmongAllMoves_26 rfl (lv_at hl 0 rfl) ?_
        refine x_callSe (va_runV (As := []) (rest := [.int (fX1_ofWaiting p1 p2 md), .int (fX1_ofMover p1 p2 md), .int (nI k), .ref gr]) ⟨hx, hb, hml, hown, hts⟩ (kX1_isSecondToMove l G _ md o gv gr sn q1 q2 p1 p2 sta hE) (cwV 0 hts gX4_isAmongAllMoves_X1_isSecondToMove rfl rfl rfl (by decide +kernel) ⟨Nat.le_of_ble_eq_true rfl, Nat.le_of_ble_eq_true rfl⟩) (x_preV hX hS hW hE rfl) rfl rfl hl.1 rfl (lv_room (Nat.le_of_ble_eq_true rfl)) dX4_isAmongAllMoves_27 ⟨Nat.le_of_ble_eq_true rfl, Nat.le_of_ble_eq_true rfl⟩) ?_
        refine x_callSe (va_runV (As := [.int (nI k), .int (fX1_ofMover p1 p2 md), .int (fX1_ofWaiting p1 p2 md), .int (zI (fX1_isSecondToMove md))]) (rest := []) ⟨hx, hb, hml, hown, hts⟩ (kX2_endsFrom l G _ (σ) nC S h gr (nI k) (fX1_ofMover p1 p2 md) (fX1_ofWaiting p1 p2 md) (fX1_isSecondToMove md) ta tb hR hT) (cwV 4 hts gX4_isAmongAllMoves_X2_endsFrom rfl rfl rfl (by decide +kernel) ⟨Nat.le_of_ble_eq_true rfl, Nat.le_of_ble_eq_true rfl⟩) (x_preV hX hS hW hR rfl) rfl rfl hl.1 rfl (lv_room (Nat.le_of_ble_eq_true rfl)) dX4_isAmongAllMoves_30 ⟨Nat.le_of_ble_eq_true rfl, Nat.le_of_ble_eq_true rfl⟩) ?_
        refine lv_istore (lv' := [(5, .int (fX2_endsFrom (σ) nC S h (nI k) (fX1_ofMover p1 p2 md) (fX1_ofWaiting p1 p2 md) (fX1_isSecondToMove md))), (0, .ref o), (1, .int a1), (2, .int a2), (4, .int (nI k)), (3, .int (zI v3))]) hx hb dX4_isAmongAllMoves_33 hl (by decide) rfl (fun ls hl => ?_)
        refine lv_iconst (v := 0) hx hb dX4_isAmongAllMoves_35 (by decide) ?_
        refine lv_istore (lv' := [(6, .int 0), (5, .int (fX2_endsFrom (σ) nC S h (nI k) (fX1_ofMover p1 p2 md) (fX1_ofWaiting p1 p2 md) (fX1_isSecondToMove md))), (0, .ref o), (1, .int a1), (2, .int a2), (4, .int (nI k)), (3, .int (zI v3))]) hx hb dX4_isAmongAllMoves_36 hl (by decide) rfl (fun ls hl => ?_)
        refine x_loop (σ := Nat × Nat × Bool) 38 7 (fun x => [(5, .int (fX2_endsFrom (σ) nC S h (nI k) (fX1_ofMover p1 p2 md) (fX1_ofWaiting p1 p2 md) (fX1_isSecondToMove md))), (0, .ref o), (1, .int a1), (2, .int a2), (4, .int (nI k)), (6, .int (nI x.2.1)), (3, .int (zI x.2.2))]) (fun x => fX4_isAmongAllMoves σ nC S h p1 p2 md a1 a2 = g2X4_isAmongAllMoves σ nC S h p1 p2 md a1 a2 k (fun v3 => gX4_isAmongAllMoves σ nC S h p1 p2 md a1 a2 n (k + 1) v3) x.1 x.2.1 x.2.2 ∧ x.2.1 ≤ 25 ∧ x.1 + x.2.1 = 25 + 1) (fun x => x.1) ?_ (26, 0, v3) ls ⟨by rw [hv, gX4_isAmongAllMoves]; rw [if_neg c_1], by dsimp only <;> omega, by dsimp only <;> omega⟩ (lv_sub hl [1, 2, 3, 4, 5, 0, 6] rfl)
        rintro ⟨n2, k2, v3⟩ ls ⟨hv2, hk2, hn2⟩ hl ih2
        dsimp only at hv2 hk2 hn2
        rcases n2 with _ | n2
        · omega
        · have hl : lv_has ls 7 [(5, .int (fX2_endsFrom (σ) nC S h (nI k) (fX1_ofMover p1 p2 md) (fX1_ofWaiting p1 p2 md) (fX1_isSecondToMove md))), (0, .ref o), (1, .int a1), (2, .int a2), (4, .int (nI k)), (6, .int (nI k2)), (3, .int (zI v3))] := hl
          refine lv_iload hx hb dX4_isAmongAllMoves_38 (lv_at hl 5 rfl) ?_
          refine lv_bipush (v := 25) hx hb dX4_isAmongAllMoves_40 (by decide) ?_
          refine lv_icmp_ge (tgt := 75) hx hb dX4_isAmongAllMoves_42 (by decide) (fun c_2 => ?_) (fun c_2 => ?_)
          · refine lv_iinc (v := nI (k + 1)) (lv' := [(4, .int (nI (k + 1))), (5, .int (fX2_endsFrom (σ) nC S h (nI k) (fX1_ofMover p1 p2 md) (fX1_ofWaiting p1 p2 md) (fX1_isSecondToMove md))), (0, .ref o), (1, .int a1), (2, .int a2), (6, .int (nI k2)), (3, .int (zI v3))]) hx hb dX4_isAmongAllMoves_75 hl (k := 4) rfl (nI_1 _) (by decide) rfl (fun ls hl => ?_)
            refine lv_goto (tgt := 5) hx hb dX4_isAmongAllMoves_78 (by decide) ?_
            exact ih (n, k + 1, v3) ls (Nat.lt_succ_self _) ⟨by rw [hv2, g2X4_isAmongAllMoves]; rw [if_pos c_2], hk1, by dsimp only <;> omega⟩ (lv_sub hl [2, 3, 4, 0, 6] rfl)
          · have hk12 : k2 < 25 := x_nge (B := 25) c_2 (by omega)
            refine lv_iload hx hb dX4_isAmongAllMoves_45 (lv_at hl 0 rfl) ?_
            refine lv_iload hx hb dX4_isAmongAllMoves_47 (lv_at hl 5 rfl) ?_
            refine x_callSe (va_runS (As := [.int (fX2_endsFrom (σ) nC S h (nI k) (fX1_ofMover p1 p2 md) (fX1_ofWaiting p1 p2 md) (fX1_isSecondToMove md)), .int (nI k2)]) (rest := []) ⟨hx, hb, hml, hown, hts⟩ (kX4_isIn l (fX2_endsFrom (σ) nC S h (nI k) (fX1_ofMover p1 p2 md) (fX1_ofWaiting p1 p2 md) (fX1_isSecondToMove md)) (nI k2)) (va_cwS 2 hts gX4_isAmongAllMoves_X4_isIn rfl rfl rfl (by decide +kernel) ⟨Nat.le_of_ble_eq_true rfl, Nat.le_of_ble_eq_true rfl⟩) x_preT rfl rfl hl.1 rfl (lv_room (Nat.le_of_ble_eq_true rfl)) dX4_isAmongAllMoves_49 ⟨Nat.le_of_ble_eq_true rfl, Nat.le_of_ble_eq_true rfl⟩) ?_
            refine x_ifz_eq (b := fX4_isIn (fX2_endsFrom (σ) nC S h (nI k) (fX1_ofMover p1 p2 md) (fX1_ofWaiting p1 p2 md) (fX1_isSecondToMove md)) (nI k2)) (tgt := 69) hx hb dX4_isAmongAllMoves_52 (by decide) (fun c_3 => ?_) (fun c_3 => ?_)
            · refine lv_iinc (v := nI (k2 + 1)) (lv' := [(6, .int (nI (k2 + 1))), (5, .int (fX2_endsFrom (σ) nC S h (nI k) (fX1_ofMover p1 p2 md) (fX1_ofWaiting p1 p2 md) (fX1_isSecondToMove md))), (0, .ref o), (1, .int a1), (2, .int a2), (4, .int (nI k)), (3, .int (zI v3))]) hx hb dX4_isAmongAllMoves_69 hl (k := 5) rfl (nI_1 _) (by decide) rfl (fun ls hl => ?_)
              refine lv_goto (tgt := 38) hx hb dX4_isAmongAllMoves_72 (by decide) ?_
              exact ih2 (n2, k2 + 1, v3) ls (Nat.lt_succ_self _) ⟨by rw [hv2, g2X4_isAmongAllMoves]; rw [if_neg c_2, if_neg (Bool.eq_false_iff.mp c_3)], hk12, by dsimp only <;> omega⟩ (lv_sub hl [1, 2, 3, 4, 5, 0, 6] rfl)
            · refine lv_iload hx hb dX4_isAmongAllMoves_55 (lv_at hl 4 rfl) ?_
              refine lv_iload_n hx hb dX4_isAmongAllMoves_57 rfl (lv_at hl 2 rfl) ?_
              refine lv_icmp_ne (tgt := 69) hx hb dX4_isAmongAllMoves_58 (by decide) (fun c_4 => ?_) (fun c_4 => ?_)
              · refine lv_iinc (v := nI (k2 + 1)) (lv' := [(6, .int (nI (k2 + 1))), (5, .int (fX2_endsFrom (σ) nC S h (nI k) (fX1_ofMover p1 p2 md) (fX1_ofWaiting p1 p2 md) (fX1_isSecondToMove md))), (0, .ref o), (1, .int a1), (2, .int a2), (4, .int (nI k)), (3, .int (zI v3))]) hx hb dX4_isAmongAllMoves_69 hl (k := 5) rfl (nI_1 _) (by decide) rfl (fun ls hl => ?_)
                refine lv_goto (tgt := 38) hx hb dX4_isAmongAllMoves_72 (by decide) ?_
                exact ih2 (n2, k2 + 1, v3) ls (Nat.lt_succ_self _) ⟨by rw [hv2, g2X4_isAmongAllMoves]; rw [if_neg c_2, if_pos c_3, if_neg c_4], hk12, by dsimp only <;> omega⟩ (lv_sub hl [1, 2, 3, 4, 5, 0, 6] rfl)
              · refine lv_iload hx hb dX4_isAmongAllMoves_61 (lv_at hl 5 rfl) ?_
                refine lv_iload_n hx hb dX4_isAmongAllMoves_63 rfl (lv_at hl 3 rfl) ?_
                refine lv_icmp_ne (tgt := 69) hx hb dX4_isAmongAllMoves_64 (by decide) (fun c_5 => ?_) (fun c_5 => ?_)
                · refine lv_iinc (v := nI (k2 + 1)) (lv' := [(6, .int (nI (k2 + 1))), (5, .int (fX2_endsFrom (σ) nC S h (nI k) (fX1_ofMover p1 p2 md) (fX1_ofWaiting p1 p2 md) (fX1_isSecondToMove md))), (0, .ref o), (1, .int a1), (2, .int a2), (4, .int (nI k)), (3, .int (zI v3))]) hx hb dX4_isAmongAllMoves_69 hl (k := 5) rfl (nI_1 _) (by decide) rfl (fun ls hl => ?_)
                  refine lv_goto (tgt := 38) hx hb dX4_isAmongAllMoves_72 (by decide) ?_
                  exact ih2 (n2, k2 + 1, v3) ls (Nat.lt_succ_self _) ⟨by rw [hv2, g2X4_isAmongAllMoves]; rw [if_neg c_2, if_pos c_3, if_pos c_4, if_neg c_5], hk12, by dsimp only <;> omega⟩ (lv_sub hl [1, 2, 3, 4, 5, 0, 6] rfl)
                · refine lv_iconst (v := 1) hx hb dX4_isAmongAllMoves_67 (by decide) ?_
                  refine lv_istore_n (lv' := [(3, .int 1), (5, .int (fX2_endsFrom (σ) nC S h (nI k) (fX1_ofMover p1 p2 md) (fX1_ofWaiting p1 p2 md) (fX1_isSecondToMove md))), (0, .ref o), (1, .int a1), (2, .int a2), (4, .int (nI k)), (6, .int (nI k2))]) hx hb dX4_isAmongAllMoves_68 rfl hl (by decide) rfl (fun ls hl => ?_)
                  refine lv_iinc (v := nI (k2 + 1)) (lv' := [(6, .int (nI (k2 + 1))), (3, .int 1), (5, .int (fX2_endsFrom (σ) nC S h (nI k) (fX1_ofMover p1 p2 md) (fX1_ofWaiting p1 p2 md) (fX1_isSecondToMove md))), (0, .ref o), (1, .int a1), (2, .int a2), (4, .int (nI k))]) hx hb dX4_isAmongAllMoves_69 hl (k := 6) rfl (nI_1 _) (by decide) rfl (fun ls hl => ?_)
                  refine lv_goto (tgt := 38) hx hb dX4_isAmongAllMoves_72 (by decide) ?_
                  exact ih2 (n2, k2 + 1, true) ls (Nat.lt_succ_self _) ⟨by rw [hv2, g2X4_isAmongAllMoves]; rw [if_neg c_2, if_pos c_3, if_pos c_4, if_pos c_5], hk12, by dsimp only <;> omega⟩ (lv_sub hl [2, 3, 4, 5, 6, 0, 1] rfl)
  · refine lv_iconst (v := 0) hx hb dX4_isAmongAllMoves_0 (by decide) ?_
    refine lv_istore_n (lv' := [(3, .int 0), (0, .ref o), (1, .int a1), (2, .int a2)]) hx hb dX4_isAmongAllMoves_1 rfl hl (by decide) rfl (fun ls hl => ?_)
    refine lv_iconst (v := 0) hx hb dX4_isAmongAllMoves_2 (by decide) ?_
    refine lv_istore (lv' := [(4, .int 0), (3, .int 0), (0, .ref o), (1, .int a1), (2, .int a2)]) hx hb dX4_isAmongAllMoves_3 hl (by decide) rfl (fun ls hl => ?_)
    exact LP (26, 0, false) ls ⟨by unfold fX4_isAmongAllMoves; rfl, by dsimp only <;> omega, by dsimp only <;> omega⟩ (lv_sub hl [2, 3, 4, 0, 1] rfl)

def gX1_timesSeen (p1 : Int32) (p2 : Int32) (md : Int32) (sq : Nat → Int64) : Nat → Nat → Int64 → Int32 → Int32
  | 0, _, _, _ => 0
  | n + 1, k, v1, v3 => if md < (nI k) then v3 else (if 61 ≤ (nI k) then v3 else (if (lg_cmp (sq k) v1) = 0 then (gX1_timesSeen p1 p2 md sq n (k + 1) v1 (v3 + 1)) else (gX1_timesSeen p1 p2 md sq n (k + 1) v1 v3)))
def fX1_timesSeen (p1 : Int32) (p2 : Int32) (md : Int32) (sq : Nat → Int64) : Int32 := gX1_timesSeen p1 p2 md sq 62 0 (fX1_placing p1 p2 (fX1_isSecondToMove md)) 0
set_option maxHeartbeats 4000000 in
set_option maxRecDepth 100000 in
theorem kX1_timesSeen (l : Launch) (G : xG) (E : xE) (p1 : Int32) (p2 : Int32) (md : Int32) (sq : Nat → Int64) (o : Nat) (gv gr sn : Nat) (q1 : Int32) (q2 : Int32) (sta : Int32) (hE : E o = some (.inr (1, [.ref gv, .ref gr, .int q1, .int q2, .ref sn, .int p1, .int p2, .int md, .int sta]))) (hQ : E sn = some (.inl (G.2.1 1, 61, .inr (.inl sq)))) : Met l yX1_timesSeen wsX1_timesSeen ({ frames := 1, cells := 0, slots := 0, locals := 24 }) (va_Pc [.ref o] (xB G E)) (vp_Si (fun r => r = fX1_timesSeen p1 p2 md sq)) 0 0 (fun _ => False) := by
  refine Met.ofW (cc := cX1_timesSeen) (maxL := 5) (ret := (some .int)) (by decide) rfl ?_
  intro p e s m args below meth c s₁ B hml hv
  obtain ⟨rfl, hX, hW⟩ := hv
  have hx := B.exec
  have hb := B.bytes
  have hr := B.returns
  have hts := atoms_spec (ws := wsX1_timesSeen) B.pre
  have hown : s.vm.findClass RX1 = some m.cls := findClass_of_methodNamed B.named
  have hlocks := B.notSynchronized
  have hS : va_S (xA G) s.heap s.heap [] := va_S.rf
  have hiX1 : ∀ w ∈ u_ws RX1 TX1 9, w ∈ wsX1_timesSeen := by decide +kernel
  have hf46 := hts (Cond.fieldLink RX1 46 "VariantMill$Game" "made" "I") (by decide +kernel)
  have hf38 := hts (Cond.fieldLink RX1 38 "VariantMill$Game" "seen" "[J") (by decide +kernel)
  have hf29 := hts (Cond.fieldLink RX1 29 "VariantMill$Game" "ofFirst" "I") (by decide +kernel)
  have hf32 := hts (Cond.fieldLink RX1 32 "VariantMill$Game" "ofSecond" "I") (by decide +kernel)
  have hl := lv_entry ([.ref o]) (n := 5) (Nat.le_of_ble_eq_true rfl)
  rw [lg_entry_eq]
  generalize (lg_sl ([.ref o]) ++ List.replicate (5 - (lg_sl ([.ref o])).length) Slot.unset).toArray = ls at hl ⊢
  have hl : lv_has ls 5 [(0, .ref o)] := hl
  refine x_loopK (σ := Nat × Nat × Int64 × Int32) 21 5 (fun x => [(0, .ref o), (4, .int (nI x.2.1)), (1, .long x.2.2.1), (3, .int x.2.2.2)]) (fun x => fX1_timesSeen p1 p2 md sq = gX1_timesSeen p1 p2 md sq x.1 x.2.1 x.2.2.1 x.2.2.2 ∧ x.2.1 ≤ 61 ∧ x.1 + x.2.1 = 61 + 1) (fun x => x.1) ?_ (fun LP => ?_)
  · rintro ⟨n, k, v1, v3⟩ ls ⟨hv, hk, hn⟩ hl ih
    dsimp only at hv hk hn
    rcases n with _ | n
    · omega
    · have hl : lv_has ls 5 [(0, .ref o), (4, .int (nI k)), (1, .long v1), (3, .int v3)] := hl
      refine lv_iload hx hb dX1_timesSeen_21 (lv_at hl 1 rfl) ?_
      refine lv_aload_n hx hb dX1_timesSeen_23 rfl (lv_at hl 0 rfl) ?_
      refine va_get (D := G.1) (ci := 1) (v := .int md) (C := RX1) (T := TX1) (N := 9) hx hb hts hiX1 hown hX.1 (x1 hW hE) 0 rfl rfl 7 (by decide) hf46 (fun _ h9 => h9) rfl dX1_timesSeen_24 ?_
      refine lv_icmp_gt (tgt := 61) hx hb dX1_timesSeen_27 (by decide) (fun c_1 => ?_) (fun c_1 => ?_)
      · refine lv_iload_n hx hb dX1_timesSeen_61 rfl (lv_at hl 3 rfl) ?_
        exact W.iret (v := v3) hx hb hr (fun t ht hw => ⟨_, rfl, (show (v3 : Int32) = fX1_timesSeen p1 p2 md sq from by rw [hv, gX1_timesSeen]; rw [if_pos c_1]), ht⟩) (fun _ h => nomatch h) dX1_timesSeen_62
      · refine lv_iload hx hb dX1_timesSeen_30 (lv_at hl 1 rfl) ?_
        refine lv_aload_n hx hb dX1_timesSeen_32 rfl (lv_at hl 0 rfl) ?_
        refine va_get (D := G.1) (ci := 1) (v := .ref sn) (C := RX1) (T := TX1) (N := 9) hx hb hts hiX1 hown hX.1 (x1 hW hE) 0 rfl rfl 4 (by decide) hf38 (fun _ h9 => h9) rfl dX1_timesSeen_33 ?_
        refine va_alen (D := G.1) hx hb hX.1 (x1 hW hQ) 0 1 rfl rfl (v := 61) rfl dX1_timesSeen_36 ?_
        refine lv_icmp_ge (tgt := 61) hx hb dX1_timesSeen_37 (by decide) (fun c_2 => ?_) (fun c_2 => ?_)
        · refine lv_iload_n hx hb dX1_timesSeen_61 rfl (lv_at hl 3 rfl) ?_
          exact W.iret (v := v3) hx hb hr (fun t ht hw => ⟨_, rfl, (show (v3 : Int32) = fX1_timesSeen p1 p2 md sq from by rw [hv, gX1_timesSeen]; rw [if_neg c_1, if_pos c_2]), ht⟩) (fun _ h => nomatch h) dX1_timesSeen_62
        · have hk1 : k < 61 := x_nge (B := 61) c_2 (by omega)
          refine lv_aload_n hx hb dX1_timesSeen_40 rfl (lv_at hl 0 rfl) ?_
          refine va_get (D := G.1) (ci := 1) (v := .ref sn) (C := RX1) (T := TX1) (N := 9) hx hb hts hiX1 hown hX.1 (x1 hW hE) 0 rfl rfl 4 (by decide) hf38 (fun _ h9 => h9) rfl dX1_timesSeen_41 ?_
          refine lv_iload hx hb dX1_timesSeen_44 (lv_at hl 1 rfl) ?_
          refine x_lld (k := k) hx hb hX.1 hW hQ (vp_in_nI hk1 (by omega)) (nI_clamp (by omega)) dX1_timesSeen_46 ?_
          refine lv_lload_n hx hb dX1_timesSeen_47 rfl (lv_at hl 2 rfl) ?_
          refine W.lcmp hx hb dX1_timesSeen_48 ?_
          refine lv_if_ne (tgt := 55) hx hb dX1_timesSeen_49 (by decide) (fun c_3 => ?_) (fun c_3 => ?_)
          · refine lv_iinc (v := nI (k + 1)) (lv' := [(4, .int (nI (k + 1))), (0, .ref o), (1, .long v1), (3, .int v3)]) hx hb dX1_timesSeen_55 hl (k := 1) rfl (nI_1 _) (by decide) rfl (fun ls hl => ?_)
            refine lv_goto (tgt := 21) hx hb dX1_timesSeen_58 (by decide) ?_
            exact ih (n, k + 1, v1, v3) ls (Nat.lt_succ_self _) ⟨by rw [hv, gX1_timesSeen]; rw [if_neg c_1, if_neg c_2, if_neg c_3], hk1, by dsimp only <;> omega⟩ (lv_sub hl [1, 0, 2, 3] rfl)
          · refine lv_iinc (v := v3 + 1) (lv' := [(3, .int (v3 + 1)), (0, .ref o), (4, .int (nI k)), (1, .long v1)]) hx hb dX1_timesSeen_52 hl (k := 3) rfl rfl (by decide) rfl (fun ls hl => ?_)
            refine lv_iinc (v := nI (k + 1)) (lv' := [(4, .int (nI (k + 1))), (3, .int (v3 + 1)), (0, .ref o), (1, .long v1)]) hx hb dX1_timesSeen_55 hl (k := 2) rfl (nI_1 _) (by decide) rfl (fun ls hl => ?_)
            refine lv_goto (tgt := 21) hx hb dX1_timesSeen_58 (by decide) ?_
            exact ih (n, k + 1, v1, (v3 + 1)) ls (Nat.lt_succ_self _) ⟨by rw [hv, gX1_timesSeen]; rw [if_neg c_1, if_neg c_2, if_pos c_3], hk1, by dsimp only <;> omega⟩ (lv_sub hl [2, 0, 3, 1] rfl)
  · refine lv_aload_n hx hb dX1_timesSeen_0 rfl (lv_at hl 0 rfl) ?_
    refine va_get (D := G.1) (ci := 1) (v := .int p1) (C := RX1) (T := TX1) (N := 9) hx hb hts hiX1 hown hX.1 (x1 hW hE) 0 rfl rfl 5 (by decide) hf29 (fun _ h9 => h9) rfl dX1_timesSeen_1 ?_
    refine lv_aload_n hx hb dX1_timesSeen_4 rfl (lv_at hl 0 rfl) ?_
    refine va_get (D := G.1) (ci := 1) (v := .int p2) (C := RX1) (T := TX1) (N := 9) hx hb hts hiX1 hown hX.1 (x1 hW hE) 0 rfl rfl 6 (by decide) hf32 (fun _ h9 => h9) rfl dX1_timesSeen_5 ?_
    refine lv_aload_n hx hb dX1_timesSeen_8 rfl (lv_at hl 0 rfl) ?_
    refine x_callSe (va_runV (As := []) (rest := [.int p2, .int p1]) ⟨hx, hb, hml, hown, hts⟩ (kX1_isSecondToMove l G _ md o gv gr sn q1 q2 p1 p2 sta hE) (cwV 0 hts gX1_timesSeen_X1_isSecondToMove rfl rfl rfl (by decide +kernel) ⟨Nat.le_of_ble_eq_true rfl, Nat.le_of_ble_eq_true rfl⟩) (x_preV hX hS hW hE rfl) rfl rfl hl.1 rfl (lv_room (Nat.le_of_ble_eq_true rfl)) dX1_timesSeen_9 ⟨Nat.le_of_ble_eq_true rfl, Nat.le_of_ble_eq_true rfl⟩) ?_
    refine x_callSle (va_runS (As := [.int p1, .int p2, .int (zI (fX1_isSecondToMove md))]) (rest := []) ⟨hx, hb, hml, hown, hts⟩ (kX1_placing l p1 p2 (fX1_isSecondToMove md)) (va_cwS 3 hts gX1_timesSeen_X1_placing rfl rfl rfl (by decide +kernel) ⟨Nat.le_of_ble_eq_true rfl, Nat.le_of_ble_eq_true rfl⟩) x_preT rfl rfl hl.1 rfl (lv_room (Nat.le_of_ble_eq_true rfl)) dX1_timesSeen_12 ⟨Nat.le_of_ble_eq_true rfl, Nat.le_of_ble_eq_true rfl⟩) ?_
    refine lv_lstore_n (lv' := [(1, .long (fX1_placing p1 p2 (fX1_isSecondToMove md))), (0, .ref o)]) hx hb dX1_timesSeen_15 rfl hl (by decide) rfl (fun ls hl => ?_)
    refine lv_iconst (v := 0) hx hb dX1_timesSeen_16 (by decide) ?_
    refine lv_istore_n (lv' := [(3, .int 0), (1, .long (fX1_placing p1 p2 (fX1_isSecondToMove md))), (0, .ref o)]) hx hb dX1_timesSeen_17 rfl hl (by decide) rfl (fun ls hl => ?_)
    refine lv_iconst (v := 0) hx hb dX1_timesSeen_18 (by decide) ?_
    refine lv_istore (lv' := [(4, .int 0), (3, .int 0), (1, .long (fX1_placing p1 p2 (fX1_isSecondToMove md))), (0, .ref o)]) hx hb dX1_timesSeen_19 hl (by decide) rfl (fun ls hl => ?_)
    exact LP (62, 0, (fX1_placing p1 p2 (fX1_isSecondToMove md)), 0) ls ⟨by unfold fX1_timesSeen; rfl, by dsimp only <;> omega, by dsimp only <;> omega⟩ (lv_sub hl [3, 0, 2, 1] rfl)

def fX4_isSetOfCards (cC : Int32) (a0 : Int32) : Bool := if a0 < 1 then false else (if ((1 : Int32) <<< (cC &&& 31)) ≤ a0 then false else true)
set_option maxHeartbeats 4000000 in
set_option maxRecDepth 100000 in
theorem kX4_isSetOfCards (l : Launch) (G : xG) (E : xE) (cC : Int32) (o : Nat) (a0 : Int32) (w1 w2 w3 : Nat) (cV cG : Int32) (hE : E o = some (.inr (4, [.ref w1, .ref w2, .ref w3, .int cC, .int cV, .int cG]))) : Met l yX4_isSetOfCards wsX4_isSetOfCards ({ frames := 0, cells := 0, slots := 0, locals := 0 }) (va_Pc [.ref o, .int a0] (xB G E)) (vp_Si (fun r => r = zI (fX4_isSetOfCards cC a0))) 0 0 (fun _ => False) := by
  refine Met.ofW (cc := cX4_isSetOfCards) (maxL := 2) (ret := (some .boolean)) (by decide) rfl ?_
  intro p e s m args below meth c s₁ B hml hv
  obtain ⟨rfl, hX, hW⟩ := hv
  have hx := B.exec
  have hb := B.bytes
  have hr := B.returns
  have hts := atoms_spec (ws := wsX4_isSetOfCards) B.pre
  have hown : s.vm.findClass RX4 = some m.cls := findClass_of_methodNamed B.named
  have hlocks := B.notSynchronized
  have hS : va_S (xA G) s.heap s.heap [] := va_S.rf
  have hiX4 : ∀ w ∈ u_ws RX4 TX4 6, w ∈ wsX4_isSetOfCards := by decide +kernel
  have hf38 := hts (Cond.fieldLink RX4 38 "VariantMill" "cardCount" "I") (by decide +kernel)
  have hl := lv_entry ([.ref o, .int a0]) (n := 2) (Nat.le_of_ble_eq_true rfl)
  rw [lg_entry_eq]
  generalize (lg_sl ([.ref o, .int a0]) ++ List.replicate (2 - (lg_sl ([.ref o, .int a0])).length) Slot.unset).toArray = ls at hl ⊢
  have hl : lv_has ls 2 [(0, .ref o), (1, .int a0)] := hl
  refine lv_iload_n hx hb dX4_isSetOfCards_0 rfl (lv_at hl 1 rfl) ?_
  refine lv_iconst (v := 1) hx hb dX4_isSetOfCards_1 (by decide) ?_
  refine lv_icmp_lt (tgt := 19) hx hb dX4_isSetOfCards_2 (by decide) (fun c_1 => ?_) (fun c_1 => ?_)
  · refine lv_iconst (v := 0) hx hb dX4_isSetOfCards_19 (by decide) ?_
    exact W.zret (v := 0) hx hb hr rfl (fun t ht hw => ⟨_, rfl, (congrArg zI (show false = fX4_isSetOfCards cC a0 from by unfold fX4_isSetOfCards; rw [if_pos c_1])), ht⟩) (fun _ h => nomatch h) dX4_isSetOfCards_20
  · refine lv_iload_n hx hb dX4_isSetOfCards_5 rfl (lv_at hl 1 rfl) ?_
    refine lv_iconst (v := 1) hx hb dX4_isSetOfCards_6 (by decide) ?_
    refine lv_aload_n hx hb dX4_isSetOfCards_7 rfl (lv_at hl 0 rfl) ?_
    refine va_get (D := G.1) (ci := 4) (v := .int cC) (C := RX4) (T := TX4) (N := 6) hx hb hts hiX4 hown hX.1 (x1 hW hE) 0 rfl rfl 3 (by decide) hf38 (fun _ h9 => h9) rfl dX4_isSetOfCards_8 ?_
    refine lv_ishl hx hb dX4_isSetOfCards_11 ?_
    refine lv_icmp_ge (tgt := 19) hx hb dX4_isSetOfCards_12 (by decide) (fun c_2 => ?_) (fun c_2 => ?_)
    · refine lv_iconst (v := 0) hx hb dX4_isSetOfCards_19 (by decide) ?_
      exact W.zret (v := 0) hx hb hr rfl (fun t ht hw => ⟨_, rfl, (congrArg zI (show false = fX4_isSetOfCards cC a0 from by unfold fX4_isSetOfCards; rw [if_neg c_1, if_pos c_2])), ht⟩) (fun _ h => nomatch h) dX4_isSetOfCards_20
    · refine lv_iconst (v := 1) hx hb dX4_isSetOfCards_15 (by decide) ?_
      refine lv_goto (tgt := 20) hx hb dX4_isSetOfCards_16 (by decide) ?_
      exact W.zret (v := 1) hx hb hr rfl (fun t ht hw => ⟨_, rfl, (congrArg zI (show true = fX4_isSetOfCards cC a0 from by unfold fX4_isSetOfCards; rw [if_neg c_1, if_neg c_2])), ht⟩) (fun _ h => nomatch h) dX4_isSetOfCards_20
