/-- there is no such thing among n: the exception's number, else 0 -/
def tIx (n a : Int32) : Nat := if a < 0 then 3 else if n ≤ a then 3 else 0
theorem tIx_neg {n a : Int32} (h : a < 0) : tIx n a = 3 := by unfold tIx; rw [if_pos h]
theorem tIx_big {n j : Nat} (h : n ≤ j) (hj : j < 2 ^ 31) : tIx (nI n) (nI j) = 3 := by
  unfold tIx; rw [if_neg (nI_pos hj), if_pos (nI_le h hj)]
theorem tIx_ok {n j : Nat} (h : j < n) (hn : n < 2 ^ 31) : tIx (nI n) (nI j) = 0 := by
  unfold tIx; rw [if_neg (nI_pos (by omega)), if_neg (nI_ge h hn)]
theorem tIx_ge {n B : Nat} {a : Int32} (h0 : ¬ a < 0) (h : ¬ a < nI B) (hn : n ≤ B) (hB : B < 2 ^ 31) : tIx (nI n) a = 3 := by
  obtain ⟨j, hj, rfl⟩ := nI_of h0
  rcases Nat.lt_or_ge j B with q | q
  · exact absurd (nI_lt q hB) h
  · exact tIx_big (Nat.le_trans hn q) hj
theorem tIx_in {a : Int32} {B : Nat} (h0 : ¬ a < 0) (h : a < nI B) (hB : B < 2 ^ 31) : ∃ u : Nat, u < B ∧ a = nI u := by
  obtain ⟨j, hj, rfl⟩ := nI_of h0
  exact ⟨j, (nI_ltI hj hB).mp h, rfl⟩

def tX4_checkPlayer (a0 : Int32) : Nat := if a0 < 0 then (3) else (if a0 < 5 then (0) else (3))
set_option maxHeartbeats 4000000 in
set_option maxRecDepth 100000 in
theorem kX4_checkPlayer (l : Launch) (hl9 : l.stackTraces = false) (G : xG) (E : xE) (a0 : Int32) : vx_Met l yX4_checkPlayer wsX4_checkPlayer ({ frames := 6, cells := 1, slots := 6, locals := 90 }) (va_Pc [.int a0] (xB G E)) (va_Qv (S := xE) (fun E' => tX4_checkPlayer a0 = 0 ∧ E' = E) (fun E' t => xW G E' t.heap) (xA G)) (xX G E (fun n => xEx n (tX4_checkPlayer a0))) 1 6 (xA G) := by
  refine vx_ofW (cc := cX4_checkPlayer) (maxL := 1) (ret := none) (by decide) rfl ?_
  intro p e s m args below meth c s₁ B hml hno hv
  obtain ⟨rfl, hX, hW⟩ := hv
  have hx := B.exec
  have hb := B.bytes
  have hr := B.returns
  have hts := atoms_spec (ws := wsX4_checkPlayer) B.pre
  have hown : s.vm.findClass RX4 = some m.cls := findClass_of_methodNamed B.named
  have hlocks := B.notSynchronized
  have hS : va_S (xA G) s.heap s.heap [] := va_S.rf
  have hl := lv_entry ([.int a0]) (n := 1) (Nat.le_of_ble_eq_true rfl)
  rw [lg_entry_eq]
  generalize (lg_sl ([.int a0]) ++ List.replicate (1 - (lg_sl ([.int a0])).length) Slot.unset).toArray = ls at hl ⊢
  have hl : lv_has ls 1 [(0, .int a0)] := hl
  obtain ⟨H, hH⟩ : ∃ z, z = s.heap := ⟨_, rfl⟩
  rw [← hH] at hW
  have hS : va_S (xA G) s.heap H [] := by rw [hH]; exact hS
  rw [← hH]
  refine lv_iload_n hx hb dX4_checkPlayer_0 rfl (lv_at hl 0 rfl) ?_
  refine lv_if_lt (tgt := 9) hx hb dX4_checkPlayer_1 (by decide) (fun c_1 => ?_) (fun c_1 => ?_)
  · exact x_throw hx hb hl9 hown (cls := "java/lang/IndexOutOfBoundsException") (text := "no such player") (ik := 187) (is := 194) (ic := 191) hts hX hS hW (by decide +kernel) (by decide +kernel) (by decide +kernel) (by decide +kernel) (fun w h => List.mem_cons_of_mem _ (List.mem_append_right _ h)) (by decide +kernel) (by decide +kernel) (hl.1.trans hml.symm) dX4_checkPlayer_9 dX4_checkPlayer_12 dX4_checkPlayer_13 dX4_checkPlayer_15 dX4_checkPlayer_18 hno (Nat.le_of_ble_eq_true rfl) (Nat.le_of_ble_eq_true rfl) (Nat.le_of_ble_eq_true rfl) (Nat.le_of_ble_eq_true rfl) hlocks (Or.inr (Or.inr ⟨(show tX4_checkPlayer a0 = 3 from by unfold tX4_checkPlayer; rw [if_pos c_1]), rfl⟩)) (Nat.le_of_ble_eq_true rfl) (Nat.le_of_ble_eq_true rfl)
  · refine lv_iload_n hx hb dX4_checkPlayer_4 rfl (lv_at hl 0 rfl) ?_
    refine lv_iconst (v := 5) hx hb dX4_checkPlayer_5 (by decide) ?_
    refine lv_icmp_lt (tgt := 19) hx hb dX4_checkPlayer_6 (by decide) (fun c_2 => ?_) (fun c_2 => ?_)
    · exact vx_ret (W.widen (k := 1) (n := 6) (Nat.le_of_ble_eq_true rfl) (Nat.le_of_ble_eq_true rfl) (W.vret hx hb hr (fun t ht hw => ⟨⟨E, rfl, ⟨(show tX4_checkPlayer a0 = 0 from by unfold tX4_checkPlayer; rw [if_neg c_1, if_pos c_2]), rfl⟩, (show xW G E t.heap from by rw [ht]; exact hW)⟩, hS.F ht⟩) hS.2.2 dX4_checkPlayer_19))
    · exact x_throw hx hb hl9 hown (cls := "java/lang/IndexOutOfBoundsException") (text := "no such player") (ik := 187) (is := 194) (ic := 191) hts hX hS hW (by decide +kernel) (by decide +kernel) (by decide +kernel) (by decide +kernel) (fun w h => List.mem_cons_of_mem _ (List.mem_append_right _ h)) (by decide +kernel) (by decide +kernel) (hl.1.trans hml.symm) dX4_checkPlayer_9 dX4_checkPlayer_12 dX4_checkPlayer_13 dX4_checkPlayer_15 dX4_checkPlayer_18 hno (Nat.le_of_ble_eq_true rfl) (Nat.le_of_ble_eq_true rfl) (Nat.le_of_ble_eq_true rfl) (Nat.le_of_ble_eq_true rfl) hlocks (Or.inr (Or.inr ⟨(show tX4_checkPlayer a0 = 3 from by unfold tX4_checkPlayer; rw [if_neg c_1, if_neg c_2]), rfl⟩)) (Nat.le_of_ble_eq_true rfl) (Nat.le_of_ble_eq_true rfl)

def tX4_checkCell (a0 : Int32) : Nat := if a0 < 0 then (3) else (if a0 < 25 then (0) else (3))
set_option maxHeartbeats 4000000 in
set_option maxRecDepth 100000 in
theorem kX4_checkCell (l : Launch) (hl9 : l.stackTraces = false) (G : xG) (E : xE) (a0 : Int32) : vx_Met l yX4_checkCell wsX4_checkCell ({ frames := 6, cells := 1, slots := 6, locals := 90 }) (va_Pc [.int a0] (xB G E)) (va_Qv (S := xE) (fun E' => tX4_checkCell a0 = 0 ∧ E' = E) (fun E' t => xW G E' t.heap) (xA G)) (xX G E (fun n => xEx n (tX4_checkCell a0))) 1 6 (xA G) := by
  refine vx_ofW (cc := cX4_checkCell) (maxL := 1) (ret := none) (by decide) rfl ?_
  intro p e s m args below meth c s₁ B hml hno hv
  obtain ⟨rfl, hX, hW⟩ := hv
  have hx := B.exec
  have hb := B.bytes
  have hr := B.returns
  have hts := atoms_spec (ws := wsX4_checkCell) B.pre
  have hown : s.vm.findClass RX4 = some m.cls := findClass_of_methodNamed B.named
  have hlocks := B.notSynchronized
  have hS : va_S (xA G) s.heap s.heap [] := va_S.rf
  have hl := lv_entry ([.int a0]) (n := 1) (Nat.le_of_ble_eq_true rfl)
  rw [lg_entry_eq]
  generalize (lg_sl ([.int a0]) ++ List.replicate (1 - (lg_sl ([.int a0])).length) Slot.unset).toArray = ls at hl ⊢
  have hl : lv_has ls 1 [(0, .int a0)] := hl
  obtain ⟨H, hH⟩ : ∃ z, z = s.heap := ⟨_, rfl⟩
  rw [← hH] at hW
  have hS : va_S (xA G) s.heap H [] := by rw [hH]; exact hS
  rw [← hH]
  refine lv_iload_n hx hb dX4_checkCell_0 rfl (lv_at hl 0 rfl) ?_
  refine lv_if_lt (tgt := 10) hx hb dX4_checkCell_1 (by decide) (fun c_1 => ?_) (fun c_1 => ?_)
  · exact x_throw hx hb hl9 hown (cls := "java/lang/IndexOutOfBoundsException") (text := "no such cell") (ik := 187) (is := 196) (ic := 191) hts hX hS hW (by decide +kernel) (by decide +kernel) (by decide +kernel) (by decide +kernel) (fun w h => List.mem_cons_of_mem _ (List.mem_append_right _ h)) (by decide +kernel) (by decide +kernel) (hl.1.trans hml.symm) dX4_checkCell_10 dX4_checkCell_13 dX4_checkCell_14 dX4_checkCell_16 dX4_checkCell_19 hno (Nat.le_of_ble_eq_true rfl) (Nat.le_of_ble_eq_true rfl) (Nat.le_of_ble_eq_true rfl) (Nat.le_of_ble_eq_true rfl) hlocks (Or.inr (Or.inr ⟨(show tX4_checkCell a0 = 3 from by unfold tX4_checkCell; rw [if_pos c_1]), rfl⟩)) (Nat.le_of_ble_eq_true rfl) (Nat.le_of_ble_eq_true rfl)
  · refine lv_iload_n hx hb dX4_checkCell_4 rfl (lv_at hl 0 rfl) ?_
    refine lv_bipush (v := 25) hx hb dX4_checkCell_5 (by decide) ?_
    refine lv_icmp_lt (tgt := 20) hx hb dX4_checkCell_7 (by decide) (fun c_2 => ?_) (fun c_2 => ?_)
    · exact vx_ret (W.widen (k := 1) (n := 6) (Nat.le_of_ble_eq_true rfl) (Nat.le_of_ble_eq_true rfl) (W.vret hx hb hr (fun t ht hw => ⟨⟨E, rfl, ⟨(show tX4_checkCell a0 = 0 from by unfold tX4_checkCell; rw [if_neg c_1, if_pos c_2]), rfl⟩, (show xW G E t.heap from by rw [ht]; exact hW)⟩, hS.F ht⟩) hS.2.2 dX4_checkCell_20))
    · exact x_throw hx hb hl9 hown (cls := "java/lang/IndexOutOfBoundsException") (text := "no such cell") (ik := 187) (is := 196) (ic := 191) hts hX hS hW (by decide +kernel) (by decide +kernel) (by decide +kernel) (by decide +kernel) (fun w h => List.mem_cons_of_mem _ (List.mem_append_right _ h)) (by decide +kernel) (by decide +kernel) (hl.1.trans hml.symm) dX4_checkCell_10 dX4_checkCell_13 dX4_checkCell_14 dX4_checkCell_16 dX4_checkCell_19 hno (Nat.le_of_ble_eq_true rfl) (Nat.le_of_ble_eq_true rfl) (Nat.le_of_ble_eq_true rfl) (Nat.le_of_ble_eq_true rfl) hlocks (Or.inr (Or.inr ⟨(show tX4_checkCell a0 = 3 from by unfold tX4_checkCell; rw [if_neg c_1, if_neg c_2]), rfl⟩)) (Nat.le_of_ble_eq_true rfl) (Nat.le_of_ble_eq_true rfl)

def tX4_checkDepth (a0 : Int32) : Nat := if a0 < 0 then (1) else (if a0 ≤ 2 then (0) else (1))
set_option maxHeartbeats 4000000 in
set_option maxRecDepth 100000 in
theorem kX4_checkDepth (l : Launch) (hl9 : l.stackTraces = false) (G : xG) (E : xE) (a0 : Int32) : vx_Met l yX4_checkDepth wsX4_checkDepth ({ frames := 6, cells := 1, slots := 6, locals := 90 }) (va_Pc [.int a0] (xB G E)) (va_Qv (S := xE) (fun E' => tX4_checkDepth a0 = 0 ∧ E' = E) (fun E' t => xW G E' t.heap) (xA G)) (xX G E (fun n => xEx n (tX4_checkDepth a0))) 1 6 (xA G) := by
  refine vx_ofW (cc := cX4_checkDepth) (maxL := 1) (ret := none) (by decide) rfl ?_
  intro p e s m args below meth c s₁ B hml hno hv
  obtain ⟨rfl, hX, hW⟩ := hv
  have hx := B.exec
  have hb := B.bytes
  have hr := B.returns
  have hts := atoms_spec (ws := wsX4_checkDepth) B.pre
  have hown : s.vm.findClass RX4 = some m.cls := findClass_of_methodNamed B.named
  have hlocks := B.notSynchronized
  have hS : va_S (xA G) s.heap s.heap [] := va_S.rf
  have hl := lv_entry ([.int a0]) (n := 1) (Nat.le_of_ble_eq_true rfl)
  rw [lg_entry_eq]
  generalize (lg_sl ([.int a0]) ++ List.replicate (1 - (lg_sl ([.int a0])).length) Slot.unset).toArray = ls at hl ⊢
  have hl : lv_has ls 1 [(0, .int a0)] := hl
  obtain ⟨H, hH⟩ : ∃ z, z = s.heap := ⟨_, rfl⟩
  rw [← hH] at hW
  have hS : va_S (xA G) s.heap H [] := by rw [hH]; exact hS
  rw [← hH]
  refine lv_iload_n hx hb dX4_checkDepth_0 rfl (lv_at hl 0 rfl) ?_
  refine lv_if_lt (tgt := 9) hx hb dX4_checkDepth_1 (by decide) (fun c_1 => ?_) (fun c_1 => ?_)
  · exact x_throw hx hb hl9 hown (cls := "java/lang/IllegalArgumentException") (text := "the depth is 0 to 2") (ik := 31) (is := 198) (ic := 35) hts hX hS hW (by decide +kernel) (by decide +kernel) (by decide +kernel) (by decide +kernel) (fun w h => List.mem_cons_of_mem _ (List.mem_append_right _ h)) (by decide +kernel) (by decide +kernel) (hl.1.trans hml.symm) dX4_checkDepth_9 dX4_checkDepth_12 dX4_checkDepth_13 dX4_checkDepth_15 dX4_checkDepth_18 hno (Nat.le_of_ble_eq_true rfl) (Nat.le_of_ble_eq_true rfl) (Nat.le_of_ble_eq_true rfl) (Nat.le_of_ble_eq_true rfl) hlocks (Or.inl ⟨(show tX4_checkDepth a0 = 1 from by unfold tX4_checkDepth; rw [if_pos c_1]), rfl⟩) (Nat.le_of_ble_eq_true rfl) (Nat.le_of_ble_eq_true rfl)
  · refine lv_iload_n hx hb dX4_checkDepth_4 rfl (lv_at hl 0 rfl) ?_
    refine lv_iconst (v := 2) hx hb dX4_checkDepth_5 (by decide) ?_
    refine lv_icmp_le (tgt := 19) hx hb dX4_checkDepth_6 (by decide) (fun c_2 => ?_) (fun c_2 => ?_)
    · exact vx_ret (W.widen (k := 1) (n := 6) (Nat.le_of_ble_eq_true rfl) (Nat.le_of_ble_eq_true rfl) (W.vret hx hb hr (fun t ht hw => ⟨⟨E, rfl, ⟨(show tX4_checkDepth a0 = 0 from by unfold tX4_checkDepth; rw [if_neg c_1, if_pos c_2]), rfl⟩, (show xW G E t.heap from by rw [ht]; exact hW)⟩, hS.F ht⟩) hS.2.2 dX4_checkDepth_19))
    · exact x_throw hx hb hl9 hown (cls := "java/lang/IllegalArgumentException") (text := "the depth is 0 to 2") (ik := 31) (is := 198) (ic := 35) hts hX hS hW (by decide +kernel) (by decide +kernel) (by decide +kernel) (by decide +kernel) (fun w h => List.mem_cons_of_mem _ (List.mem_append_right _ h)) (by decide +kernel) (by decide +kernel) (hl.1.trans hml.symm) dX4_checkDepth_9 dX4_checkDepth_12 dX4_checkDepth_13 dX4_checkDepth_15 dX4_checkDepth_18 hno (Nat.le_of_ble_eq_true rfl) (Nat.le_of_ble_eq_true rfl) (Nat.le_of_ble_eq_true rfl) (Nat.le_of_ble_eq_true rfl) hlocks (Or.inl ⟨(show tX4_checkDepth a0 = 1 from by unfold tX4_checkDepth; rw [if_neg c_1, if_neg c_2]), rfl⟩) (Nat.le_of_ble_eq_true rfl) (Nat.le_of_ble_eq_true rfl)

set_option maxHeartbeats 4000000 in
set_option maxRecDepth 100000 in
theorem kX4_variantAt (l : Launch) (hl9 : l.stackTraces = false) (G : xG) (E : xE) (o : Nat) (a0 : Int32) (w1 w2 w3 nC nV nG : Nat) (vb : Nat → Option Nat) (hE : E o = some (.inr (4, [.ref w1, .ref w2, .ref w3, .int (nI nC), .int (nI nV), .int (nI nG)]))) (hB : E w2 = some (.inl (G.2.1 3, 4, .inr (.inr (.inr (.inr vb)))))) (h4 : nV ≤ 4) (hn : ∀ k, nV ≤ k → vb k = none) (hs : ∀ k, k < nV → ∃ a, vb k = some a) : vx_Met l yX4_variantAt wsX4_variantAt ({ frames := 6, cells := 1, slots := 6, locals := 90 }) (va_Pc [.ref o, .int a0] (xB G E)) (va_Qr (S := xE) (fun _ => True) (fun E' r t => (fun r E' => ∃ u, a0 = nI u ∧ u < nV ∧ vb u = some r ∧ E' = E) r E' ∧ xW G E' t.heap) (xA G)) (xX G E (fun n => xEx n (tIx (nI nV) a0))) 1 6 (xA G) := by
  refine vx_ofW (cc := cX4_variantAt) (maxL := 3) (ret := (some (.object "VariantMill$Variant"))) (by decide) rfl ?_
  intro p e s m args below meth c s₁ B hml hno hv
  obtain ⟨rfl, hX, hW⟩ := hv
  have hx := B.exec
  have hb := B.bytes
  have hr := B.returns
  have hts := atoms_spec (ws := wsX4_variantAt) B.pre
  have hown : s.vm.findClass RX4 = some m.cls := findClass_of_methodNamed B.named
  have hlocks := B.notSynchronized
  have hS : va_S (xA G) s.heap s.heap [] := va_S.rf
  have hiX4 : ∀ w ∈ u_ws RX4 TX4 6, w ∈ wsX4_variantAt := by decide +kernel
  have hf17 := hts (Cond.fieldLink RX4 17 "VariantMill" "variants" "[LVariantMill$Variant;") (by decide +kernel)
  have hl := lv_entry ([.ref o, .int a0]) (n := 3) (Nat.le_of_ble_eq_true rfl)
  rw [lg_entry_eq]
  generalize (lg_sl ([.ref o, .int a0]) ++ List.replicate (3 - (lg_sl ([.ref o, .int a0])).length) Slot.unset).toArray = ls at hl ⊢
  have hl : lv_has ls 3 [(0, .ref o), (1, .int a0)] := hl
  obtain ⟨H, hH⟩ : ∃ z, z = s.heap := ⟨_, rfl⟩
  rw [← hH] at hW
  have hS : va_S (xA G) s.heap H [] := by rw [hH]; exact hS
  rw [← hH]
  refine lv_iload_n hx hb dX4_variantAt_0 rfl (lv_at hl 1 rfl) ?_
  refine lv_if_lt (tgt := 13) hx hb dX4_variantAt_1 (by decide) (fun c_1 => ?_) (fun c_1 => ?_)
  · exact x_throw hx hb hl9 hown (cls := "java/lang/IndexOutOfBoundsException") (text := "no such variant") (ik := 187) (is := 189) (ic := 191) hts hX hS hW (by decide +kernel) (by decide +kernel) (by decide +kernel) (by decide +kernel) (fun w h => List.mem_cons_of_mem _ (List.mem_append_right _ h)) (by decide +kernel) (by decide +kernel) (hl.1.trans hml.symm) dX4_variantAt_13 dX4_variantAt_16 dX4_variantAt_17 dX4_variantAt_19 dX4_variantAt_22 hno (Nat.le_of_ble_eq_true rfl) (Nat.le_of_ble_eq_true rfl) (Nat.le_of_ble_eq_true rfl) (Nat.le_of_ble_eq_true rfl) hlocks (Or.inr (Or.inr ⟨(tIx_neg c_1), rfl⟩)) (Nat.le_of_ble_eq_true rfl) (Nat.le_of_ble_eq_true rfl)
  · refine lv_iload_n hx hb dX4_variantAt_4 rfl (lv_at hl 1 rfl) ?_
    refine lv_aload_n hx hb dX4_variantAt_5 rfl (lv_at hl 0 rfl) ?_
    refine va_get (D := G.1) (ci := 4) (v := .ref w2) (C := RX4) (T := TX4) (N := 6) hx hb hts hiX4 hown hX.1 (x1 hW hE) 0 rfl rfl 1 (by decide) hf17 (fun _ h9 => h9) rfl dX4_variantAt_6 ?_
    refine va_alen (D := G.1) hx hb hX.1 (x1 hW hB) 0 3 rfl rfl (v := 4) rfl dX4_variantAt_9 ?_
    refine lv_icmp_lt (tgt := 23) hx hb dX4_variantAt_10 (by decide) (fun c_2 => ?_) (fun c_2 => ?_)
    · refine lv_aload_n hx hb dX4_variantAt_23 rfl (lv_at hl 0 rfl) ?_
      refine va_get (D := G.1) (ci := 4) (v := .ref w2) (C := RX4) (T := TX4) (N := 6) hx hb hts hiX4 hown hX.1 (x1 hW hE) 0 rfl rfl 1 (by decide) hf17 (fun _ h9 => h9) rfl dX4_variantAt_24 ?_
      refine lv_iload_n hx hb dX4_variantAt_27 rfl (lv_at hl 1 rfl) ?_
      obtain ⟨u, hu, hau⟩ := tIx_in (B := 4) c_1 c_2 (by omega)
      rcases Nat.lt_or_ge u nV with c9 | c9
      · obtain ⟨va, hva⟩ := hs u c9
        refine x_qldS (t0 := 3) (k := u) (v := va) hx hb hX.1 hW hB rfl (by rw [hau]; exact vp_in_nI hu (by omega)) (by rw [hau]; exact nI_clamp (by omega)) hva dX4_variantAt_28 ?_
        refine lv_astore_n (lv' := [(2, .ref va), (0, .ref o), (1, .int a0)]) hx hb dX4_variantAt_29 rfl hl (by decide) rfl (fun ls hl => ?_)
        refine lv_aload_n hx hb dX4_variantAt_30 rfl (lv_at hl 0 rfl) ?_
        refine lv_ifnonnull (tgt := 44) hx hb dX4_variantAt_31 (by decide) ?_
        refine lv_aload_n hx hb dX4_variantAt_44 rfl (lv_at hl 0 rfl) ?_
        exact vx_ret (W.widen (k := 1) (n := 6) (Nat.le_of_ble_eq_true rfl) (Nat.le_of_ble_eq_true rfl) (W.aret (v := .ref va) hx hb hr (Or.inl ⟨_, rfl⟩) (Or.inr ⟨_, rfl⟩) (fun t ht hw => ⟨⟨E, _, rfl, trivial, ⟨u, hau, c9, hva, rfl⟩, (show xW G E t.heap from by rw [ht]; exact hW)⟩, hS.F ht⟩) hS.2.2 dX4_variantAt_45))
      · refine x_qldN (t0 := 3) (k := u) hx hb hX.1 hW hB rfl (by rw [hau]; exact vp_in_nI hu (by omega)) (by rw [hau]; exact nI_clamp (by omega)) (hn u c9) dX4_variantAt_28 ?_
        refine lv_astore_nN (lv' := [(2, .null), (0, .ref o), (1, .int a0)]) hx hb dX4_variantAt_29 rfl hl (by decide) rfl (fun ls hl => ?_)
        refine lv_aload_nN hx hb dX4_variantAt_30 rfl (lv_at hl 0 rfl) ?_
        refine lv_ifnonnullN hx hb dX4_variantAt_31 ?_
        exact x_throw hx hb hl9 hown (cls := "java/lang/IndexOutOfBoundsException") (text := "no such variant") (ik := 187) (is := 189) (ic := 191) hts hX hS hW (by decide +kernel) (by decide +kernel) (by decide +kernel) (by decide +kernel) (fun w h => List.mem_cons_of_mem _ (List.mem_append_right _ h)) (by decide +kernel) (by decide +kernel) (hl.1.trans hml.symm) dX4_variantAt_34 dX4_variantAt_37 dX4_variantAt_38 dX4_variantAt_40 dX4_variantAt_43 hno (Nat.le_of_ble_eq_true rfl) (Nat.le_of_ble_eq_true rfl) (Nat.le_of_ble_eq_true rfl) (Nat.le_of_ble_eq_true rfl) hlocks (Or.inr (Or.inr ⟨(by rw [hau]; exact tIx_big c9 (by omega)), rfl⟩)) (Nat.le_of_ble_eq_true rfl) (Nat.le_of_ble_eq_true rfl)
    · exact x_throw hx hb hl9 hown (cls := "java/lang/IndexOutOfBoundsException") (text := "no such variant") (ik := 187) (is := 189) (ic := 191) hts hX hS hW (by decide +kernel) (by decide +kernel) (by decide +kernel) (by decide +kernel) (fun w h => List.mem_cons_of_mem _ (List.mem_append_right _ h)) (by decide +kernel) (by decide +kernel) (hl.1.trans hml.symm) dX4_variantAt_13 dX4_variantAt_16 dX4_variantAt_17 dX4_variantAt_19 dX4_variantAt_22 hno (Nat.le_of_ble_eq_true rfl) (Nat.le_of_ble_eq_true rfl) (Nat.le_of_ble_eq_true rfl) (Nat.le_of_ble_eq_true rfl) hlocks (Or.inr (Or.inr ⟨(tIx_ge (B := 4) c_1 c_2 (by omega) (by omega)), rfl⟩)) (Nat.le_of_ble_eq_true rfl) (Nat.le_of_ble_eq_true rfl)

set_option maxHeartbeats 4000000 in
set_option maxRecDepth 100000 in
theorem kX4_gameAt (l : Launch) (hl9 : l.stackTraces = false) (G : xG) (E : xE) (o : Nat) (a0 : Int32) (w1 w2 w3 nC nV nG : Nat) (vb : Nat → Option Nat) (hE : E o = some (.inr (4, [.ref w1, .ref w2, .ref w3, .int (nI nC), .int (nI nV), .int (nI nG)]))) (hB : E w3 = some (.inl (G.2.1 4, 12, .inr (.inr (.inr (.inr vb)))))) (h4 : nG ≤ 12) (hn : ∀ k, nG ≤ k → vb k = none) (hs : ∀ k, k < nG → ∃ a, vb k = some a) : vx_Met l yX4_gameAt wsX4_gameAt ({ frames := 6, cells := 1, slots := 6, locals := 90 }) (va_Pc [.ref o, .int a0] (xB G E)) (va_Qr (S := xE) (fun _ => True) (fun E' r t => (fun r E' => ∃ u, a0 = nI u ∧ u < nG ∧ vb u = some r ∧ E' = E) r E' ∧ xW G E' t.heap) (xA G)) (xX G E (fun n => xEx n (tIx (nI nG) a0))) 1 6 (xA G) := by
  refine vx_ofW (cc := cX4_gameAt) (maxL := 3) (ret := (some (.object "VariantMill$Game"))) (by decide) rfl ?_
  intro p e s m args below meth c s₁ B hml hno hv
  obtain ⟨rfl, hX, hW⟩ := hv
  have hx := B.exec
  have hb := B.bytes
  have hr := B.returns
  have hts := atoms_spec (ws := wsX4_gameAt) B.pre
  have hown : s.vm.findClass RX4 = some m.cls := findClass_of_methodNamed B.named
  have hlocks := B.notSynchronized
  have hS : va_S (xA G) s.heap s.heap [] := va_S.rf
  have hiX4 : ∀ w ∈ u_ws RX4 TX4 6, w ∈ wsX4_gameAt := by decide +kernel
  have hf23 := hts (Cond.fieldLink RX4 23 "VariantMill" "games" "[LVariantMill$Game;") (by decide +kernel)
  have hl := lv_entry ([.ref o, .int a0]) (n := 3) (Nat.le_of_ble_eq_true rfl)
  rw [lg_entry_eq]
  generalize (lg_sl ([.ref o, .int a0]) ++ List.replicate (3 - (lg_sl ([.ref o, .int a0])).length) Slot.unset).toArray = ls at hl ⊢
  have hl : lv_has ls 3 [(0, .ref o), (1, .int a0)] := hl
  obtain ⟨H, hH⟩ : ∃ z, z = s.heap := ⟨_, rfl⟩
  rw [← hH] at hW
  have hS : va_S (xA G) s.heap H [] := by rw [hH]; exact hS
  rw [← hH]
  refine lv_iload_n hx hb dX4_gameAt_0 rfl (lv_at hl 1 rfl) ?_
  refine lv_if_lt (tgt := 13) hx hb dX4_gameAt_1 (by decide) (fun c_1 => ?_) (fun c_1 => ?_)
  · exact x_throw hx hb hl9 hown (cls := "java/lang/IndexOutOfBoundsException") (text := "no such game") (ik := 187) (is := 192) (ic := 191) hts hX hS hW (by decide +kernel) (by decide +kernel) (by decide +kernel) (by decide +kernel) (fun w h => List.mem_cons_of_mem _ (List.mem_append_right _ h)) (by decide +kernel) (by decide +kernel) (hl.1.trans hml.symm) dX4_gameAt_13 dX4_gameAt_16 dX4_gameAt_17 dX4_gameAt_19 dX4_gameAt_22 hno (Nat.le_of_ble_eq_true rfl) (Nat.le_of_ble_eq_true rfl) (Nat.le_of_ble_eq_true rfl) (Nat.le_of_ble_eq_true rfl) hlocks (Or.inr (Or.inr ⟨(tIx_neg c_1), rfl⟩)) (Nat.le_of_ble_eq_true rfl) (Nat.le_of_ble_eq_true rfl)
  · refine lv_iload_n hx hb dX4_gameAt_4 rfl (lv_at hl 1 rfl) ?_
    refine lv_aload_n hx hb dX4_gameAt_5 rfl (lv_at hl 0 rfl) ?_
    refine va_get (D := G.1) (ci := 4) (v := .ref w3) (C := RX4) (T := TX4) (N := 6) hx hb hts hiX4 hown hX.1 (x1 hW hE) 0 rfl rfl 2 (by decide) hf23 (fun _ h9 => h9) rfl dX4_gameAt_6 ?_
    refine va_alen (D := G.1) hx hb hX.1 (x1 hW hB) 0 4 rfl rfl (v := 12) rfl dX4_gameAt_9 ?_
    refine lv_icmp_lt (tgt := 23) hx hb dX4_gameAt_10 (by decide) (fun c_2 => ?_) (fun c_2 => ?_)
    · refine lv_aload_n hx hb dX4_gameAt_23 rfl (lv_at hl 0 rfl) ?_
      refine va_get (D := G.1) (ci := 4) (v := .ref w3) (C := RX4) (T := TX4) (N := 6) hx hb hts hiX4 hown hX.1 (x1 hW hE) 0 rfl rfl 2 (by decide) hf23 (fun _ h9 => h9) rfl dX4_gameAt_24 ?_
      refine lv_iload_n hx hb dX4_gameAt_27 rfl (lv_at hl 1 rfl) ?_
      obtain ⟨u, hu, hau⟩ := tIx_in (B := 12) c_1 c_2 (by omega)
      rcases Nat.lt_or_ge u nG with c9 | c9
      · obtain ⟨va, hva⟩ := hs u c9
        refine x_qldS (t0 := 4) (k := u) (v := va) hx hb hX.1 hW hB rfl (by rw [hau]; exact vp_in_nI hu (by omega)) (by rw [hau]; exact nI_clamp (by omega)) hva dX4_gameAt_28 ?_
        refine lv_astore_n (lv' := [(2, .ref va), (0, .ref o), (1, .int a0)]) hx hb dX4_gameAt_29 rfl hl (by decide) rfl (fun ls hl => ?_)
        refine lv_aload_n hx hb dX4_gameAt_30 rfl (lv_at hl 0 rfl) ?_
        refine lv_ifnonnull (tgt := 44) hx hb dX4_gameAt_31 (by decide) ?_
        refine lv_aload_n hx hb dX4_gameAt_44 rfl (lv_at hl 0 rfl) ?_
        exact vx_ret (W.widen (k := 1) (n := 6) (Nat.le_of_ble_eq_true rfl) (Nat.le_of_ble_eq_true rfl) (W.aret (v := .ref va) hx hb hr (Or.inl ⟨_, rfl⟩) (Or.inr ⟨_, rfl⟩) (fun t ht hw => ⟨⟨E, _, rfl, trivial, ⟨u, hau, c9, hva, rfl⟩, (show xW G E t.heap from by rw [ht]; exact hW)⟩, hS.F ht⟩) hS.2.2 dX4_gameAt_45))
      · refine x_qldN (t0 := 4) (k := u) hx hb hX.1 hW hB rfl (by rw [hau]; exact vp_in_nI hu (by omega)) (by rw [hau]; exact nI_clamp (by omega)) (hn u c9) dX4_gameAt_28 ?_
        refine lv_astore_nN (lv' := [(2, .null), (0, .ref o), (1, .int a0)]) hx hb dX4_gameAt_29 rfl hl (by decide) rfl (fun ls hl => ?_)
        refine lv_aload_nN hx hb dX4_gameAt_30 rfl (lv_at hl 0 rfl) ?_
        refine lv_ifnonnullN hx hb dX4_gameAt_31 ?_
        exact x_throw hx hb hl9 hown (cls := "java/lang/IndexOutOfBoundsException") (text := "no such game") (ik := 187) (is := 192) (ic := 191) hts hX hS hW (by decide +kernel) (by decide +kernel) (by decide +kernel) (by decide +kernel) (fun w h => List.mem_cons_of_mem _ (List.mem_append_right _ h)) (by decide +kernel) (by decide +kernel) (hl.1.trans hml.symm) dX4_gameAt_34 dX4_gameAt_37 dX4_gameAt_38 dX4_gameAt_40 dX4_gameAt_43 hno (Nat.le_of_ble_eq_true rfl) (Nat.le_of_ble_eq_true rfl) (Nat.le_of_ble_eq_true rfl) (Nat.le_of_ble_eq_true rfl) hlocks (Or.inr (Or.inr ⟨(by rw [hau]; exact tIx_big c9 (by omega)), rfl⟩)) (Nat.le_of_ble_eq_true rfl) (Nat.le_of_ble_eq_true rfl)
    · exact x_throw hx hb hl9 hown (cls := "java/lang/IndexOutOfBoundsException") (text := "no such game") (ik := 187) (is := 192) (ic := 191) hts hX hS hW (by decide +kernel) (by decide +kernel) (by decide +kernel) (by decide +kernel) (fun w h => List.mem_cons_of_mem _ (List.mem_append_right _ h)) (by decide +kernel) (by decide +kernel) (hl.1.trans hml.symm) dX4_gameAt_13 dX4_gameAt_16 dX4_gameAt_17 dX4_gameAt_19 dX4_gameAt_22 hno (Nat.le_of_ble_eq_true rfl) (Nat.le_of_ble_eq_true rfl) (Nat.le_of_ble_eq_true rfl) (Nat.le_of_ble_eq_true rfl) hlocks (Or.inr (Or.inr ⟨(tIx_ge (B := 12) c_1 c_2 (by omega) (by omega)), rfl⟩)) (Nat.le_of_ble_eq_true rfl) (Nat.le_of_ble_eq_true rfl)
