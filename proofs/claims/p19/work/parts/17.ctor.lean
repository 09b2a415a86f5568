set_option maxHeartbeats 4000000 in
set_option maxRecDepth 100000 in
theorem kX0_init (l : Launch) (G : xG) (E : xE) (o : Nat) (a0 a1 a2 a3 : Int32) (hE : E o = some (.inr (0, [.int 0, .int 0, .int 0, .int 0]))) : Met l yX0_init wsX0_init ({ frames := 1, cells := 0, slots := 0, locals := 20 }) (va_Pc [.ref o, .int a0, .int a1, .int a2, .int a3] (xB G E)) (va_Qv (S := xE) (fun E' => E' = xU E o (.inr (0, [.int a0, .int a1, .int a2, .int (if a0 = 0 then (1 : Int32) else a3)]))) (fun E' t => xW G E' t.heap) (xA G)) 0 0 (xA G) := by
  refine Met.ofW (cc := cX0_init) (maxL := 5) (ret := none) (by decide) rfl ?_
  intro p e s m args below meth c s₁ B hml hv
  obtain ⟨rfl, hX, hW⟩ := hv
  have hx := B.exec
  have hb := B.bytes
  have hr := B.returns
  have hts := atoms_spec (ws := wsX0_init) B.pre
  have hown : s.vm.findClass RX0 = some m.cls := findClass_of_methodNamed B.named
  have hlocks := B.notSynchronized
  have hS : va_S (xA G) s.heap s.heap [] := va_S.rf
  have hin : meth.name = "<init>" := (name_of_methodNamed B.named B.method).1
  have hoi0 := hts (Cond.methodLink RX0 3 objectInit) (by decide +kernel)
  have hoi1 := hts (Cond.instanceMethod objectInit) (by decide +kernel)
  have hoi2 := hts (Cond.code objectInit ⟨#[0xb1]⟩ 1 none) (by decide +kernel)
  have hiX0 : ∀ w ∈ u_ws RX0 TX0 4, w ∈ wsX0_init := by decide +kernel
  have hf9 := hts (Cond.fieldLink RX0 9 "VariantMill$Card" "kind" "I") (by decide +kernel)
  have hf15 := hts (Cond.fieldLink RX0 15 "VariantMill$Card" "dx" "I") (by decide +kernel)
  have hf18 := hts (Cond.fieldLink RX0 18 "VariantMill$Card" "dy" "I") (by decide +kernel)
  have hf21 := hts (Cond.fieldLink RX0 21 "VariantMill$Card" "reach" "I") (by decide +kernel)
  have hl := lv_entry ([.ref o, .int a0, .int a1, .int a2, .int a3]) (n := 5) (Nat.le_of_ble_eq_true rfl)
  rw [lg_entry_eq]
  generalize (lg_sl ([.ref o, .int a0, .int a1, .int a2, .int a3]) ++ List.replicate (5 - (lg_sl ([.ref o, .int a0, .int a1, .int a2, .int a3])).length) Slot.unset).toArray = ls at hl ⊢
  have hl : lv_has ls 5 [(0, .ref o), (1, .int a0), (2, .int a1), (3, .int a2), (4, .int a3)] := hl
  obtain ⟨H, hH⟩ : ∃ z, z = s.heap := ⟨_, rfl⟩
  rw [← hH] at hW
  have hS : va_S (xA G) s.heap H [] := by rw [hH]; exact hS
  rw [← hH]
  refine lv_aload_n hx hb dX0_init_0 rfl (lv_at hl 0 rfl) ?_
  refine W.objInit hx hb hown hoi0 hoi1 hoi2 rfl (by rw [hml]; exact hl.1) rfl dX0_init_1 (Nat.le_of_ble_eq_true rfl) (Nat.le_of_ble_eq_true rfl) ?_
  refine W.eq (g2 := F0 m 4 ls []) rfl ?_
  refine lv_aload_n hx hb dX0_init_4 rfl (lv_at hl 0 rfl) ?_
  refine lv_iload_n hx hb dX0_init_5 rfl (lv_at hl 1 rfl) ?_
  refine x_putF (G := G) (ci := 0) (v := .int a0) (ty := .int) (C := RX0) (T := TX0) (N := 4) hx hb hts hiX0 tyX0 tyX0_ok nmX0 hown hX.1 hW hS hE rfl 0 (by decide) hf9 (fun _ h9 => h9) rfl hin rfl (by decide +kernel) rfl rfl (Nat.le_of_ble_eq_true rfl) dX0_init_6 (fun H locs hW hS => ?_)
  obtain ⟨E1, eE1⟩ : ∃ z, z = xU E o (.inr (0, [.int a0, .int 0, .int 0, .int 0])) := ⟨_, rfl⟩
  have hW : xW G E1 H := by rw [eE1]; exact hW
  have hE9 : E1 o = some (.inr (0, [.int a0, .int 0, .int 0, .int 0])) := by rw [eE1]; exact xU_self _ _ _
  refine lv_aload_n hx hb dX0_init_9 rfl (lv_at hl 0 rfl) ?_
  refine lv_iload_n hx hb dX0_init_10 rfl (lv_at hl 2 rfl) ?_
  refine x_putF (G := G) (ci := 0) (v := .int a1) (ty := .int) (C := RX0) (T := TX0) (N := 4) hx hb hts hiX0 tyX0 tyX0_ok nmX0 hown hX.1 hW hS hE9 rfl 1 (by decide) hf15 (fun _ h9 => h9) rfl hin rfl (by decide +kernel) rfl rfl (Nat.le_of_ble_eq_true rfl) dX0_init_11 (fun H locs hW hS => ?_)
  obtain ⟨E2, eE2⟩ : ∃ z, z = xU E1 o (.inr (0, [.int a0, .int a1, .int 0, .int 0])) := ⟨_, rfl⟩
  have hW : xW G E2 H := by rw [eE2]; exact hW
  have hE99 : E2 o = some (.inr (0, [.int a0, .int a1, .int 0, .int 0])) := by rw [eE2]; exact xU_self _ _ _
  refine lv_aload_n hx hb dX0_init_14 rfl (lv_at hl 0 rfl) ?_
  refine lv_iload_n hx hb dX0_init_15 rfl (lv_at hl 3 rfl) ?_
  refine x_putF (G := G) (ci := 0) (v := .int a2) (ty := .int) (C := RX0) (T := TX0) (N := 4) hx hb hts hiX0 tyX0 tyX0_ok nmX0 hown hX.1 hW hS hE99 rfl 2 (by decide) hf18 (fun _ h9 => h9) rfl hin rfl (by decide +kernel) rfl rfl (Nat.le_of_ble_eq_true rfl) dX0_init_16 (fun H locs hW hS => ?_)
  obtain ⟨E3, eE3⟩ : ∃ z, z = xU E2 o (.inr (0, [.int a0, .int a1, .int a2, .int 0])) := ⟨_, rfl⟩
  have hW : xW G E3 H := by rw [eE3]; exact hW
  have hE999 : E3 o = some (.inr (0, [.int a0, .int a1, .int a2, .int 0])) := by rw [eE3]; exact xU_self _ _ _
  refine lv_aload_n hx hb dX0_init_19 rfl (lv_at hl 0 rfl) ?_
  refine lv_iload_n hx hb dX0_init_20 rfl (lv_at hl 1 rfl) ?_
  refine x_join (ls' := ls) (rest' := [.ref o]) 30 ((if a0 = 0 then ((1 : Int32)) else (a3))) (fun v ev => ?_) (fun J => ?_)
  · subst ev
    refine x_putF (G := G) (ci := 0) (v := .int (if a0 = 0 then ((1 : Int32)) else (a3))) (ty := .int) (C := RX0) (T := TX0) (N := 4) hx hb hts hiX0 tyX0 tyX0_ok nmX0 hown hX.1 hW hS hE999 rfl 3 (by decide) hf21 (fun _ h9 => h9) rfl hin rfl (by decide +kernel) rfl rfl (Nat.le_of_ble_eq_true rfl) dX0_init_30 (fun H locs hW hS => ?_)
    obtain ⟨E5, eE5⟩ : ∃ z, z = xU E3 o (.inr (0, [.int a0, .int a1, .int a2, .int (if a0 = 0 then ((1 : Int32)) else (a3))])) := ⟨_, rfl⟩
    have hW : xW G E5 H := by rw [eE5]; exact hW
    have hE9999 : E5 o = some (.inr (0, [.int a0, .int a1, .int a2, .int (if a0 = 0 then ((1 : Int32)) else (a3))])) := by rw [eE5]; exact xU_self _ _ _
    exact W.widen (k := 0) (n := 0) (Nat.le_of_ble_eq_true rfl) (Nat.le_of_ble_eq_true rfl) (W.vret hx hb hr (fun t ht hw => ⟨⟨E5, rfl, (show E5 = xU E o _ from by rw [eE5, eE3, eE2, eE1]; simp only [xU_xU]), (show xW G E5 t.heap from by rw [ht]; exact hW)⟩, hS.F ht⟩) hS.2.2 dX0_init_33)
  · refine lv_if_ne (tgt := 28) hx hb dX0_init_21 (by decide) (fun c_4 => ?_) (fun c_4 => ?_)
    · refine lv_iload hx hb dX0_init_28 (lv_at hl 4 rfl) ?_
      exact J _ (show (a3 : Int32) = if a0 = 0 then ((1 : Int32)) else (a3) from by rw [if_neg c_4])
    · refine lv_iconst (v := 1) hx hb dX0_init_24 (by decide) ?_
      refine lv_goto (tgt := 30) hx hb dX0_init_25 (by decide) ?_
      exact J _ (show (1 : Int32) = if a0 = 0 then ((1 : Int32)) else (a3) from by rw [if_pos c_4])

set_option maxHeartbeats 4000000 in
set_option maxRecDepth 100000 in
theorem kX2_init (l : Launch) (G : xG) (E : xE) (o ta : Nat) (a0 a1 : Int32) (hE : E o = some (.inr (2, [.null, .int 0, .int 0]))) : Met l yX2_init wsX2_init ({ frames := 1, cells := 0, slots := 0, locals := 20 }) (va_Pc [.ref o, .ref ta, .int a0, .int a1] (xB G E)) (va_Qv (S := xE) (fun E' => E' = xU E o (.inr (2, [.ref ta, .int a0, .int a1]))) (fun E' t => xW G E' t.heap) (xA G)) 0 0 (xA G) := by
  refine Met.ofW (cc := cX2_init) (maxL := 4) (ret := none) (by decide) rfl ?_
  intro p e s m args below meth c s₁ B hml hv
  obtain ⟨rfl, hX, hW⟩ := hv
  have hx := B.exec
  have hb := B.bytes
  have hr := B.returns
  have hts := atoms_spec (ws := wsX2_init) B.pre
  have hown : s.vm.findClass RX2 = some m.cls := findClass_of_methodNamed B.named
  have hlocks := B.notSynchronized
  have hS : va_S (xA G) s.heap s.heap [] := va_S.rf
  have hin : meth.name = "<init>" := (name_of_methodNamed B.named B.method).1
  have hoi0 := hts (Cond.methodLink RX2 3 objectInit) (by decide +kernel)
  have hoi1 := hts (Cond.instanceMethod objectInit) (by decide +kernel)
  have hoi2 := hts (Cond.code objectInit ⟨#[0xb1]⟩ 1 none) (by decide +kernel)
  have hiX2 : ∀ w ∈ u_ws RX2 TX2 3, w ∈ wsX2_init := by decide +kernel
  have hf9 := hts (Cond.fieldLink RX2 9 "VariantMill$Rules" "table" "[LVariantMill$Card;") (by decide +kernel)
  have hf15 := hts (Cond.fieldLink RX2 15 "VariantMill$Rules" "cards" "I") (by decide +kernel)
  have hf19 := hts (Cond.fieldLink RX2 19 "VariantMill$Rules" "holes" "I") (by decide +kernel)
  have hl := lv_entry ([.ref o, .ref ta, .int a0, .int a1]) (n := 4) (Nat.le_of_ble_eq_true rfl)
  rw [lg_entry_eq]
  generalize (lg_sl ([.ref o, .ref ta, .int a0, .int a1]) ++ List.replicate (4 - (lg_sl ([.ref o, .ref ta, .int a0, .int a1])).length) Slot.unset).toArray = ls at hl ⊢
  have hl : lv_has ls 4 [(0, .ref o), (1, .ref ta), (2, .int a0), (3, .int a1)] := hl
  obtain ⟨H, hH⟩ : ∃ z, z = s.heap := ⟨_, rfl⟩
  rw [← hH] at hW
  have hS : va_S (xA G) s.heap H [] := by rw [hH]; exact hS
  rw [← hH]
  refine lv_aload_n hx hb dX2_init_0 rfl (lv_at hl 0 rfl) ?_
  refine W.objInit hx hb hown hoi0 hoi1 hoi2 rfl (by rw [hml]; exact hl.1) rfl dX2_init_1 (Nat.le_of_ble_eq_true rfl) (Nat.le_of_ble_eq_true rfl) ?_
  refine W.eq (g2 := F0 m 4 ls []) rfl ?_
  refine lv_aload_n hx hb dX2_init_4 rfl (lv_at hl 0 rfl) ?_
  refine lv_aload_n hx hb dX2_init_5 rfl (lv_at hl 1 rfl) ?_
  refine x_putF (G := G) (ci := 2) (v := .ref ta) (ty := .array (.object "VariantMill$Card")) (C := RX2) (T := TX2) (N := 3) hx hb hts hiX2 tyX2 tyX2_ok nmX2 hown hX.1 hW hS hE rfl 0 (by decide) hf9 (fun _ h9 => h9) rfl hin rfl (by decide +kernel) rfl rfl (Nat.le_of_ble_eq_true rfl) dX2_init_6 (fun H locs hW hS => ?_)
  obtain ⟨E1, eE1⟩ : ∃ z, z = xU E o (.inr (2, [.ref ta, .int 0, .int 0])) := ⟨_, rfl⟩
  have hW : xW G E1 H := by rw [eE1]; exact hW
  have hE9 : E1 o = some (.inr (2, [.ref ta, .int 0, .int 0])) := by rw [eE1]; exact xU_self _ _ _
  refine lv_aload_n hx hb dX2_init_9 rfl (lv_at hl 0 rfl) ?_
  refine lv_iload_n hx hb dX2_init_10 rfl (lv_at hl 2 rfl) ?_
  refine x_putF (G := G) (ci := 2) (v := .int a0) (ty := .int) (C := RX2) (T := TX2) (N := 3) hx hb hts hiX2 tyX2 tyX2_ok nmX2 hown hX.1 hW hS hE9 rfl 1 (by decide) hf15 (fun _ h9 => h9) rfl hin rfl (by decide +kernel) rfl rfl (Nat.le_of_ble_eq_true rfl) dX2_init_11 (fun H locs hW hS => ?_)
  obtain ⟨E2, eE2⟩ : ∃ z, z = xU E1 o (.inr (2, [.ref ta, .int a0, .int 0])) := ⟨_, rfl⟩
  have hW : xW G E2 H := by rw [eE2]; exact hW
  have hE99 : E2 o = some (.inr (2, [.ref ta, .int a0, .int 0])) := by rw [eE2]; exact xU_self _ _ _
  refine lv_aload_n hx hb dX2_init_14 rfl (lv_at hl 0 rfl) ?_
  refine lv_iload_n hx hb dX2_init_15 rfl (lv_at hl 3 rfl) ?_
  refine x_putF (G := G) (ci := 2) (v := .int a1) (ty := .int) (C := RX2) (T := TX2) (N := 3) hx hb hts hiX2 tyX2 tyX2_ok nmX2 hown hX.1 hW hS hE99 rfl 2 (by decide) hf19 (fun _ h9 => h9) rfl hin rfl (by decide +kernel) rfl rfl (Nat.le_of_ble_eq_true rfl) dX2_init_16 (fun H locs hW hS => ?_)
  obtain ⟨E3, eE3⟩ : ∃ z, z = xU E2 o (.inr (2, [.ref ta, .int a0, .int a1])) := ⟨_, rfl⟩
  have hW : xW G E3 H := by rw [eE3]; exact hW
  have hE999 : E3 o = some (.inr (2, [.ref ta, .int a0, .int a1])) := by rw [eE3]; exact xU_self _ _ _
  exact W.widen (k := 0) (n := 0) (Nat.le_of_ble_eq_true rfl) (Nat.le_of_ble_eq_true rfl) (W.vret hx hb hr (fun t ht hw => ⟨⟨E3, rfl, (show E3 = xU E o _ from by rw [eE3, eE2, eE1]; simp only [xU_xU]), (show xW G E3 t.heap from by rw [ht]; exact hW)⟩, hS.F ht⟩) hS.2.2 dX2_init_19)

set_option maxHeartbeats 4000000 in
set_option maxRecDepth 100000 in
theorem kX3_init (l : Launch) (G : xG) (E : xE) (o ra : Nat) (hE : E o = some (.inr (3, [.null, .int 0, .int 0]))) : Met l yX3_init wsX3_init ({ frames := 1, cells := 0, slots := 0, locals := 20 }) (va_Pc [.ref o, .ref ra] (xB G E)) (va_Qv (S := xE) (fun E' => E' = xU E o (.inr (3, [.ref ra, .int 0, .int 0]))) (fun E' t => xW G E' t.heap) (xA G)) 0 0 (xA G) := by
  refine Met.ofW (cc := cX3_init) (maxL := 2) (ret := none) (by decide) rfl ?_
  intro p e s m args below meth c s₁ B hml hv
  obtain ⟨rfl, hX, hW⟩ := hv
  have hx := B.exec
  have hb := B.bytes
  have hr := B.returns
  have hts := atoms_spec (ws := wsX3_init) B.pre
  have hown : s.vm.findClass RX3 = some m.cls := findClass_of_methodNamed B.named
  have hlocks := B.notSynchronized
  have hS : va_S (xA G) s.heap s.heap [] := va_S.rf
  have hin : meth.name = "<init>" := (name_of_methodNamed B.named B.method).1
  have hoi0 := hts (Cond.methodLink RX3 3 objectInit) (by decide +kernel)
  have hoi1 := hts (Cond.instanceMethod objectInit) (by decide +kernel)
  have hoi2 := hts (Cond.code objectInit ⟨#[0xb1]⟩ 1 none) (by decide +kernel)
  have hiX3 : ∀ w ∈ u_ws RX3 TX3 3, w ∈ wsX3_init := by decide +kernel
  have hf9 := hts (Cond.fieldLink RX3 9 "VariantMill$Variant" "rules" "LVariantMill$Rules;") (by decide +kernel)
  have hl := lv_entry ([.ref o, .ref ra]) (n := 2) (Nat.le_of_ble_eq_true rfl)
  rw [lg_entry_eq]
  generalize (lg_sl ([.ref o, .ref ra]) ++ List.replicate (2 - (lg_sl ([.ref o, .ref ra])).length) Slot.unset).toArray = ls at hl ⊢
  have hl : lv_has ls 2 [(0, .ref o), (1, .ref ra)] := hl
  obtain ⟨H, hH⟩ : ∃ z, z = s.heap := ⟨_, rfl⟩
  rw [← hH] at hW
  have hS : va_S (xA G) s.heap H [] := by rw [hH]; exact hS
  rw [← hH]
  refine lv_aload_n hx hb dX3_init_0 rfl (lv_at hl 0 rfl) ?_
  refine W.objInit hx hb hown hoi0 hoi1 hoi2 rfl (by rw [hml]; exact hl.1) rfl dX3_init_1 (Nat.le_of_ble_eq_true rfl) (Nat.le_of_ble_eq_true rfl) ?_
  refine W.eq (g2 := F0 m 4 ls []) rfl ?_
  refine lv_aload_n hx hb dX3_init_4 rfl (lv_at hl 0 rfl) ?_
  refine lv_aload_n hx hb dX3_init_5 rfl (lv_at hl 1 rfl) ?_
  refine x_put (G := G) (ci := 3) (v := .ref ra) (ty := .object "VariantMill$Rules") (C := RX3) (T := TX3) (N := 3) hx hb hts hiX3 tyX3 tyX3_ok nmX3 hown hX.1 hW hS hE rfl 0 (by decide) hf9 (fun _ h9 => h9) rfl (by decide +kernel) rfl rfl (Nat.le_of_ble_eq_true rfl) dX3_init_6 (fun H locs hW hS => ?_)
  obtain ⟨E1, eE1⟩ : ∃ z, z = xU E o (.inr (3, [.ref ra, .int 0, .int 0])) := ⟨_, rfl⟩
  have hW : xW G E1 H := by rw [eE1]; exact hW
  have hE9 : E1 o = some (.inr (3, [.ref ra, .int 0, .int 0])) := by rw [eE1]; exact xU_self _ _ _
  exact W.widen (k := 0) (n := 0) (Nat.le_of_ble_eq_true rfl) (Nat.le_of_ble_eq_true rfl) (W.vret hx hb hr (fun t ht hw => ⟨⟨E1, rfl, (show E1 = xU E o _ from by rw [eE1]), (show xW G E1 t.heap from by rw [ht]; exact hW)⟩, hS.F ht⟩) hS.2.2 dX3_init_9)

theorem x_gameInit {E E8 E9 : xE} {o q : Nat} {g8 g9 v8 s9 : va_E} (hno : E8 q = none) (h8 : E8 = xU E o g8) (h9 : E9 = xU (xU (xU E8 q v8) o g9) q s9) : E q = none ∧ q ≠ o ∧ E9 = xU (xU E o g9) q s9 := by
  have hqo : q ≠ o := fun h => by rw [h, h8, xU_self] at hno; cases hno
  refine ⟨?_, hqo, ?_⟩
  · rw [h8, xU_ne E g8 hqo] at hno; exact hno
  · rw [h9, h8]
    funext b
    by_cases h1 : b = q
    · rw [h1, xU_self, xU_self]
    · rw [xU_ne _ s9 h1, xU_ne _ s9 h1]
      by_cases h2 : b = o
      · rw [h2, xU_self, xU_self]
      · rw [xU_ne _ g9 h2, xU_ne _ g9 h2, xU_ne _ v8 h1, xU_ne _ g8 h2]

set_option maxHeartbeats 4000000 in
set_option maxRecDepth 100000 in
theorem kX1_init (l : Launch) (G : xG) (E : xE) (o va : Nat) (a0 a1 a2 a3 : Int32) (ra : Nat) (vo en : Int32) (hE : E o = some (.inr (1, [.null, .null, .int 0, .int 0, .null, .int 0, .int 0, .int 0, .int 0]))) (hV : E va = some (.inr (3, [.ref ra, .int vo, .int en]))) : Met l yX1_init wsX1_init ({ frames := 1, cells := 1, slots := 61, locals := 24 }) (va_Pc [.ref o, .ref va, .int a0, .int a1, .int a2, .int a3] (xB G E)) (va_Qv (S := xE) (fun E' => ∃ q, E q = none ∧ q ≠ o ∧ E' = xU (xU E o (.inr (1, [.ref va, .ref ra, .int a0, .int a1, .ref q, .int a2, .int a3, .int 0, .int 0]))) q (.inl (G.2.1 1, 61, .inr (.inl (vp_updL (fun _ => 0) 0 (fX1_placing a2 a3 false)))))) (fun E' t => xW G E' t.heap) (xA G)) 1 61 (xA G) := by
  refine Met.ofW (cc := cX1_init) (maxL := 6) (ret := none) (by decide) rfl ?_
  intro p e s m args below meth c s₁ B hml hv
  obtain ⟨rfl, hX, hW⟩ := hv
  have hx := B.exec
  have hb := B.bytes
  have hr := B.returns
  have hts := atoms_spec (ws := wsX1_init) B.pre
  have hown : s.vm.findClass RX1 = some m.cls := findClass_of_methodNamed B.named
  have hlocks := B.notSynchronized
  have hS : va_S (xA G) s.heap s.heap [] := va_S.rf
  have hin : meth.name = "<init>" := (name_of_methodNamed B.named B.method).1
  have hoi0 := hts (Cond.methodLink RX1 3 objectInit) (by decide +kernel)
  have hoi1 := hts (Cond.instanceMethod objectInit) (by decide +kernel)
  have hoi2 := hts (Cond.code objectInit ⟨#[0xb1]⟩ 1 none) (by decide +kernel)
  have hiX1 : ∀ w ∈ u_ws RX1 TX1 9, w ∈ wsX1_init := by decide +kernel
  have hf9 := hts (Cond.fieldLink RX1 9 "VariantMill$Game" "variant" "LVariantMill$Variant;") (by decide +kernel)
  have hiX3 : ∀ w ∈ u_ws RX3 TX3 3, w ∈ wsX1_init := by decide +kernel
  have hf15 := hts (Cond.fieldLink RX1 15 "VariantMill$Variant" "rules" "LVariantMill$Rules;") (by decide +kernel)
  have hf21 := hts (Cond.fieldLink RX1 21 "VariantMill$Game" "rules" "LVariantMill$Rules;") (by decide +kernel)
  have hf22 := hts (Cond.fieldLink RX1 22 "VariantMill$Game" "first" "I") (by decide +kernel)
  have hf26 := hts (Cond.fieldLink RX1 26 "VariantMill$Game" "second" "I") (by decide +kernel)
  have hf29 := hts (Cond.fieldLink RX1 29 "VariantMill$Game" "ofFirst" "I") (by decide +kernel)
  have hf32 := hts (Cond.fieldLink RX1 32 "VariantMill$Game" "ofSecond" "I") (by decide +kernel)
  have hf35 := hts (Cond.fieldLink RX1 35 "VariantMill$Game" "state" "I") (by decide +kernel)
  have harL := hts (Cond.arrayClass .long) (by decide +kernel)
  have hf38 := hts (Cond.fieldLink RX1 38 "VariantMill$Game" "seen" "[J") (by decide +kernel)
  have hl := lv_entry ([.ref o, .ref va, .int a0, .int a1, .int a2, .int a3]) (n := 6) (Nat.le_of_ble_eq_true rfl)
  rw [lg_entry_eq]
  generalize (lg_sl ([.ref o, .ref va, .int a0, .int a1, .int a2, .int a3]) ++ List.replicate (6 - (lg_sl ([.ref o, .ref va, .int a0, .int a1, .int a2, .int a3])).length) Slot.unset).toArray = ls at hl ⊢
  have hl : lv_has ls 6 [(0, .ref o), (1, .ref va), (2, .int a0), (3, .int a1), (4, .int a2), (5, .int a3)] := hl
  obtain ⟨H, hH⟩ : ∃ z, z = s.heap := ⟨_, rfl⟩
  rw [← hH] at hW
  have hS : va_S (xA G) s.heap H [] := by rw [hH]; exact hS
  rw [← hH]
  refine lv_aload_n hx hb dX1_init_0 rfl (lv_at hl 0 rfl) ?_
  refine W.objInit hx hb hown hoi0 hoi1 hoi2 rfl (by rw [hml]; exact hl.1) rfl dX1_init_1 (Nat.le_of_ble_eq_true rfl) (Nat.le_of_ble_eq_true rfl) ?_
  refine W.eq (g2 := F0 m 4 ls []) rfl ?_
  refine lv_aload_n hx hb dX1_init_4 rfl (lv_at hl 0 rfl) ?_
  refine lv_aload_n hx hb dX1_init_5 rfl (lv_at hl 1 rfl) ?_
  refine x_putF (G := G) (ci := 1) (v := .ref va) (ty := .object "VariantMill$Variant") (C := RX1) (T := TX1) (N := 9) hx hb hts hiX1 tyX1 tyX1_ok nmX1 hown hX.1 hW hS hE rfl 0 (by decide) hf9 (fun _ h9 => h9) rfl hin rfl (by decide +kernel) rfl rfl (Nat.le_of_ble_eq_true rfl) dX1_init_6 (fun H locs hW hS => ?_)
  obtain ⟨E1, eE1⟩ : ∃ z, z = xU E o (.inr (1, [.ref va, .null, .int 0, .int 0, .null, .int 0, .int 0, .int 0, .int 0])) := ⟨_, rfl⟩
  have hW : xW G E1 H := by rw [eE1]; exact hW
  have hV9 : E1 va = some (.inr (3, [.ref ra, .int vo, .int en])) := by rw [eE1]; exact xU_of hV hE (fun h => by simp at h)
  have hE9 : E1 o = some (.inr (1, [.ref va, .null, .int 0, .int 0, .null, .int 0, .int 0, .int 0, .int 0])) := by rw [eE1]; exact xU_self _ _ _
  refine lv_aload_n hx hb dX1_init_9 rfl (lv_at hl 0 rfl) ?_
  refine lv_aload_n hx hb dX1_init_10 rfl (lv_at hl 1 rfl) ?_
  refine va_get (D := G.1) (ci := 3) (v := .ref ra) (C := RX3) (T := TX3) (N := 3) hx hb hts hiX3 hown hX.1 (x1 hW hV9) 0 rfl rfl 0 (by decide) hf15 (fun _ h9 => h9) rfl dX1_init_11 ?_
  refine x_putF (G := G) (ci := 1) (v := .ref ra) (ty := .object "VariantMill$Rules") (C := RX1) (T := TX1) (N := 9) hx hb hts hiX1 tyX1 tyX1_ok nmX1 hown hX.1 hW hS hE9 rfl 1 (by decide) hf21 (fun _ h9 => h9) rfl hin rfl (by decide +kernel) rfl rfl (Nat.le_of_ble_eq_true rfl) dX1_init_14 (fun H locs hW hS => ?_)
  obtain ⟨E2, eE2⟩ : ∃ z, z = xU E1 o (.inr (1, [.ref va, .ref ra, .int 0, .int 0, .null, .int 0, .int 0, .int 0, .int 0])) := ⟨_, rfl⟩
  have hW : xW G E2 H := by rw [eE2]; exact hW
  have hV99 : E2 va = some (.inr (3, [.ref ra, .int vo, .int en])) := by rw [eE2]; exact xU_of hV9 hE9 (fun h => by simp at h)
  have hE99 : E2 o = some (.inr (1, [.ref va, .ref ra, .int 0, .int 0, .null, .int 0, .int 0, .int 0, .int 0])) := by rw [eE2]; exact xU_self _ _ _
  refine lv_aload_n hx hb dX1_init_17 rfl (lv_at hl 0 rfl) ?_
  refine lv_iload_n hx hb dX1_init_18 rfl (lv_at hl 2 rfl) ?_
  refine x_putF (G := G) (ci := 1) (v := .int a0) (ty := .int) (C := RX1) (T := TX1) (N := 9) hx hb hts hiX1 tyX1 tyX1_ok nmX1 hown hX.1 hW hS hE99 rfl 2 (by decide) hf22 (fun _ h9 => h9) rfl hin rfl (by decide +kernel) rfl rfl (Nat.le_of_ble_eq_true rfl) dX1_init_19 (fun H locs hW hS => ?_)
  obtain ⟨E3, eE3⟩ : ∃ z, z = xU E2 o (.inr (1, [.ref va, .ref ra, .int a0, .int 0, .null, .int 0, .int 0, .int 0, .int 0])) := ⟨_, rfl⟩
  have hW : xW G E3 H := by rw [eE3]; exact hW
  have hV999 : E3 va = some (.inr (3, [.ref ra, .int vo, .int en])) := by rw [eE3]; exact xU_of hV99 hE99 (fun h => by simp at h)
  have hE999 : E3 o = some (.inr (1, [.ref va, .ref ra, .int a0, .int 0, .null, .int 0, .int 0, .int 0, .int 0])) := by rw [eE3]; exact xU_self _ _ _
  refine lv_aload_n hx hb dX1_init_22 rfl (lv_at hl 0 rfl) ?_
  refine lv_iload_n hx hb dX1_init_23 rfl (lv_at hl 3 rfl) ?_
  refine x_putF (G := G) (ci := 1) (v := .int a1) (ty := .int) (C := RX1) (T := TX1) (N := 9) hx hb hts hiX1 tyX1 tyX1_ok nmX1 hown hX.1 hW hS hE999 rfl 3 (by decide) hf26 (fun _ h9 => h9) rfl hin rfl (by decide +kernel) rfl rfl (Nat.le_of_ble_eq_true rfl) dX1_init_24 (fun H locs hW hS => ?_)
  obtain ⟨E4, eE4⟩ : ∃ z, z = xU E3 o (.inr (1, [.ref va, .ref ra, .int a0, .int a1, .null, .int 0, .int 0, .int 0, .int 0])) := ⟨_, rfl⟩
  have hW : xW G E4 H := by rw [eE4]; exact hW
  have hV9999 : E4 va = some (.inr (3, [.ref ra, .int vo, .int en])) := by rw [eE4]; exact xU_of hV999 hE999 (fun h => by simp at h)
  have hE9999 : E4 o = some (.inr (1, [.ref va, .ref ra, .int a0, .int a1, .null, .int 0, .int 0, .int 0, .int 0])) := by rw [eE4]; exact xU_self _ _ _
  refine lv_aload_n hx hb dX1_init_27 rfl (lv_at hl 0 rfl) ?_
  refine lv_iload hx hb dX1_init_28 (lv_at hl 4 rfl) ?_
  refine x_put (G := G) (ci := 1) (v := .int a2) (ty := .int) (C := RX1) (T := TX1) (N := 9) hx hb hts hiX1 tyX1 tyX1_ok nmX1 hown hX.1 hW hS hE9999 rfl 5 (by decide) hf29 (fun _ h9 => h9) rfl (by decide +kernel) rfl rfl (Nat.le_of_ble_eq_true rfl) dX1_init_30 (fun H locs hW hS => ?_)
  obtain ⟨E5, eE5⟩ : ∃ z, z = xU E4 o (.inr (1, [.ref va, .ref ra, .int a0, .int a1, .null, .int a2, .int 0, .int 0, .int 0])) := ⟨_, rfl⟩
  have hW : xW G E5 H := by rw [eE5]; exact hW
  have hV99999 : E5 va = some (.inr (3, [.ref ra, .int vo, .int en])) := by rw [eE5]; exact xU_of hV9999 hE9999 (fun h => by simp at h)
  have hE99999 : E5 o = some (.inr (1, [.ref va, .ref ra, .int a0, .int a1, .null, .int a2, .int 0, .int 0, .int 0])) := by rw [eE5]; exact xU_self _ _ _
  refine lv_aload_n hx hb dX1_init_33 rfl (lv_at hl 0 rfl) ?_
  refine lv_iload hx hb dX1_init_34 (lv_at hl 5 rfl) ?_
  refine x_put (G := G) (ci := 1) (v := .int a3) (ty := .int) (C := RX1) (T := TX1) (N := 9) hx hb hts hiX1 tyX1 tyX1_ok nmX1 hown hX.1 hW hS hE99999 rfl 6 (by decide) hf32 (fun _ h9 => h9) rfl (by decide +kernel) rfl rfl (Nat.le_of_ble_eq_true rfl) dX1_init_36 (fun H locs hW hS => ?_)
  obtain ⟨E6, eE6⟩ : ∃ z, z = xU E5 o (.inr (1, [.ref va, .ref ra, .int a0, .int a1, .null, .int a2, .int a3, .int 0, .int 0])) := ⟨_, rfl⟩
  have hW : xW G E6 H := by rw [eE6]; exact hW
  have hV999999 : E6 va = some (.inr (3, [.ref ra, .int vo, .int en])) := by rw [eE6]; exact xU_of hV99999 hE99999 (fun h => by simp at h)
  have hE999999 : E6 o = some (.inr (1, [.ref va, .ref ra, .int a0, .int a1, .null, .int a2, .int a3, .int 0, .int 0])) := by rw [eE6]; exact xU_self _ _ _
  refine lv_aload_n hx hb dX1_init_39 rfl (lv_at hl 0 rfl) ?_
  refine lv_iconst (v := 0) hx hb dX1_init_40 (by decide) ?_
  refine x_put (G := G) (ci := 1) (v := .int 0) (ty := .int) (C := RX1) (T := TX1) (N := 9) hx hb hts hiX1 tyX1 tyX1_ok nmX1 hown hX.1 hW hS hE999999 rfl 8 (by decide) hf35 (fun _ h9 => h9) rfl (by decide +kernel) rfl rfl (Nat.le_of_ble_eq_true rfl) dX1_init_41 (fun H locs hW hS => ?_)
  obtain ⟨E7, eE7⟩ : ∃ z, z = xU E6 o (.inr (1, [.ref va, .ref ra, .int a0, .int a1, .null, .int a2, .int a3, .int 0, .int 0])) := ⟨_, rfl⟩
  have hW : xW G E7 H := by rw [eE7]; exact hW
  have hV9999999 : E7 va = some (.inr (3, [.ref ra, .int vo, .int en])) := by rw [eE7]; exact xU_of hV999999 hE999999 (fun h => by simp at h)
  have hE9999999 : E7 o = some (.inr (1, [.ref va, .ref ra, .int a0, .int a1, .null, .int a2, .int a3, .int 0, .int 0])) := by rw [eE7]; exact xU_self _ _ _
  refine lv_aload_n hx hb dX1_init_44 rfl (lv_at hl 0 rfl) ?_
  refine lv_bipush (v := 61) hx hb dX1_init_45 (by decide) ?_
  refine x_newL (G := G) (N' := 61) hx hb harL hX.1 hW hS (by decide) (by decide) (by decide) (Nat.le_of_ble_eq_true rfl) (Nat.le_of_ble_eq_true rfl) dX1_init_47 (fun q8 H1 hqq8 hzq8 hW1 hS1 => ?_)
  have hne9 : o ≠ q8 := by rw [hqq8]; exact Nat.ne_of_lt (hW.lt hE9999999)
  have hne9' : q8 ≠ o := Ne.symm hne9
  have hne10 : va ≠ q8 := by rw [hqq8]; exact Nat.ne_of_lt (hW.lt hV9999999)
  have hne10' : q8 ≠ va := Ne.symm hne10
  have hnoq8 : E7 q8 = none := by rw [hqq8]; exact hW.new
  have hltq8 : G.2.2 ≤ q8 := by rw [hqq8]; exact hW.1
  have hW := hW1
  have hS := hS1
  generalize H1 = H at hW hS ⊢
  obtain ⟨E11, eE11⟩ : ∃ z, z = xU E7 q8 (.inl (G.2.1 1, 61, .inr (.inl (fun _ => 0)))) := ⟨_, rfl⟩
  have hW : xW G E11 H := by rw [eE11]; exact hW
  have hE99999999 : E11 o = some (.inr (1, [.ref va, .ref ra, .int a0, .int a1, .null, .int a2, .int a3, .int 0, .int 0])) := by rw [eE11]; exact (xU_ne _ _ hne9).trans hE9999999
  have hV99999999 : E11 va = some (.inr (3, [.ref ra, .int vo, .int en])) := by rw [eE11]; exact (xU_ne _ _ hne10).trans hV9999999
  have hnq89 : E11 q8 = some (.inl (G.2.1 1, 61, .inr (.inl (fun _ => 0)))) := by rw [eE11]; exact xU_self _ _ _
  refine x_putF (G := G) (ci := 1) (v := .ref q8) (ty := .array (.long)) (C := RX1) (T := TX1) (N := 9) hx hb hts hiX1 tyX1 tyX1_ok nmX1 hown hX.1 hW hS hE99999999 rfl 4 (by decide) hf38 (fun _ h9 => h9) rfl hin rfl (by decide +kernel) rfl rfl (Nat.le_of_ble_eq_true rfl) dX1_init_49 (fun H locs hW hS => ?_)
  obtain ⟨E12, eE12⟩ : ∃ z, z = xU E11 o (.inr (1, [.ref va, .ref ra, .int a0, .int a1, .ref q8, .int a2, .int a3, .int 0, .int 0])) := ⟨_, rfl⟩
  have hW : xW G E12 H := by rw [eE12]; exact hW
  have hV999999999 : E12 va = some (.inr (3, [.ref ra, .int vo, .int en])) := by rw [eE12]; exact xU_of hV99999999 hE99999999 (fun h => by simp at h)
  have hnq899 : E12 q8 = some (.inl (G.2.1 1, 61, .inr (.inl (fun _ => 0)))) := by rw [eE12]; exact (xU_ne _ _ hne9').trans hnq89
  have hE999999999 : E12 o = some (.inr (1, [.ref va, .ref ra, .int a0, .int a1, .ref q8, .int a2, .int a3, .int 0, .int 0])) := by rw [eE12]; exact xU_self _ _ _
  refine lv_aload_n hx hb dX1_init_52 rfl (lv_at hl 0 rfl) ?_
  refine va_get (D := G.1) (ci := 1) (v := .ref q8) (C := RX1) (T := TX1) (N := 9) hx hb hts hiX1 hown hX.1 (x1 hW hE999999999) 0 rfl rfl 4 (by decide) hf38 (fun _ h9 => h9) rfl dX1_init_53 ?_
  refine lv_iconst (v := 0) hx hb dX1_init_56 (by decide) ?_
  refine lv_iload hx hb dX1_init_57 (lv_at hl 4 rfl) ?_
  refine lv_iload hx hb dX1_init_59 (lv_at hl 5 rfl) ?_
  refine lv_iconst (v := 0) hx hb dX1_init_61 (by decide) ?_
  refine x_callSle (va_runS (As := [.int a2, .int a3, .int 0]) (rest := [.int 0, .ref q8]) ⟨hx, hb, hml, hown, hts⟩ (kX1_placing l a2 a3 false) (va_cwS 3 hts gX1_init_X1_placing rfl rfl rfl (by decide +kernel) ⟨Nat.le_of_ble_eq_true rfl, Nat.le_of_ble_eq_true rfl⟩) x_preT rfl rfl hl.1 rfl (lv_room (Nat.le_of_ble_eq_true rfl)) dX1_init_62 ⟨Nat.le_of_ble_eq_true rfl, Nat.le_of_ble_eq_true rfl⟩) ?_
  refine x_last (G := G) hx hb hX.1 hW hS hnq899 (show vp_in (nI 0) 61 from vp_in_nI (by omega) (by omega)) dX1_init_65 (fun H locs hW hS => ?_)
  rw [show (0 : Int32).toNatClampNeg = 0 from rfl] at hW
  obtain ⟨E13, eE13⟩ : ∃ z, z = xU E12 q8 (.inl (G.2.1 1, 61, .inr (.inl (vp_updL (fun _ => 0) 0 (fX1_placing a2 a3 false))))) := ⟨_, rfl⟩
  have hW : xW G E13 H := by rw [eE13]; exact hW
  have hE9999999999 : E13 o = some (.inr (1, [.ref va, .ref ra, .int a0, .int a1, .ref q8, .int a2, .int a3, .int 0, .int 0])) := by rw [eE13]; exact (xU_ne _ _ hne9).trans hE999999999
  have hV9999999999 : E13 va = some (.inr (3, [.ref ra, .int vo, .int en])) := by rw [eE13]; exact (xU_ne _ _ hne10).trans hV999999999
  have hnq8999 : E13 q8 = some (.inl (G.2.1 1, 61, .inr (.inl (vp_updL (fun _ => 0) 0 (fX1_placing a2 a3 false))))) := by rw [eE13]; exact xU_self _ _ _
  exact W.widen (k := 1) (n := 61) (Nat.le_of_ble_eq_true rfl) (Nat.le_of_ble_eq_true rfl) (W.vret hx hb hr (fun t ht hw => ⟨⟨E13, rfl, ⟨q8, x_gameInit (E := E) (o := o) (E8 := E7) (E9 := E13) (g8 := .inr (1, [.ref va, .ref ra, .int a0, .int a1, .null, .int a2, .int a3, .int 0, .int 0])) (g9 := .inr (1, [.ref va, .ref ra, .int a0, .int a1, .ref q8, .int a2, .int a3, .int 0, .int 0])) (v8 := .inl (G.2.1 1, 61, .inr (.inl (fun _ => 0)))) (s9 := .inl (G.2.1 1, 61, .inr (.inl (vp_updL (fun _ => 0) 0 (fX1_placing a2 a3 false))))) hnoq8 (by rw [eE7, eE6, eE5, eE4, eE3, eE2, eE1]; simp only [xU_xU]) (by rw [eE13, eE12, eE11])⟩, (show xW G E13 t.heap from by rw [ht]; exact hW)⟩, hS.F ht⟩) hS.2.2 dX1_init_66)

set_option maxHeartbeats 4000000 in
set_option maxRecDepth 100000 in
theorem kX4_init (l : Launch) (G : xG) (E : xE) (o : Nat) (hE : E o = some (.inr (4, [.null, .null, .null, .int 0, .int 0, .int 0]))) : Met l yX4_init wsX4_init ({ frames := 1, cells := 3, slots := 24, locals := 20 }) (va_Pc [.ref o] (xB G E)) (va_Qv (S := xE) (fun E' => ∃ q1 q2 q3, E' o = some (.inr (4, [.ref q1, .ref q2, .ref q3, .int 0, .int 0, .int 0])) ∧ E' q1 = some (.inl (G.2.1 2, 8, .inr (.inr (.inr (.inr (fun _ => none)))))) ∧ E' q2 = some (.inl (G.2.1 3, 4, .inr (.inr (.inr (.inr (fun _ => none)))))) ∧ E' q3 = some (.inl (G.2.1 4, 12, .inr (.inr (.inr (.inr (fun _ => none)))))) ∧ xFr tC E E') (fun E' t => xW G E' t.heap) (xA G)) 3 24 (xA G) := by
  refine Met.ofW (cc := cX4_init) (maxL := 1) (ret := none) (by decide) rfl ?_
  intro p e s m args below meth c s₁ B hml hv
  obtain ⟨rfl, hX, hW⟩ := hv
  have hx := B.exec
  have hb := B.bytes
  have hr := B.returns
  have hts := atoms_spec (ws := wsX4_init) B.pre
  have hown : s.vm.findClass RX4 = some m.cls := findClass_of_methodNamed B.named
  have hlocks := B.notSynchronized
  have hS : va_S (xA G) s.heap s.heap [] := va_S.rf
  have hin : meth.name = "<init>" := (name_of_methodNamed B.named B.method).1
  have hoi0 := hts (Cond.methodLink RX4 1 objectInit) (by decide +kernel)
  have hoi1 := hts (Cond.instanceMethod objectInit) (by decide +kernel)
  have hoi2 := hts (Cond.code objectInit ⟨#[0xb1]⟩ 1 none) (by decide +kernel)
  have hcl9 := hts (Cond.classLink RX4 9 RX0) (by decide +kernel)
  have hiX4 : ∀ w ∈ u_ws RX4 TX4 6, w ∈ wsX4_init := by decide +kernel
  have hf11 := hts (Cond.fieldLink RX4 11 "VariantMill" "cardTable" "[LVariantMill$Card;") (by decide +kernel)
  have hcl15 := hts (Cond.classLink RX4 15 RX3) (by decide +kernel)
  have hf17 := hts (Cond.fieldLink RX4 17 "VariantMill" "variants" "[LVariantMill$Variant;") (by decide +kernel)
  have hcl21 := hts (Cond.classLink RX4 21 RX1) (by decide +kernel)
  have hf23 := hts (Cond.fieldLink RX4 23 "VariantMill" "games" "[LVariantMill$Game;") (by decide +kernel)
  have hl := lv_entry ([.ref o]) (n := 1) (Nat.le_of_ble_eq_true rfl)
  rw [lg_entry_eq]
  generalize (lg_sl ([.ref o]) ++ List.replicate (1 - (lg_sl ([.ref o])).length) Slot.unset).toArray = ls at hl ⊢
  have hl : lv_has ls 1 [(0, .ref o)] := hl
  obtain ⟨H, hH⟩ : ∃ z, z = s.heap := ⟨_, rfl⟩
  rw [← hH] at hW
  have hS : va_S (xA G) s.heap H [] := by rw [hH]; exact hS
  rw [← hH]
  have hFr : xFr tC E E := xFr_rf
  refine lv_aload_n hx hb dX4_init_0 rfl (lv_at hl 0 rfl) ?_
  refine W.objInit hx hb hown hoi0 hoi1 hoi2 rfl (by rw [hml]; exact hl.1) rfl dX4_init_1 (Nat.le_of_ble_eq_true rfl) (Nat.le_of_ble_eq_true rfl) ?_
  refine W.eq (g2 := F0 m 4 ls []) rfl ?_
  refine lv_aload_n hx hb dX4_init_4 rfl (lv_at hl 0 rfl) ?_
  refine lv_bipush (v := 8) hx hb dX4_init_5 (by decide) ?_
  refine x_newq (G := G) (C := RX0) (N' := 8) hx hb hown hcl9 hX.2.2.2.2.2.2.1 hX.1 hW hS 2 rfl (by decide) (by decide) (by decide) (Nat.le_of_ble_eq_true rfl) (Nat.le_of_ble_eq_true rfl) dX4_init_7 (fun q1 H1 hqq1 hzq1 hW1 hS1 => ?_)
  have hne2 : o ≠ q1 := by rw [hqq1]; exact Nat.ne_of_lt (hW.lt hE)
  have hne2' : q1 ≠ o := Ne.symm hne2
  have hnoq1 : E q1 = none := by rw [hqq1]; exact hW.new
  have hltq1 : G.2.2 ≤ q1 := by rw [hqq1]; exact hW.1
  have hW := hW1
  have hS := hS1
  generalize H1 = H at hW hS ⊢
  obtain ⟨E3, eE3⟩ : ∃ z, z = xU E q1 (.inl (G.2.1 2, 8, .inr (.inr (.inr (.inr (fun _ => none)))))) := ⟨_, rfl⟩
  have hW : xW G E3 H := by rw [eE3]; exact hW
  have hE9 : E3 o = some (.inr (4, [.null, .null, .null, .int 0, .int 0, .int 0])) := by rw [eE3]; exact (xU_ne _ _ hne2).trans hE
  have hnq19 : E3 q1 = some (.inl (G.2.1 2, 8, .inr (.inr (.inr (.inr (fun _ => none)))))) := by rw [eE3]; exact xU_self _ _ _
  have hFr : xFr tC E E3 := by rw [eE3]; exact xFr_new hFr hnoq1 _
  refine x_putF (G := G) (ci := 4) (v := .ref q1) (ty := .array (.object "VariantMill$Card")) (C := RX4) (T := TX4) (N := 6) hx hb hts hiX4 tyX4 tyX4_ok nmX4 hown hX.1 hW hS hE9 rfl 0 (by decide) hf11 (fun _ h9 => h9) rfl hin rfl (by decide +kernel) rfl rfl (Nat.le_of_ble_eq_true rfl) dX4_init_10 (fun H locs hW hS => ?_)
  obtain ⟨E4, eE4⟩ : ∃ z, z = xU E3 o (.inr (4, [.ref q1, .null, .null, .int 0, .int 0, .int 0])) := ⟨_, rfl⟩
  have hW : xW G E4 H := by rw [eE4]; exact hW
  have hnq199 : E4 q1 = some (.inl (G.2.1 2, 8, .inr (.inr (.inr (.inr (fun _ => none)))))) := by rw [eE4]; exact (xU_ne _ _ hne2').trans hnq19
  have hE99 : E4 o = some (.inr (4, [.ref q1, .null, .null, .int 0, .int 0, .int 0])) := by rw [eE4]; exact xU_self _ _ _
  have hFr : xFr tC E E4 := by rw [eE4]; exact xFr_put hFr hE9 rfl _
  refine lv_aload_n hx hb dX4_init_13 rfl (lv_at hl 0 rfl) ?_
  refine lv_iconst (v := 4) hx hb dX4_init_14 (by decide) ?_
  refine x_newq (G := G) (C := RX3) (N' := 4) hx hb hown hcl15 hX.2.2.2.2.2.2.2.1 hX.1 hW hS 3 rfl (by decide) (by decide) (by decide) (Nat.le_of_ble_eq_true rfl) (Nat.le_of_ble_eq_true rfl) dX4_init_15 (fun q5 H1 hqq5 hzq5 hW1 hS1 => ?_)
  have hne6 : o ≠ q5 := by rw [hqq5]; exact Nat.ne_of_lt (hW.lt hE99)
  have hne6' : q5 ≠ o := Ne.symm hne6
  have hne7 : q1 ≠ q5 := by rw [hqq5]; exact Nat.ne_of_lt (hW.lt hnq199)
  have hne7' : q5 ≠ q1 := Ne.symm hne7
  have hnoq5 : E4 q5 = none := by rw [hqq5]; exact hW.new
  have hltq5 : G.2.2 ≤ q5 := by rw [hqq5]; exact hW.1
  have hW := hW1
  have hS := hS1
  generalize H1 = H at hW hS ⊢
  obtain ⟨E8, eE8⟩ : ∃ z, z = xU E4 q5 (.inl (G.2.1 3, 4, .inr (.inr (.inr (.inr (fun _ => none)))))) := ⟨_, rfl⟩
  have hW : xW G E8 H := by rw [eE8]; exact hW
  have hE999 : E8 o = some (.inr (4, [.ref q1, .null, .null, .int 0, .int 0, .int 0])) := by rw [eE8]; exact (xU_ne _ _ hne6).trans hE99
  have hnq1999 : E8 q1 = some (.inl (G.2.1 2, 8, .inr (.inr (.inr (.inr (fun _ => none)))))) := by rw [eE8]; exact (xU_ne _ _ hne7).trans hnq199
  have hnq59 : E8 q5 = some (.inl (G.2.1 3, 4, .inr (.inr (.inr (.inr (fun _ => none)))))) := by rw [eE8]; exact xU_self _ _ _
  have hFr : xFr tC E E8 := by rw [eE8]; exact xFr_new hFr hnoq5 _
  refine x_putF (G := G) (ci := 4) (v := .ref q5) (ty := .array (.object "VariantMill$Variant")) (C := RX4) (T := TX4) (N := 6) hx hb hts hiX4 tyX4 tyX4_ok nmX4 hown hX.1 hW hS hE999 rfl 1 (by decide) hf17 (fun _ h9 => h9) rfl hin rfl (by decide +kernel) rfl rfl (Nat.le_of_ble_eq_true rfl) dX4_init_18 (fun H locs hW hS => ?_)
  obtain ⟨E9, eE9⟩ : ∃ z, z = xU E8 o (.inr (4, [.ref q1, .ref q5, .null, .int 0, .int 0, .int 0])) := ⟨_, rfl⟩
  have hW : xW G E9 H := by rw [eE9]; exact hW
  have hnq19999 : E9 q1 = some (.inl (G.2.1 2, 8, .inr (.inr (.inr (.inr (fun _ => none)))))) := by rw [eE9]; exact (xU_ne _ _ hne2').trans hnq1999
  have hnq599 : E9 q5 = some (.inl (G.2.1 3, 4, .inr (.inr (.inr (.inr (fun _ => none)))))) := by rw [eE9]; exact (xU_ne _ _ hne6').trans hnq59
  have hE9999 : E9 o = some (.inr (4, [.ref q1, .ref q5, .null, .int 0, .int 0, .int 0])) := by rw [eE9]; exact xU_self _ _ _
  have hFr : xFr tC E E9 := by rw [eE9]; exact xFr_put hFr hE999 rfl _
  refine lv_aload_n hx hb dX4_init_21 rfl (lv_at hl 0 rfl) ?_
  refine lv_bipush (v := 12) hx hb dX4_init_22 (by decide) ?_
  refine x_newq (G := G) (C := RX1) (N' := 12) hx hb hown hcl21 hX.2.2.2.2.2.2.2.2 hX.1 hW hS 4 rfl (by decide) (by decide) (by decide) (Nat.le_of_ble_eq_true rfl) (Nat.le_of_ble_eq_true rfl) dX4_init_24 (fun q10 H1 hqq10 hzq10 hW1 hS1 => ?_)
  have hne11 : o ≠ q10 := by rw [hqq10]; exact Nat.ne_of_lt (hW.lt hE9999)
  have hne11' : q10 ≠ o := Ne.symm hne11
  have hne12 : q1 ≠ q10 := by rw [hqq10]; exact Nat.ne_of_lt (hW.lt hnq19999)
  have hne12' : q10 ≠ q1 := Ne.symm hne12
  have hne13 : q5 ≠ q10 := by rw [hqq10]; exact Nat.ne_of_lt (hW.lt hnq599)
  have hne13' : q10 ≠ q5 := Ne.symm hne13
  have hnoq10 : E9 q10 = none := by rw [hqq10]; exact hW.new
  have hltq10 : G.2.2 ≤ q10 := by rw [hqq10]; exact hW.1
  have hW := hW1
  have hS := hS1
  generalize H1 = H at hW hS ⊢
  obtain ⟨E14, eE14⟩ : ∃ z, z = xU E9 q10 (.inl (G.2.1 4, 12, .inr (.inr (.inr (.inr (fun _ => none)))))) := ⟨_, rfl⟩
  have hW : xW G E14 H := by rw [eE14]; exact hW
  have hE99999 : E14 o = some (.inr (4, [.ref q1, .ref q5, .null, .int 0, .int 0, .int 0])) := by rw [eE14]; exact (xU_ne _ _ hne11).trans hE9999
  have hnq199999 : E14 q1 = some (.inl (G.2.1 2, 8, .inr (.inr (.inr (.inr (fun _ => none)))))) := by rw [eE14]; exact (xU_ne _ _ hne12).trans hnq19999
  have hnq5999 : E14 q5 = some (.inl (G.2.1 3, 4, .inr (.inr (.inr (.inr (fun _ => none)))))) := by rw [eE14]; exact (xU_ne _ _ hne13).trans hnq599
  have hnq109 : E14 q10 = some (.inl (G.2.1 4, 12, .inr (.inr (.inr (.inr (fun _ => none)))))) := by rw [eE14]; exact xU_self _ _ _
  have hFr : xFr tC E E14 := by rw [eE14]; exact xFr_new hFr hnoq10 _
  refine x_putF (G := G) (ci := 4) (v := .ref q10) (ty := .array (.object "VariantMill$Game")) (C := RX4) (T := TX4) (N := 6) hx hb hts hiX4 tyX4 tyX4_ok nmX4 hown hX.1 hW hS hE99999 rfl 2 (by decide) hf23 (fun _ h9 => h9) rfl hin rfl (by decide +kernel) rfl rfl (Nat.le_of_ble_eq_true rfl) dX4_init_27 (fun H locs hW hS => ?_)
  obtain ⟨E15, eE15⟩ : ∃ z, z = xU E14 o (.inr (4, [.ref q1, .ref q5, .ref q10, .int 0, .int 0, .int 0])) := ⟨_, rfl⟩
  have hW : xW G E15 H := by rw [eE15]; exact hW
  have hnq1999999 : E15 q1 = some (.inl (G.2.1 2, 8, .inr (.inr (.inr (.inr (fun _ => none)))))) := by rw [eE15]; exact (xU_ne _ _ hne2').trans hnq199999
  have hnq59999 : E15 q5 = some (.inl (G.2.1 3, 4, .inr (.inr (.inr (.inr (fun _ => none)))))) := by rw [eE15]; exact (xU_ne _ _ hne6').trans hnq5999
  have hnq1099 : E15 q10 = some (.inl (G.2.1 4, 12, .inr (.inr (.inr (.inr (fun _ => none)))))) := by rw [eE15]; exact (xU_ne _ _ hne11').trans hnq109
  have hE999999 : E15 o = some (.inr (4, [.ref q1, .ref q5, .ref q10, .int 0, .int 0, .int 0])) := by rw [eE15]; exact xU_self _ _ _
  have hFr : xFr tC E E15 := by rw [eE15]; exact xFr_put hFr hE99999 rfl _
  exact W.widen (k := 3) (n := 24) (Nat.le_of_ble_eq_true rfl) (Nat.le_of_ble_eq_true rfl) (W.vret hx hb hr (fun t ht hw => ⟨⟨E15, rfl, ⟨q1, q5, q10, hE999999, hnq1999999, hnq59999, hnq1099, hFr⟩, (show xW G E15 t.heap from by rw [ht]; exact hW)⟩, hS.F ht⟩) hS.2.2 dX4_init_30)
