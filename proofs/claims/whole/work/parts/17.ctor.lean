set_option maxHeartbeats 4000000 in
set_option maxRecDepth 100000 in
theorem kX0_init (l : Launch) (G : xG) (E : xE) (o : Nat) (a0 a1 a2 a3 : Int32) (hE : E o = some (.inr (0, [.int 0, .int 0, .int 0, .int 0]))) : Met l yX0_init wsX0_init ({ frames := 1, cells := 0, slots := 0, locals := 20 }) (va_Pc [.ref o, .int a0, .int a1, .int a2, .int a3] (xB G E)) (va_Qv (S := xE) (fun E' => E' = xU E o (.inr (0, [.int a0, .int a1, .int a2, .int (if a0 = 0 then (1 : Int32) else a3)]))) (fun E' t => xW G E' t.heap) (xA G)) 0 0 (xA G) := by
  refine Met.ofW (cc := cX0_init) (maxL := 5) (ret := none) (by decide) rfl ?_
  intro p e s m args below meth c s₁ B hml hv
  obtain ⟨rfl, hX, hW⟩ := hv
  have hx := B.exec
  have hb := B.bytes
  have hr := B.returns
  have hts := atoms_spec (ws := wsX0_init) B.pre
  have hown : s.vm.findClass RX0 = some m.cls := findClass_of_methodNamed B.named
  have hlocks := B.notSynchronized
  have hS : va_S (xA G) s.heap s.heap [] := va_S.rf
  have hin : meth.name = "<init>" := (name_of_methodNamed B.named B.method).1
  have hoi0 := hts (Cond.methodLink RX0 3 objectInit) (by decide +kernel)
  have hoi1 := hts (Cond.instanceMethod objectInit) (by decide +kernel)
  have hoi2 := hts (Cond.code objectInit ⟨#[0xb1]⟩ 1 none) (by decide +kernel)
  have hiX0 : ∀ w ∈ u_ws RX0 TX0 4, w ∈ wsX0_init := by decide +kernel
  have hf9 := hts (Cond.fieldLink RX0 9 "VariantMill$Card" "kind" "I") (by decide +kernel)
  have hf15 := hts (Cond.fieldLink RX0 15 "VariantMill$Card" "dx" "I") (by decide +kernel)
  have hf18 := hts (Cond.fieldLink RX0 18 "VariantMill$Card" "dy" "I") (by decide +kernel)
  have hf21 := hts (Cond.fieldLink RX0 21 "VariantMill$Card" "reach" "I") (by decide +kernel)
  have hl := lv_entry ([.ref o, .int a0, .int a1, .int a2, .int a3]) (n := 5) (Nat.le_of_ble_eq_true rfl)
  rw [lg_entry_eq]
  generalize (lg_sl ([.ref o, .int a0, .int a1, .int a2, .int a3]) ++ List.replicate (5 - (lg_sl ([.ref o, .int a0, .int a1, .int a2, .int a3])).length) Slot.unset).toArray = ls at hl ⊢
  have hl : lv_has ls 5 [(0, .ref o), (1, .int a0), (2, .int a1), (3, .int a2), (4, .int a3)] := hl
  obtain ⟨H, hH⟩ : ∃ z, z = s.heap := ⟨_, rfl⟩
  rw [← hH] at hW
  have hS : va_S (xA G) s.heap H [] := by rw [hH]; exact hS
  rw [← hH]
  refine lv_aload_n hx hb dX0_init_0 rfl (lv_at hl 0 rfl) ?_
  refine W.objInit hx hb hown hoi0 hoi1 hoi2 rfl (by rw [hml]; exact hl.1) rfl dX0_init_1 (Nat.le_of_ble_eq_true rfl) (Nat.le_of_ble_eq_true rfl) ?_
  refine W.eq (g2 := F0 m 4 ls []) rfl ?_
  refine lv_aload_n hx hb dX0_init_4 rfl (lv_at hl 0 rfl) ?_
  refine lv_iload_n hx hb dX0_init_5 rfl (lv_at hl 1 rfl) ?_
  refine x_putF (G := G) (ci := 0) (v := .int a0) (ty := .int) (C := RX0) (T := TX0) (N := 4) hx hb hts hiX0 tyX0 tyX0_ok nmX0 hown hX.1 hW hS hE rfl 0 (by decide) hf9 (fun _ h9 => h9) rfl hin rfl (by decide +kernel) rfl rfl (Nat.le_of_ble_eq_true rfl) dX0_init_6 (fun H locs hW hS => ?_)
  obtain ⟨E1, eE1⟩ : ∃ z, z = xU E o (.inr (0, [.int a0, .int 0, .int 0, .int 0])) := ⟨_, rfl⟩
  have hW : xW G E1 H := by rw [eE1]; exact hW
  have hE9 : E1 o = some (.inr (0, [.int a0, .int 0, .int 0, .int 0])) := by rw [eE1]; exact xU_self _ _ _
  refine lv_aload_n hx hb dX0_init_9 rfl (lv_at hl 0 rfl) ?_
  refine lv_iload_n hx hb dX0_init_10 rfl (lv_at hl 2 rfl) ?_
  refine x_putF (G := G) (ci := 0) (v := .int a1) (ty := .int) (C := RX0) (T := TX0) (N := 4) hx hb hts hiX0 tyX0 tyX0_ok nmX0 hown hX.1 hW hS hE9 rfl 1 (by decide) hf15 (fun _ h9 => h9) rfl hin rfl (by decide +kernel) rfl rfl (Nat.le_of_ble_eq_true rfl) dX0_init_11 (fun H locs hW hS => ?_)
  obtain ⟨E2, eE2⟩ : ∃ z, z = xU E1 o (.inr (0, [.int a0, .int a1, .int 0, .int 0])) := ⟨_, rfl⟩
  have hW : xW G E2 H := by rw [eE2]; exact hW
  have hE99 : E2 o = some (.inr (0, [.int a0, .int a1, .int 0, .int 0])) := by rw [eE2]; exact xU_self _ _ _
  refine lv_aload_n hx hb dX0_init_14 rfl (lv_at hl 0 rfl) ?_
  refine lv_iload_n hx hb dX0_init_15 rfl (lv_at hl 3 rfl) ?_
  refine x_putF (G := G) (ci := 0) (v := .int a2) (ty := .int) (C := RX0) (T := TX0) (N := 4) hx hb hts hiX0 tyX0 tyX0_ok nmX0 hown hX.1 hW hS hE99 rfl 2 (by decide) hf18 (fun _ h9 => h9) rfl hin rfl (by decide +kernel) rfl rfl (Nat.le_of_ble_eq_true rfl) dX0_init_16 (fun H locs hW hS => ?_)
  obtain ⟨E3, eE3⟩ : ∃ z, z = xU E2 o (.inr (0, [.int a0, .int a1, .int a2, .int 0])) := ⟨_, rfl⟩
  have hW : xW G E3 H := by rw [eE3]; exact hW
  have hE999 : E3 o = some (.inr (0, [.int a0, .int a1, .int a2, .int 0])) := by rw [eE3]; exact xU_self _ _ _
  refine lv_aload_n hx hb dX0_init_19 rfl (lv_at hl 0 rfl) ?_
  refine lv_iload_n hx hb dX0_init_20 rfl (lv_at hl 1 rfl) ?_
  refine x_join (ls' := ls) (rest' := [.ref o]) 30 ((if a0 = 0 then ((1 : Int32)) else (a3))) (fun v ev => ?_) (fun J => ?_)
  · subst ev
    refine x_putF (G := G) (ci := 0) (v := .int (if a0 = 0 then ((1 : Int32)) else (a3))) (ty := .int) (C := RX0) (T := TX0) (N := 4) hx hb hts hiX0 tyX0 tyX0_ok nmX0 hown hX.1 hW hS hE999 rfl 3 (by decide) hf21 (fun _ h9 => h9) rfl hin rfl (by decide +kernel) rfl rfl (Nat.le_of_ble_eq_true rfl) dX0_init_30 (fun H locs hW hS => ?_)
    obtain ⟨E5, eE5⟩ : ∃ z, z = xU E3 o (.inr (0, [.int a0, .int a1, .int a2, .int (if a0 = 0 then ((1 : Int32)) else (a3))])) := ⟨_, rfl⟩
    have hW : xW G E5 H := by rw [eE5]; exact hW
    have hE9999 : E5 o = some (.inr (0, [.int a0, .int a1, .int a2, .int (if a0 = 0 then ((1 : Int32)) else (a3))])) := by rw [eE5]; exact xU_self _ _ _
    exact W.widen (k := 0) (n := 0) (Nat.le_of_ble_eq_true rfl) (Nat.le_of_ble_eq_true rfl) (W.vret hx hb hr (fun t ht hw => ⟨⟨E5, rfl, (show E5 = xU E o _ from by rw [eE5, eE3, eE2, eE1]; simp only [xU_xU]), (show xW G E5 t.heap from by rw [ht]; exact hW)⟩, hS.F ht⟩) hS.2.2 dX0_init_33)
  · refine lv_if_ne (tgt := 28) hx hb dX0_init_21 (by decide) (fun c_4 => ?_) (fun c_4 => ?_)
    · refine lv_iload hx hb dX0_init_28 (lv_at hl 4 rfl) ?_
      exact J _ (show (a3 : Int32) = if a0 = 0 then ((1 : Int32)) else (a3) from by rw [if_neg c_4])
    · refine lv_iconst (v := 1) hx hb dX0_init_24 (by decide) ?_
      refine lv_goto (tgt := 30) hx hb dX0_init_25 (by decide) ?_
      exact J _ (show (1 : Int32) = if a0 = 0 then ((1 : Int32)) else (a3) from by rw [if_pos c_4])

set_option maxHeartbeats 4000000 in
set_option maxRecDepth 100000 in
theorem kX2_init (l : Launch) (G : xG) (E : xE) (o ta : Nat) (a0 a1 : Int32) (hE : E o = some (.inr (2, [.null, .int 0, .int 0]))) : Met l yX2_init wsX2_init ({ frames := 1, cells := 0, slots := 0, locals := 20 }) (va_Pc [.ref o, .ref ta, .int a0, .int a1] (xB G E)) (va_Qv (S := xE) (fun E' => E' = xU E o (.inr (2, [.ref ta, .int a0, .int a1]))) (fun E' t => xW G E' t.heap) (xA G)) 0 0 (xA G) := by
  refine Met.ofW (cc := cX2_init) (maxL := 4) (ret := none) (by decide) rfl ?_
  intro p e s m args below meth c s₁ B hml hv
  obtain ⟨rfl, hX, hW⟩ := hv
  have hx := B.exec
  have hb := B.bytes
  have hr := B.returns
  have hts := atoms_spec (ws := wsX2_init) B.pre
  have hown : s.vm.findClass RX2 = some m.cls := findClass_of_methodNamed B.named
  have hlocks := B.notSynchronized
  have hS : va_S (xA G) s.heap s.heap [] := va_S.rf
  have hin : meth.name = "<init>" := (name_of_methodNamed B.named B.method).1
  have hoi0 := hts (Cond.methodLink RX2 3 objectInit) (by decide +kernel)
  have hoi1 := hts (Cond.instanceMethod objectInit) (by decide +kernel)
  have hoi2 := hts (Cond.code objectInit ⟨#[0xb1]⟩ 1 none) (by decide +kernel)
  have hiX2 : ∀ w ∈ u_ws RX2 TX2 3, w ∈ wsX2_init := by decide +kernel
  have hf9 := hts (Cond.fieldLink RX2 9 "VariantMill$Rules" "table" "[LVariantMill$Card;") (by decide +kernel)
  have hf15 := hts (Cond.fieldLink RX2 15 "VariantMill$Rules" "cards" "I") (by decide +kernel)
  have hf19 := hts (Cond.fieldLink RX2 19 "VariantMill$Rules" "holes" "I") (by decide +kernel)
  have hl := lv_entry ([.ref o, .ref ta, .int a0, .int a1]) (n := 4) (Nat.le_of_ble_eq_true rfl)
  rw [lg_entry_eq]
  generalize (lg_sl ([.ref o, .ref ta, .int a0, .int a1]) ++ List.replicate (4 - (lg_sl ([.ref o, .ref ta, .int a0, .int a1])).length) Slot.unset).toArray = ls at hl ⊢
  have hl : lv_has ls 4 [(0, .ref o), (1, .ref ta), (2, .int a0), (3, .int a1)] := hl
  obtain ⟨H, hH⟩ : ∃ z, z = s.heap := ⟨_, rfl⟩
  rw [← hH] at hW
  have hS : va_S (xA G) s.heap H [] := by rw [hH]; exact hS
  rw [← hH]
  refine lv_aload_n hx hb dX2_init_0 rfl (lv_at hl 0 rfl) ?_
  refine W.objInit hx hb hown hoi0 hoi1 hoi2 rfl (by rw [hml]; exact hl.1) rfl dX2_init_1 (Nat.le_of_ble_eq_true rfl) (Nat.le_of_ble_eq_true rfl) ?_
  refine W.eq (g2 := F0 m 4 ls []) rfl ?_
  refine lv_aload_n hx hb dX2_init_4 rfl (lv_at hl 0 rfl) ?_
  refine lv_aload_n hx hb dX2_init_5 rfl (lv_at hl 1 rfl) ?_
  refine x_putF (G := G) (ci := 2) (v := .ref ta) (ty := .array (.object "VariantMill$Card")) (C := RX2) (T := TX2) (N := 3) hx hb hts hiX2 tyX2 tyX2_ok nmX2 hown hX.1 hW hS hE rfl 0 (by decide) hf9 (fun _ h9 => h9) rfl hin rfl (by decide +kernel) rfl rfl (Nat.le_of_ble_eq_true rfl) dX2_init_6 (fun H locs hW hS => ?_)
  obtain ⟨E1, eE1⟩ : ∃ z, z = xU E o (.inr (2, [.ref ta, .int 0, .int 0])) := ⟨_, rfl⟩
  have hW : xW G E1 H := by rw [eE1]; exact hW
  have hE9 : E1 o = some (.inr (2, [.ref ta, .int 0, .int 0])) := by rw [eE1]; exact xU_self _ _ _
  refine lv_aload_n hx hb dX2_init_9 rfl (lv_at hl 0 rfl) ?_
  refine lv_iload_n hx hb dX2_init_10 rfl (lv_at hl 2 rfl) ?_
  refine x_putF (G := G) (ci := 2) (v := .int a0) (ty := .int) (C := RX2) (T := TX2) (N := 3) hx hb hts hiX2 tyX2 tyX2_ok nmX2 hown hX.1 hW hS hE9 rfl 1 (by decide) hf15 (fun _ h9 => h9) rfl hin rfl (by decide +kernel) rfl rfl (Nat.le_of_ble_eq_true rfl) dX2_init_11 (fun H locs hW hS => ?_)
  obtain ⟨E2, eE2⟩ : ∃ z, z = xU E1 o (.inr (2, [.ref ta, .int a0, .int 0])) := ⟨_, rfl⟩
  have hW : xW G E2 H := by rw [eE2]; exact hW
  have hE99 : E2 o = some (.inr (2, [.ref ta, .int a0, .int 0])) := by rw [eE2]; exact xU_self _ _ _
  refine lv_aload_n hx hb dX2_init_14 rfl (lv_at hl 0 rfl) ?_
  refine lv_iload_n hx hb dX2_init_15 rfl (lv_at hl 3 rfl) ?_
  refine x_putF (G := G) (ci := 2) (v := .int a1) (ty := .int) (C := RX2) (T := TX2) (N := 3) hx hb hts hiX2 tyX2 tyX2_ok nmX2 hown hX.1 hW hS hE99 rfl 2 (by decide) hf19 (fun _ h9 => h9) rfl hin rfl (by decide +kernel) rfl rfl (Nat.le_of_ble_eq_true rfl) dX2_init_16 (fun H locs hW hS => ?_)
  obtain ⟨E3, eE3⟩ : ∃ z, z = xU E2 o (.inr (2, [.ref ta, .int a0, .int a1])) := ⟨_, rfl⟩
  have hW : xW G E3 H := by rw [eE3]; exact hW
  have hE999 : E3 o = some (.inr (2, [.ref ta, .int a0, .int a1])) := by rw [eE3]; exact xU_self _ _ _
  exact W.widen (k := 0) (n := 0) (Nat.le_of_ble_eq_true rfl) (Nat.le_of_ble_eq_true rfl) (W.vret hx hb hr (fun t ht hw => ⟨⟨E3, rfl, (show E3 = xU E o _ from by rw [eE3, eE2, eE1]; simp only [xU_xU]), (show xW G E3 t.heap from by rw [ht]; exact hW)⟩, hS.F ht⟩) hS.2.2 dX2_init_19)

set_option maxHeartbeats 4000000 in
set_option maxRecDepth 100000 in
theorem kX3_init (l : Launch) (G : xG) (E : xE) (o ra : Nat) (hE : E o = some (.inr (3, [.null, .int 0, .int 0]))) : Met l yX3_init wsX3_init ({ frames := 1, cells := 0, slots := 0, locals := 20 }) (va_Pc [.ref o, .ref ra] (xB G E)) (va_Qv (S := xE) (fun E' => E' = xU E o (.inr (3, [.ref ra, .int 0, .int 0]))) (fun E' t => xW G E' t.heap) (xA G)) 0 0 (xA G) := by
  refine Met.ofW (cc := cX3_init) (maxL := 2) (ret := none) (by decide) rfl ?_
  intro p e s m args below meth c s₁ B hml hv
  obtain ⟨rfl, hX, hW⟩ := hv
  have hx := B.exec
  have hb := B.bytes
  have hr := B.returns
  have hts := atoms_spec (ws := wsX3_init) B.pre
  have hown : s.vm.findClass RX3 = some m.cls := findClass_of_methodNamed B.named
  have hlocks := B.notSynchronized
  have hS : va_S (xA G) s.heap s.heap [] := va_S.rf
  have hin : meth.name = "<init>" := (name_of_methodNamed B.named B.method).1
  have hoi0 := hts (Cond.methodLink RX3 3 objectInit) (by decide +kernel)
  have hoi1 := hts (Cond.instanceMethod objectInit) (by decide +kernel)
  have hoi2 := hts (Cond.code objectInit ⟨#[0xb1]⟩ 1 none) (by decide +kernel)
  have hiX3 : ∀ w ∈ u_ws RX3 TX3 3, w ∈ wsX3_init := by decide +kernel
  have hf9 := hts (Cond.fieldLink RX3 9 "VariantMill$Variant" "rules" "LVariantMill$Rules;") (by decide +kernel)
  have hl := lv_entry ([.ref o, .ref ra]) (n := 2) (Nat.le_of_ble_eq_true rfl)
  rw [lg_entry_eq]
  generalize (lg_sl ([.ref o, .ref ra]) ++ List.replicate (2 - (lg_sl ([.ref o, .ref ra])).length) Slot.unset).toArray = ls at hl ⊢
  have hl : lv_has ls 2 [(0, .ref o), (1, .ref ra)] := hl
  obtain ⟨H, hH⟩ : ∃ z, z = s.heap := ⟨_, rfl⟩
  rw [← hH] at hW
  have hS : va_S (xA G) s.heap H [] := by rw [hH]; exact hS
  rw [← hH]
  refine lv_aload_n hx hb dX3_init_0 rfl (lv_at hl 0 rfl) ?_
  refine W.objInit hx hb hown hoi0 hoi1 hoi2 rfl (by rw [hml]; exact hl.1) rfl dX3_init_1 (Nat.le_of_ble_eq_true rfl) (Nat.le_of_ble_eq_true rfl) ?_
  refine W.eq (g2 := F0 m 4 ls []) rfl ?_
  refine lv_aload_n hx hb dX3_init_4 rfl (lv_at hl 0 rfl) ?_
  refine lv_aload_n hx hb dX3_init_5 rfl (lv_at hl 1 rfl) ?_
  refine x_put (G := G) (ci := 3) (v := .ref ra) (ty := .object "VariantMill$Rules") (C := RX3) (T := TX3) (N := 3) hx hb hts hiX3 tyX3 tyX3_ok nmX3 hown hX.1 hW hS hE rfl 0 (by decide) hf9 (fun _ h9 => h9) rfl (by decide +kernel) rfl rfl (Nat.le_of_ble_eq_true rfl) dX3_init_6 (fun H locs hW hS => ?_)
  obtain ⟨E1, eE1⟩ : ∃ z, z = xU E o (.inr (3, [.ref ra, .int 0, .int 0])) := ⟨_, rfl⟩
  have hW : xW G E1 H := by rw [eE1]; exact hW
  have hE9 : E1 o = some (.inr (3, [.ref ra, .int 0, .int 0])) := by rw [eE1]; exact xU_self _ _ _
  exact W.widen (k := 0) (n := 0) (Nat.le_of_ble_eq_true rfl) (Nat.le_of_ble_eq_true rfl) (W.vret hx hb hr (fun t ht hw => ⟨⟨E1, rfl, (show E1 = xU E o _ from by rw [eE1]), (show xW G E1 t.heap from by rw [ht]; exact hW)⟩, hS.F ht⟩) hS.2.2 dX3_init_9)

theorem x_gameInit {E E8 E9 : xE} {o q : Nat} {g8 g9 v8 s9 : va_E} (hno : E8 q = none) (h8 : E8 = xU E o g8) (h9 : E9 = xU (xU (xU E8 q v8) o g9) q s9) : E q = none ∧ q ≠ o ∧ E9 = xU (xU E o g9) q s9 := by
  have hqo : q ≠ o := fun h => by rw [h, h8, xU_self] at hno; cases hno
  refine ⟨?_, hqo, ?_⟩
  · rw [h8, xU_ne E g8 hqo] at hno; exact hno
  · rw [h9, h8]
    funext b
    by_cases h1 : b = q
    · rw [h1, xU_self, xU_self]
    · rw [xU_ne _ s9 h1, xU_ne _ s9 h1]
      by_cases h2 : b = o
      · rw [h2, xU_self, xU_self]
      · rw [xU_ne _ g9 h2, xU_ne _ g9 h2, xU_ne _ v8 h1, xU_ne _ g8 h2]

set_option maxHeartbeats 4000000 in
set_option maxRecDepth 100000 in
theorem kX1_init (l : Launch) (G : xG) (E : xE) (o va : Nat) (a0 a1 a2 a3 : Int32) (ra : Nat) (vo en : Int32) (hE : E o = some (.inr (1, [.null, .null, .int 0, .int 0, .null, .int 0, .int 0, .int 0, .int 0]))) (hV : E va = some (.inr (3, [.ref ra, .int vo, .int en]))) : Met l yX1_init wsX1_init ({ frames := 1, cells := 1, slots := 61, locals := 24 }) (va_Pc [.ref o, .ref va, .int a0, .int a1, .int a2, .int a3] (xB G E)) (va_Qv (S := xE) (fun E' => ∃ q, E q = none ∧ q ≠ o ∧ E' = xU (xU E o (.inr (1, [.ref va, .ref ra, .int a0, .int a1, .ref q, .int a2, .int a3, .int 0, .int 0]))) q (.inl (G.2.1 1, 61, .inr (.inl (vp_updL (fun _ => 0) 0 (fX1_placing a2 a3 false)))))) (fun E' t => xW G E' t.heap) (xA G)) 1 61 (xA G) := by
  refine Met.ofW (cc := cX1_init) (maxL := 6) (ret := none) (by decide) rfl ?_
  intro p e s m args below meth c s₁ B hml hv
  obtain ⟨rfl, hX, hW⟩ := hv
  have hx := B.exec
  have hb := B.bytes
  have hr := B.returns
  have hts := atoms_spec (ws := wsX1_init) B.pre
  have hown : s.vm.findClass RX1 = some m.cls := findClass_of_methodNamed B.named
  have hlocks := B.notSynchronized
  have hS : va_S (xA G) s.heap s.heap [] := va_S.rf
  have hin : meth.name = "<init>" := (name_of_methodNamed B.named B.method).1
  have hoi0 := hts (Cond.methodLink RX1 3 objectInit) (by decide +kernel)
  have hoi1 := hts (Cond.instanceMethod objectInit) (by decide +kernel)
  have hoi2 := hts (Cond.code objectInit ⟨#[0xb1]⟩ 1 none) (by decide +kernel)
  have hiX1 : ∀ w ∈ u_ws RX1 TX1 9, w ∈ wsX1_init := by decide +kernel
  have hf9 := hts (Cond.fieldLink RX1 9 "VariantMill$Game" "variant" "LVariantMill$Variant;") (by decide +kernel)
  have hiX3 : ∀ w ∈ u_ws RX3 TX3 3, w ∈ wsX1_init := by decide +kernel
  have hf15 := hts (Cond.fieldLink RX1 15 "VariantMill$Variant" "rules" "LVariantMill$Rules;") (by decide +kernel)
  have hf21 := hts (Cond.fieldLink RX1 21 "VariantMill$Game" "rules" "LVariantMill$Rules;") (by decide +kernel)
  have hf22 := hts (Cond.fieldLink RX1 22 "VariantMill$Game" "first" "I") (by decide +kernel)
  have hf26 := hts (Cond.fieldLink RX1 26 "VariantMill$Game" "second" "I") (by decide +kernel)
  have hf29 := hts (Cond.fieldLink RX1 29 "VariantMill$Game" "ofFirst" "I") (by decide +kernel)
  have hf32 := hts (Cond.fieldLink RX1 32 "VariantMill$Game" "ofSecond" "I") (by decide +kernel)
  have hf35 := hts (Cond.fieldLink RX1 35 "VariantMill$Game" "state" "I") (by decide +kernel)
  have harL := hts (Cond.arrayClass .long) (by decide +kernel)
  have hf38 := hts (Cond.fieldLink RX1 38 "VariantMill$Game" "seen" "[J") (by decide +kernel)
  have hl := lv_entry ([.ref o, .ref va, .int a0, .int a1, .int a2, .int a3]) (n := 6) (Nat.le_of_ble_eq_true rfl)
  rw [lg_entry_eq]
  generalize (lg_sl ([.ref o, .ref va, .int a0, .int a1, .int a2, .int a3]) ++ List.replicate (6 - (lg_sl ([.ref o, .ref va, .int a0, .int a1, .int a2, .int a3])).length) Slot.unset).toArray = ls at hl ⊢
  have hl : lv_has ls 6 [(0, .ref o), (1, .ref va), (2, .int a0), (3, .int a1), (4, .int a2), (5, .int a3)] := hl
  obtain ⟨H, hH⟩ : ∃ z, z = s.heap := ⟨_, rfl⟩
  rw [← hH] at hW
  have hS : va_S (xA G) s.heap H [] := by rw [hH]; exact hS
  rw [← hH]
  refine lv_aload_n hx hb dX1_init_0 rfl (lv_at hl 0 rfl) ?_
  refine W.objInit hx hb hown hoi0 hoi1 hoi2 rfl (by rw [hml]; exact hl.1) rfl dX1_init_1 (Nat.le_of_ble_eq_true rfl) (Nat.le_of_ble_eq_true rfl) ?_
  refine W.eq (g2 := F0 m 4 ls []) rfl ?_
  refine lv_aload_n hx hb dX1_init_4 rfl (lv_at hl 0 rfl) ?_
  refine lv_aload_n hx hb dX1_init_5 rfl (lv_at hl 1 rfl) ?_
  refine x_putF (G := G) (ci := 1) (v := .ref va) (ty := .object "VariantMill$Variant") (C := RX1) (T := TX1) (N := 9) hx hb hts hiX1 tyX1 tyX1_ok nmX1 hown hX.1 hW hS hE rfl 0 (by decide) hf9 (fun _ h9 => h9) rfl hin rfl (by decide +kernel) rfl rfl (Nat.le_of_ble_eq_true rfl) dX1_init_6 (fun H locs hW hS => ?_)
  obtain ⟨E1, eE1⟩ : ∃ z, z = xU E o (.inr (1, [.ref va, .null, .int 0, .int 0, .null, .int 0, .int 0, .int 0, .int 0])) := ⟨_, rfl⟩
  have hW : xW G E1 H := by rw [eE1]; exact hW
  have hV9 : E1 va = some (.inr (3, [.ref ra, .int vo, .int en])) := by rw [eE1]; exact xU_of hV hE (fun h => by simp at h)
  have hE9 : E1 o = some (.inr (1, [.ref va, .null, .int 0, .int 0, .null, .int 0, .int 0, .int 0, .int 0])) := by rw [eE1]; exact xU_self _ _ _
  refine lv_aload_n hx hb dX1_init_9 rfl (lv_at hl 0 rfl) ?_
  refine lv_aload_n hx hb dX1_init_10 rfl (lv_at hl 1 rfl) ?_
  refine va_get (D := G.1) (ci := 3) (v := .ref ra) (C := RX3) (T := TX3) (N := 3) hx hb hts hiX3 hown hX.1 (x1 hW hV9) 0 rfl rfl 0 (by decide) hf15 (fun _ h9 => h9) rfl dX1_init_11 ?_
  refine x_putF (G := G) (ci := 1) (v := .ref ra) (ty := .object "VariantMill$Rules") (C := RX1) (T := TX1) (N := 9) hx hb hts hiX1 tyX1 tyX1_ok nmX1 hown hX.1 hW hS hE9 rfl 1 (by decide) hf21 (fun _ h9 => h9) rfl hin rfl (by decide +kernel) rfl rfl (Nat.le_of_ble_eq_true rfl) dX1_init_14 (fun H locs hW hS => ?_)
  obtain ⟨E2, eE2⟩ : ∃ z, z = xU E1 o (.inr (1, [.ref va, .ref ra, .int 0, .int 0, .null, .int 0, .int 0, .int 0, .int 0])) := ⟨_, rfl⟩
  have hW : xW G E2 H := by rw [eE2]; exact hW
  have hV99 : E2 va = some (.inr (3, [.ref ra, .int vo, .int en])) := by rw [eE2]; exact xU_of hV9 hE9 (fun h => by simp at h)
  have hE99 : E2 o = some (.inr (1, [.ref va, .ref ra, .int 0, .int 0, .null, .int 0, .int 0, .int 0, .int 0])) := by rw [eE2]; exact xU_self _ _ _
  refine lv_aload_n hx hb dX1_init_17 rfl (lv_at hl 0 rfl) ?_
  refine lv_iload_n hx hb dX1_init_18 rfl (lv_at hl 2 rfl) ?_
  refine x_putF (G := G) (ci := 1) (v := .int a0) (ty := .int) (C := RX1) (T := TX1) (N := 9) hx hb hts hiX1 tyX1 tyX1_ok nmX1 hown hX.1 hW hS hE99 rfl 2 (by decide) hf22 (fun _ h9 => h9) rfl hin rfl (by decide +kernel) rfl rfl (Nat.le_of_ble_eq_true rfl) dX1_init_19 (fun H locs hW hS => ?_)
  obtain ⟨E3, eE3⟩ : ∃ z, z = xU E2 o (.inr (1, [.ref va, .ref ra, .int a0, .int 0, .null, .int 0, .int 0, .int 0, .int 0])) := ⟨_, rfl⟩
  have hW : xW G E3 H := by rw [eE3]; exact hW
  have hV999 : E3 va = some (.inr (3, [.ref ra, .int vo, .int en])) := by rw [eE3]; exact xU_of hV99 hE99 (fun h => by simp at h)
  have hE999 : E3 o = some (.inr (1, [.ref va, .ref ra, .int a0, .int 0, .null, .int 0, .int 0, .int 0, .int 0])) := by rw [eE3]; exact xU_self _ _ _
  refine lv_aload_n hx hb dX1_init_22 rfl (lv_at hl 0 rfl) ?_
  refine lv_iload_n hx hb dX1_init_23 rfl (lv_at hl 3 rfl) ?_
  refine x_putF (G := G) (ci := 1) (v := .int a1) (ty := .int) (C := RX1) (T := TX1) (N := 9) hx hb hts hiX1 tyX1 tyX1_ok nmX1 hown hX.1 hW hS hE999 rfl 3 (by decide) hf26 (fun _ h9 => h9) rfl hin rfl (by decide +kernel) rfl rfl (Nat.le_of_ble_eq_true rfl) dX1_init_24 (fun H locs hW hS => ?_)
  obtain ⟨E4, eE4⟩ : ∃ z, z = xU E3 o (.inr (1, [.ref va, .ref ra, .int a0, .int a1, .null, .int 0, .int 0, .int 0, .int 0])) := ⟨_, rfl⟩
  have hW : xW G E4 H := by rw [eE4]; exact hW
  have hV9999 : E4 va = some (.inr (3, [.ref ra, .int vo, .int en])) := by rw [eE4]; exact xU_of hV999 hE999 (fun h => by simp at h)
  have hE9999 : E4 o = some (.inr (1, [.ref va, .ref ra, .int a0, .int a1, .null, .int 0, .int 0, .int 0, .int 0])) := by rw [eE4]; exact xU_self _ _ _
  refine lv_aload_n hx hb dX1_init_27 rfl (lv_at hl 0 rfl) ?_
  refine lv_iload hx hb dX1_init_28 (lv_at hl 4 rfl) ?_
  refine x_put (G := G) (ci := 1) (v := .int a2) (ty := .int) (C := RX1) (T := TX1) (N := 9) hx hb hts hiX1 tyX1 tyX1_ok nmX1 hown hX.1 hW hS hE9999 rfl 5 (by decide) hf29 (fun _ h9 => h9) rfl (by decide +kernel) rfl rfl (Nat.le_of_ble_eq_true rfl) dX1_init_30 (fun H locs hW hS => ?_)
  obtain ⟨E5, eE5⟩ : ∃ z, z = xU E4 o (.inr (1, [.ref va, .ref ra, .int a0, .int a1, .null, .int a2, .int 0, .int 0, .int 0])) := ⟨_, rfl⟩
  have hW : xW G E5 H := by rw [eE5]; exact hW
  have hV99999 : E5 va = some (.inr (3, [.ref ra, .int vo, .int en])) := by rw [eE5]; exact xU_of hV9999 hE9999 (fun h => by simp at h)
  have hE99999 : E5 o = some (.inr (1, [.ref va, .ref ra, .int a0, .int a1, .null, .int a2, .int 0, .int 0, .int 0])) := by rw [eE5]; exact xU_self _ _ _
  refine lv_aload_n hx hb dX1_init_33 rfl (lv_at hl 0 rfl) ?_
  refine lv_iload hx hb dX1_init_34 (lv_at hl 5 rfl) ?_
  refine x_put (G := G) (ci := 1) (v := .int a3) (ty := .int) (C := RX1) (T := TX1) (N := 9) hx hb hts hiX1 tyX1 tyX1_ok nmX1 hown hX.1 hW hS hE99999 rfl 6 (by decide) hf32 (fun _ h9 => h9) rfl (by decide +kernel) rfl rfl (Nat.le_of_ble_eq_true rfl) dX1_init_36 (fun H locs hW hS => ?_)
  obtain ⟨E6, eE6⟩ : ∃ z, z = xU E5 o (.inr (1, [.ref va, .ref ra, .int a0, .int a1, .null, .int a2, .int a3, .int 0, .int 0])) := ⟨_, rfl⟩
  have hW : xW G E6 H := by rw [eE6]; exact hW
  have hV999999 : E6 va = some (.inr (3, [.ref ra, .int vo, .int en])) := by rw [eE6]; exact xU_of hV99999 hE99999 (fun h => by simp at h)
  have hE999999 : E6 o = some (.inr (1, [.ref va, .ref ra, .int a0, .int a1, .null, .int a2, .int a3, .int 0, .int 0])) := by rw [eE6]; exact xU_self _ _ _
  refine lv_aload_n hx hb dX1_init_39 rfl (lv_at hl 0 rfl) ?_
  refine lv_iconst (v := 0) hx hb dX1_init_40 (by decide) ?_
  refine x_put (G := G) (ci := 1) (v := .int 0) (ty := .int) (C := RX1) (T := TX1) (N := 9) hx hb hts hiX1 tyX1 tyX1_ok nmX1 hown hX.1 hW hS hE999999 rfl 8 (by decide) hf35 (fun _ h9 => h9) rfl (by decide +kernel) rfl rfl (Nat.le_of_ble_eq_true rfl) dX1_init_41 (fun H locs hW hS => ?_)
  obtain ⟨E7, eE7⟩ : ∃ z, z = xU E6 o (.inr (1, [.ref va, .ref ra, .int a0, .int a1, .null, .int a2, .int a3, .int 0, .int 0])) := ⟨_, rfl⟩
  have hW : xW G E7 H := by rw [eE7]; exact hW
  have hV9999999 : E7 va = some (.inr (3, [.ref ra, .int vo, .int en])) := by rw [eE7]; exact xU_of hV999999 hE999999 (fun h => by simp at h)
  have hE9999999 : E7 o = some (.inr (1, [.ref va, .ref ra, .int a0, .int a1, .null, .int a2, .int a3, .int 0, .int 0])) := by rw [eE7]; exact xU_self _ _ _
  refine lv_aload_n hx hb dX1_init_44 rfl (lv_at hl 0 rfl) ?_
  refine lv_bipush (v := 61) hx hb dX1_init_45 (by decide) ?_
  refine x_newL (G := G) (N' := 61) hx hb harL hX.1 hW hS (by decide) (by decide) (by decide) (Nat.le_of_ble_eq_true rfl) (Nat.le_of_ble_eq_true rfl) dX1_init_47 (fun q8 H1 hqq8 hzq8 hW1 hS1 => ?_)
  have hne9 : o ≠ q8 := by rw [hqq8]; exact Nat.ne_of_lt (hW.lt hE9999999)
  have hne9' : q8 ≠ o := Ne.symm hne9
  have hne10 : va ≠ q8 := by rw [hqq8]; exact Nat.ne_of_lt (hW.lt hV9999999)
  have hne10' : q8 ≠ va := Ne.symm hne10
  have hnoq8 : E7 q8 = none := by rw [hqq8]; exact hW.new
  have hltq8 : G.2.2 ≤ q8 := by rw [hqq8]; exact hW.1
  have hW := hW1
  have hS := hS1
  generalize H1 = H at hW hS ⊢
  obtain ⟨E11, eE11⟩ : ∃ z, z = xU E7 q8 (.inl (G.2.1 1, 61, .inr (.inl (fun _ => 0)))) := ⟨_, rfl⟩
  have hW : xW G E11 H := by rw [eE11]; exact hW
  have hE99999999 : E11 o = some (.inr (1, [.ref va, .ref ra, .int a0, .int a1, .null, .int a2, .int a3, .int 0, .int 0])) := by rw [eE11]; exact (xU_ne _ _ hne9).trans hE9999999
  have hV99999999 : E11 va = some (.inr (3, [.ref ra, .int vo, .int en])) := by rw [eE11]; exact (xU_ne _ _ hne10).trans hV9999999
  have hnq89 : E11 q8 = some (.inl (G.2.1 1, 61, .inr (.inl (fun _ => 0)))) := by rw [eE11]; exact xU_self _ _ _
  refine x_putF (G := G) (ci := 1) (v := .ref q8) (ty := .array (.long)) (C := RX1) (T := TX1) (N := 9) hx hb hts hiX1 tyX1 tyX1_ok nmX1 hown hX.1 hW hS hE99999999 rfl 4 (by decide) hf38 (fun _ h9 => h9) rfl hin rfl (by decide +kernel) rfl rfl (Nat.le_of_ble_eq_true rfl) dX1_init_49 (fun H locs hW hS => ?_)
  obtain ⟨E12, eE12⟩ : ∃ z, z = xU E11 o (.inr (1, [.ref va, .ref ra, .int a0, .int a1, .ref q8, .int a2, .int a3, .int 0, .int 0])) := ⟨_, rfl⟩
  have hW : xW G E12 H := by rw [eE12]; exact hW
  have hV999999999 : E12 va = some (.inr (3, [.ref ra, .int vo, .int en])) := by rw [eE12]; exact xU_of hV99999999 hE99999999 (fun h => by simp at h)
  have hnq899 : E12 q8 = some (.inl (G.2.1 1, 61, .inr (.inl (fun _ => 0)))) := by rw [eE12]; exact (xU_ne _ _ hne9').trans hnq89
  have hE999999999 : E12 o = some (.inr (1, [.ref va, .ref ra, .int a0, .int a1, .ref q8, .int a2, .int a3, .int 0, .int 0])) := by rw [eE12]; exact xU_self _ _ _
  refine lv_aload_n hx hb dX1_init_52 rfl (lv_at hl 0 rfl) ?_
  refine va_get (D := G.1) (ci := 1) (v := .ref q8) (C := RX1) (T := TX1) (N := 9) hx hb hts hiX1 hown hX.1 (x1 hW hE999999999) 0 rfl rfl 4 (by decide) hf38 (fun _ h9 => h9) rfl dX1_init_53 ?_
  refine lv_iconst (v := 0) hx hb dX1_init_56 (by decide) ?_
  refine lv_iload hx hb dX1_init_57 (lv_at hl 4 rfl) ?_
  refine lv_iload hx hb dX1_init_59 (lv_at hl 5 rfl) ?_
  refine lv_iconst (v := 0) hx hb dX1_init_61 (by decide) ?_
  refine x_callSle (va_runS (As := [.int a2, .int a3, .int 0]) (rest := [.int 0, .ref q8]) ⟨hx, hb, hml, hown, hts⟩ (kX1_placing l a2 a3 false) (va_cwS 3 hts gX1_init_X1_placing rfl rfl rfl (by decide +kernel) ⟨Nat.le_of_ble_eq_true rfl, Nat.le_of_ble_eq_true rfl⟩) x_preT rfl rfl hl.1 rfl (lv_room (Nat.le_of_ble_eq_true rfl)) dX1_init_62 ⟨Nat.le_of_ble_eq_true rfl, Nat.le_of_ble_eq_true rfl⟩) ?_
  refine x_last (G := G) hx hb hX.1 hW hS hnq899 (show vp_in (nI 0) 61 from vp_in_nI (by omega) (by omega)) dX1_init_65 (fun H locs hW hS => ?_)
  rw [show (0 : Int32).toNatClampNeg = 0 from rfl] at hW
  obtain ⟨E13, eE13⟩ : ∃ z, z = xU E12 q8 (.inl (G.2.1 1, 61, .inr (.inl (vp_updL (fun _ => 0) 0 (fX1_placing a2 a3 false))))) := ⟨_, rfl⟩
  have hW : xW G E13 H := by rw [eE13]; exact hW
  have hE9999999999 : E13 o = some (.inr (1, [.ref va, .ref ra, .int a0, .int a1, .ref q8, .int a2, .int a3, .int 0, .int 0])) := by rw [eE13]; exact (xU_ne _ _ hne9).trans hE999999999
  have hV9999999999 : E13 va = some (.inr (3, [.ref ra, .int vo, .int en])) := by rw [eE13]; exact (xU_ne _ _ hne10).trans hV999999999
  have hnq8999 : E13 q8 = some (.inl (G.2.1 1, 61, .inr (.inl (vp_updL (fun _ => 0) 0 (fX1_placing a2 a3 false))))) := by rw [eE13]; exact xU_self _ _ _
  exact W.widen (k := 1) (n := 61) (Nat.le_of_ble_eq_true rfl) (Nat.le_of_ble_eq_true rfl) (W.vret hx hb hr (fun t ht hw => ⟨⟨E13, rfl, ⟨q8, x_gameInit (E := E) (o := o) (E8 := E7) (E9 := E13) (g8 := .inr (1, [.ref va, .ref ra, .int a0, .int a1, .null, .int a2, .int a3, .int 0, .int 0])) (g9 := .inr (1, [.ref va, .ref ra, .int a0, .int a1, .ref q8, .int a2, .int a3, .int 0, .int 0])) (v8 := .inl (G.2.1 1, 61, .inr (.inl (fun _ => 0)))) (s9 := .inl (G.2.1 1, 61, .inr (.inl (vp_updL (fun _ => 0) 0 (fX1_placing a2 a3 false))))) hnoq8 (by rw [eE7, eE6, eE5, eE4, eE3, eE2, eE1]; simp only [xU_xU]) (by rw [eE13, eE12, eE11])⟩, (show xW G E13 t.heap from by rw [ht]; exact hW)⟩, hS.F ht⟩) hS.2.2 dX1_init_66)

set_option maxHeartbeats 4000000 in
set_option maxRecDepth 100000 in
theorem kX4_init (l : Launch) (G : xG) (E : xE) (o : Nat) (hE : E o = some (.inr (4, [.null, .null, .null, .int 0, .int 0, .int 0]))) : Met l yX4_init wsX4_init ({ frames := 1, cells := 3, slots := 24, locals := 20 }) (va_Pc [.ref o] (xB G E)) (va_Qv (S := xE) (fun E' => ∃ q1 q2 q3, E' o = some (.inr (4, [.ref q1, .ref q2, .ref q3, .int 0, .int 0, .int 0])) ∧ E' q1 = some (.inl (G.2.1 2, 8, .inr (.inr (.inr (.inr (fun _ => none)))))) ∧ E' q2 = some (.inl (G.2.1 3, 4, .inr (.inr (.inr (.inr (fun _ => none)))))) ∧ E' q3 = some (.inl (G.2.1 4, 12, .inr (.inr (.inr (.inr (fun _ => none)))))) ∧ xFr tC E E') (fun E' t => xW G E' t.heap) (xA G)) 3 24 (xA G) := by
  refine Met.ofW (cc := cX4_init) (maxL := 1) (ret := none) (by decide) rfl ?_
  intro p e s m args below meth c s₁ B hml hv
  obtain ⟨rfl, hX, hW⟩ := hv
  have hx := B.exec
  have hb := B.bytes
  have hr := B.returns
  have hts := atoms_spec (ws := wsX4_init) B.pre
  have hown : s.vm.findClass RX4 = some m.cls := findClass_of_methodNamed B.named
  have hlocks := B.notSynchronized
  have hS : va_S (xA G) s.heap s.heap [] := va_S.rf
  have hin : meth.name = "<init>" := (name_of_methodNamed B.named B.method).1
  have hoi0 := hts (Cond.methodLink RX4 1 objectInit) (by decide +kernel)
  have hoi1 := hts (Cond.instanceMethod objectInit) (by decide +kernel)
  have hoi2 := hts (Cond.code objectInit ⟨#[0xb1]⟩ 1 none) (by decide +kernel)
  have hcl9 := hts (Cond.classLink RX4 9 RX0) (by decide +kernel)
  have hiX4 : ∀ w ∈ u_ws RX4 TX4 6, w ∈ wsX4_init := by decide +kernel
  have hf11 := hts (Cond.fieldLink RX4 11 "VariantMill" "cardTable" "[LVariantMill$Card;") (by decide +kernel)
  have hcl15 := hts (Cond.classLink RX4 15 RX3) (by decide +kernel)
  have hf17 := hts (Cond.fieldLink RX4 17 "VariantMill" "variants" "[LVariantMill$Variant;") (by decide +kernel)
  have hcl21 := hts (Cond.classLink RX4 21 RX1) (by decide +kernel)
  have hf23 := hts (Cond.fieldLink RX4 23 "VariantMill" "games" "[LVariantMill$Game;") (by decide +kernel)
  have hl := lv_entry ([.ref o]) (n := 1) (Nat.le_of_ble_eq_true rfl)
  rw [lg_entry_eq]
  generalize (lg_sl ([.ref o]) ++ List.replicate (1 - (lg_sl ([.ref o])).length) Slot.unset).toArray = ls at hl ⊢
  have hl : lv_has ls 1 [(0, .ref o)] := hl
  obtain ⟨H, hH⟩ : ∃ z, z = s.heap := ⟨_, rfl⟩
  rw [← hH] at hW
  have hS : va_S (xA G) s.heap H [] := by rw [hH]; exact hS
  rw [← hH]
  have hFr : xFr tC E E := xFr_rf
  refine lv_aload_n hx hb dX4_init_0 rfl (lv_at hl 0 rfl) ?_
  refine W.objInit hx hb hown hoi0 hoi1 hoi2 rfl (by rw [hml]; exact hl.1) rfl dX4_init_1 (Nat.le_of_ble_eq_true rfl) (Nat.le_of_ble_eq_true rfl) ?_
  refine W.eq (g2 := F0 m 4 ls []) rfl ?_
  refine lv_aload_n hx hb dX4_init_4 rfl (lv_at hl 0 rfl) ?_
  refine lv_bipush (v := 8) hx hb dX4_init_5 (by decide) ?_
  refine x_newq (G := G) (C := RX0) (N' := 8) hx hb hown hcl9 hX.2.2.2.2.2.2.1 hX.1 hW hS 2 rfl (by decide) (by decide) (by decide) (Nat.le_of_ble_eq_true rfl) (Nat.le_of_ble_eq_true rfl) dX4_init_7 (fun q1 H1 hqq1 hzq1 hW1 hS1 => ?_)
  have hne2 : o ≠ q1 := by rw [hqq1]; exact Nat.ne_of_lt (hW.lt hE)
  have hne2' : q1 ≠ o := Ne.symm hne2
  have hnoq1 : E q1 = none := by rw [hqq1]; exact hW.new
  have hltq1 : G.2.2 ≤ q1 := by rw [hqq1]; exact hW.1
  have hW := hW1
  have hS := hS1
  generalize H1 = H at hW hS ⊢
  obtain ⟨E3, eE3⟩ : ∃ z, z = xU E q1 (.inl (G.2.1 2, 8, .inr (.inr (.inr (.inr (fun _ => none)))))) := ⟨_, rfl⟩
  have hW : xW G E3 H := by rw [eE3]; exact hW
  have hE9 : E3 o = some (.inr (4, [.null, .null, .null, .int 0, .int 0, .int 0])) := by rw [eE3]; exact (xU_ne _ _ hne2).trans hE
  have hnq19 : E3 q1 = some (.inl (G.2.1 2, 8, .inr (.inr (.inr (.inr (fun _ => none)))))) := by rw [eE3]; exact xU_self _ _ _
  have hFr : xFr tC E E3 := by rw [eE3]; exact xFr_new hFr hnoq1 _
  refine x_putF (G := G) (ci := 4) (v := .ref q1) (ty := .array (.object "VariantMill$Card")) (C := RX4) (T := TX4) (N := 6) hx hb hts hiX4 tyX4 tyX4_ok nmX4 hown hX.1 hW hS hE9 rfl 0 (by decide) hf11 (fun _ h9 => h9) rfl hin rfl (by decide +kernel) rfl rfl (Nat.le_of_ble_eq_true rfl) dX4_init_10 (fun H locs hW hS => ?_)
  obtain ⟨E4, eE4⟩ : ∃ z, z = xU E3 o (.inr (4, [.ref q1, .null, .null, .int 0, .int 0, .int 0])) := ⟨_, rfl⟩
  have hW : xW G E4 H := by rw [eE4]; exact hW
  have hnq199 : E4 q1 = some (.inl (G.2.1 2, 8, .inr (.inr (.inr (.inr (fun _ => none)))))) := by rw [eE4]; exact (xU_ne _ _ hne2').trans hnq19
  have hE99 : E4 o = some (.inr (4, [.ref q1, .null, .null, .int 0, .int 0, .int 0])) := by rw [eE4]; exact xU_self _ _ _
  have hFr : xFr tC E E4 := by rw [eE4]; exact xFr_put hFr hE9 rfl _
  refine lv_aload_n hx hb dX4_init_13 rfl (lv_at hl 0 rfl) ?_
  refine lv_iconst (v := 4) hx hb dX4_init_14 (by decide) ?_
  refine x_newq (G := G) (C := RX3) (N' := 4) hx hb hown hcl15 hX.2.2.2.2.2.2.2.1 hX.1 hW hS 3 rfl (by decide) (by decide) (by decide) (Nat.le_of_ble_eq_true rfl) (Nat.le_of_ble_eq_true rfl) dX4_init_15 (fun q5 H1 hqq5 hzq5 hW1 hS1 => ?_)
  have hne6 : o ≠ q5 := by rw [hqq5]; exact Nat.ne_of_lt (hW.lt hE99)
  have hne6' : q5 ≠ o := Ne.symm hne6
  have hne7 : q1 ≠ q5 := by rw [hqq5]; exact Nat.ne_of_lt (hW.lt hnq199)
  have hne7' : q5 ≠ q1 := Ne.symm hne7
  have hnoq5 : E4 q5 = none := by rw [hqq5]; exact hW.new
  have hltq5 : G.2.2 ≤ q5 := by rw [hqq5]; exact hW.1
  have hW := hW1
  have hS := hS1
  generalize H1 = H at hW hS ⊢
  obtain ⟨E8, eE8⟩ : ∃ z, z = xU E4 q5 (.inl (G.2.1 3, 4, .inr (.inr (.inr (.inr (fun _ => none)))))) := ⟨_, rfl⟩
  have hW : xW G E8 H := by rw [eE8]; exact hW
  have hE999 : E8 o = some (.inr (4, [.ref q1, .null, .null, .int 0, .int 0, .int 0])) := by rw [eE8]; exact (xU_ne _ _ hne6).trans hE99
  have hnq1999 : E8 q1 = some (.inl (G.2.1 2, 8, .inr (.inr (.inr (.inr (fun _ => none)))))) := by rw [eE8]; exact (xU_ne _ _ hne7).trans hnq199
  have hnq59 : E8 q5 = some (.inl (G.2.1 3, 4, .inr (.inr (.inr (.inr (fun _ => none)))))) := by rw [eE8]; exact xU_self _ _ _
  have hFr : xFr tC E E8 := by rw [eE8]; exact xFr_new hFr hnoq5 _
  refine x_putF (G := G) (ci := 4) (v := .ref q5) (ty := .array (.object "VariantMill$Variant")) (C := RX4) (T := TX4) (N := 6) hx hb hts hiX4 tyX4 tyX4_ok nmX4 hown hX.1 hW hS hE999 rfl 1 (by decide) hf17 (fun _ h9 => h9) rfl hin rfl (by decide +kernel) rfl rfl (Nat.le_of_ble_eq_true rfl) dX4_init_18 (fun H locs hW hS => ?_)
  obtain ⟨E9, eE9⟩ : ∃ z, z = xU E8 o (.inr (4, [.ref q1, .ref q5, .null, .int 0, .int 0, .int 0])) := ⟨_, rfl⟩
  have hW : xW G E9 H := by rw [eE9]; exact hW
  have hnq19999 : E9 q1 = some (.inl (G.2.1 2, 8, .inr (.inr (.inr (.inr (fun _ => none)))))) := by rw [eE9]; exact (xU_ne _ _ hne2').trans hnq1999
  have hnq599 : E9 q5 = some (.inl (G.2.1 3, 4, .inr (.inr (.inr (.inr (fun _ => none)))))) := by rw [eE9]; exact (xU_ne _ _ hne6').trans hnq59
  have hE9999 : E9 o = some (.inr (4, [.ref q1, .ref q5, .null, .int 0, .int 0, .int 0])) := by rw [eE9]; exact xU_self _ _ _
  have hFr : xFr tC E E9 := by rw [eE9]; exact xFr_put hFr hE999 rfl _
  refine lv_aload_n hx hb dX4_init_21 rfl (lv_at hl 0 rfl) ?_
  refine lv_bipush (v := 12) hx hb dX4_init_22 (by decide) ?_
  refine x_newq (G := G) (C := RX1) (N' := 12) hx hb hown hcl21 hX.2.2.2.2.2.2.2.2 hX.1 hW hS 4 rfl (by decide) (by decide) (by decide) (Nat.le_of_ble_eq_true rfl) (Nat.le_of_ble_eq_true rfl) dX4_init_24 (fun q10 H1 hqq10 hzq10 hW1 hS1 => ?_)
  have hne11 : o ≠ q10 := by rw [hqq10]; exact Nat.ne_of_lt (hW.lt hE9999)
  have hne11' : q10 ≠ o := Ne.symm hne11
  have hne12 : q1 ≠ q10 := by rw [hqq10]; exact Nat.ne_of_lt (hW.lt hnq19999)
  have hne12' : q10 ≠ q1 := Ne.symm hne12
  have hne13 : q5 ≠ q10 := by rw [hqq10]; exact Nat.ne_of_lt (hW.lt hnq599)
  have hne13' : q10 ≠ q5 := Ne.symm hne13
  have hnoq10 : E9 q10 = none := by rw [hqq10]; exact hW.new
  have hltq10 : G.2.2 ≤ q10 := by rw [hqq10]; exact hW.1
  have hW := hW1
  have hS := hS1
  generalize H1 = H at hW hS ⊢
  obtain ⟨E14, eE14⟩ : ∃ z, z = xU E9 q10 (.inl (G.2.1 4, 12, .inr (.inr (.inr (.inr (fun _ => none)))))) := ⟨_, rfl⟩
  have hW : xW G E14 H := by rw [eE14]; exact hW
  have hE99999 : E14 o = some (.inr (4, [.ref q1, .ref q5, .null, .int 0, .int 0, .int 0])) := by rw [eE14]; exact (xU_ne _ _ hne11).trans hE9999
  have hnq199999 : E14 q1 = some (.inl (G.2.1 2, 8, .inr (.inr (.inr (.inr (fun _ => none)))))) := by rw [eE14]; exact (xU_ne _ _ hne12).trans hnq19999
  have hnq5999 : E14 q5 = some (.inl (G.2.1 3, 4, .inr (.inr (.inr (.inr (fun _ => none)))))) := by rw [eE14]; exact (xU_ne _ _ hne13).trans hnq599
  have hnq109 : E14 q10 = some (.inl (G.2.1 4, 12, .inr (.inr (.inr (.inr (fun _ => none)))))) := by rw [eE14]; exact xU_self _ _ _
  have hFr : xFr tC E E14 := by rw [eE14]; exact xFr_new hFr hnoq10 _
  refine x_putF (G := G) (ci := 4) (v := .ref q10) (ty := .array (.object "VariantMill$Game")) (C := RX4) (T := TX4) (N := 6) hx hb hts hiX4 tyX4 tyX4_ok nmX4 hown hX.1 hW hS hE99999 rfl 2 (by decide) hf23 (fun _ h9 => h9) rfl hin rfl (by decide +kernel) rfl rfl (Nat.le_of_ble_eq_true rfl) dX4_init_27 (fun H locs hW hS => ?_)
  obtain ⟨E15, eE15⟩ : ∃ z, z = xU E14 o (.inr (4, [.ref q1, .ref q5, .ref q10, .int 0, .int 0, .int 0])) := ⟨_, rfl⟩
  have hW : xW G E15 H := by rw [eE15]; exact hW
  have hnq1999999 : E15 q1 = some (.inl (G.2.1 2, 8, .inr (.inr (.inr (.inr (fun _ => none)))))) := by rw [eE15]; exact (xU_ne _ _ hne2').trans hnq199999
  have hnq59999 : E15 q5 = some (.inl (G.2.1 3, 4, .inr (.inr (.inr (.inr (fun _ => none)))))) := by rw [eE15]; exact (xU_ne _ _ hne6').trans hnq5999
  have hnq1099 : E15 q10 = some (.inl (G.2.1 4, 12, .inr (.inr (.inr (.inr (fun _ => none)))))) := by rw [eE15]; exact (xU_ne _ _ hne11').trans hnq109
  have hE999999 : E15 o = some (.inr (4, [.ref q1, .ref q5, .ref q10, .int 0, .int 0, .int 0])) := by rw [eE15]; exact xU_self _ _ _
  have hFr : xFr tC E E15 := by rw [eE15]; exact xFr_put hFr hE99999 rfl _
  exact W.widen (k := 3) (n := 24) (Nat.le_of_ble_eq_true rfl) (Nat.le_of_ble_eq_true rfl) (W.vret hx hb hr (fun t ht hw => ⟨⟨E15, rfl, ⟨q1, q5, q10, hE999999, hnq1999999, hnq59999, hnq1099, hFr⟩, (show xW G E15 t.heap from by rw [ht]; exact hW)⟩, hS.F ht⟩) hS.2.2 dX4_init_30)

set_option maxHeartbeats 4000000 in
set_option maxRecDepth 100000 in
theorem kX5_init (l : Launch) (G : xG) (E : xE) (o : Nat) (hE : E o = some (.inr (5, [.int 0, .null, .null, .null, .null, .int 0, .null, .null, .null, .null, .int 0, .null, .null, .null, .null, .null, .null, .null, .null, .int 0]))) : Met l yX5_init wsX5_init ({ frames := 1, cells := 16, slots := 1608, locals := 20 }) (va_Pc [.ref o] (xB G E)) (va_Qv (S := xE) (fun E' => xMd G E' o (fun _ _ => 0) 0 ∧ xFr tM E E') (fun E' t => xW G E' t.heap) (xA G)) 16 1608 (xA G) := by
  refine Met.ofW (cc := cX5_init) (maxL := 1) (ret := none) (by decide) rfl ?_
  intro p e s m args below meth c s₁ B hml hv
  obtain ⟨rfl, hX, hW⟩ := hv
  have hx := B.exec
  have hb := B.bytes
  have hr := B.returns
  have hts := atoms_spec (ws := wsX5_init) B.pre
  have hown : s.vm.findClass RX5 = some m.cls := findClass_of_methodNamed B.named
  have hlocks := B.notSynchronized
  have hS : va_S (xA G) s.heap s.heap [] := va_S.rf
  have hin : meth.name = "<init>" := (name_of_methodNamed B.named B.method).1
  have hoi0 := hts (Cond.methodLink RX5 1 objectInit) (by decide +kernel)
  have hoi1 := hts (Cond.instanceMethod objectInit) (by decide +kernel)
  have hoi2 := hts (Cond.code objectInit ⟨#[0xb1]⟩ 1 none) (by decide +kernel)
  have harI := hts (Cond.arrayClass .int) (by decide +kernel)
  have hiX5 : ∀ w ∈ u_ws RX5 TX5 20, w ∈ wsX5_init := by decide +kernel
  have hf7 := hts (Cond.fieldLink RX5 7 "VariantMillModel" "kind" "[I") (by decide +kernel)
  have hf13 := hts (Cond.fieldLink RX5 13 "VariantMillModel" "dx" "[I") (by decide +kernel)
  have hf16 := hts (Cond.fieldLink RX5 16 "VariantMillModel" "dy" "[I") (by decide +kernel)
  have hf19 := hts (Cond.fieldLink RX5 19 "VariantMillModel" "reach" "[I") (by decide +kernel)
  have hf22 := hts (Cond.fieldLink RX5 22 "VariantMillModel" "holes" "[I") (by decide +kernel)
  have hf25 := hts (Cond.fieldLink RX5 25 "VariantMillModel" "has" "[I") (by decide +kernel)
  have hf28 := hts (Cond.fieldLink RX5 28 "VariantMillModel" "votes" "[I") (by decide +kernel)
  have hf31 := hts (Cond.fieldLink RX5 31 "VariantMillModel" "endless" "[I") (by decide +kernel)
  have hf34 := hts (Cond.fieldLink RX5 34 "VariantMillModel" "variant" "[I") (by decide +kernel)
  have hf37 := hts (Cond.fieldLink RX5 37 "VariantMillModel" "plays" "[I") (by decide +kernel)
  have hf40 := hts (Cond.fieldLink RX5 40 "VariantMillModel" "first" "[I") (by decide +kernel)
  have hf43 := hts (Cond.fieldLink RX5 43 "VariantMillModel" "second" "[I") (by decide +kernel)
  have hf46 := hts (Cond.fieldLink RX5 46 "VariantMillModel" "state" "[I") (by decide +kernel)
  have hf49 := hts (Cond.fieldLink RX5 49 "VariantMillModel" "made" "[I") (by decide +kernel)
  have hf52 := hts (Cond.fieldLink RX5 52 "VariantMillModel" "ones" "[I") (by decide +kernel)
  have hf55 := hts (Cond.fieldLink RX5 55 "VariantMillModel" "others" "[I") (by decide +kernel)
  have hl := lv_entry ([.ref o]) (n := 1) (Nat.le_of_ble_eq_true rfl)
  rw [lg_entry_eq]
  generalize (lg_sl ([.ref o]) ++ List.replicate (1 - (lg_sl ([.ref o])).length) Slot.unset).toArray = ls at hl ⊢
  have hl : lv_has ls 1 [(0, .ref o)] := hl
  obtain ⟨H, hH⟩ : ∃ z, z = s.heap := ⟨_, rfl⟩
  rw [← hH] at hW
  have hS : va_S (xA G) s.heap H [] := by rw [hH]; exact hS
  rw [← hH]
  have hFr : xFr tM E E := xFr_rf
  refine lv_aload_n hx hb dX5_init_0 rfl (lv_at hl 0 rfl) ?_
  refine W.objInit hx hb hown hoi0 hoi1 hoi2 rfl (by rw [hml]; exact hl.1) rfl dX5_init_1 (Nat.le_of_ble_eq_true rfl) (Nat.le_of_ble_eq_true rfl) ?_
  refine W.eq (g2 := F0 m 4 ls []) rfl ?_
  refine lv_aload_n hx hb dX5_init_4 rfl (lv_at hl 0 rfl) ?_
  refine lv_bipush (v := 8) hx hb dX5_init_5 (by decide) ?_
  refine x_newI (G := G) (N' := 8) hx hb harI hX.1 hW hS (by decide) (by decide) (by decide) (Nat.le_of_ble_eq_true rfl) (Nat.le_of_ble_eq_true rfl) dX5_init_7 (fun q1 H1 hqq1 hzq1 hW1 hS1 => ?_)
  have hne2 : o ≠ q1 := by rw [hqq1]; exact Nat.ne_of_lt (hW.lt hE)
  have hne2' : q1 ≠ o := Ne.symm hne2
  have hnoq1 : E q1 = none := by rw [hqq1]; exact hW.new
  have hltq1 : G.2.2 ≤ q1 := by rw [hqq1]; exact hW.1
  have hW := hW1
  have hS := hS1
  generalize H1 = H at hW hS ⊢
  obtain ⟨E3, eE3⟩ : ∃ z, z = xU E q1 (.inl (G.2.1 0, 8, .inl (fun _ => 0))) := ⟨_, rfl⟩
  have hW : xW G E3 H := by rw [eE3]; exact hW
  have hE9 : E3 o = some (.inr (5, [.int 0, .null, .null, .null, .null, .int 0, .null, .null, .null, .null, .int 0, .null, .null, .null, .null, .null, .null, .null, .null, .int 0])) := by rw [eE3]; exact (xU_ne _ _ hne2).trans hE
  have hnq19 : E3 q1 = some (.inl (G.2.1 0, 8, .inl (fun _ => 0))) := by rw [eE3]; exact xU_self _ _ _
  have hFr : xFr tM E E3 := by rw [eE3]; exact xFr_new hFr hnoq1 _
  refine x_putF (G := G) (ci := 5) (v := .ref q1) (ty := .array (.int)) (C := RX5) (T := TX5) (N := 20) hx hb hts hiX5 tyX5 tyX5_ok nmX5 hown hX.1 hW hS hE9 rfl 1 (by decide) hf7 (fun _ h9 => h9) rfl hin rfl (by decide +kernel) rfl rfl (Nat.le_of_ble_eq_true rfl) dX5_init_9 (fun H locs hW hS => ?_)
  obtain ⟨E4, eE4⟩ : ∃ z, z = xU E3 o (.inr (5, [.int 0, .ref q1, .null, .null, .null, .int 0, .null, .null, .null, .null, .int 0, .null, .null, .null, .null, .null, .null, .null, .null, .int 0])) := ⟨_, rfl⟩
  have hW : xW G E4 H := by rw [eE4]; exact hW
  have hnq199 : E4 q1 = some (.inl (G.2.1 0, 8, .inl (fun _ => 0))) := by rw [eE4]; exact (xU_ne _ _ hne2').trans hnq19
  have hE99 : E4 o = some (.inr (5, [.int 0, .ref q1, .null, .null, .null, .int 0, .null, .null, .null, .null, .int 0, .null, .null, .null, .null, .null, .null, .null, .null, .int 0])) := by rw [eE4]; exact xU_self _ _ _
  have hFr : xFr tM E E4 := by rw [eE4]; exact xFr_put hFr hE9 rfl _
  refine lv_aload_n hx hb dX5_init_12 rfl (lv_at hl 0 rfl) ?_
  refine lv_bipush (v := 8) hx hb dX5_init_13 (by decide) ?_
  refine x_newI (G := G) (N' := 8) hx hb harI hX.1 hW hS (by decide) (by decide) (by decide) (Nat.le_of_ble_eq_true rfl) (Nat.le_of_ble_eq_true rfl) dX5_init_15 (fun q5 H1 hqq5 hzq5 hW1 hS1 => ?_)
  have hne6 : o ≠ q5 := by rw [hqq5]; exact Nat.ne_of_lt (hW.lt hE99)
  have hne6' : q5 ≠ o := Ne.symm hne6
  have hne7 : q1 ≠ q5 := by rw [hqq5]; exact Nat.ne_of_lt (hW.lt hnq199)
  have hne7' : q5 ≠ q1 := Ne.symm hne7
  have hnoq5 : E4 q5 = none := by rw [hqq5]; exact hW.new
  have hltq5 : G.2.2 ≤ q5 := by rw [hqq5]; exact hW.1
  have hW := hW1
  have hS := hS1
  generalize H1 = H at hW hS ⊢
  obtain ⟨E8, eE8⟩ : ∃ z, z = xU E4 q5 (.inl (G.2.1 0, 8, .inl (fun _ => 0))) := ⟨_, rfl⟩
  have hW : xW G E8 H := by rw [eE8]; exact hW
  have hE999 : E8 o = some (.inr (5, [.int 0, .ref q1, .null, .null, .null, .int 0, .null, .null, .null, .null, .int 0, .null, .null, .null, .null, .null, .null, .null, .null, .int 0])) := by rw [eE8]; exact (xU_ne _ _ hne6).trans hE99
  have hnq1999 : E8 q1 = some (.inl (G.2.1 0, 8, .inl (fun _ => 0))) := by rw [eE8]; exact (xU_ne _ _ hne7).trans hnq199
  have hnq59 : E8 q5 = some (.inl (G.2.1 0, 8, .inl (fun _ => 0))) := by rw [eE8]; exact xU_self _ _ _
  have hFr : xFr tM E E8 := by rw [eE8]; exact xFr_new hFr hnoq5 _
  refine x_putF (G := G) (ci := 5) (v := .ref q5) (ty := .array (.int)) (C := RX5) (T := TX5) (N := 20) hx hb hts hiX5 tyX5 tyX5_ok nmX5 hown hX.1 hW hS hE999 rfl 2 (by decide) hf13 (fun _ h9 => h9) rfl hin rfl (by decide +kernel) rfl rfl (Nat.le_of_ble_eq_true rfl) dX5_init_17 (fun H locs hW hS => ?_)
  obtain ⟨E9, eE9⟩ : ∃ z, z = xU E8 o (.inr (5, [.int 0, .ref q1, .ref q5, .null, .null, .int 0, .null, .null, .null, .null, .int 0, .null, .null, .null, .null, .null, .null, .null, .null, .int 0])) := ⟨_, rfl⟩
  have hW : xW G E9 H := by rw [eE9]; exact hW
  have hnq19999 : E9 q1 = some (.inl (G.2.1 0, 8, .inl (fun _ => 0))) := by rw [eE9]; exact (xU_ne _ _ hne2').trans hnq1999
  have hnq599 : E9 q5 = some (.inl (G.2.1 0, 8, .inl (fun _ => 0))) := by rw [eE9]; exact (xU_ne _ _ hne6').trans hnq59
  have hE9999 : E9 o = some (.inr (5, [.int 0, .ref q1, .ref q5, .null, .null, .int 0, .null, .null, .null, .null, .int 0, .null, .null, .null, .null, .null, .null, .null, .null, .int 0])) := by rw [eE9]; exact xU_self _ _ _
  have hFr : xFr tM E E9 := by rw [eE9]; exact xFr_put hFr hE999 rfl _
  refine lv_aload_n hx hb dX5_init_20 rfl (lv_at hl 0 rfl) ?_
  refine lv_bipush (v := 8) hx hb dX5_init_21 (by decide) ?_
  refine x_newI (G := G) (N' := 8) hx hb harI hX.1 hW hS (by decide) (by decide) (by decide) (Nat.le_of_ble_eq_true rfl) (Nat.le_of_ble_eq_true rfl) dX5_init_23 (fun q10 H1 hqq10 hzq10 hW1 hS1 => ?_)
  have hne11 : o ≠ q10 := by rw [hqq10]; exact Nat.ne_of_lt (hW.lt hE9999)
  have hne11' : q10 ≠ o := Ne.symm hne11
  have hne12 : q1 ≠ q10 := by rw [hqq10]; exact Nat.ne_of_lt (hW.lt hnq19999)
  have hne12' : q10 ≠ q1 := Ne.symm hne12
  have hne13 : q5 ≠ q10 := by rw [hqq10]; exact Nat.ne_of_lt (hW.lt hnq599)
  have hne13' : q10 ≠ q5 := Ne.symm hne13
  have hnoq10 : E9 q10 = none := by rw [hqq10]; exact hW.new
  have hltq10 : G.2.2 ≤ q10 := by rw [hqq10]; exact hW.1
  have hW := hW1
  have hS := hS1
  generalize H1 = H at hW hS ⊢
  obtain ⟨E14, eE14⟩ : ∃ z, z = xU E9 q10 (.inl (G.2.1 0, 8, .inl (fun _ => 0))) := ⟨_, rfl⟩
  have hW : xW G E14 H := by rw [eE14]; exact hW
  have hE99999 : E14 o = some (.inr (5, [.int 0, .ref q1, .ref q5, .null, .null, .int 0, .null, .null, .null, .null, .int 0, .null, .null, .null, .null, .null, .null, .null, .null, .int 0])) := by rw [eE14]; exact (xU_ne _ _ hne11).trans hE9999
  have hnq199999 : E14 q1 = some (.inl (G.2.1 0, 8, .inl (fun _ => 0))) := by rw [eE14]; exact (xU_ne _ _ hne12).trans hnq19999
  have hnq5999 : E14 q5 = some (.inl (G.2.1 0, 8, .inl (fun _ => 0))) := by rw [eE14]; exact (xU_ne _ _ hne13).trans hnq599
  have hnq109 : E14 q10 = some (.inl (G.2.1 0, 8, .inl (fun _ => 0))) := by rw [eE14]; exact xU_self _ _ _
  have hFr : xFr tM E E14 := by rw [eE14]; exact xFr_new hFr hnoq10 _
  refine x_putF (G := G) (ci := 5) (v := .ref q10) (ty := .array (.int)) (C := RX5) (T := TX5) (N := 20) hx hb hts hiX5 tyX5 tyX5_ok nmX5 hown hX.1 hW hS hE99999 rfl 3 (by decide) hf16 (fun _ h9 => h9) rfl hin rfl (by decide +kernel) rfl rfl (Nat.le_of_ble_eq_true rfl) dX5_init_25 (fun H locs hW hS => ?_)
  obtain ⟨E15, eE15⟩ : ∃ z, z = xU E14 o (.inr (5, [.int 0, .ref q1, .ref q5, .ref q10, .null, .int 0, .null, .null, .null, .null, .int 0, .null, .null, .null, .null, .null, .null, .null, .null, .int 0])) := ⟨_, rfl⟩
  have hW : xW G E15 H := by rw [eE15]; exact hW
  have hnq1999999 : E15 q1 = some (.inl (G.2.1 0, 8, .inl (fun _ => 0))) := by rw [eE15]; exact (xU_ne _ _ hne2').trans hnq199999
  have hnq59999 : E15 q5 = some (.inl (G.2.1 0, 8, .inl (fun _ => 0))) := by rw [eE15]; exact (xU_ne _ _ hne6').trans hnq5999
  have hnq1099 : E15 q10 = some (.inl (G.2.1 0, 8, .inl (fun _ => 0))) := by rw [eE15]; exact (xU_ne _ _ hne11').trans hnq109
  have hE999999 : E15 o = some (.inr (5, [.int 0, .ref q1, .ref q5, .ref q10, .null, .int 0, .null, .null, .null, .null, .int 0, .null, .null, .null, .null, .null, .null, .null, .null, .int 0])) := by rw [eE15]; exact xU_self _ _ _
  have hFr : xFr tM E E15 := by rw [eE15]; exact xFr_put hFr hE99999 rfl _
  refine lv_aload_n hx hb dX5_init_28 rfl (lv_at hl 0 rfl) ?_
  refine lv_bipush (v := 8) hx hb dX5_init_29 (by decide) ?_
  refine x_newI (G := G) (N' := 8) hx hb harI hX.1 hW hS (by decide) (by decide) (by decide) (Nat.le_of_ble_eq_true rfl) (Nat.le_of_ble_eq_true rfl) dX5_init_31 (fun q16 H1 hqq16 hzq16 hW1 hS1 => ?_)
  have hne17 : o ≠ q16 := by rw [hqq16]; exact Nat.ne_of_lt (hW.lt hE999999)
  have hne17' : q16 ≠ o := Ne.symm hne17
  have hne18 : q1 ≠ q16 := by rw [hqq16]; exact Nat.ne_of_lt (hW.lt hnq1999999)
  have hne18' : q16 ≠ q1 := Ne.symm hne18
  have hne19 : q5 ≠ q16 := by rw [hqq16]; exact Nat.ne_of_lt (hW.lt hnq59999)
  have hne19' : q16 ≠ q5 := Ne.symm hne19
  have hne20 : q10 ≠ q16 := by rw [hqq16]; exact Nat.ne_of_lt (hW.lt hnq1099)
  have hne20' : q16 ≠ q10 := Ne.symm hne20
  have hnoq16 : E15 q16 = none := by rw [hqq16]; exact hW.new
  have hltq16 : G.2.2 ≤ q16 := by rw [hqq16]; exact hW.1
  have hW := hW1
  have hS := hS1
  generalize H1 = H at hW hS ⊢
  obtain ⟨E21, eE21⟩ : ∃ z, z = xU E15 q16 (.inl (G.2.1 0, 8, .inl (fun _ => 0))) := ⟨_, rfl⟩
  have hW : xW G E21 H := by rw [eE21]; exact hW
  have hE9999999 : E21 o = some (.inr (5, [.int 0, .ref q1, .ref q5, .ref q10, .null, .int 0, .null, .null, .null, .null, .int 0, .null, .null, .null, .null, .null, .null, .null, .null, .int 0])) := by rw [eE21]; exact (xU_ne _ _ hne17).trans hE999999
  have hnq19999999 : E21 q1 = some (.inl (G.2.1 0, 8, .inl (fun _ => 0))) := by rw [eE21]; exact (xU_ne _ _ hne18).trans hnq1999999
  have hnq599999 : E21 q5 = some (.inl (G.2.1 0, 8, .inl (fun _ => 0))) := by rw [eE21]; exact (xU_ne _ _ hne19).trans hnq59999
  have hnq10999 : E21 q10 = some (.inl (G.2.1 0, 8, .inl (fun _ => 0))) := by rw [eE21]; exact (xU_ne _ _ hne20).trans hnq1099
  have hnq169 : E21 q16 = some (.inl (G.2.1 0, 8, .inl (fun _ => 0))) := by rw [eE21]; exact xU_self _ _ _
  have hFr : xFr tM E E21 := by rw [eE21]; exact xFr_new hFr hnoq16 _
  refine x_putF (G := G) (ci := 5) (v := .ref q16) (ty := .array (.int)) (C := RX5) (T := TX5) (N := 20) hx hb hts hiX5 tyX5 tyX5_ok nmX5 hown hX.1 hW hS hE9999999 rfl 4 (by decide) hf19 (fun _ h9 => h9) rfl hin rfl (by decide +kernel) rfl rfl (Nat.le_of_ble_eq_true rfl) dX5_init_33 (fun H locs hW hS => ?_)
  obtain ⟨E22, eE22⟩ : ∃ z, z = xU E21 o (.inr (5, [.int 0, .ref q1, .ref q5, .ref q10, .ref q16, .int 0, .null, .null, .null, .null, .int 0, .null, .null, .null, .null, .null, .null, .null, .null, .int 0])) := ⟨_, rfl⟩
  have hW : xW G E22 H := by rw [eE22]; exact hW
  have hnq199999999 : E22 q1 = some (.inl (G.2.1 0, 8, .inl (fun _ => 0))) := by rw [eE22]; exact (xU_ne _ _ hne2').trans hnq19999999
  have hnq5999999 : E22 q5 = some (.inl (G.2.1 0, 8, .inl (fun _ => 0))) := by rw [eE22]; exact (xU_ne _ _ hne6').trans hnq599999
  have hnq109999 : E22 q10 = some (.inl (G.2.1 0, 8, .inl (fun _ => 0))) := by rw [eE22]; exact (xU_ne _ _ hne11').trans hnq10999
  have hnq1699 : E22 q16 = some (.inl (G.2.1 0, 8, .inl (fun _ => 0))) := by rw [eE22]; exact (xU_ne _ _ hne17').trans hnq169
  have hE99999999 : E22 o = some (.inr (5, [.int 0, .ref q1, .ref q5, .ref q10, .ref q16, .int 0, .null, .null, .null, .null, .int 0, .null, .null, .null, .null, .null, .null, .null, .null, .int 0])) := by rw [eE22]; exact xU_self _ _ _
  have hFr : xFr tM E E22 := by rw [eE22]; exact xFr_put hFr hE9999999 rfl _
  refine lv_aload_n hx hb dX5_init_36 rfl (lv_at hl 0 rfl) ?_
  refine lv_iconst (v := 4) hx hb dX5_init_37 (by decide) ?_
  refine x_newI (G := G) (N' := 4) hx hb harI hX.1 hW hS (by decide) (by decide) (by decide) (Nat.le_of_ble_eq_true rfl) (Nat.le_of_ble_eq_true rfl) dX5_init_38 (fun q23 H1 hqq23 hzq23 hW1 hS1 => ?_)
  have hne24 : o ≠ q23 := by rw [hqq23]; exact Nat.ne_of_lt (hW.lt hE99999999)
  have hne24' : q23 ≠ o := Ne.symm hne24
  have hne25 : q1 ≠ q23 := by rw [hqq23]; exact Nat.ne_of_lt (hW.lt hnq199999999)
  have hne25' : q23 ≠ q1 := Ne.symm hne25
  have hne26 : q5 ≠ q23 := by rw [hqq23]; exact Nat.ne_of_lt (hW.lt hnq5999999)
  have hne26' : q23 ≠ q5 := Ne.symm hne26
  have hne27 : q10 ≠ q23 := by rw [hqq23]; exact Nat.ne_of_lt (hW.lt hnq109999)
  have hne27' : q23 ≠ q10 := Ne.symm hne27
  have hne28 : q16 ≠ q23 := by rw [hqq23]; exact Nat.ne_of_lt (hW.lt hnq1699)
  have hne28' : q23 ≠ q16 := Ne.symm hne28
  have hnoq23 : E22 q23 = none := by rw [hqq23]; exact hW.new
  have hltq23 : G.2.2 ≤ q23 := by rw [hqq23]; exact hW.1
  have hW := hW1
  have hS := hS1
  generalize H1 = H at hW hS ⊢
  obtain ⟨E29, eE29⟩ : ∃ z, z = xU E22 q23 (.inl (G.2.1 0, 4, .inl (fun _ => 0))) := ⟨_, rfl⟩
  have hW : xW G E29 H := by rw [eE29]; exact hW
  have hE999999999 : E29 o = some (.inr (5, [.int 0, .ref q1, .ref q5, .ref q10, .ref q16, .int 0, .null, .null, .null, .null, .int 0, .null, .null, .null, .null, .null, .null, .null, .null, .int 0])) := by rw [eE29]; exact (xU_ne _ _ hne24).trans hE99999999
  have hnq1999999999 : E29 q1 = some (.inl (G.2.1 0, 8, .inl (fun _ => 0))) := by rw [eE29]; exact (xU_ne _ _ hne25).trans hnq199999999
  have hnq59999999 : E29 q5 = some (.inl (G.2.1 0, 8, .inl (fun _ => 0))) := by rw [eE29]; exact (xU_ne _ _ hne26).trans hnq5999999
  have hnq1099999 : E29 q10 = some (.inl (G.2.1 0, 8, .inl (fun _ => 0))) := by rw [eE29]; exact (xU_ne _ _ hne27).trans hnq109999
  have hnq16999 : E29 q16 = some (.inl (G.2.1 0, 8, .inl (fun _ => 0))) := by rw [eE29]; exact (xU_ne _ _ hne28).trans hnq1699
  have hnq239 : E29 q23 = some (.inl (G.2.1 0, 4, .inl (fun _ => 0))) := by rw [eE29]; exact xU_self _ _ _
  have hFr : xFr tM E E29 := by rw [eE29]; exact xFr_new hFr hnoq23 _
  refine x_putF (G := G) (ci := 5) (v := .ref q23) (ty := .array (.int)) (C := RX5) (T := TX5) (N := 20) hx hb hts hiX5 tyX5 tyX5_ok nmX5 hown hX.1 hW hS hE999999999 rfl 6 (by decide) hf22 (fun _ h9 => h9) rfl hin rfl (by decide +kernel) rfl rfl (Nat.le_of_ble_eq_true rfl) dX5_init_40 (fun H locs hW hS => ?_)
  obtain ⟨E30, eE30⟩ : ∃ z, z = xU E29 o (.inr (5, [.int 0, .ref q1, .ref q5, .ref q10, .ref q16, .int 0, .ref q23, .null, .null, .null, .int 0, .null, .null, .null, .null, .null, .null, .null, .null, .int 0])) := ⟨_, rfl⟩
  have hW : xW G E30 H := by rw [eE30]; exact hW
  have hnq19999999999 : E30 q1 = some (.inl (G.2.1 0, 8, .inl (fun _ => 0))) := by rw [eE30]; exact (xU_ne _ _ hne2').trans hnq1999999999
  have hnq599999999 : E30 q5 = some (.inl (G.2.1 0, 8, .inl (fun _ => 0))) := by rw [eE30]; exact (xU_ne _ _ hne6').trans hnq59999999
  have hnq10999999 : E30 q10 = some (.inl (G.2.1 0, 8, .inl (fun _ => 0))) := by rw [eE30]; exact (xU_ne _ _ hne11').trans hnq1099999
  have hnq169999 : E30 q16 = some (.inl (G.2.1 0, 8, .inl (fun _ => 0))) := by rw [eE30]; exact (xU_ne _ _ hne17').trans hnq16999
  have hnq2399 : E30 q23 = some (.inl (G.2.1 0, 4, .inl (fun _ => 0))) := by rw [eE30]; exact (xU_ne _ _ hne24').trans hnq239
  have hE9999999999 : E30 o = some (.inr (5, [.int 0, .ref q1, .ref q5, .ref q10, .ref q16, .int 0, .ref q23, .null, .null, .null, .int 0, .null, .null, .null, .null, .null, .null, .null, .null, .int 0])) := by rw [eE30]; exact xU_self _ _ _
  have hFr : xFr tM E E30 := by rw [eE30]; exact xFr_put hFr hE999999999 rfl _
  refine lv_aload_n hx hb dX5_init_43 rfl (lv_at hl 0 rfl) ?_
  refine lv_iconst (v := 4) hx hb dX5_init_44 (by decide) ?_
  refine x_newI (G := G) (N' := 4) hx hb harI hX.1 hW hS (by decide) (by decide) (by decide) (Nat.le_of_ble_eq_true rfl) (Nat.le_of_ble_eq_true rfl) dX5_init_45 (fun q31 H1 hqq31 hzq31 hW1 hS1 => ?_)
  have hne32 : o ≠ q31 := by rw [hqq31]; exact Nat.ne_of_lt (hW.lt hE9999999999)
  have hne32' : q31 ≠ o := Ne.symm hne32
  have hne33 : q1 ≠ q31 := by rw [hqq31]; exact Nat.ne_of_lt (hW.lt hnq19999999999)
  have hne33' : q31 ≠ q1 := Ne.symm hne33
  have hne34 : q5 ≠ q31 := by rw [hqq31]; exact Nat.ne_of_lt (hW.lt hnq599999999)
  have hne34' : q31 ≠ q5 := Ne.symm hne34
  have hne35 : q10 ≠ q31 := by rw [hqq31]; exact Nat.ne_of_lt (hW.lt hnq10999999)
  have hne35' : q31 ≠ q10 := Ne.symm hne35
  have hne36 : q16 ≠ q31 := by rw [hqq31]; exact Nat.ne_of_lt (hW.lt hnq169999)
  have hne36' : q31 ≠ q16 := Ne.symm hne36
  have hne37 : q23 ≠ q31 := by rw [hqq31]; exact Nat.ne_of_lt (hW.lt hnq2399)
  have hne37' : q31 ≠ q23 := Ne.symm hne37
  have hnoq31 : E30 q31 = none := by rw [hqq31]; exact hW.new
  have hltq31 : G.2.2 ≤ q31 := by rw [hqq31]; exact hW.1
  have hW := hW1
  have hS := hS1
  generalize H1 = H at hW hS ⊢
  obtain ⟨E38, eE38⟩ : ∃ z, z = xU E30 q31 (.inl (G.2.1 0, 4, .inl (fun _ => 0))) := ⟨_, rfl⟩
  have hW : xW G E38 H := by rw [eE38]; exact hW
  have hE99999999999 : E38 o = some (.inr (5, [.int 0, .ref q1, .ref q5, .ref q10, .ref q16, .int 0, .ref q23, .null, .null, .null, .int 0, .null, .null, .null, .null, .null, .null, .null, .null, .int 0])) := by rw [eE38]; exact (xU_ne _ _ hne32).trans hE9999999999
  have hnq199999999999 : E38 q1 = some (.inl (G.2.1 0, 8, .inl (fun _ => 0))) := by rw [eE38]; exact (xU_ne _ _ hne33).trans hnq19999999999
  have hnq5999999999 : E38 q5 = some (.inl (G.2.1 0, 8, .inl (fun _ => 0))) := by rw [eE38]; exact (xU_ne _ _ hne34).trans hnq599999999
  have hnq109999999 : E38 q10 = some (.inl (G.2.1 0, 8, .inl (fun _ => 0))) := by rw [eE38]; exact (xU_ne _ _ hne35).trans hnq10999999
  have hnq1699999 : E38 q16 = some (.inl (G.2.1 0, 8, .inl (fun _ => 0))) := by rw [eE38]; exact (xU_ne _ _ hne36).trans hnq169999
  have hnq23999 : E38 q23 = some (.inl (G.2.1 0, 4, .inl (fun _ => 0))) := by rw [eE38]; exact (xU_ne _ _ hne37).trans hnq2399
  have hnq319 : E38 q31 = some (.inl (G.2.1 0, 4, .inl (fun _ => 0))) := by rw [eE38]; exact xU_self _ _ _
  have hFr : xFr tM E E38 := by rw [eE38]; exact xFr_new hFr hnoq31 _
  refine x_putF (G := G) (ci := 5) (v := .ref q31) (ty := .array (.int)) (C := RX5) (T := TX5) (N := 20) hx hb hts hiX5 tyX5 tyX5_ok nmX5 hown hX.1 hW hS hE99999999999 rfl 7 (by decide) hf25 (fun _ h9 => h9) rfl hin rfl (by decide +kernel) rfl rfl (Nat.le_of_ble_eq_true rfl) dX5_init_47 (fun H locs hW hS => ?_)
  obtain ⟨E39, eE39⟩ : ∃ z, z = xU E38 o (.inr (5, [.int 0, .ref q1, .ref q5, .ref q10, .ref q16, .int 0, .ref q23, .ref q31, .null, .null, .int 0, .null, .null, .null, .null, .null, .null, .null, .null, .int 0])) := ⟨_, rfl⟩
  have hW : xW G E39 H := by rw [eE39]; exact hW
  have hnq1999999999999 : E39 q1 = some (.inl (G.2.1 0, 8, .inl (fun _ => 0))) := by rw [eE39]; exact (xU_ne _ _ hne2').trans hnq199999999999
  have hnq59999999999 : E39 q5 = some (.inl (G.2.1 0, 8, .inl (fun _ => 0))) := by rw [eE39]; exact (xU_ne _ _ hne6').trans hnq5999999999
  have hnq1099999999 : E39 q10 = some (.inl (G.2.1 0, 8, .inl (fun _ => 0))) := by rw [eE39]; exact (xU_ne _ _ hne11').trans hnq109999999
  have hnq16999999 : E39 q16 = some (.inl (G.2.1 0, 8, .inl (fun _ => 0))) := by rw [eE39]; exact (xU_ne _ _ hne17').trans hnq1699999
  have hnq239999 : E39 q23 = some (.inl (G.2.1 0, 4, .inl (fun _ => 0))) := by rw [eE39]; exact (xU_ne _ _ hne24').trans hnq23999
  have hnq3199 : E39 q31 = some (.inl (G.2.1 0, 4, .inl (fun _ => 0))) := by rw [eE39]; exact (xU_ne _ _ hne32').trans hnq319
  have hE999999999999 : E39 o = some (.inr (5, [.int 0, .ref q1, .ref q5, .ref q10, .ref q16, .int 0, .ref q23, .ref q31, .null, .null, .int 0, .null, .null, .null, .null, .null, .null, .null, .null, .int 0])) := by rw [eE39]; exact xU_self _ _ _
  have hFr : xFr tM E E39 := by rw [eE39]; exact xFr_put hFr hE99999999999 rfl _
  refine lv_aload_n hx hb dX5_init_50 rfl (lv_at hl 0 rfl) ?_
  refine lv_iconst (v := 4) hx hb dX5_init_51 (by decide) ?_
  refine x_newI (G := G) (N' := 4) hx hb harI hX.1 hW hS (by decide) (by decide) (by decide) (Nat.le_of_ble_eq_true rfl) (Nat.le_of_ble_eq_true rfl) dX5_init_52 (fun q40 H1 hqq40 hzq40 hW1 hS1 => ?_)
  have hne41 : o ≠ q40 := by rw [hqq40]; exact Nat.ne_of_lt (hW.lt hE999999999999)
  have hne41' : q40 ≠ o := Ne.symm hne41
  have hne42 : q1 ≠ q40 := by rw [hqq40]; exact Nat.ne_of_lt (hW.lt hnq1999999999999)
  have hne42' : q40 ≠ q1 := Ne.symm hne42
  have hne43 : q5 ≠ q40 := by rw [hqq40]; exact Nat.ne_of_lt (hW.lt hnq59999999999)
  have hne43' : q40 ≠ q5 := Ne.symm hne43
  have hne44 : q10 ≠ q40 := by rw [hqq40]; exact Nat.ne_of_lt (hW.lt hnq1099999999)
  have hne44' : q40 ≠ q10 := Ne.symm hne44
  have hne45 : q16 ≠ q40 := by rw [hqq40]; exact Nat.ne_of_lt (hW.lt hnq16999999)
  have hne45' : q40 ≠ q16 := Ne.symm hne45
  have hne46 : q23 ≠ q40 := by rw [hqq40]; exact Nat.ne_of_lt (hW.lt hnq239999)
  have hne46' : q40 ≠ q23 := Ne.symm hne46
  have hne47 : q31 ≠ q40 := by rw [hqq40]; exact Nat.ne_of_lt (hW.lt hnq3199)
  have hne47' : q40 ≠ q31 := Ne.symm hne47
  have hnoq40 : E39 q40 = none := by rw [hqq40]; exact hW.new
  have hltq40 : G.2.2 ≤ q40 := by rw [hqq40]; exact hW.1
  have hW := hW1
  have hS := hS1
  generalize H1 = H at hW hS ⊢
  obtain ⟨E48, eE48⟩ : ∃ z, z = xU E39 q40 (.inl (G.2.1 0, 4, .inl (fun _ => 0))) := ⟨_, rfl⟩
  have hW : xW G E48 H := by rw [eE48]; exact hW
  have hE9999999999999 : E48 o = some (.inr (5, [.int 0, .ref q1, .ref q5, .ref q10, .ref q16, .int 0, .ref q23, .ref q31, .null, .null, .int 0, .null, .null, .null, .null, .null, .null, .null, .null, .int 0])) := by rw [eE48]; exact (xU_ne _ _ hne41).trans hE999999999999
  have hnq19999999999999 : E48 q1 = some (.inl (G.2.1 0, 8, .inl (fun _ => 0))) := by rw [eE48]; exact (xU_ne _ _ hne42).trans hnq1999999999999
  have hnq599999999999 : E48 q5 = some (.inl (G.2.1 0, 8, .inl (fun _ => 0))) := by rw [eE48]; exact (xU_ne _ _ hne43).trans hnq59999999999
  have hnq10999999999 : E48 q10 = some (.inl (G.2.1 0, 8, .inl (fun _ => 0))) := by rw [eE48]; exact (xU_ne _ _ hne44).trans hnq1099999999
  have hnq169999999 : E48 q16 = some (.inl (G.2.1 0, 8, .inl (fun _ => 0))) := by rw [eE48]; exact (xU_ne _ _ hne45).trans hnq16999999
  have hnq2399999 : E48 q23 = some (.inl (G.2.1 0, 4, .inl (fun _ => 0))) := by rw [eE48]; exact (xU_ne _ _ hne46).trans hnq239999
  have hnq31999 : E48 q31 = some (.inl (G.2.1 0, 4, .inl (fun _ => 0))) := by rw [eE48]; exact (xU_ne _ _ hne47).trans hnq3199
  have hnq409 : E48 q40 = some (.inl (G.2.1 0, 4, .inl (fun _ => 0))) := by rw [eE48]; exact xU_self _ _ _
  have hFr : xFr tM E E48 := by rw [eE48]; exact xFr_new hFr hnoq40 _
  refine x_putF (G := G) (ci := 5) (v := .ref q40) (ty := .array (.int)) (C := RX5) (T := TX5) (N := 20) hx hb hts hiX5 tyX5 tyX5_ok nmX5 hown hX.1 hW hS hE9999999999999 rfl 8 (by decide) hf28 (fun _ h9 => h9) rfl hin rfl (by decide +kernel) rfl rfl (Nat.le_of_ble_eq_true rfl) dX5_init_54 (fun H locs hW hS => ?_)
  obtain ⟨E49, eE49⟩ : ∃ z, z = xU E48 o (.inr (5, [.int 0, .ref q1, .ref q5, .ref q10, .ref q16, .int 0, .ref q23, .ref q31, .ref q40, .null, .int 0, .null, .null, .null, .null, .null, .null, .null, .null, .int 0])) := ⟨_, rfl⟩
  have hW : xW G E49 H := by rw [eE49]; exact hW
  have hnq199999999999999 : E49 q1 = some (.inl (G.2.1 0, 8, .inl (fun _ => 0))) := by rw [eE49]; exact (xU_ne _ _ hne2').trans hnq19999999999999
  have hnq5999999999999 : E49 q5 = some (.inl (G.2.1 0, 8, .inl (fun _ => 0))) := by rw [eE49]; exact (xU_ne _ _ hne6').trans hnq599999999999
  have hnq109999999999 : E49 q10 = some (.inl (G.2.1 0, 8, .inl (fun _ => 0))) := by rw [eE49]; exact (xU_ne _ _ hne11').trans hnq10999999999
  have hnq1699999999 : E49 q16 = some (.inl (G.2.1 0, 8, .inl (fun _ => 0))) := by rw [eE49]; exact (xU_ne _ _ hne17').trans hnq169999999
  have hnq23999999 : E49 q23 = some (.inl (G.2.1 0, 4, .inl (fun _ => 0))) := by rw [eE49]; exact (xU_ne _ _ hne24').trans hnq2399999
  have hnq319999 : E49 q31 = some (.inl (G.2.1 0, 4, .inl (fun _ => 0))) := by rw [eE49]; exact (xU_ne _ _ hne32').trans hnq31999
  have hnq4099 : E49 q40 = some (.inl (G.2.1 0, 4, .inl (fun _ => 0))) := by rw [eE49]; exact (xU_ne _ _ hne41').trans hnq409
  have hE99999999999999 : E49 o = some (.inr (5, [.int 0, .ref q1, .ref q5, .ref q10, .ref q16, .int 0, .ref q23, .ref q31, .ref q40, .null, .int 0, .null, .null, .null, .null, .null, .null, .null, .null, .int 0])) := by rw [eE49]; exact xU_self _ _ _
  have hFr : xFr tM E E49 := by rw [eE49]; exact xFr_put hFr hE9999999999999 rfl _
  refine lv_aload_n hx hb dX5_init_57 rfl (lv_at hl 0 rfl) ?_
  refine lv_iconst (v := 4) hx hb dX5_init_58 (by decide) ?_
  refine x_newI (G := G) (N' := 4) hx hb harI hX.1 hW hS (by decide) (by decide) (by decide) (Nat.le_of_ble_eq_true rfl) (Nat.le_of_ble_eq_true rfl) dX5_init_59 (fun q50 H1 hqq50 hzq50 hW1 hS1 => ?_)
  have hne51 : o ≠ q50 := by rw [hqq50]; exact Nat.ne_of_lt (hW.lt hE99999999999999)
  have hne51' : q50 ≠ o := Ne.symm hne51
  have hne52 : q1 ≠ q50 := by rw [hqq50]; exact Nat.ne_of_lt (hW.lt hnq199999999999999)
  have hne52' : q50 ≠ q1 := Ne.symm hne52
  have hne53 : q5 ≠ q50 := by rw [hqq50]; exact Nat.ne_of_lt (hW.lt hnq5999999999999)
  have hne53' : q50 ≠ q5 := Ne.symm hne53
  have hne54 : q10 ≠ q50 := by rw [hqq50]; exact Nat.ne_of_lt (hW.lt hnq109999999999)
  have hne54' : q50 ≠ q10 := Ne.symm hne54
  have hne55 : q16 ≠ q50 := by rw [hqq50]; exact Nat.ne_of_lt (hW.lt hnq1699999999)
  have hne55' : q50 ≠ q16 := Ne.symm hne55
  have hne56 : q23 ≠ q50 := by rw [hqq50]; exact Nat.ne_of_lt (hW.lt hnq23999999)
  have hne56' : q50 ≠ q23 := Ne.symm hne56
  have hne57 : q31 ≠ q50 := by rw [hqq50]; exact Nat.ne_of_lt (hW.lt hnq319999)
  have hne57' : q50 ≠ q31 := Ne.symm hne57
  have hne58 : q40 ≠ q50 := by rw [hqq50]; exact Nat.ne_of_lt (hW.lt hnq4099)
  have hne58' : q50 ≠ q40 := Ne.symm hne58
  have hnoq50 : E49 q50 = none := by rw [hqq50]; exact hW.new
  have hltq50 : G.2.2 ≤ q50 := by rw [hqq50]; exact hW.1
  have hW := hW1
  have hS := hS1
  generalize H1 = H at hW hS ⊢
  obtain ⟨E59, eE59⟩ : ∃ z, z = xU E49 q50 (.inl (G.2.1 0, 4, .inl (fun _ => 0))) := ⟨_, rfl⟩
  have hW : xW G E59 H := by rw [eE59]; exact hW
  have hE999999999999999 : E59 o = some (.inr (5, [.int 0, .ref q1, .ref q5, .ref q10, .ref q16, .int 0, .ref q23, .ref q31, .ref q40, .null, .int 0, .null, .null, .null, .null, .null, .null, .null, .null, .int 0])) := by rw [eE59]; exact (xU_ne _ _ hne51).trans hE99999999999999
  have hnq1999999999999999 : E59 q1 = some (.inl (G.2.1 0, 8, .inl (fun _ => 0))) := by rw [eE59]; exact (xU_ne _ _ hne52).trans hnq199999999999999
  have hnq59999999999999 : E59 q5 = some (.inl (G.2.1 0, 8, .inl (fun _ => 0))) := by rw [eE59]; exact (xU_ne _ _ hne53).trans hnq5999999999999
  have hnq1099999999999 : E59 q10 = some (.inl (G.2.1 0, 8, .inl (fun _ => 0))) := by rw [eE59]; exact (xU_ne _ _ hne54).trans hnq109999999999
  have hnq16999999999 : E59 q16 = some (.inl (G.2.1 0, 8, .inl (fun _ => 0))) := by rw [eE59]; exact (xU_ne _ _ hne55).trans hnq1699999999
  have hnq239999999 : E59 q23 = some (.inl (G.2.1 0, 4, .inl (fun _ => 0))) := by rw [eE59]; exact (xU_ne _ _ hne56).trans hnq23999999
  have hnq3199999 : E59 q31 = some (.inl (G.2.1 0, 4, .inl (fun _ => 0))) := by rw [eE59]; exact (xU_ne _ _ hne57).trans hnq319999
  have hnq40999 : E59 q40 = some (.inl (G.2.1 0, 4, .inl (fun _ => 0))) := by rw [eE59]; exact (xU_ne _ _ hne58).trans hnq4099
  have hnq509 : E59 q50 = some (.inl (G.2.1 0, 4, .inl (fun _ => 0))) := by rw [eE59]; exact xU_self _ _ _
  have hFr : xFr tM E E59 := by rw [eE59]; exact xFr_new hFr hnoq50 _
  refine x_putF (G := G) (ci := 5) (v := .ref q50) (ty := .array (.int)) (C := RX5) (T := TX5) (N := 20) hx hb hts hiX5 tyX5 tyX5_ok nmX5 hown hX.1 hW hS hE999999999999999 rfl 9 (by decide) hf31 (fun _ h9 => h9) rfl hin rfl (by decide +kernel) rfl rfl (Nat.le_of_ble_eq_true rfl) dX5_init_61 (fun H locs hW hS => ?_)
  obtain ⟨E60, eE60⟩ : ∃ z, z = xU E59 o (.inr (5, [.int 0, .ref q1, .ref q5, .ref q10, .ref q16, .int 0, .ref q23, .ref q31, .ref q40, .ref q50, .int 0, .null, .null, .null, .null, .null, .null, .null, .null, .int 0])) := ⟨_, rfl⟩
  have hW : xW G E60 H := by rw [eE60]; exact hW
  have hnq19999999999999999 : E60 q1 = some (.inl (G.2.1 0, 8, .inl (fun _ => 0))) := by rw [eE60]; exact (xU_ne _ _ hne2').trans hnq1999999999999999
  have hnq599999999999999 : E60 q5 = some (.inl (G.2.1 0, 8, .inl (fun _ => 0))) := by rw [eE60]; exact (xU_ne _ _ hne6').trans hnq59999999999999
  have hnq10999999999999 : E60 q10 = some (.inl (G.2.1 0, 8, .inl (fun _ => 0))) := by rw [eE60]; exact (xU_ne _ _ hne11').trans hnq1099999999999
  have hnq169999999999 : E60 q16 = some (.inl (G.2.1 0, 8, .inl (fun _ => 0))) := by rw [eE60]; exact (xU_ne _ _ hne17').trans hnq16999999999
  have hnq2399999999 : E60 q23 = some (.inl (G.2.1 0, 4, .inl (fun _ => 0))) := by rw [eE60]; exact (xU_ne _ _ hne24').trans hnq239999999
  have hnq31999999 : E60 q31 = some (.inl (G.2.1 0, 4, .inl (fun _ => 0))) := by rw [eE60]; exact (xU_ne _ _ hne32').trans hnq3199999
  have hnq409999 : E60 q40 = some (.inl (G.2.1 0, 4, .inl (fun _ => 0))) := by rw [eE60]; exact (xU_ne _ _ hne41').trans hnq40999
  have hnq5099 : E60 q50 = some (.inl (G.2.1 0, 4, .inl (fun _ => 0))) := by rw [eE60]; exact (xU_ne _ _ hne51').trans hnq509
  have hE9999999999999999 : E60 o = some (.inr (5, [.int 0, .ref q1, .ref q5, .ref q10, .ref q16, .int 0, .ref q23, .ref q31, .ref q40, .ref q50, .int 0, .null, .null, .null, .null, .null, .null, .null, .null, .int 0])) := by rw [eE60]; exact xU_self _ _ _
  have hFr : xFr tM E E60 := by rw [eE60]; exact xFr_put hFr hE999999999999999 rfl _
  refine lv_aload_n hx hb dX5_init_64 rfl (lv_at hl 0 rfl) ?_
  refine lv_bipush (v := 12) hx hb dX5_init_65 (by decide) ?_
  refine x_newI (G := G) (N' := 12) hx hb harI hX.1 hW hS (by decide) (by decide) (by decide) (Nat.le_of_ble_eq_true rfl) (Nat.le_of_ble_eq_true rfl) dX5_init_67 (fun q61 H1 hqq61 hzq61 hW1 hS1 => ?_)
  have hne62 : o ≠ q61 := by rw [hqq61]; exact Nat.ne_of_lt (hW.lt hE9999999999999999)
  have hne62' : q61 ≠ o := Ne.symm hne62
  have hne63 : q1 ≠ q61 := by rw [hqq61]; exact Nat.ne_of_lt (hW.lt hnq19999999999999999)
  have hne63' : q61 ≠ q1 := Ne.symm hne63
  have hne64 : q5 ≠ q61 := by rw [hqq61]; exact Nat.ne_of_lt (hW.lt hnq599999999999999)
  have hne64' : q61 ≠ q5 := Ne.symm hne64
  have hne65 : q10 ≠ q61 := by rw [hqq61]; exact Nat.ne_of_lt (hW.lt hnq10999999999999)
  have hne65' : q61 ≠ q10 := Ne.symm hne65
  have hne66 : q16 ≠ q61 := by rw [hqq61]; exact Nat.ne_of_lt (hW.lt hnq169999999999)
  have hne66' : q61 ≠ q16 := Ne.symm hne66
  have hne67 : q23 ≠ q61 := by rw [hqq61]; exact Nat.ne_of_lt (hW.lt hnq2399999999)
  have hne67' : q61 ≠ q23 := Ne.symm hne67
  have hne68 : q31 ≠ q61 := by rw [hqq61]; exact Nat.ne_of_lt (hW.lt hnq31999999)
  have hne68' : q61 ≠ q31 := Ne.symm hne68
  have hne69 : q40 ≠ q61 := by rw [hqq61]; exact Nat.ne_of_lt (hW.lt hnq409999)
  have hne69' : q61 ≠ q40 := Ne.symm hne69
  have hne70 : q50 ≠ q61 := by rw [hqq61]; exact Nat.ne_of_lt (hW.lt hnq5099)
  have hne70' : q61 ≠ q50 := Ne.symm hne70
  have hnoq61 : E60 q61 = none := by rw [hqq61]; exact hW.new
  have hltq61 : G.2.2 ≤ q61 := by rw [hqq61]; exact hW.1
  have hW := hW1
  have hS := hS1
  generalize H1 = H at hW hS ⊢
  obtain ⟨E71, eE71⟩ : ∃ z, z = xU E60 q61 (.inl (G.2.1 0, 12, .inl (fun _ => 0))) := ⟨_, rfl⟩
  have hW : xW G E71 H := by rw [eE71]; exact hW
  have hE99999999999999999 : E71 o = some (.inr (5, [.int 0, .ref q1, .ref q5, .ref q10, .ref q16, .int 0, .ref q23, .ref q31, .ref q40, .ref q50, .int 0, .null, .null, .null, .null, .null, .null, .null, .null, .int 0])) := by rw [eE71]; exact (xU_ne _ _ hne62).trans hE9999999999999999
  have hnq199999999999999999 : E71 q1 = some (.inl (G.2.1 0, 8, .inl (fun _ => 0))) := by rw [eE71]; exact (xU_ne _ _ hne63).trans hnq19999999999999999
  have hnq5999999999999999 : E71 q5 = some (.inl (G.2.1 0, 8, .inl (fun _ => 0))) := by rw [eE71]; exact (xU_ne _ _ hne64).trans hnq599999999999999
  have hnq109999999999999 : E71 q10 = some (.inl (G.2.1 0, 8, .inl (fun _ => 0))) := by rw [eE71]; exact (xU_ne _ _ hne65).trans hnq10999999999999
  have hnq1699999999999 : E71 q16 = some (.inl (G.2.1 0, 8, .inl (fun _ => 0))) := by rw [eE71]; exact (xU_ne _ _ hne66).trans hnq169999999999
  have hnq23999999999 : E71 q23 = some (.inl (G.2.1 0, 4, .inl (fun _ => 0))) := by rw [eE71]; exact (xU_ne _ _ hne67).trans hnq2399999999
  have hnq319999999 : E71 q31 = some (.inl (G.2.1 0, 4, .inl (fun _ => 0))) := by rw [eE71]; exact (xU_ne _ _ hne68).trans hnq31999999
  have hnq4099999 : E71 q40 = some (.inl (G.2.1 0, 4, .inl (fun _ => 0))) := by rw [eE71]; exact (xU_ne _ _ hne69).trans hnq409999
  have hnq50999 : E71 q50 = some (.inl (G.2.1 0, 4, .inl (fun _ => 0))) := by rw [eE71]; exact (xU_ne _ _ hne70).trans hnq5099
  have hnq619 : E71 q61 = some (.inl (G.2.1 0, 12, .inl (fun _ => 0))) := by rw [eE71]; exact xU_self _ _ _
  have hFr : xFr tM E E71 := by rw [eE71]; exact xFr_new hFr hnoq61 _
  refine x_putF (G := G) (ci := 5) (v := .ref q61) (ty := .array (.int)) (C := RX5) (T := TX5) (N := 20) hx hb hts hiX5 tyX5 tyX5_ok nmX5 hown hX.1 hW hS hE99999999999999999 rfl 11 (by decide) hf34 (fun _ h9 => h9) rfl hin rfl (by decide +kernel) rfl rfl (Nat.le_of_ble_eq_true rfl) dX5_init_69 (fun H locs hW hS => ?_)
  obtain ⟨E72, eE72⟩ : ∃ z, z = xU E71 o (.inr (5, [.int 0, .ref q1, .ref q5, .ref q10, .ref q16, .int 0, .ref q23, .ref q31, .ref q40, .ref q50, .int 0, .ref q61, .null, .null, .null, .null, .null, .null, .null, .int 0])) := ⟨_, rfl⟩
  have hW : xW G E72 H := by rw [eE72]; exact hW
  have hnq1999999999999999999 : E72 q1 = some (.inl (G.2.1 0, 8, .inl (fun _ => 0))) := by rw [eE72]; exact (xU_ne _ _ hne2').trans hnq199999999999999999
  have hnq59999999999999999 : E72 q5 = some (.inl (G.2.1 0, 8, .inl (fun _ => 0))) := by rw [eE72]; exact (xU_ne _ _ hne6').trans hnq5999999999999999
  have hnq1099999999999999 : E72 q10 = some (.inl (G.2.1 0, 8, .inl (fun _ => 0))) := by rw [eE72]; exact (xU_ne _ _ hne11').trans hnq109999999999999
  have hnq16999999999999 : E72 q16 = some (.inl (G.2.1 0, 8, .inl (fun _ => 0))) := by rw [eE72]; exact (xU_ne _ _ hne17').trans hnq1699999999999
  have hnq239999999999 : E72 q23 = some (.inl (G.2.1 0, 4, .inl (fun _ => 0))) := by rw [eE72]; exact (xU_ne _ _ hne24').trans hnq23999999999
  have hnq3199999999 : E72 q31 = some (.inl (G.2.1 0, 4, .inl (fun _ => 0))) := by rw [eE72]; exact (xU_ne _ _ hne32').trans hnq319999999
  have hnq40999999 : E72 q40 = some (.inl (G.2.1 0, 4, .inl (fun _ => 0))) := by rw [eE72]; exact (xU_ne _ _ hne41').trans hnq4099999
  have hnq509999 : E72 q50 = some (.inl (G.2.1 0, 4, .inl (fun _ => 0))) := by rw [eE72]; exact (xU_ne _ _ hne51').trans hnq50999
  have hnq6199 : E72 q61 = some (.inl (G.2.1 0, 12, .inl (fun _ => 0))) := by rw [eE72]; exact (xU_ne _ _ hne62').trans hnq619
  have hE999999999999999999 : E72 o = some (.inr (5, [.int 0, .ref q1, .ref q5, .ref q10, .ref q16, .int 0, .ref q23, .ref q31, .ref q40, .ref q50, .int 0, .ref q61, .null, .null, .null, .null, .null, .null, .null, .int 0])) := by rw [eE72]; exact xU_self _ _ _
  have hFr : xFr tM E E72 := by rw [eE72]; exact xFr_put hFr hE99999999999999999 rfl _
  refine lv_aload_n hx hb dX5_init_72 rfl (lv_at hl 0 rfl) ?_
  refine lv_bipush (v := 12) hx hb dX5_init_73 (by decide) ?_
  refine x_newI (G := G) (N' := 12) hx hb harI hX.1 hW hS (by decide) (by decide) (by decide) (Nat.le_of_ble_eq_true rfl) (Nat.le_of_ble_eq_true rfl) dX5_init_75 (fun q73 H1 hqq73 hzq73 hW1 hS1 => ?_)
  have hne74 : o ≠ q73 := by rw [hqq73]; exact Nat.ne_of_lt (hW.lt hE999999999999999999)
  have hne74' : q73 ≠ o := Ne.symm hne74
  have hne75 : q1 ≠ q73 := by rw [hqq73]; exact Nat.ne_of_lt (hW.lt hnq1999999999999999999)
  have hne75' : q73 ≠ q1 := Ne.symm hne75
  have hne76 : q5 ≠ q73 := by rw [hqq73]; exact Nat.ne_of_lt (hW.lt hnq59999999999999999)
  have hne76' : q73 ≠ q5 := Ne.symm hne76
  have hne77 : q10 ≠ q73 := by rw [hqq73]; exact Nat.ne_of_lt (hW.lt hnq1099999999999999)
  have hne77' : q73 ≠ q10 := Ne.symm hne77
  have hne78 : q16 ≠ q73 := by rw [hqq73]; exact Nat.ne_of_lt (hW.lt hnq16999999999999)
  have hne78' : q73 ≠ q16 := Ne.symm hne78
  have hne79 : q23 ≠ q73 := by rw [hqq73]; exact Nat.ne_of_lt (hW.lt hnq239999999999)
  have hne79' : q73 ≠ q23 := Ne.symm hne79
  have hne80 : q31 ≠ q73 := by rw [hqq73]; exact Nat.ne_of_lt (hW.lt hnq3199999999)
  have hne80' : q73 ≠ q31 := Ne.symm hne80
  have hne81 : q40 ≠ q73 := by rw [hqq73]; exact Nat.ne_of_lt (hW.lt hnq40999999)
  have hne81' : q73 ≠ q40 := Ne.symm hne81
  have hne82 : q50 ≠ q73 := by rw [hqq73]; exact Nat.ne_of_lt (hW.lt hnq509999)
  have hne82' : q73 ≠ q50 := Ne.symm hne82
  have hne83 : q61 ≠ q73 := by rw [hqq73]; exact Nat.ne_of_lt (hW.lt hnq6199)
  have hne83' : q73 ≠ q61 := Ne.symm hne83
  have hnoq73 : E72 q73 = none := by rw [hqq73]; exact hW.new
  have hltq73 : G.2.2 ≤ q73 := by rw [hqq73]; exact hW.1
  have hW := hW1
  have hS := hS1
  generalize H1 = H at hW hS ⊢
  obtain ⟨E84, eE84⟩ : ∃ z, z = xU E72 q73 (.inl (G.2.1 0, 12, .inl (fun _ => 0))) := ⟨_, rfl⟩
  have hW : xW G E84 H := by rw [eE84]; exact hW
  have hE9999999999999999999 : E84 o = some (.inr (5, [.int 0, .ref q1, .ref q5, .ref q10, .ref q16, .int 0, .ref q23, .ref q31, .ref q40, .ref q50, .int 0, .ref q61, .null, .null, .null, .null, .null, .null, .null, .int 0])) := by rw [eE84]; exact (xU_ne _ _ hne74).trans hE999999999999999999
  have hnq19999999999999999999 : E84 q1 = some (.inl (G.2.1 0, 8, .inl (fun _ => 0))) := by rw [eE84]; exact (xU_ne _ _ hne75).trans hnq1999999999999999999
  have hnq599999999999999999 : E84 q5 = some (.inl (G.2.1 0, 8, .inl (fun _ => 0))) := by rw [eE84]; exact (xU_ne _ _ hne76).trans hnq59999999999999999
  have hnq10999999999999999 : E84 q10 = some (.inl (G.2.1 0, 8, .inl (fun _ => 0))) := by rw [eE84]; exact (xU_ne _ _ hne77).trans hnq1099999999999999
  have hnq169999999999999 : E84 q16 = some (.inl (G.2.1 0, 8, .inl (fun _ => 0))) := by rw [eE84]; exact (xU_ne _ _ hne78).trans hnq16999999999999
  have hnq2399999999999 : E84 q23 = some (.inl (G.2.1 0, 4, .inl (fun _ => 0))) := by rw [eE84]; exact (xU_ne _ _ hne79).trans hnq239999999999
  have hnq31999999999 : E84 q31 = some (.inl (G.2.1 0, 4, .inl (fun _ => 0))) := by rw [eE84]; exact (xU_ne _ _ hne80).trans hnq3199999999
  have hnq409999999 : E84 q40 = some (.inl (G.2.1 0, 4, .inl (fun _ => 0))) := by rw [eE84]; exact (xU_ne _ _ hne81).trans hnq40999999
  have hnq5099999 : E84 q50 = some (.inl (G.2.1 0, 4, .inl (fun _ => 0))) := by rw [eE84]; exact (xU_ne _ _ hne82).trans hnq509999
  have hnq61999 : E84 q61 = some (.inl (G.2.1 0, 12, .inl (fun _ => 0))) := by rw [eE84]; exact (xU_ne _ _ hne83).trans hnq6199
  have hnq739 : E84 q73 = some (.inl (G.2.1 0, 12, .inl (fun _ => 0))) := by rw [eE84]; exact xU_self _ _ _
  have hFr : xFr tM E E84 := by rw [eE84]; exact xFr_new hFr hnoq73 _
  refine x_putF (G := G) (ci := 5) (v := .ref q73) (ty := .array (.int)) (C := RX5) (T := TX5) (N := 20) hx hb hts hiX5 tyX5 tyX5_ok nmX5 hown hX.1 hW hS hE9999999999999999999 rfl 12 (by decide) hf37 (fun _ h9 => h9) rfl hin rfl (by decide +kernel) rfl rfl (Nat.le_of_ble_eq_true rfl) dX5_init_77 (fun H locs hW hS => ?_)
  obtain ⟨E85, eE85⟩ : ∃ z, z = xU E84 o (.inr (5, [.int 0, .ref q1, .ref q5, .ref q10, .ref q16, .int 0, .ref q23, .ref q31, .ref q40, .ref q50, .int 0, .ref q61, .ref q73, .null, .null, .null, .null, .null, .null, .int 0])) := ⟨_, rfl⟩
  have hW : xW G E85 H := by rw [eE85]; exact hW
  have hnq199999999999999999999 : E85 q1 = some (.inl (G.2.1 0, 8, .inl (fun _ => 0))) := by rw [eE85]; exact (xU_ne _ _ hne2').trans hnq19999999999999999999
  have hnq5999999999999999999 : E85 q5 = some (.inl (G.2.1 0, 8, .inl (fun _ => 0))) := by rw [eE85]; exact (xU_ne _ _ hne6').trans hnq599999999999999999
  have hnq109999999999999999 : E85 q10 = some (.inl (G.2.1 0, 8, .inl (fun _ => 0))) := by rw [eE85]; exact (xU_ne _ _ hne11').trans hnq10999999999999999
  have hnq1699999999999999 : E85 q16 = some (.inl (G.2.1 0, 8, .inl (fun _ => 0))) := by rw [eE85]; exact (xU_ne _ _ hne17').trans hnq169999999999999
  have hnq23999999999999 : E85 q23 = some (.inl (G.2.1 0, 4, .inl (fun _ => 0))) := by rw [eE85]; exact (xU_ne _ _ hne24').trans hnq2399999999999
  have hnq319999999999 : E85 q31 = some (.inl (G.2.1 0, 4, .inl (fun _ => 0))) := by rw [eE85]; exact (xU_ne _ _ hne32').trans hnq31999999999
  have hnq4099999999 : E85 q40 = some (.inl (G.2.1 0, 4, .inl (fun _ => 0))) := by rw [eE85]; exact (xU_ne _ _ hne41').trans hnq409999999
  have hnq50999999 : E85 q50 = some (.inl (G.2.1 0, 4, .inl (fun _ => 0))) := by rw [eE85]; exact (xU_ne _ _ hne51').trans hnq5099999
  have hnq619999 : E85 q61 = some (.inl (G.2.1 0, 12, .inl (fun _ => 0))) := by rw [eE85]; exact (xU_ne _ _ hne62').trans hnq61999
  have hnq7399 : E85 q73 = some (.inl (G.2.1 0, 12, .inl (fun _ => 0))) := by rw [eE85]; exact (xU_ne _ _ hne74').trans hnq739
  have hE99999999999999999999 : E85 o = some (.inr (5, [.int 0, .ref q1, .ref q5, .ref q10, .ref q16, .int 0, .ref q23, .ref q31, .ref q40, .ref q50, .int 0, .ref q61, .ref q73, .null, .null, .null, .null, .null, .null, .int 0])) := by rw [eE85]; exact xU_self _ _ _
  have hFr : xFr tM E E85 := by rw [eE85]; exact xFr_put hFr hE9999999999999999999 rfl _
  refine lv_aload_n hx hb dX5_init_80 rfl (lv_at hl 0 rfl) ?_
  refine lv_bipush (v := 12) hx hb dX5_init_81 (by decide) ?_
  refine x_newI (G := G) (N' := 12) hx hb harI hX.1 hW hS (by decide) (by decide) (by decide) (Nat.le_of_ble_eq_true rfl) (Nat.le_of_ble_eq_true rfl) dX5_init_83 (fun q86 H1 hqq86 hzq86 hW1 hS1 => ?_)
  have hne87 : o ≠ q86 := by rw [hqq86]; exact Nat.ne_of_lt (hW.lt hE99999999999999999999)
  have hne87' : q86 ≠ o := Ne.symm hne87
  have hne88 : q1 ≠ q86 := by rw [hqq86]; exact Nat.ne_of_lt (hW.lt hnq199999999999999999999)
  have hne88' : q86 ≠ q1 := Ne.symm hne88
  have hne89 : q5 ≠ q86 := by rw [hqq86]; exact Nat.ne_of_lt (hW.lt hnq5999999999999999999)
  have hne89' : q86 ≠ q5 := Ne.symm hne89
  have hne90 : q10 ≠ q86 := by rw [hqq86]; exact Nat.ne_of_lt (hW.lt hnq109999999999999999)
  have hne90' : q86 ≠ q10 := Ne.symm hne90
  have hne91 : q16 ≠ q86 := by rw [hqq86]; exact Nat.ne_of_lt (hW.lt hnq1699999999999999)
  have hne91' : q86 ≠ q16 := Ne.symm hne91
  have hne92 : q23 ≠ q86 := by rw [hqq86]; exact Nat.ne_of_lt (hW.lt hnq23999999999999)
  have hne92' : q86 ≠ q23 := Ne.symm hne92
  have hne93 : q31 ≠ q86 := by rw [hqq86]; exact Nat.ne_of_lt (hW.lt hnq319999999999)
  have hne93' : q86 ≠ q31 := Ne.symm hne93
  have hne94 : q40 ≠ q86 := by rw [hqq86]; exact Nat.ne_of_lt (hW.lt hnq4099999999)
  have hne94' : q86 ≠ q40 := Ne.symm hne94
  have hne95 : q50 ≠ q86 := by rw [hqq86]; exact Nat.ne_of_lt (hW.lt hnq50999999)
  have hne95' : q86 ≠ q50 := Ne.symm hne95
  have hne96 : q61 ≠ q86 := by rw [hqq86]; exact Nat.ne_of_lt (hW.lt hnq619999)
  have hne96' : q86 ≠ q61 := Ne.symm hne96
  have hne97 : q73 ≠ q86 := by rw [hqq86]; exact Nat.ne_of_lt (hW.lt hnq7399)
  have hne97' : q86 ≠ q73 := Ne.symm hne97
  have hnoq86 : E85 q86 = none := by rw [hqq86]; exact hW.new
  have hltq86 : G.2.2 ≤ q86 := by rw [hqq86]; exact hW.1
  have hW := hW1
  have hS := hS1
  generalize H1 = H at hW hS ⊢
  obtain ⟨E98, eE98⟩ : ∃ z, z = xU E85 q86 (.inl (G.2.1 0, 12, .inl (fun _ => 0))) := ⟨_, rfl⟩
  have hW : xW G E98 H := by rw [eE98]; exact hW
  have hE999999999999999999999 : E98 o = some (.inr (5, [.int 0, .ref q1, .ref q5, .ref q10, .ref q16, .int 0, .ref q23, .ref q31, .ref q40, .ref q50, .int 0, .ref q61, .ref q73, .null, .null, .null, .null, .null, .null, .int 0])) := by rw [eE98]; exact (xU_ne _ _ hne87).trans hE99999999999999999999
  have hnq1999999999999999999999 : E98 q1 = some (.inl (G.2.1 0, 8, .inl (fun _ => 0))) := by rw [eE98]; exact (xU_ne _ _ hne88).trans hnq199999999999999999999
  have hnq59999999999999999999 : E98 q5 = some (.inl (G.2.1 0, 8, .inl (fun _ => 0))) := by rw [eE98]; exact (xU_ne _ _ hne89).trans hnq5999999999999999999
  have hnq1099999999999999999 : E98 q10 = some (.inl (G.2.1 0, 8, .inl (fun _ => 0))) := by rw [eE98]; exact (xU_ne _ _ hne90).trans hnq109999999999999999
  have hnq16999999999999999 : E98 q16 = some (.inl (G.2.1 0, 8, .inl (fun _ => 0))) := by rw [eE98]; exact (xU_ne _ _ hne91).trans hnq1699999999999999
  have hnq239999999999999 : E98 q23 = some (.inl (G.2.1 0, 4, .inl (fun _ => 0))) := by rw [eE98]; exact (xU_ne _ _ hne92).trans hnq23999999999999
  have hnq3199999999999 : E98 q31 = some (.inl (G.2.1 0, 4, .inl (fun _ => 0))) := by rw [eE98]; exact (xU_ne _ _ hne93).trans hnq319999999999
  have hnq40999999999 : E98 q40 = some (.inl (G.2.1 0, 4, .inl (fun _ => 0))) := by rw [eE98]; exact (xU_ne _ _ hne94).trans hnq4099999999
  have hnq509999999 : E98 q50 = some (.inl (G.2.1 0, 4, .inl (fun _ => 0))) := by rw [eE98]; exact (xU_ne _ _ hne95).trans hnq50999999
  have hnq6199999 : E98 q61 = some (.inl (G.2.1 0, 12, .inl (fun _ => 0))) := by rw [eE98]; exact (xU_ne _ _ hne96).trans hnq619999
  have hnq73999 : E98 q73 = some (.inl (G.2.1 0, 12, .inl (fun _ => 0))) := by rw [eE98]; exact (xU_ne _ _ hne97).trans hnq7399
  have hnq869 : E98 q86 = some (.inl (G.2.1 0, 12, .inl (fun _ => 0))) := by rw [eE98]; exact xU_self _ _ _
  have hFr : xFr tM E E98 := by rw [eE98]; exact xFr_new hFr hnoq86 _
  refine x_putF (G := G) (ci := 5) (v := .ref q86) (ty := .array (.int)) (C := RX5) (T := TX5) (N := 20) hx hb hts hiX5 tyX5 tyX5_ok nmX5 hown hX.1 hW hS hE999999999999999999999 rfl 13 (by decide) hf40 (fun _ h9 => h9) rfl hin rfl (by decide +kernel) rfl rfl (Nat.le_of_ble_eq_true rfl) dX5_init_85 (fun H locs hW hS => ?_)
  obtain ⟨E99, eE99⟩ : ∃ z, z = xU E98 o (.inr (5, [.int 0, .ref q1, .ref q5, .ref q10, .ref q16, .int 0, .ref q23, .ref q31, .ref q40, .ref q50, .int 0, .ref q61, .ref q73, .ref q86, .null, .null, .null, .null, .null, .int 0])) := ⟨_, rfl⟩
  have hW : xW G E99 H := by rw [eE99]; exact hW
  have hnq19999999999999999999999 : E99 q1 = some (.inl (G.2.1 0, 8, .inl (fun _ => 0))) := by rw [eE99]; exact (xU_ne _ _ hne2').trans hnq1999999999999999999999
  have hnq599999999999999999999 : E99 q5 = some (.inl (G.2.1 0, 8, .inl (fun _ => 0))) := by rw [eE99]; exact (xU_ne _ _ hne6').trans hnq59999999999999999999
  have hnq10999999999999999999 : E99 q10 = some (.inl (G.2.1 0, 8, .inl (fun _ => 0))) := by rw [eE99]; exact (xU_ne _ _ hne11').trans hnq1099999999999999999
  have hnq169999999999999999 : E99 q16 = some (.inl (G.2.1 0, 8, .inl (fun _ => 0))) := by rw [eE99]; exact (xU_ne _ _ hne17').trans hnq16999999999999999
  have hnq2399999999999999 : E99 q23 = some (.inl (G.2.1 0, 4, .inl (fun _ => 0))) := by rw [eE99]; exact (xU_ne _ _ hne24').trans hnq239999999999999
  have hnq31999999999999 : E99 q31 = some (.inl (G.2.1 0, 4, .inl (fun _ => 0))) := by rw [eE99]; exact (xU_ne _ _ hne32').trans hnq3199999999999
  have hnq409999999999 : E99 q40 = some (.inl (G.2.1 0, 4, .inl (fun _ => 0))) := by rw [eE99]; exact (xU_ne _ _ hne41').trans hnq40999999999
  have hnq5099999999 : E99 q50 = some (.inl (G.2.1 0, 4, .inl (fun _ => 0))) := by rw [eE99]; exact (xU_ne _ _ hne51').trans hnq509999999
  have hnq61999999 : E99 q61 = some (.inl (G.2.1 0, 12, .inl (fun _ => 0))) := by rw [eE99]; exact (xU_ne _ _ hne62').trans hnq6199999
  have hnq739999 : E99 q73 = some (.inl (G.2.1 0, 12, .inl (fun _ => 0))) := by rw [eE99]; exact (xU_ne _ _ hne74').trans hnq73999
  have hnq8699 : E99 q86 = some (.inl (G.2.1 0, 12, .inl (fun _ => 0))) := by rw [eE99]; exact (xU_ne _ _ hne87').trans hnq869
  have hE9999999999999999999999 : E99 o = some (.inr (5, [.int 0, .ref q1, .ref q5, .ref q10, .ref q16, .int 0, .ref q23, .ref q31, .ref q40, .ref q50, .int 0, .ref q61, .ref q73, .ref q86, .null, .null, .null, .null, .null, .int 0])) := by rw [eE99]; exact xU_self _ _ _
  have hFr : xFr tM E E99 := by rw [eE99]; exact xFr_put hFr hE999999999999999999999 rfl _
  refine lv_aload_n hx hb dX5_init_88 rfl (lv_at hl 0 rfl) ?_
  refine lv_bipush (v := 12) hx hb dX5_init_89 (by decide) ?_
  refine x_newI (G := G) (N' := 12) hx hb harI hX.1 hW hS (by decide) (by decide) (by decide) (Nat.le_of_ble_eq_true rfl) (Nat.le_of_ble_eq_true rfl) dX5_init_91 (fun q100 H1 hqq100 hzq100 hW1 hS1 => ?_)
  have hne101 : o ≠ q100 := by rw [hqq100]; exact Nat.ne_of_lt (hW.lt hE9999999999999999999999)
  have hne101' : q100 ≠ o := Ne.symm hne101
  have hne102 : q1 ≠ q100 := by rw [hqq100]; exact Nat.ne_of_lt (hW.lt hnq19999999999999999999999)
  have hne102' : q100 ≠ q1 := Ne.symm hne102
  have hne103 : q5 ≠ q100 := by rw [hqq100]; exact Nat.ne_of_lt (hW.lt hnq599999999999999999999)
  have hne103' : q100 ≠ q5 := Ne.symm hne103
  have hne104 : q10 ≠ q100 := by rw [hqq100]; exact Nat.ne_of_lt (hW.lt hnq10999999999999999999)
  have hne104' : q100 ≠ q10 := Ne.symm hne104
  have hne105 : q16 ≠ q100 := by rw [hqq100]; exact Nat.ne_of_lt (hW.lt hnq169999999999999999)
  have hne105' : q100 ≠ q16 := Ne.symm hne105
  have hne106 : q23 ≠ q100 := by rw [hqq100]; exact Nat.ne_of_lt (hW.lt hnq2399999999999999)
  have hne106' : q100 ≠ q23 := Ne.symm hne106
  have hne107 : q31 ≠ q100 := by rw [hqq100]; exact Nat.ne_of_lt (hW.lt hnq31999999999999)
  have hne107' : q100 ≠ q31 := Ne.symm hne107
  have hne108 : q40 ≠ q100 := by rw [hqq100]; exact Nat.ne_of_lt (hW.lt hnq409999999999)
  have hne108' : q100 ≠ q40 := Ne.symm hne108
  have hne109 : q50 ≠ q100 := by rw [hqq100]; exact Nat.ne_of_lt (hW.lt hnq5099999999)
  have hne109' : q100 ≠ q50 := Ne.symm hne109
  have hne110 : q61 ≠ q100 := by rw [hqq100]; exact Nat.ne_of_lt (hW.lt hnq61999999)
  have hne110' : q100 ≠ q61 := Ne.symm hne110
  have hne111 : q73 ≠ q100 := by rw [hqq100]; exact Nat.ne_of_lt (hW.lt hnq739999)
  have hne111' : q100 ≠ q73 := Ne.symm hne111
  have hne112 : q86 ≠ q100 := by rw [hqq100]; exact Nat.ne_of_lt (hW.lt hnq8699)
  have hne112' : q100 ≠ q86 := Ne.symm hne112
  have hnoq100 : E99 q100 = none := by rw [hqq100]; exact hW.new
  have hltq100 : G.2.2 ≤ q100 := by rw [hqq100]; exact hW.1
  have hW := hW1
  have hS := hS1
  generalize H1 = H at hW hS ⊢
  obtain ⟨E113, eE113⟩ : ∃ z, z = xU E99 q100 (.inl (G.2.1 0, 12, .inl (fun _ => 0))) := ⟨_, rfl⟩
  have hW : xW G E113 H := by rw [eE113]; exact hW
  have hE99999999999999999999999 : E113 o = some (.inr (5, [.int 0, .ref q1, .ref q5, .ref q10, .ref q16, .int 0, .ref q23, .ref q31, .ref q40, .ref q50, .int 0, .ref q61, .ref q73, .ref q86, .null, .null, .null, .null, .null, .int 0])) := by rw [eE113]; exact (xU_ne _ _ hne101).trans hE9999999999999999999999
  have hnq199999999999999999999999 : E113 q1 = some (.inl (G.2.1 0, 8, .inl (fun _ => 0))) := by rw [eE113]; exact (xU_ne _ _ hne102).trans hnq19999999999999999999999
  have hnq5999999999999999999999 : E113 q5 = some (.inl (G.2.1 0, 8, .inl (fun _ => 0))) := by rw [eE113]; exact (xU_ne _ _ hne103).trans hnq599999999999999999999
  have hnq109999999999999999999 : E113 q10 = some (.inl (G.2.1 0, 8, .inl (fun _ => 0))) := by rw [eE113]; exact (xU_ne _ _ hne104).trans hnq10999999999999999999
  have hnq1699999999999999999 : E113 q16 = some (.inl (G.2.1 0, 8, .inl (fun _ => 0))) := by rw [eE113]; exact (xU_ne _ _ hne105).trans hnq169999999999999999
  have hnq23999999999999999 : E113 q23 = some (.inl (G.2.1 0, 4, .inl (fun _ => 0))) := by rw [eE113]; exact (xU_ne _ _ hne106).trans hnq2399999999999999
  have hnq319999999999999 : E113 q31 = some (.inl (G.2.1 0, 4, .inl (fun _ => 0))) := by rw [eE113]; exact (xU_ne _ _ hne107).trans hnq31999999999999
  have hnq4099999999999 : E113 q40 = some (.inl (G.2.1 0, 4, .inl (fun _ => 0))) := by rw [eE113]; exact (xU_ne _ _ hne108).trans hnq409999999999
  have hnq50999999999 : E113 q50 = some (.inl (G.2.1 0, 4, .inl (fun _ => 0))) := by rw [eE113]; exact (xU_ne _ _ hne109).trans hnq5099999999
  have hnq619999999 : E113 q61 = some (.inl (G.2.1 0, 12, .inl (fun _ => 0))) := by rw [eE113]; exact (xU_ne _ _ hne110).trans hnq61999999
  have hnq7399999 : E113 q73 = some (.inl (G.2.1 0, 12, .inl (fun _ => 0))) := by rw [eE113]; exact (xU_ne _ _ hne111).trans hnq739999
  have hnq86999 : E113 q86 = some (.inl (G.2.1 0, 12, .inl (fun _ => 0))) := by rw [eE113]; exact (xU_ne _ _ hne112).trans hnq8699
  have hnq1009 : E113 q100 = some (.inl (G.2.1 0, 12, .inl (fun _ => 0))) := by rw [eE113]; exact xU_self _ _ _
  have hFr : xFr tM E E113 := by rw [eE113]; exact xFr_new hFr hnoq100 _
  refine x_putF (G := G) (ci := 5) (v := .ref q100) (ty := .array (.int)) (C := RX5) (T := TX5) (N := 20) hx hb hts hiX5 tyX5 tyX5_ok nmX5 hown hX.1 hW hS hE99999999999999999999999 rfl 14 (by decide) hf43 (fun _ h9 => h9) rfl hin rfl (by decide +kernel) rfl rfl (Nat.le_of_ble_eq_true rfl) dX5_init_93 (fun H locs hW hS => ?_)
  obtain ⟨E114, eE114⟩ : ∃ z, z = xU E113 o (.inr (5, [.int 0, .ref q1, .ref q5, .ref q10, .ref q16, .int 0, .ref q23, .ref q31, .ref q40, .ref q50, .int 0, .ref q61, .ref q73, .ref q86, .ref q100, .null, .null, .null, .null, .int 0])) := ⟨_, rfl⟩
  have hW : xW G E114 H := by rw [eE114]; exact hW
  have hnq1999999999999999999999999 : E114 q1 = some (.inl (G.2.1 0, 8, .inl (fun _ => 0))) := by rw [eE114]; exact (xU_ne _ _ hne2').trans hnq199999999999999999999999
  have hnq59999999999999999999999 : E114 q5 = some (.inl (G.2.1 0, 8, .inl (fun _ => 0))) := by rw [eE114]; exact (xU_ne _ _ hne6').trans hnq5999999999999999999999
  have hnq1099999999999999999999 : E114 q10 = some (.inl (G.2.1 0, 8, .inl (fun _ => 0))) := by rw [eE114]; exact (xU_ne _ _ hne11').trans hnq109999999999999999999
  have hnq16999999999999999999 : E114 q16 = some (.inl (G.2.1 0, 8, .inl (fun _ => 0))) := by rw [eE114]; exact (xU_ne _ _ hne17').trans hnq1699999999999999999
  have hnq239999999999999999 : E114 q23 = some (.inl (G.2.1 0, 4, .inl (fun _ => 0))) := by rw [eE114]; exact (xU_ne _ _ hne24').trans hnq23999999999999999
  have hnq3199999999999999 : E114 q31 = some (.inl (G.2.1 0, 4, .inl (fun _ => 0))) := by rw [eE114]; exact (xU_ne _ _ hne32').trans hnq319999999999999
  have hnq40999999999999 : E114 q40 = some (.inl (G.2.1 0, 4, .inl (fun _ => 0))) := by rw [eE114]; exact (xU_ne _ _ hne41').trans hnq4099999999999
  have hnq509999999999 : E114 q50 = some (.inl (G.2.1 0, 4, .inl (fun _ => 0))) := by rw [eE114]; exact (xU_ne _ _ hne51').trans hnq50999999999
  have hnq6199999999 : E114 q61 = some (.inl (G.2.1 0, 12, .inl (fun _ => 0))) := by rw [eE114]; exact (xU_ne _ _ hne62').trans hnq619999999
  have hnq73999999 : E114 q73 = some (.inl (G.2.1 0, 12, .inl (fun _ => 0))) := by rw [eE114]; exact (xU_ne _ _ hne74').trans hnq7399999
  have hnq869999 : E114 q86 = some (.inl (G.2.1 0, 12, .inl (fun _ => 0))) := by rw [eE114]; exact (xU_ne _ _ hne87').trans hnq86999
  have hnq10099 : E114 q100 = some (.inl (G.2.1 0, 12, .inl (fun _ => 0))) := by rw [eE114]; exact (xU_ne _ _ hne101').trans hnq1009
  have hE999999999999999999999999 : E114 o = some (.inr (5, [.int 0, .ref q1, .ref q5, .ref q10, .ref q16, .int 0, .ref q23, .ref q31, .ref q40, .ref q50, .int 0, .ref q61, .ref q73, .ref q86, .ref q100, .null, .null, .null, .null, .int 0])) := by rw [eE114]; exact xU_self _ _ _
  have hFr : xFr tM E E114 := by rw [eE114]; exact xFr_put hFr hE99999999999999999999999 rfl _
  refine lv_aload_n hx hb dX5_init_96 rfl (lv_at hl 0 rfl) ?_
  refine lv_bipush (v := 12) hx hb dX5_init_97 (by decide) ?_
  refine x_newI (G := G) (N' := 12) hx hb harI hX.1 hW hS (by decide) (by decide) (by decide) (Nat.le_of_ble_eq_true rfl) (Nat.le_of_ble_eq_true rfl) dX5_init_99 (fun q115 H1 hqq115 hzq115 hW1 hS1 => ?_)
  have hne116 : o ≠ q115 := by rw [hqq115]; exact Nat.ne_of_lt (hW.lt hE999999999999999999999999)
  have hne116' : q115 ≠ o := Ne.symm hne116
  have hne117 : q1 ≠ q115 := by rw [hqq115]; exact Nat.ne_of_lt (hW.lt hnq1999999999999999999999999)
  have hne117' : q115 ≠ q1 := Ne.symm hne117
  have hne118 : q5 ≠ q115 := by rw [hqq115]; exact Nat.ne_of_lt (hW.lt hnq59999999999999999999999)
  have hne118' : q115 ≠ q5 := Ne.symm hne118
  have hne119 : q10 ≠ q115 := by rw [hqq115]; exact Nat.ne_of_lt (hW.lt hnq1099999999999999999999)
  have hne119' : q115 ≠ q10 := Ne.symm hne119
  have hne120 : q16 ≠ q115 := by rw [hqq115]; exact Nat.ne_of_lt (hW.lt hnq16999999999999999999)
  have hne120' : q115 ≠ q16 := Ne.symm hne120
  have hne121 : q23 ≠ q115 := by rw [hqq115]; exact Nat.ne_of_lt (hW.lt hnq239999999999999999)
  have hne121' : q115 ≠ q23 := Ne.symm hne121
  have hne122 : q31 ≠ q115 := by rw [hqq115]; exact Nat.ne_of_lt (hW.lt hnq3199999999999999)
  have hne122' : q115 ≠ q31 := Ne.symm hne122
  have hne123 : q40 ≠ q115 := by rw [hqq115]; exact Nat.ne_of_lt (hW.lt hnq40999999999999)
  have hne123' : q115 ≠ q40 := Ne.symm hne123
  have hne124 : q50 ≠ q115 := by rw [hqq115]; exact Nat.ne_of_lt (hW.lt hnq509999999999)
  have hne124' : q115 ≠ q50 := Ne.symm hne124
  have hne125 : q61 ≠ q115 := by rw [hqq115]; exact Nat.ne_of_lt (hW.lt hnq6199999999)
  have hne125' : q115 ≠ q61 := Ne.symm hne125
  have hne126 : q73 ≠ q115 := by rw [hqq115]; exact Nat.ne_of_lt (hW.lt hnq73999999)
  have hne126' : q115 ≠ q73 := Ne.symm hne126
  have hne127 : q86 ≠ q115 := by rw [hqq115]; exact Nat.ne_of_lt (hW.lt hnq869999)
  have hne127' : q115 ≠ q86 := Ne.symm hne127
  have hne128 : q100 ≠ q115 := by rw [hqq115]; exact Nat.ne_of_lt (hW.lt hnq10099)
  have hne128' : q115 ≠ q100 := Ne.symm hne128
  have hnoq115 : E114 q115 = none := by rw [hqq115]; exact hW.new
  have hltq115 : G.2.2 ≤ q115 := by rw [hqq115]; exact hW.1
  have hW := hW1
  have hS := hS1
  generalize H1 = H at hW hS ⊢
  obtain ⟨E129, eE129⟩ : ∃ z, z = xU E114 q115 (.inl (G.2.1 0, 12, .inl (fun _ => 0))) := ⟨_, rfl⟩
  have hW : xW G E129 H := by rw [eE129]; exact hW
  have hE9999999999999999999999999 : E129 o = some (.inr (5, [.int 0, .ref q1, .ref q5, .ref q10, .ref q16, .int 0, .ref q23, .ref q31, .ref q40, .ref q50, .int 0, .ref q61, .ref q73, .ref q86, .ref q100, .null, .null, .null, .null, .int 0])) := by rw [eE129]; exact (xU_ne _ _ hne116).trans hE999999999999999999999999
  have hnq19999999999999999999999999 : E129 q1 = some (.inl (G.2.1 0, 8, .inl (fun _ => 0))) := by rw [eE129]; exact (xU_ne _ _ hne117).trans hnq1999999999999999999999999
  have hnq599999999999999999999999 : E129 q5 = some (.inl (G.2.1 0, 8, .inl (fun _ => 0))) := by rw [eE129]; exact (xU_ne _ _ hne118).trans hnq59999999999999999999999
  have hnq10999999999999999999999 : E129 q10 = some (.inl (G.2.1 0, 8, .inl (fun _ => 0))) := by rw [eE129]; exact (xU_ne _ _ hne119).trans hnq1099999999999999999999
  have hnq169999999999999999999 : E129 q16 = some (.inl (G.2.1 0, 8, .inl (fun _ => 0))) := by rw [eE129]; exact (xU_ne _ _ hne120).trans hnq16999999999999999999
  have hnq2399999999999999999 : E129 q23 = some (.inl (G.2.1 0, 4, .inl (fun _ => 0))) := by rw [eE129]; exact (xU_ne _ _ hne121).trans hnq239999999999999999
  have hnq31999999999999999 : E129 q31 = some (.inl (G.2.1 0, 4, .inl (fun _ => 0))) := by rw [eE129]; exact (xU_ne _ _ hne122).trans hnq3199999999999999
  have hnq409999999999999 : E129 q40 = some (.inl (G.2.1 0, 4, .inl (fun _ => 0))) := by rw [eE129]; exact (xU_ne _ _ hne123).trans hnq40999999999999
  have hnq5099999999999 : E129 q50 = some (.inl (G.2.1 0, 4, .inl (fun _ => 0))) := by rw [eE129]; exact (xU_ne _ _ hne124).trans hnq509999999999
  have hnq61999999999 : E129 q61 = some (.inl (G.2.1 0, 12, .inl (fun _ => 0))) := by rw [eE129]; exact (xU_ne _ _ hne125).trans hnq6199999999
  have hnq739999999 : E129 q73 = some (.inl (G.2.1 0, 12, .inl (fun _ => 0))) := by rw [eE129]; exact (xU_ne _ _ hne126).trans hnq73999999
  have hnq8699999 : E129 q86 = some (.inl (G.2.1 0, 12, .inl (fun _ => 0))) := by rw [eE129]; exact (xU_ne _ _ hne127).trans hnq869999
  have hnq100999 : E129 q100 = some (.inl (G.2.1 0, 12, .inl (fun _ => 0))) := by rw [eE129]; exact (xU_ne _ _ hne128).trans hnq10099
  have hnq1159 : E129 q115 = some (.inl (G.2.1 0, 12, .inl (fun _ => 0))) := by rw [eE129]; exact xU_self _ _ _
  have hFr : xFr tM E E129 := by rw [eE129]; exact xFr_new hFr hnoq115 _
  refine x_putF (G := G) (ci := 5) (v := .ref q115) (ty := .array (.int)) (C := RX5) (T := TX5) (N := 20) hx hb hts hiX5 tyX5 tyX5_ok nmX5 hown hX.1 hW hS hE9999999999999999999999999 rfl 15 (by decide) hf46 (fun _ h9 => h9) rfl hin rfl (by decide +kernel) rfl rfl (Nat.le_of_ble_eq_true rfl) dX5_init_101 (fun H locs hW hS => ?_)
  obtain ⟨E130, eE130⟩ : ∃ z, z = xU E129 o (.inr (5, [.int 0, .ref q1, .ref q5, .ref q10, .ref q16, .int 0, .ref q23, .ref q31, .ref q40, .ref q50, .int 0, .ref q61, .ref q73, .ref q86, .ref q100, .ref q115, .null, .null, .null, .int 0])) := ⟨_, rfl⟩
  have hW : xW G E130 H := by rw [eE130]; exact hW
  have hnq199999999999999999999999999 : E130 q1 = some (.inl (G.2.1 0, 8, .inl (fun _ => 0))) := by rw [eE130]; exact (xU_ne _ _ hne2').trans hnq19999999999999999999999999
  have hnq5999999999999999999999999 : E130 q5 = some (.inl (G.2.1 0, 8, .inl (fun _ => 0))) := by rw [eE130]; exact (xU_ne _ _ hne6').trans hnq599999999999999999999999
  have hnq109999999999999999999999 : E130 q10 = some (.inl (G.2.1 0, 8, .inl (fun _ => 0))) := by rw [eE130]; exact (xU_ne _ _ hne11').trans hnq10999999999999999999999
  have hnq1699999999999999999999 : E130 q16 = some (.inl (G.2.1 0, 8, .inl (fun _ => 0))) := by rw [eE130]; exact (xU_ne _ _ hne17').trans hnq169999999999999999999
  have hnq23999999999999999999 : E130 q23 = some (.inl (G.2.1 0, 4, .inl (fun _ => 0))) := by rw [eE130]; exact (xU_ne _ _ hne24').trans hnq2399999999999999999
  have hnq319999999999999999 : E130 q31 = some (.inl (G.2.1 0, 4, .inl (fun _ => 0))) := by rw [eE130]; exact (xU_ne _ _ hne32').trans hnq31999999999999999
  have hnq4099999999999999 : E130 q40 = some (.inl (G.2.1 0, 4, .inl (fun _ => 0))) := by rw [eE130]; exact (xU_ne _ _ hne41').trans hnq409999999999999
  have hnq50999999999999 : E130 q50 = some (.inl (G.2.1 0, 4, .inl (fun _ => 0))) := by rw [eE130]; exact (xU_ne _ _ hne51').trans hnq5099999999999
  have hnq619999999999 : E130 q61 = some (.inl (G.2.1 0, 12, .inl (fun _ => 0))) := by rw [eE130]; exact (xU_ne _ _ hne62').trans hnq61999999999
  have hnq7399999999 : E130 q73 = some (.inl (G.2.1 0, 12, .inl (fun _ => 0))) := by rw [eE130]; exact (xU_ne _ _ hne74').trans hnq739999999
  have hnq86999999 : E130 q86 = some (.inl (G.2.1 0, 12, .inl (fun _ => 0))) := by rw [eE130]; exact (xU_ne _ _ hne87').trans hnq8699999
  have hnq1009999 : E130 q100 = some (.inl (G.2.1 0, 12, .inl (fun _ => 0))) := by rw [eE130]; exact (xU_ne _ _ hne101').trans hnq100999
  have hnq11599 : E130 q115 = some (.inl (G.2.1 0, 12, .inl (fun _ => 0))) := by rw [eE130]; exact (xU_ne _ _ hne116').trans hnq1159
  have hE99999999999999999999999999 : E130 o = some (.inr (5, [.int 0, .ref q1, .ref q5, .ref q10, .ref q16, .int 0, .ref q23, .ref q31, .ref q40, .ref q50, .int 0, .ref q61, .ref q73, .ref q86, .ref q100, .ref q115, .null, .null, .null, .int 0])) := by rw [eE130]; exact xU_self _ _ _
  have hFr : xFr tM E E130 := by rw [eE130]; exact xFr_put hFr hE9999999999999999999999999 rfl _
  refine lv_aload_n hx hb dX5_init_104 rfl (lv_at hl 0 rfl) ?_
  refine lv_bipush (v := 12) hx hb dX5_init_105 (by decide) ?_
  refine x_newI (G := G) (N' := 12) hx hb harI hX.1 hW hS (by decide) (by decide) (by decide) (Nat.le_of_ble_eq_true rfl) (Nat.le_of_ble_eq_true rfl) dX5_init_107 (fun q131 H1 hqq131 hzq131 hW1 hS1 => ?_)
  have hne132 : o ≠ q131 := by rw [hqq131]; exact Nat.ne_of_lt (hW.lt hE99999999999999999999999999)
  have hne132' : q131 ≠ o := Ne.symm hne132
  have hne133 : q1 ≠ q131 := by rw [hqq131]; exact Nat.ne_of_lt (hW.lt hnq199999999999999999999999999)
  have hne133' : q131 ≠ q1 := Ne.symm hne133
  have hne134 : q5 ≠ q131 := by rw [hqq131]; exact Nat.ne_of_lt (hW.lt hnq5999999999999999999999999)
  have hne134' : q131 ≠ q5 := Ne.symm hne134
  have hne135 : q10 ≠ q131 := by rw [hqq131]; exact Nat.ne_of_lt (hW.lt hnq109999999999999999999999)
  have hne135' : q131 ≠ q10 := Ne.symm hne135
  have hne136 : q16 ≠ q131 := by rw [hqq131]; exact Nat.ne_of_lt (hW.lt hnq1699999999999999999999)
  have hne136' : q131 ≠ q16 := Ne.symm hne136
  have hne137 : q23 ≠ q131 := by rw [hqq131]; exact Nat.ne_of_lt (hW.lt hnq23999999999999999999)
  have hne137' : q131 ≠ q23 := Ne.symm hne137
  have hne138 : q31 ≠ q131 := by rw [hqq131]; exact Nat.ne_of_lt (hW.lt hnq319999999999999999)
  have hne138' : q131 ≠ q31 := Ne.symm hne138
  have hne139 : q40 ≠ q131 := by rw [hqq131]; exact Nat.ne_of_lt (hW.lt hnq4099999999999999)
  have hne139' : q131 ≠ q40 := Ne.symm hne139
  have hne140 : q50 ≠ q131 := by rw [hqq131]; exact Nat.ne_of_lt (hW.lt hnq50999999999999)
  have hne140' : q131 ≠ q50 := Ne.symm hne140
  have hne141 : q61 ≠ q131 := by rw [hqq131]; exact Nat.ne_of_lt (hW.lt hnq619999999999)
  have hne141' : q131 ≠ q61 := Ne.symm hne141
  have hne142 : q73 ≠ q131 := by rw [hqq131]; exact Nat.ne_of_lt (hW.lt hnq7399999999)
  have hne142' : q131 ≠ q73 := Ne.symm hne142
  have hne143 : q86 ≠ q131 := by rw [hqq131]; exact Nat.ne_of_lt (hW.lt hnq86999999)
  have hne143' : q131 ≠ q86 := Ne.symm hne143
  have hne144 : q100 ≠ q131 := by rw [hqq131]; exact Nat.ne_of_lt (hW.lt hnq1009999)
  have hne144' : q131 ≠ q100 := Ne.symm hne144
  have hne145 : q115 ≠ q131 := by rw [hqq131]; exact Nat.ne_of_lt (hW.lt hnq11599)
  have hne145' : q131 ≠ q115 := Ne.symm hne145
  have hnoq131 : E130 q131 = none := by rw [hqq131]; exact hW.new
  have hltq131 : G.2.2 ≤ q131 := by rw [hqq131]; exact hW.1
  have hW := hW1
  have hS := hS1
  generalize H1 = H at hW hS ⊢
  obtain ⟨E146, eE146⟩ : ∃ z, z = xU E130 q131 (.inl (G.2.1 0, 12, .inl (fun _ => 0))) := ⟨_, rfl⟩
  have hW : xW G E146 H := by rw [eE146]; exact hW
  have hE999999999999999999999999999 : E146 o = some (.inr (5, [.int 0, .ref q1, .ref q5, .ref q10, .ref q16, .int 0, .ref q23, .ref q31, .ref q40, .ref q50, .int 0, .ref q61, .ref q73, .ref q86, .ref q100, .ref q115, .null, .null, .null, .int 0])) := by rw [eE146]; exact (xU_ne _ _ hne132).trans hE99999999999999999999999999
  have hnq1999999999999999999999999999 : E146 q1 = some (.inl (G.2.1 0, 8, .inl (fun _ => 0))) := by rw [eE146]; exact (xU_ne _ _ hne133).trans hnq199999999999999999999999999
  have hnq59999999999999999999999999 : E146 q5 = some (.inl (G.2.1 0, 8, .inl (fun _ => 0))) := by rw [eE146]; exact (xU_ne _ _ hne134).trans hnq5999999999999999999999999
  have hnq1099999999999999999999999 : E146 q10 = some (.inl (G.2.1 0, 8, .inl (fun _ => 0))) := by rw [eE146]; exact (xU_ne _ _ hne135).trans hnq109999999999999999999999
  have hnq16999999999999999999999 : E146 q16 = some (.inl (G.2.1 0, 8, .inl (fun _ => 0))) := by rw [eE146]; exact (xU_ne _ _ hne136).trans hnq1699999999999999999999
  have hnq239999999999999999999 : E146 q23 = some (.inl (G.2.1 0, 4, .inl (fun _ => 0))) := by rw [eE146]; exact (xU_ne _ _ hne137).trans hnq23999999999999999999
  have hnq3199999999999999999 : E146 q31 = some (.inl (G.2.1 0, 4, .inl (fun _ => 0))) := by rw [eE146]; exact (xU_ne _ _ hne138).trans hnq319999999999999999
  have hnq40999999999999999 : E146 q40 = some (.inl (G.2.1 0, 4, .inl (fun _ => 0))) := by rw [eE146]; exact (xU_ne _ _ hne139).trans hnq4099999999999999
  have hnq509999999999999 : E146 q50 = some (.inl (G.2.1 0, 4, .inl (fun _ => 0))) := by rw [eE146]; exact (xU_ne _ _ hne140).trans hnq50999999999999
  have hnq6199999999999 : E146 q61 = some (.inl (G.2.1 0, 12, .inl (fun _ => 0))) := by rw [eE146]; exact (xU_ne _ _ hne141).trans hnq619999999999
  have hnq73999999999 : E146 q73 = some (.inl (G.2.1 0, 12, .inl (fun _ => 0))) := by rw [eE146]; exact (xU_ne _ _ hne142).trans hnq7399999999
  have hnq869999999 : E146 q86 = some (.inl (G.2.1 0, 12, .inl (fun _ => 0))) := by rw [eE146]; exact (xU_ne _ _ hne143).trans hnq86999999
  have hnq10099999 : E146 q100 = some (.inl (G.2.1 0, 12, .inl (fun _ => 0))) := by rw [eE146]; exact (xU_ne _ _ hne144).trans hnq1009999
  have hnq115999 : E146 q115 = some (.inl (G.2.1 0, 12, .inl (fun _ => 0))) := by rw [eE146]; exact (xU_ne _ _ hne145).trans hnq11599
  have hnq1319 : E146 q131 = some (.inl (G.2.1 0, 12, .inl (fun _ => 0))) := by rw [eE146]; exact xU_self _ _ _
  have hFr : xFr tM E E146 := by rw [eE146]; exact xFr_new hFr hnoq131 _
  refine x_putF (G := G) (ci := 5) (v := .ref q131) (ty := .array (.int)) (C := RX5) (T := TX5) (N := 20) hx hb hts hiX5 tyX5 tyX5_ok nmX5 hown hX.1 hW hS hE999999999999999999999999999 rfl 16 (by decide) hf49 (fun _ h9 => h9) rfl hin rfl (by decide +kernel) rfl rfl (Nat.le_of_ble_eq_true rfl) dX5_init_109 (fun H locs hW hS => ?_)
  obtain ⟨E147, eE147⟩ : ∃ z, z = xU E146 o (.inr (5, [.int 0, .ref q1, .ref q5, .ref q10, .ref q16, .int 0, .ref q23, .ref q31, .ref q40, .ref q50, .int 0, .ref q61, .ref q73, .ref q86, .ref q100, .ref q115, .ref q131, .null, .null, .int 0])) := ⟨_, rfl⟩
  have hW : xW G E147 H := by rw [eE147]; exact hW
  have hnq19999999999999999999999999999 : E147 q1 = some (.inl (G.2.1 0, 8, .inl (fun _ => 0))) := by rw [eE147]; exact (xU_ne _ _ hne2').trans hnq1999999999999999999999999999
  have hnq599999999999999999999999999 : E147 q5 = some (.inl (G.2.1 0, 8, .inl (fun _ => 0))) := by rw [eE147]; exact (xU_ne _ _ hne6').trans hnq59999999999999999999999999
  have hnq10999999999999999999999999 : E147 q10 = some (.inl (G.2.1 0, 8, .inl (fun _ => 0))) := by rw [eE147]; exact (xU_ne _ _ hne11').trans hnq1099999999999999999999999
  have hnq169999999999999999999999 : E147 q16 = some (.inl (G.2.1 0, 8, .inl (fun _ => 0))) := by rw [eE147]; exact (xU_ne _ _ hne17').trans hnq16999999999999999999999
  have hnq2399999999999999999999 : E147 q23 = some (.inl (G.2.1 0, 4, .inl (fun _ => 0))) := by rw [eE147]; exact (xU_ne _ _ hne24').trans hnq239999999999999999999
  have hnq31999999999999999999 : E147 q31 = some (.inl (G.2.1 0, 4, .inl (fun _ => 0))) := by rw [eE147]; exact (xU_ne _ _ hne32').trans hnq3199999999999999999
  have hnq409999999999999999 : E147 q40 = some (.inl (G.2.1 0, 4, .inl (fun _ => 0))) := by rw [eE147]; exact (xU_ne _ _ hne41').trans hnq40999999999999999
  have hnq5099999999999999 : E147 q50 = some (.inl (G.2.1 0, 4, .inl (fun _ => 0))) := by rw [eE147]; exact (xU_ne _ _ hne51').trans hnq509999999999999
  have hnq61999999999999 : E147 q61 = some (.inl (G.2.1 0, 12, .inl (fun _ => 0))) := by rw [eE147]; exact (xU_ne _ _ hne62').trans hnq6199999999999
  have hnq739999999999 : E147 q73 = some (.inl (G.2.1 0, 12, .inl (fun _ => 0))) := by rw [eE147]; exact (xU_ne _ _ hne74').trans hnq73999999999
  have hnq8699999999 : E147 q86 = some (.inl (G.2.1 0, 12, .inl (fun _ => 0))) := by rw [eE147]; exact (xU_ne _ _ hne87').trans hnq869999999
  have hnq100999999 : E147 q100 = some (.inl (G.2.1 0, 12, .inl (fun _ => 0))) := by rw [eE147]; exact (xU_ne _ _ hne101').trans hnq10099999
  have hnq1159999 : E147 q115 = some (.inl (G.2.1 0, 12, .inl (fun _ => 0))) := by rw [eE147]; exact (xU_ne _ _ hne116').trans hnq115999
  have hnq13199 : E147 q131 = some (.inl (G.2.1 0, 12, .inl (fun _ => 0))) := by rw [eE147]; exact (xU_ne _ _ hne132').trans hnq1319
  have hE9999999999999999999999999999 : E147 o = some (.inr (5, [.int 0, .ref q1, .ref q5, .ref q10, .ref q16, .int 0, .ref q23, .ref q31, .ref q40, .ref q50, .int 0, .ref q61, .ref q73, .ref q86, .ref q100, .ref q115, .ref q131, .null, .null, .int 0])) := by rw [eE147]; exact xU_self _ _ _
  have hFr : xFr tM E E147 := by rw [eE147]; exact xFr_put hFr hE999999999999999999999999999 rfl _
  refine lv_aload_n hx hb dX5_init_112 rfl (lv_at hl 0 rfl) ?_
  refine lv_sipush (v := 732) hx hb dX5_init_113 (by decide) ?_
  refine x_newI (G := G) (N' := 732) hx hb harI hX.1 hW hS (by decide) (by decide) (by decide) (Nat.le_of_ble_eq_true rfl) (Nat.le_of_ble_eq_true rfl) dX5_init_116 (fun q148 H1 hqq148 hzq148 hW1 hS1 => ?_)
  have hne149 : o ≠ q148 := by rw [hqq148]; exact Nat.ne_of_lt (hW.lt hE9999999999999999999999999999)
  have hne149' : q148 ≠ o := Ne.symm hne149
  have hne150 : q1 ≠ q148 := by rw [hqq148]; exact Nat.ne_of_lt (hW.lt hnq19999999999999999999999999999)
  have hne150' : q148 ≠ q1 := Ne.symm hne150
  have hne151 : q5 ≠ q148 := by rw [hqq148]; exact Nat.ne_of_lt (hW.lt hnq599999999999999999999999999)
  have hne151' : q148 ≠ q5 := Ne.symm hne151
  have hne152 : q10 ≠ q148 := by rw [hqq148]; exact Nat.ne_of_lt (hW.lt hnq10999999999999999999999999)
  have hne152' : q148 ≠ q10 := Ne.symm hne152
  have hne153 : q16 ≠ q148 := by rw [hqq148]; exact Nat.ne_of_lt (hW.lt hnq169999999999999999999999)
  have hne153' : q148 ≠ q16 := Ne.symm hne153
  have hne154 : q23 ≠ q148 := by rw [hqq148]; exact Nat.ne_of_lt (hW.lt hnq2399999999999999999999)
  have hne154' : q148 ≠ q23 := Ne.symm hne154
  have hne155 : q31 ≠ q148 := by rw [hqq148]; exact Nat.ne_of_lt (hW.lt hnq31999999999999999999)
  have hne155' : q148 ≠ q31 := Ne.symm hne155
  have hne156 : q40 ≠ q148 := by rw [hqq148]; exact Nat.ne_of_lt (hW.lt hnq409999999999999999)
  have hne156' : q148 ≠ q40 := Ne.symm hne156
  have hne157 : q50 ≠ q148 := by rw [hqq148]; exact Nat.ne_of_lt (hW.lt hnq5099999999999999)
  have hne157' : q148 ≠ q50 := Ne.symm hne157
  have hne158 : q61 ≠ q148 := by rw [hqq148]; exact Nat.ne_of_lt (hW.lt hnq61999999999999)
  have hne158' : q148 ≠ q61 := Ne.symm hne158
  have hne159 : q73 ≠ q148 := by rw [hqq148]; exact Nat.ne_of_lt (hW.lt hnq739999999999)
  have hne159' : q148 ≠ q73 := Ne.symm hne159
  have hne160 : q86 ≠ q148 := by rw [hqq148]; exact Nat.ne_of_lt (hW.lt hnq8699999999)
  have hne160' : q148 ≠ q86 := Ne.symm hne160
  have hne161 : q100 ≠ q148 := by rw [hqq148]; exact Nat.ne_of_lt (hW.lt hnq100999999)
  have hne161' : q148 ≠ q100 := Ne.symm hne161
  have hne162 : q115 ≠ q148 := by rw [hqq148]; exact Nat.ne_of_lt (hW.lt hnq1159999)
  have hne162' : q148 ≠ q115 := Ne.symm hne162
  have hne163 : q131 ≠ q148 := by rw [hqq148]; exact Nat.ne_of_lt (hW.lt hnq13199)
  have hne163' : q148 ≠ q131 := Ne.symm hne163
  have hnoq148 : E147 q148 = none := by rw [hqq148]; exact hW.new
  have hltq148 : G.2.2 ≤ q148 := by rw [hqq148]; exact hW.1
  have hW := hW1
  have hS := hS1
  generalize H1 = H at hW hS ⊢
  obtain ⟨E164, eE164⟩ : ∃ z, z = xU E147 q148 (.inl (G.2.1 0, 732, .inl (fun _ => 0))) := ⟨_, rfl⟩
  have hW : xW G E164 H := by rw [eE164]; exact hW
  have hE99999999999999999999999999999 : E164 o = some (.inr (5, [.int 0, .ref q1, .ref q5, .ref q10, .ref q16, .int 0, .ref q23, .ref q31, .ref q40, .ref q50, .int 0, .ref q61, .ref q73, .ref q86, .ref q100, .ref q115, .ref q131, .null, .null, .int 0])) := by rw [eE164]; exact (xU_ne _ _ hne149).trans hE9999999999999999999999999999
  have hnq199999999999999999999999999999 : E164 q1 = some (.inl (G.2.1 0, 8, .inl (fun _ => 0))) := by rw [eE164]; exact (xU_ne _ _ hne150).trans hnq19999999999999999999999999999
  have hnq5999999999999999999999999999 : E164 q5 = some (.inl (G.2.1 0, 8, .inl (fun _ => 0))) := by rw [eE164]; exact (xU_ne _ _ hne151).trans hnq599999999999999999999999999
  have hnq109999999999999999999999999 : E164 q10 = some (.inl (G.2.1 0, 8, .inl (fun _ => 0))) := by rw [eE164]; exact (xU_ne _ _ hne152).trans hnq10999999999999999999999999
  have hnq1699999999999999999999999 : E164 q16 = some (.inl (G.2.1 0, 8, .inl (fun _ => 0))) := by rw [eE164]; exact (xU_ne _ _ hne153).trans hnq169999999999999999999999
  have hnq23999999999999999999999 : E164 q23 = some (.inl (G.2.1 0, 4, .inl (fun _ => 0))) := by rw [eE164]; exact (xU_ne _ _ hne154).trans hnq2399999999999999999999
  have hnq319999999999999999999 : E164 q31 = some (.inl (G.2.1 0, 4, .inl (fun _ => 0))) := by rw [eE164]; exact (xU_ne _ _ hne155).trans hnq31999999999999999999
  have hnq4099999999999999999 : E164 q40 = some (.inl (G.2.1 0, 4, .inl (fun _ => 0))) := by rw [eE164]; exact (xU_ne _ _ hne156).trans hnq409999999999999999
  have hnq50999999999999999 : E164 q50 = some (.inl (G.2.1 0, 4, .inl (fun _ => 0))) := by rw [eE164]; exact (xU_ne _ _ hne157).trans hnq5099999999999999
  have hnq619999999999999 : E164 q61 = some (.inl (G.2.1 0, 12, .inl (fun _ => 0))) := by rw [eE164]; exact (xU_ne _ _ hne158).trans hnq61999999999999
  have hnq7399999999999 : E164 q73 = some (.inl (G.2.1 0, 12, .inl (fun _ => 0))) := by rw [eE164]; exact (xU_ne _ _ hne159).trans hnq739999999999
  have hnq86999999999 : E164 q86 = some (.inl (G.2.1 0, 12, .inl (fun _ => 0))) := by rw [eE164]; exact (xU_ne _ _ hne160).trans hnq8699999999
  have hnq1009999999 : E164 q100 = some (.inl (G.2.1 0, 12, .inl (fun _ => 0))) := by rw [eE164]; exact (xU_ne _ _ hne161).trans hnq100999999
  have hnq11599999 : E164 q115 = some (.inl (G.2.1 0, 12, .inl (fun _ => 0))) := by rw [eE164]; exact (xU_ne _ _ hne162).trans hnq1159999
  have hnq131999 : E164 q131 = some (.inl (G.2.1 0, 12, .inl (fun _ => 0))) := by rw [eE164]; exact (xU_ne _ _ hne163).trans hnq13199
  have hnq1489 : E164 q148 = some (.inl (G.2.1 0, 732, .inl (fun _ => 0))) := by rw [eE164]; exact xU_self _ _ _
  have hFr : xFr tM E E164 := by rw [eE164]; exact xFr_new hFr hnoq148 _
  refine x_putF (G := G) (ci := 5) (v := .ref q148) (ty := .array (.int)) (C := RX5) (T := TX5) (N := 20) hx hb hts hiX5 tyX5 tyX5_ok nmX5 hown hX.1 hW hS hE99999999999999999999999999999 rfl 17 (by decide) hf52 (fun _ h9 => h9) rfl hin rfl (by decide +kernel) rfl rfl (Nat.le_of_ble_eq_true rfl) dX5_init_118 (fun H locs hW hS => ?_)
  obtain ⟨E165, eE165⟩ : ∃ z, z = xU E164 o (.inr (5, [.int 0, .ref q1, .ref q5, .ref q10, .ref q16, .int 0, .ref q23, .ref q31, .ref q40, .ref q50, .int 0, .ref q61, .ref q73, .ref q86, .ref q100, .ref q115, .ref q131, .ref q148, .null, .int 0])) := ⟨_, rfl⟩
  have hW : xW G E165 H := by rw [eE165]; exact hW
  have hnq1999999999999999999999999999999 : E165 q1 = some (.inl (G.2.1 0, 8, .inl (fun _ => 0))) := by rw [eE165]; exact (xU_ne _ _ hne2').trans hnq199999999999999999999999999999
  have hnq59999999999999999999999999999 : E165 q5 = some (.inl (G.2.1 0, 8, .inl (fun _ => 0))) := by rw [eE165]; exact (xU_ne _ _ hne6').trans hnq5999999999999999999999999999
  have hnq1099999999999999999999999999 : E165 q10 = some (.inl (G.2.1 0, 8, .inl (fun _ => 0))) := by rw [eE165]; exact (xU_ne _ _ hne11').trans hnq109999999999999999999999999
  have hnq16999999999999999999999999 : E165 q16 = some (.inl (G.2.1 0, 8, .inl (fun _ => 0))) := by rw [eE165]; exact (xU_ne _ _ hne17').trans hnq1699999999999999999999999
  have hnq239999999999999999999999 : E165 q23 = some (.inl (G.2.1 0, 4, .inl (fun _ => 0))) := by rw [eE165]; exact (xU_ne _ _ hne24').trans hnq23999999999999999999999
  have hnq3199999999999999999999 : E165 q31 = some (.inl (G.2.1 0, 4, .inl (fun _ => 0))) := by rw [eE165]; exact (xU_ne _ _ hne32').trans hnq319999999999999999999
  have hnq40999999999999999999 : E165 q40 = some (.inl (G.2.1 0, 4, .inl (fun _ => 0))) := by rw [eE165]; exact (xU_ne _ _ hne41').trans hnq4099999999999999999
  have hnq509999999999999999 : E165 q50 = some (.inl (G.2.1 0, 4, .inl (fun _ => 0))) := by rw [eE165]; exact (xU_ne _ _ hne51').trans hnq50999999999999999
  have hnq6199999999999999 : E165 q61 = some (.inl (G.2.1 0, 12, .inl (fun _ => 0))) := by rw [eE165]; exact (xU_ne _ _ hne62').trans hnq619999999999999
  have hnq73999999999999 : E165 q73 = some (.inl (G.2.1 0, 12, .inl (fun _ => 0))) := by rw [eE165]; exact (xU_ne _ _ hne74').trans hnq7399999999999
  have hnq869999999999 : E165 q86 = some (.inl (G.2.1 0, 12, .inl (fun _ => 0))) := by rw [eE165]; exact (xU_ne _ _ hne87').trans hnq86999999999
  have hnq10099999999 : E165 q100 = some (.inl (G.2.1 0, 12, .inl (fun _ => 0))) := by rw [eE165]; exact (xU_ne _ _ hne101').trans hnq1009999999
  have hnq115999999 : E165 q115 = some (.inl (G.2.1 0, 12, .inl (fun _ => 0))) := by rw [eE165]; exact (xU_ne _ _ hne116').trans hnq11599999
  have hnq1319999 : E165 q131 = some (.inl (G.2.1 0, 12, .inl (fun _ => 0))) := by rw [eE165]; exact (xU_ne _ _ hne132').trans hnq131999
  have hnq14899 : E165 q148 = some (.inl (G.2.1 0, 732, .inl (fun _ => 0))) := by rw [eE165]; exact (xU_ne _ _ hne149').trans hnq1489
  have hE999999999999999999999999999999 : E165 o = some (.inr (5, [.int 0, .ref q1, .ref q5, .ref q10, .ref q16, .int 0, .ref q23, .ref q31, .ref q40, .ref q50, .int 0, .ref q61, .ref q73, .ref q86, .ref q100, .ref q115, .ref q131, .ref q148, .null, .int 0])) := by rw [eE165]; exact xU_self _ _ _
  have hFr : xFr tM E E165 := by rw [eE165]; exact xFr_put hFr hE99999999999999999999999999999 rfl _
  refine lv_aload_n hx hb dX5_init_121 rfl (lv_at hl 0 rfl) ?_
  refine lv_sipush (v := 732) hx hb dX5_init_122 (by decide) ?_
  refine x_newI (G := G) (N' := 732) hx hb harI hX.1 hW hS (by decide) (by decide) (by decide) (Nat.le_of_ble_eq_true rfl) (Nat.le_of_ble_eq_true rfl) dX5_init_125 (fun q166 H1 hqq166 hzq166 hW1 hS1 => ?_)
  have hne167 : o ≠ q166 := by rw [hqq166]; exact Nat.ne_of_lt (hW.lt hE999999999999999999999999999999)
  have hne167' : q166 ≠ o := Ne.symm hne167
  have hne168 : q1 ≠ q166 := by rw [hqq166]; exact Nat.ne_of_lt (hW.lt hnq1999999999999999999999999999999)
  have hne168' : q166 ≠ q1 := Ne.symm hne168
  have hne169 : q5 ≠ q166 := by rw [hqq166]; exact Nat.ne_of_lt (hW.lt hnq59999999999999999999999999999)
  have hne169' : q166 ≠ q5 := Ne.symm hne169
  have hne170 : q10 ≠ q166 := by rw [hqq166]; exact Nat.ne_of_lt (hW.lt hnq1099999999999999999999999999)
  have hne170' : q166 ≠ q10 := Ne.symm hne170
  have hne171 : q16 ≠ q166 := by rw [hqq166]; exact Nat.ne_of_lt (hW.lt hnq16999999999999999999999999)
  have hne171' : q166 ≠ q16 := Ne.symm hne171
  have hne172 : q23 ≠ q166 := by rw [hqq166]; exact Nat.ne_of_lt (hW.lt hnq239999999999999999999999)
  have hne172' : q166 ≠ q23 := Ne.symm hne172
  have hne173 : q31 ≠ q166 := by rw [hqq166]; exact Nat.ne_of_lt (hW.lt hnq3199999999999999999999)
  have hne173' : q166 ≠ q31 := Ne.symm hne173
  have hne174 : q40 ≠ q166 := by rw [hqq166]; exact Nat.ne_of_lt (hW.lt hnq40999999999999999999)
  have hne174' : q166 ≠ q40 := Ne.symm hne174
  have hne175 : q50 ≠ q166 := by rw [hqq166]; exact Nat.ne_of_lt (hW.lt hnq509999999999999999)
  have hne175' : q166 ≠ q50 := Ne.symm hne175
  have hne176 : q61 ≠ q166 := by rw [hqq166]; exact Nat.ne_of_lt (hW.lt hnq6199999999999999)
  have hne176' : q166 ≠ q61 := Ne.symm hne176
  have hne177 : q73 ≠ q166 := by rw [hqq166]; exact Nat.ne_of_lt (hW.lt hnq73999999999999)
  have hne177' : q166 ≠ q73 := Ne.symm hne177
  have hne178 : q86 ≠ q166 := by rw [hqq166]; exact Nat.ne_of_lt (hW.lt hnq869999999999)
  have hne178' : q166 ≠ q86 := Ne.symm hne178
  have hne179 : q100 ≠ q166 := by rw [hqq166]; exact Nat.ne_of_lt (hW.lt hnq10099999999)
  have hne179' : q166 ≠ q100 := Ne.symm hne179
  have hne180 : q115 ≠ q166 := by rw [hqq166]; exact Nat.ne_of_lt (hW.lt hnq115999999)
  have hne180' : q166 ≠ q115 := Ne.symm hne180
  have hne181 : q131 ≠ q166 := by rw [hqq166]; exact Nat.ne_of_lt (hW.lt hnq1319999)
  have hne181' : q166 ≠ q131 := Ne.symm hne181
  have hne182 : q148 ≠ q166 := by rw [hqq166]; exact Nat.ne_of_lt (hW.lt hnq14899)
  have hne182' : q166 ≠ q148 := Ne.symm hne182
  have hnoq166 : E165 q166 = none := by rw [hqq166]; exact hW.new
  have hltq166 : G.2.2 ≤ q166 := by rw [hqq166]; exact hW.1
  have hW := hW1
  have hS := hS1
  generalize H1 = H at hW hS ⊢
  obtain ⟨E183, eE183⟩ : ∃ z, z = xU E165 q166 (.inl (G.2.1 0, 732, .inl (fun _ => 0))) := ⟨_, rfl⟩
  have hW : xW G E183 H := by rw [eE183]; exact hW
  have hE9999999999999999999999999999999 : E183 o = some (.inr (5, [.int 0, .ref q1, .ref q5, .ref q10, .ref q16, .int 0, .ref q23, .ref q31, .ref q40, .ref q50, .int 0, .ref q61, .ref q73, .ref q86, .ref q100, .ref q115, .ref q131, .ref q148, .null, .int 0])) := by rw [eE183]; exact (xU_ne _ _ hne167).trans hE999999999999999999999999999999
  have hnq19999999999999999999999999999999 : E183 q1 = some (.inl (G.2.1 0, 8, .inl (fun _ => 0))) := by rw [eE183]; exact (xU_ne _ _ hne168).trans hnq1999999999999999999999999999999
  have hnq599999999999999999999999999999 : E183 q5 = some (.inl (G.2.1 0, 8, .inl (fun _ => 0))) := by rw [eE183]; exact (xU_ne _ _ hne169).trans hnq59999999999999999999999999999
  have hnq10999999999999999999999999999 : E183 q10 = some (.inl (G.2.1 0, 8, .inl (fun _ => 0))) := by rw [eE183]; exact (xU_ne _ _ hne170).trans hnq1099999999999999999999999999
  have hnq169999999999999999999999999 : E183 q16 = some (.inl (G.2.1 0, 8, .inl (fun _ => 0))) := by rw [eE183]; exact (xU_ne _ _ hne171).trans hnq16999999999999999999999999
  have hnq2399999999999999999999999 : E183 q23 = some (.inl (G.2.1 0, 4, .inl (fun _ => 0))) := by rw [eE183]; exact (xU_ne _ _ hne172).trans hnq239999999999999999999999
  have hnq31999999999999999999999 : E183 q31 = some (.inl (G.2.1 0, 4, .inl (fun _ => 0))) := by rw [eE183]; exact (xU_ne _ _ hne173).trans hnq3199999999999999999999
  have hnq409999999999999999999 : E183 q40 = some (.inl (G.2.1 0, 4, .inl (fun _ => 0))) := by rw [eE183]; exact (xU_ne _ _ hne174).trans hnq40999999999999999999
  have hnq5099999999999999999 : E183 q50 = some (.inl (G.2.1 0, 4, .inl (fun _ => 0))) := by rw [eE183]; exact (xU_ne _ _ hne175).trans hnq509999999999999999
  have hnq61999999999999999 : E183 q61 = some (.inl (G.2.1 0, 12, .inl (fun _ => 0))) := by rw [eE183]; exact (xU_ne _ _ hne176).trans hnq6199999999999999
  have hnq739999999999999 : E183 q73 = some (.inl (G.2.1 0, 12, .inl (fun _ => 0))) := by rw [eE183]; exact (xU_ne _ _ hne177).trans hnq73999999999999
  have hnq8699999999999 : E183 q86 = some (.inl (G.2.1 0, 12, .inl (fun _ => 0))) := by rw [eE183]; exact (xU_ne _ _ hne178).trans hnq869999999999
  have hnq100999999999 : E183 q100 = some (.inl (G.2.1 0, 12, .inl (fun _ => 0))) := by rw [eE183]; exact (xU_ne _ _ hne179).trans hnq10099999999
  have hnq1159999999 : E183 q115 = some (.inl (G.2.1 0, 12, .inl (fun _ => 0))) := by rw [eE183]; exact (xU_ne _ _ hne180).trans hnq115999999
  have hnq13199999 : E183 q131 = some (.inl (G.2.1 0, 12, .inl (fun _ => 0))) := by rw [eE183]; exact (xU_ne _ _ hne181).trans hnq1319999
  have hnq148999 : E183 q148 = some (.inl (G.2.1 0, 732, .inl (fun _ => 0))) := by rw [eE183]; exact (xU_ne _ _ hne182).trans hnq14899
  have hnq1669 : E183 q166 = some (.inl (G.2.1 0, 732, .inl (fun _ => 0))) := by rw [eE183]; exact xU_self _ _ _
  have hFr : xFr tM E E183 := by rw [eE183]; exact xFr_new hFr hnoq166 _
  refine x_putF (G := G) (ci := 5) (v := .ref q166) (ty := .array (.int)) (C := RX5) (T := TX5) (N := 20) hx hb hts hiX5 tyX5 tyX5_ok nmX5 hown hX.1 hW hS hE9999999999999999999999999999999 rfl 18 (by decide) hf55 (fun _ h9 => h9) rfl hin rfl (by decide +kernel) rfl rfl (Nat.le_of_ble_eq_true rfl) dX5_init_127 (fun H locs hW hS => ?_)
  obtain ⟨E184, eE184⟩ : ∃ z, z = xU E183 o (.inr (5, [.int 0, .ref q1, .ref q5, .ref q10, .ref q16, .int 0, .ref q23, .ref q31, .ref q40, .ref q50, .int 0, .ref q61, .ref q73, .ref q86, .ref q100, .ref q115, .ref q131, .ref q148, .ref q166, .int 0])) := ⟨_, rfl⟩
  have hW : xW G E184 H := by rw [eE184]; exact hW
  have hnq199999999999999999999999999999999 : E184 q1 = some (.inl (G.2.1 0, 8, .inl (fun _ => 0))) := by rw [eE184]; exact (xU_ne _ _ hne2').trans hnq19999999999999999999999999999999
  have hnq5999999999999999999999999999999 : E184 q5 = some (.inl (G.2.1 0, 8, .inl (fun _ => 0))) := by rw [eE184]; exact (xU_ne _ _ hne6').trans hnq599999999999999999999999999999
  have hnq109999999999999999999999999999 : E184 q10 = some (.inl (G.2.1 0, 8, .inl (fun _ => 0))) := by rw [eE184]; exact (xU_ne _ _ hne11').trans hnq10999999999999999999999999999
  have hnq1699999999999999999999999999 : E184 q16 = some (.inl (G.2.1 0, 8, .inl (fun _ => 0))) := by rw [eE184]; exact (xU_ne _ _ hne17').trans hnq169999999999999999999999999
  have hnq23999999999999999999999999 : E184 q23 = some (.inl (G.2.1 0, 4, .inl (fun _ => 0))) := by rw [eE184]; exact (xU_ne _ _ hne24').trans hnq2399999999999999999999999
  have hnq319999999999999999999999 : E184 q31 = some (.inl (G.2.1 0, 4, .inl (fun _ => 0))) := by rw [eE184]; exact (xU_ne _ _ hne32').trans hnq31999999999999999999999
  have hnq4099999999999999999999 : E184 q40 = some (.inl (G.2.1 0, 4, .inl (fun _ => 0))) := by rw [eE184]; exact (xU_ne _ _ hne41').trans hnq409999999999999999999
  have hnq50999999999999999999 : E184 q50 = some (.inl (G.2.1 0, 4, .inl (fun _ => 0))) := by rw [eE184]; exact (xU_ne _ _ hne51').trans hnq5099999999999999999
  have hnq619999999999999999 : E184 q61 = some (.inl (G.2.1 0, 12, .inl (fun _ => 0))) := by rw [eE184]; exact (xU_ne _ _ hne62').trans hnq61999999999999999
  have hnq7399999999999999 : E184 q73 = some (.inl (G.2.1 0, 12, .inl (fun _ => 0))) := by rw [eE184]; exact (xU_ne _ _ hne74').trans hnq739999999999999
  have hnq86999999999999 : E184 q86 = some (.inl (G.2.1 0, 12, .inl (fun _ => 0))) := by rw [eE184]; exact (xU_ne _ _ hne87').trans hnq8699999999999
  have hnq1009999999999 : E184 q100 = some (.inl (G.2.1 0, 12, .inl (fun _ => 0))) := by rw [eE184]; exact (xU_ne _ _ hne101').trans hnq100999999999
  have hnq11599999999 : E184 q115 = some (.inl (G.2.1 0, 12, .inl (fun _ => 0))) := by rw [eE184]; exact (xU_ne _ _ hne116').trans hnq1159999999
  have hnq131999999 : E184 q131 = some (.inl (G.2.1 0, 12, .inl (fun _ => 0))) := by rw [eE184]; exact (xU_ne _ _ hne132').trans hnq13199999
  have hnq1489999 : E184 q148 = some (.inl (G.2.1 0, 732, .inl (fun _ => 0))) := by rw [eE184]; exact (xU_ne _ _ hne149').trans hnq148999
  have hnq16699 : E184 q166 = some (.inl (G.2.1 0, 732, .inl (fun _ => 0))) := by rw [eE184]; exact (xU_ne _ _ hne167').trans hnq1669
  have hE99999999999999999999999999999999 : E184 o = some (.inr (5, [.int 0, .ref q1, .ref q5, .ref q10, .ref q16, .int 0, .ref q23, .ref q31, .ref q40, .ref q50, .int 0, .ref q61, .ref q73, .ref q86, .ref q100, .ref q115, .ref q131, .ref q148, .ref q166, .int 0])) := by rw [eE184]; exact xU_self _ _ _
  have hFr : xFr tM E E184 := by rw [eE184]; exact xFr_put hFr hE9999999999999999999999999999999 rfl _
  exact W.widen (k := 16) (n := 1608) (Nat.le_of_ble_eq_true rfl) (Nat.le_of_ble_eq_true rfl) (W.vret hx hb hr (fun t ht hw => ⟨⟨E184, rfl, ⟨⟨fun i => [0, q1, q5, q10, q16, 0, q23, q31, q40, q50, 0, q61, q73, q86, q100, q115, q131, q148, q166, 0].getD i 0, ⟨hE99999999999999999999999999999999, hnq199999999999999999999999999999999, hnq5999999999999999999999999999999, hnq109999999999999999999999999999, hnq1699999999999999999999999999, hnq23999999999999999999999999, hnq319999999999999999999999, hnq4099999999999999999999, hnq50999999999999999999, hnq619999999999999999, hnq7399999999999999, hnq86999999999999, hnq1009999999999, hnq11599999999, hnq131999999, hnq1489999, hnq16699⟩, ⟨⟨hne7, hne12, hne18, hne25, hne33, hne42, hne52, hne63, hne75, hne88, hne102, hne117, hne133, hne150, hne168⟩, ⟨hne13, hne19, hne26, hne34, hne43, hne53, hne64, hne76, hne89, hne103, hne118, hne134, hne151, hne169⟩, ⟨hne20, hne27, hne35, hne44, hne54, hne65, hne77, hne90, hne104, hne119, hne135, hne152, hne170⟩, ⟨hne28, hne36, hne45, hne55, hne66, hne78, hne91, hne105, hne120, hne136, hne153, hne171⟩, ⟨hne37, hne46, hne56, hne67, hne79, hne92, hne106, hne121, hne137, hne154, hne172⟩, ⟨hne47, hne57, hne68, hne80, hne93, hne107, hne122, hne138, hne155, hne173⟩, ⟨hne58, hne69, hne81, hne94, hne108, hne123, hne139, hne156, hne174⟩, ⟨hne70, hne82, hne95, hne109, hne124, hne140, hne157, hne175⟩, ⟨hne83, hne96, hne110, hne125, hne141, hne158, hne176⟩, ⟨hne97, hne111, hne126, hne142, hne159, hne177⟩, ⟨hne112, hne127, hne143, hne160, hne178⟩, ⟨hne128, hne144, hne161, hne179⟩, ⟨hne145, hne162, hne180⟩, ⟨hne163, hne181⟩, hne182⟩, rfl⟩, hFr⟩, (show xW G E184 t.heap from by rw [ht]; exact hW)⟩, hS.F ht⟩) hS.2.2 dX5_init_130)
