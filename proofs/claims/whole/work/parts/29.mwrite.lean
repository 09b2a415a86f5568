/-- the rows' addresses, the number of the last throw set -/
def aT (A : Nat → Nat) (t : Nat) : Nat → Nat := fun i => if i = 19 then t else A i

set_option maxHeartbeats 4000000 in
set_option maxRecDepth 100000 in
theorem kX5_asks (l : Launch) (G : xG) (E : xE) (σ : xSg) (o : Nat) (b : Bool) (A : Nat → Nat) (hM : xMod G E o A σ) (hA : xAi A) : Met l yX5_asks wsX5_asks ({ frames := 0, cells := 0, slots := 0, locals := 0 }) (va_Pc [.ref o, .int (zI b)] (xB G E)) (va_Qi (S := xE) (fun r E' => r = zI b ∧ xMd G E' o σ (if b = true then 0 else 1) ∧ xFr tM E E') (fun E' t => xW G E' t.heap) (xA G)) 0 0 (xA G) := by
  refine Met.ofW (cc := cX5_asks) (maxL := 2) (ret := (some .boolean)) (by decide) rfl ?_
  intro p e s m args below meth c s₁ B hml hv
  obtain ⟨rfl, hX, hW⟩ := hv
  have hx := B.exec
  have hb := B.bytes
  have hr := B.returns
  have hts := atoms_spec (ws := wsX5_asks) B.pre
  have hown : s.vm.findClass RX5 = some m.cls := findClass_of_methodNamed B.named
  have hlocks := B.notSynchronized
  have hS : va_S (xA G) s.heap s.heap [] := va_S.rf
  have hiX5 : ∀ w ∈ u_ws RX5 TX5 20, w ∈ wsX5_asks := by decide +kernel
  have hf58 := hts (Cond.fieldLink RX5 58 "VariantMillModel" "thrown" "I") (by decide +kernel)
  have hl := lv_entry ([.ref o, .int (zI b)]) (n := 2) (Nat.le_of_ble_eq_true rfl)
  rw [lg_entry_eq]
  generalize (lg_sl ([.ref o, .int (zI b)]) ++ List.replicate (2 - (lg_sl ([.ref o, .int (zI b)])).length) Slot.unset).toArray = ls at hl ⊢
  have hl : lv_has ls 2 [(0, .ref o), (1, .int (zI b))] := hl
  obtain ⟨H, hH⟩ : ∃ z, z = s.heap := ⟨_, rfl⟩
  rw [← hH] at hW
  have hS : va_S (xA G) s.heap H [] := by rw [hH]; exact hS
  rw [← hH]
  have hFr : xFr tM E E := xFr_rf
  refine lv_aload_n hx hb dX5_asks_0 rfl (lv_at hl 0 rfl) ?_
  refine lv_iload_n hx hb dX5_asks_1 rfl (lv_at hl 1 rfl) ?_
  refine x_ifz_eq (b := b) (tgt := 9) hx hb dX5_asks_2 (by decide) (fun c_1 => ?_) (fun c_1 => ?_)
  · refine lv_iconst (v := 1) hx hb dX5_asks_9 (by decide) ?_
    refine x_put (G := G) (ci := 5) (v := .int 1) (ty := .int) (C := RX5) (T := TX5) (N := 20) hx hb hts hiX5 tyX5 tyX5_ok nmX5 hown hX.1 hW hS hM.1 rfl 19 (by decide) hf58 (fun _ h9 => h9) rfl (by decide +kernel) rfl rfl (Nat.le_of_ble_eq_true rfl) dX5_asks_10 (fun H locs hW hS => ?_)
    obtain ⟨E2, eE2⟩ : ∃ z, z = xU E o (.inr (5, [.int (σ 0 0), .ref (A 1), .ref (A 2), .ref (A 3), .ref (A 4), .int (σ 5 0), .ref (A 6), .ref (A 7), .ref (A 8), .ref (A 9), .int (σ 10 0), .ref (A 11), .ref (A 12), .ref (A 13), .ref (A 14), .ref (A 15), .ref (A 16), .ref (A 17), .ref (A 18), .int 1])) := ⟨_, rfl⟩
    have hW : xW G E2 H := by rw [eE2]; exact hW
    have hv_A_19 : E2 (A 1) = some (.inl (G.2.1 0, 8, .inl (σ 1))) := by rw [eE2]; exact xU_of hM.2.1 hM.1 (fun h => by simp at h)
    have hv_A_29 : E2 (A 2) = some (.inl (G.2.1 0, 8, .inl (σ 2))) := by rw [eE2]; exact xU_of hM.2.2.1 hM.1 (fun h => by simp at h)
    have hv_A_39 : E2 (A 3) = some (.inl (G.2.1 0, 8, .inl (σ 3))) := by rw [eE2]; exact xU_of hM.2.2.2.1 hM.1 (fun h => by simp at h)
    have hv_A_49 : E2 (A 4) = some (.inl (G.2.1 0, 8, .inl (σ 4))) := by rw [eE2]; exact xU_of hM.2.2.2.2.1 hM.1 (fun h => by simp at h)
    have hv_A_69 : E2 (A 6) = some (.inl (G.2.1 0, 4, .inl (σ 6))) := by rw [eE2]; exact xU_of hM.2.2.2.2.2.1 hM.1 (fun h => by simp at h)
    have hv_A_79 : E2 (A 7) = some (.inl (G.2.1 0, 4, .inl (σ 7))) := by rw [eE2]; exact xU_of hM.2.2.2.2.2.2.1 hM.1 (fun h => by simp at h)
    have hv_A_89 : E2 (A 8) = some (.inl (G.2.1 0, 4, .inl (σ 8))) := by rw [eE2]; exact xU_of hM.2.2.2.2.2.2.2.1 hM.1 (fun h => by simp at h)
    have hv_A_99 : E2 (A 9) = some (.inl (G.2.1 0, 4, .inl (σ 9))) := by rw [eE2]; exact xU_of hM.2.2.2.2.2.2.2.2.1 hM.1 (fun h => by simp at h)
    have hv_A_119 : E2 (A 11) = some (.inl (G.2.1 0, 12, .inl (σ 11))) := by rw [eE2]; exact xU_of hM.2.2.2.2.2.2.2.2.2.1 hM.1 (fun h => by simp at h)
    have hv_A_129 : E2 (A 12) = some (.inl (G.2.1 0, 12, .inl (σ 12))) := by rw [eE2]; exact xU_of hM.2.2.2.2.2.2.2.2.2.2.1 hM.1 (fun h => by simp at h)
    have hv_A_139 : E2 (A 13) = some (.inl (G.2.1 0, 12, .inl (σ 13))) := by rw [eE2]; exact xU_of hM.2.2.2.2.2.2.2.2.2.2.2.1 hM.1 (fun h => by simp at h)
    have hv_A_149 : E2 (A 14) = some (.inl (G.2.1 0, 12, .inl (σ 14))) := by rw [eE2]; exact xU_of hM.2.2.2.2.2.2.2.2.2.2.2.2.1 hM.1 (fun h => by simp at h)
    have hv_A_159 : E2 (A 15) = some (.inl (G.2.1 0, 12, .inl (σ 15))) := by rw [eE2]; exact xU_of hM.2.2.2.2.2.2.2.2.2.2.2.2.2.1 hM.1 (fun h => by simp at h)
    have hv_A_169 : E2 (A 16) = some (.inl (G.2.1 0, 12, .inl (σ 16))) := by rw [eE2]; exact xU_of hM.2.2.2.2.2.2.2.2.2.2.2.2.2.2.1 hM.1 (fun h => by simp at h)
    have hv_A_179 : E2 (A 17) = some (.inl (G.2.1 0, 732, .inl (σ 17))) := by rw [eE2]; exact xU_of hM.2.2.2.2.2.2.2.2.2.2.2.2.2.2.2.1 hM.1 (fun h => by simp at h)
    have hv_A_189 : E2 (A 18) = some (.inl (G.2.1 0, 732, .inl (σ 18))) := by rw [eE2]; exact xU_of hM.2.2.2.2.2.2.2.2.2.2.2.2.2.2.2.2 hM.1 (fun h => by simp at h)
    have hu_o9 : E2 o = some (.inr (5, [.int (σ 0 0), .ref (A 1), .ref (A 2), .ref (A 3), .ref (A 4), .int (σ 5 0), .ref (A 6), .ref (A 7), .ref (A 8), .ref (A 9), .int (σ 10 0), .ref (A 11), .ref (A 12), .ref (A 13), .ref (A 14), .ref (A 15), .ref (A 16), .ref (A 17), .ref (A 18), .int 1])) := by rw [eE2]; exact xU_self _ _ _
    have hFr : xFr tM E E2 := by rw [eE2]; exact xFr_put hFr hM.1 rfl _
    refine lv_iload_n hx hb dX5_asks_13 rfl (lv_at hl 1 rfl) ?_
    exact W.widen (k := 0) (n := 0) (Nat.le_of_ble_eq_true rfl) (Nat.le_of_ble_eq_true rfl) (W.zret (v := zI b) hx hb hr (xz_nar _) (fun t ht hw => ⟨⟨_, E2, rfl, ⟨rfl, ⟨aT A 1, ⟨hu_o9, hv_A_19, hv_A_29, hv_A_39, hv_A_49, hv_A_69, hv_A_79, hv_A_89, hv_A_99, hv_A_119, hv_A_129, hv_A_139, hv_A_149, hv_A_159, hv_A_169, hv_A_179, hv_A_189⟩, hA, (show _ = (if _ then 0 else 1) from by rw [if_neg (Bool.eq_false_iff.mp c_1)]; rfl)⟩, hFr⟩, (show xW G E2 t.heap from by rw [ht]; exact hW)⟩, hS.F ht⟩) hS.2.2 dX5_asks_14)
  · refine lv_iconst (v := 0) hx hb dX5_asks_5 (by decide) ?_
    refine lv_goto (tgt := 10) hx hb dX5_asks_6 (by decide) ?_
    refine x_put (G := G) (ci := 5) (v := .int 0) (ty := .int) (C := RX5) (T := TX5) (N := 20) hx hb hts hiX5 tyX5 tyX5_ok nmX5 hown hX.1 hW hS hM.1 rfl 19 (by decide) hf58 (fun _ h9 => h9) rfl (by decide +kernel) rfl rfl (Nat.le_of_ble_eq_true rfl) dX5_asks_10 (fun H locs hW hS => ?_)
    obtain ⟨E3, eE3⟩ : ∃ z, z = xU E o (.inr (5, [.int (σ 0 0), .ref (A 1), .ref (A 2), .ref (A 3), .ref (A 4), .int (σ 5 0), .ref (A 6), .ref (A 7), .ref (A 8), .ref (A 9), .int (σ 10 0), .ref (A 11), .ref (A 12), .ref (A 13), .ref (A 14), .ref (A 15), .ref (A 16), .ref (A 17), .ref (A 18), .int 0])) := ⟨_, rfl⟩
    have hW : xW G E3 H := by rw [eE3]; exact hW
    have hv_A_19 : E3 (A 1) = some (.inl (G.2.1 0, 8, .inl (σ 1))) := by rw [eE3]; exact xU_of hM.2.1 hM.1 (fun h => by simp at h)
    have hv_A_29 : E3 (A 2) = some (.inl (G.2.1 0, 8, .inl (σ 2))) := by rw [eE3]; exact xU_of hM.2.2.1 hM.1 (fun h => by simp at h)
    have hv_A_39 : E3 (A 3) = some (.inl (G.2.1 0, 8, .inl (σ 3))) := by rw [eE3]; exact xU_of hM.2.2.2.1 hM.1 (fun h => by simp at h)
    have hv_A_49 : E3 (A 4) = some (.inl (G.2.1 0, 8, .inl (σ 4))) := by rw [eE3]; exact xU_of hM.2.2.2.2.1 hM.1 (fun h => by simp at h)
    have hv_A_69 : E3 (A 6) = some (.inl (G.2.1 0, 4, .inl (σ 6))) := by rw [eE3]; exact xU_of hM.2.2.2.2.2.1 hM.1 (fun h => by simp at h)
    have hv_A_79 : E3 (A 7) = some (.inl (G.2.1 0, 4, .inl (σ 7))) := by rw [eE3]; exact xU_of hM.2.2.2.2.2.2.1 hM.1 (fun h => by simp at h)
    have hv_A_89 : E3 (A 8) = some (.inl (G.2.1 0, 4, .inl (σ 8))) := by rw [eE3]; exact xU_of hM.2.2.2.2.2.2.2.1 hM.1 (fun h => by simp at h)
    have hv_A_99 : E3 (A 9) = some (.inl (G.2.1 0, 4, .inl (σ 9))) := by rw [eE3]; exact xU_of hM.2.2.2.2.2.2.2.2.1 hM.1 (fun h => by simp at h)
    have hv_A_119 : E3 (A 11) = some (.inl (G.2.1 0, 12, .inl (σ 11))) := by rw [eE3]; exact xU_of hM.2.2.2.2.2.2.2.2.2.1 hM.1 (fun h => by simp at h)
    have hv_A_129 : E3 (A 12) = some (.inl (G.2.1 0, 12, .inl (σ 12))) := by rw [eE3]; exact xU_of hM.2.2.2.2.2.2.2.2.2.2.1 hM.1 (fun h => by simp at h)
    have hv_A_139 : E3 (A 13) = some (.inl (G.2.1 0, 12, .inl (σ 13))) := by rw [eE3]; exact xU_of hM.2.2.2.2.2.2.2.2.2.2.2.1 hM.1 (fun h => by simp at h)
    have hv_A_149 : E3 (A 14) = some (.inl (G.2.1 0, 12, .inl (σ 14))) := by rw [eE3]; exact xU_of hM.2.2.2.2.2.2.2.2.2.2.2.2.1 hM.1 (fun h => by simp at h)
    have hv_A_159 : E3 (A 15) = some (.inl (G.2.1 0, 12, .inl (σ 15))) := by rw [eE3]; exact xU_of hM.2.2.2.2.2.2.2.2.2.2.2.2.2.1 hM.1 (fun h => by simp at h)
    have hv_A_169 : E3 (A 16) = some (.inl (G.2.1 0, 12, .inl (σ 16))) := by rw [eE3]; exact xU_of hM.2.2.2.2.2.2.2.2.2.2.2.2.2.2.1 hM.1 (fun h => by simp at h)
    have hv_A_179 : E3 (A 17) = some (.inl (G.2.1 0, 732, .inl (σ 17))) := by rw [eE3]; exact xU_of hM.2.2.2.2.2.2.2.2.2.2.2.2.2.2.2.1 hM.1 (fun h => by simp at h)
    have hv_A_189 : E3 (A 18) = some (.inl (G.2.1 0, 732, .inl (σ 18))) := by rw [eE3]; exact xU_of hM.2.2.2.2.2.2.2.2.2.2.2.2.2.2.2.2 hM.1 (fun h => by simp at h)
    have hu_o9 : E3 o = some (.inr (5, [.int (σ 0 0), .ref (A 1), .ref (A 2), .ref (A 3), .ref (A 4), .int (σ 5 0), .ref (A 6), .ref (A 7), .ref (A 8), .ref (A 9), .int (σ 10 0), .ref (A 11), .ref (A 12), .ref (A 13), .ref (A 14), .ref (A 15), .ref (A 16), .ref (A 17), .ref (A 18), .int 0])) := by rw [eE3]; exact xU_self _ _ _
    have hFr : xFr tM E E3 := by rw [eE3]; exact xFr_put hFr hM.1 rfl _
    refine lv_iload_n hx hb dX5_asks_13 rfl (lv_at hl 1 rfl) ?_
    exact W.widen (k := 0) (n := 0) (Nat.le_of_ble_eq_true rfl) (Nat.le_of_ble_eq_true rfl) (W.zret (v := zI b) hx hb hr (xz_nar _) (fun t ht hw => ⟨⟨_, E3, rfl, ⟨rfl, ⟨aT A 0, ⟨hu_o9, hv_A_19, hv_A_29, hv_A_39, hv_A_49, hv_A_69, hv_A_79, hv_A_89, hv_A_99, hv_A_119, hv_A_129, hv_A_139, hv_A_149, hv_A_159, hv_A_169, hv_A_179, hv_A_189⟩, hA, (show _ = (if _ then 0 else 1) from by rw [if_pos c_1]; rfl)⟩, hFr⟩, (show xW G E3 t.heap from by rw [ht]; exact hW)⟩, hS.F ht⟩) hS.2.2 dX5_asks_14)

set_option maxHeartbeats 4000000 in
set_option maxRecDepth 100000 in
theorem kX5_fails (l : Launch) (G : xG) (E : xE) (σ : xSg) (o k : Nat) (A : Nat → Nat) (hM : xMod G E o A σ) (hA : xAi A) : Met l yX5_fails wsX5_fails ({ frames := 0, cells := 0, slots := 0, locals := 0 }) (va_Pc [.ref o, .int (nI k)] (xB G E)) (va_Qi (S := xE) (fun r E' => r = 0 ∧ xMd G E' o σ k ∧ xFr tM E E') (fun E' t => xW G E' t.heap) (xA G)) 0 0 (xA G) := by
  refine Met.ofW (cc := cX5_fails) (maxL := 2) (ret := (some .int)) (by decide) rfl ?_
  intro p e s m args below meth c s₁ B hml hv
  obtain ⟨rfl, hX, hW⟩ := hv
  have hx := B.exec
  have hb := B.bytes
  have hr := B.returns
  have hts := atoms_spec (ws := wsX5_fails) B.pre
  have hown : s.vm.findClass RX5 = some m.cls := findClass_of_methodNamed B.named
  have hlocks := B.notSynchronized
  have hS : va_S (xA G) s.heap s.heap [] := va_S.rf
  have hiX5 : ∀ w ∈ u_ws RX5 TX5 20, w ∈ wsX5_fails := by decide +kernel
  have hf58 := hts (Cond.fieldLink RX5 58 "VariantMillModel" "thrown" "I") (by decide +kernel)
  have hl := lv_entry ([.ref o, .int (nI k)]) (n := 2) (Nat.le_of_ble_eq_true rfl)
  rw [lg_entry_eq]
  generalize (lg_sl ([.ref o, .int (nI k)]) ++ List.replicate (2 - (lg_sl ([.ref o, .int (nI k)])).length) Slot.unset).toArray = ls at hl ⊢
  have hl : lv_has ls 2 [(0, .ref o), (1, .int (nI k))] := hl
  obtain ⟨H, hH⟩ : ∃ z, z = s.heap := ⟨_, rfl⟩
  rw [← hH] at hW
  have hS : va_S (xA G) s.heap H [] := by rw [hH]; exact hS
  rw [← hH]
  have hFr : xFr tM E E := xFr_rf
  refine lv_aload_n hx hb dX5_fails_0 rfl (lv_at hl 0 rfl) ?_
  refine lv_iload_n hx hb dX5_fails_1 rfl (lv_at hl 1 rfl) ?_
  refine x_put (G := G) (ci := 5) (v := .int (nI k)) (ty := .int) (C := RX5) (T := TX5) (N := 20) hx hb hts hiX5 tyX5 tyX5_ok nmX5 hown hX.1 hW hS hM.1 rfl 19 (by decide) hf58 (fun _ h9 => h9) rfl (by decide +kernel) rfl rfl (Nat.le_of_ble_eq_true rfl) dX5_fails_2 (fun H locs hW hS => ?_)
  obtain ⟨E1, eE1⟩ : ∃ z, z = xU E o (.inr (5, [.int (σ 0 0), .ref (A 1), .ref (A 2), .ref (A 3), .ref (A 4), .int (σ 5 0), .ref (A 6), .ref (A 7), .ref (A 8), .ref (A 9), .int (σ 10 0), .ref (A 11), .ref (A 12), .ref (A 13), .ref (A 14), .ref (A 15), .ref (A 16), .ref (A 17), .ref (A 18), .int (nI k)])) := ⟨_, rfl⟩
  have hW : xW G E1 H := by rw [eE1]; exact hW
  have hv_A_19 : E1 (A 1) = some (.inl (G.2.1 0, 8, .inl (σ 1))) := by rw [eE1]; exact xU_of hM.2.1 hM.1 (fun h => by simp at h)
  have hv_A_29 : E1 (A 2) = some (.inl (G.2.1 0, 8, .inl (σ 2))) := by rw [eE1]; exact xU_of hM.2.2.1 hM.1 (fun h => by simp at h)
  have hv_A_39 : E1 (A 3) = some (.inl (G.2.1 0, 8, .inl (σ 3))) := by rw [eE1]; exact xU_of hM.2.2.2.1 hM.1 (fun h => by simp at h)
  have hv_A_49 : E1 (A 4) = some (.inl (G.2.1 0, 8, .inl (σ 4))) := by rw [eE1]; exact xU_of hM.2.2.2.2.1 hM.1 (fun h => by simp at h)
  have hv_A_69 : E1 (A 6) = some (.inl (G.2.1 0, 4, .inl (σ 6))) := by rw [eE1]; exact xU_of hM.2.2.2.2.2.1 hM.1 (fun h => by simp at h)
  have hv_A_79 : E1 (A 7) = some (.inl (G.2.1 0, 4, .inl (σ 7))) := by rw [eE1]; exact xU_of hM.2.2.2.2.2.2.1 hM.1 (fun h => by simp at h)
  have hv_A_89 : E1 (A 8) = some (.inl (G.2.1 0, 4, .inl (σ 8))) := by rw [eE1]; exact xU_of hM.2.2.2.2.2.2.2.1 hM.1 (fun h => by simp at h)
  have hv_A_99 : E1 (A 9) = some (.inl (G.2.1 0, 4, .inl (σ 9))) := by rw [eE1]; exact xU_of hM.2.2.2.2.2.2.2.2.1 hM.1 (fun h => by simp at h)
  have hv_A_119 : E1 (A 11) = some (.inl (G.2.1 0, 12, .inl (σ 11))) := by rw [eE1]; exact xU_of hM.2.2.2.2.2.2.2.2.2.1 hM.1 (fun h => by simp at h)
  have hv_A_129 : E1 (A 12) = some (.inl (G.2.1 0, 12, .inl (σ 12))) := by rw [eE1]; exact xU_of hM.2.2.2.2.2.2.2.2.2.2.1 hM.1 (fun h => by simp at h)
  have hv_A_139 : E1 (A 13) = some (.inl (G.2.1 0, 12, .inl (σ 13))) := by rw [eE1]; exact xU_of hM.2.2.2.2.2.2.2.2.2.2.2.1 hM.1 (fun h => by simp at h)
  have hv_A_149 : E1 (A 14) = some (.inl (G.2.1 0, 12, .inl (σ 14))) := by rw [eE1]; exact xU_of hM.2.2.2.2.2.2.2.2.2.2.2.2.1 hM.1 (fun h => by simp at h)
  have hv_A_159 : E1 (A 15) = some (.inl (G.2.1 0, 12, .inl (σ 15))) := by rw [eE1]; exact xU_of hM.2.2.2.2.2.2.2.2.2.2.2.2.2.1 hM.1 (fun h => by simp at h)
  have hv_A_169 : E1 (A 16) = some (.inl (G.2.1 0, 12, .inl (σ 16))) := by rw [eE1]; exact xU_of hM.2.2.2.2.2.2.2.2.2.2.2.2.2.2.1 hM.1 (fun h => by simp at h)
  have hv_A_179 : E1 (A 17) = some (.inl (G.2.1 0, 732, .inl (σ 17))) := by rw [eE1]; exact xU_of hM.2.2.2.2.2.2.2.2.2.2.2.2.2.2.2.1 hM.1 (fun h => by simp at h)
  have hv_A_189 : E1 (A 18) = some (.inl (G.2.1 0, 732, .inl (σ 18))) := by rw [eE1]; exact xU_of hM.2.2.2.2.2.2.2.2.2.2.2.2.2.2.2.2 hM.1 (fun h => by simp at h)
  have hu_o9 : E1 o = some (.inr (5, [.int (σ 0 0), .ref (A 1), .ref (A 2), .ref (A 3), .ref (A 4), .int (σ 5 0), .ref (A 6), .ref (A 7), .ref (A 8), .ref (A 9), .int (σ 10 0), .ref (A 11), .ref (A 12), .ref (A 13), .ref (A 14), .ref (A 15), .ref (A 16), .ref (A 17), .ref (A 18), .int (nI k)])) := by rw [eE1]; exact xU_self _ _ _
  have hFr : xFr tM E E1 := by rw [eE1]; exact xFr_put hFr hM.1 rfl _
  refine lv_iconst (v := 0) hx hb dX5_fails_5 (by decide) ?_
  exact W.widen (k := 0) (n := 0) (Nat.le_of_ble_eq_true rfl) (Nat.le_of_ble_eq_true rfl) (W.iret (v := 0) hx hb hr (fun t ht hw => ⟨⟨_, E1, rfl, ⟨rfl, ⟨aT A k, ⟨hu_o9, hv_A_19, hv_A_29, hv_A_39, hv_A_49, hv_A_69, hv_A_79, hv_A_89, hv_A_99, hv_A_119, hv_A_129, hv_A_139, hv_A_149, hv_A_159, hv_A_169, hv_A_179, hv_A_189⟩, hA, rfl⟩, hFr⟩, (show xW G E1 t.heap from by rw [ht]; exact hW)⟩, hS.F ht⟩) hS.2.2 dX5_fails_6)

/-- what a state of the reference holds -/
def xMi (σ : xSg) (nC nV nG : Nat) : Prop := xCd σ nC ∧ σ 5 0 = nI nV ∧ nV ≤ 4 ∧ σ 10 0 = nI nG ∧ nG ≤ 12 ∧ ∀ u, u < nG → ∃ d v, xGm σ u d v ∧ v < nV ∧ (σ 15 u = 0 → d < 60)
theorem x_mIx {n : Nat} {a x : Int32} (hn : n ≤ 12) (hx : x = nI n) (h : (if a < 0 then false else (if x ≤ a then false else true)) = true) : ∃ u, a = nI u ∧ u < n := by
  by_cases h0 : a < 0
  · rw [if_pos h0] at h; cases h
  · rw [if_neg h0] at h
    by_cases h1 : x ≤ a
    · rw [if_pos h1] at h; cases h
    · obtain ⟨j, hj, rfl⟩ := nI_of h0
      refine ⟨j, rfl, ?_⟩
      rcases Nat.lt_or_ge j n with q | q
      · exact q
      · exact absurd (by rw [hx]; exact (nI_leI (by omega) hj).mpr q) h1
theorem x_mG {σ : xSg} {nC nV nG : Nat} {a : Int32} (h : xMi σ nC nV nG) (q : fX5_isGame σ a = true) : ∃ u, a = nI u ∧ u < nG := x_mIx h.2.2.2.2.1 h.2.2.2.1 q
theorem x_mV {σ : xSg} {nC nV nG : Nat} {a : Int32} (h : xMi σ nC nV nG) (q : fX5_isVariant σ a = true) : ∃ u, a = nI u ∧ u < nV := x_mIx (by have := h.2.2.1; omega) h.2.1 q
theorem x_if1 {b c : Bool} (h : (if b = true then c else false) = true) : b = true := by
  cases b
  · exact absurd h (by simp)
  · rfl
theorem x_if2 {b c : Bool} (h : (if b = true then c else false) = true) : c = true := by
  cases b
  · exact absurd h (by simp)
  · simpa using h

def mX5_state (σ : xSg) (u d v : Nat) (a0 : Int32) : Int32 × Nat := if (fX5_isGame (σ) a0) = true then ((σ 15 u, 0)) else (((0 : Int32), 1))
set_option maxHeartbeats 4000000 in
set_option maxRecDepth 100000 in
theorem kX5_state (l : Launch) (G : xG) (E : xE) (σ : xSg) (o : Nat) (a0 : Int32) (A : Nat → Nat) (hM : xMod G E o A σ) (hA : xAi A) (nC nV nG : Nat) (hI : xMi σ nC nV nG) : Met l yX5_state wsX5_state ({ frames := 1, cells := 0, slots := 0, locals := 21 }) (va_Pc [.ref o, .int a0] (xB G E)) (va_Qi (S := xE) (fun r E' => ∃ q : Int32 × Nat, mX5_state σ (a0.toNatClampNeg) ((σ 16 a0.toNatClampNeg).toNatClampNeg) ((σ 11 a0.toNatClampNeg).toNatClampNeg) a0 = q ∧ r = q.1 ∧ xMd G E' o (σ) q.2 ∧ xFr tM E E') (fun E' t => xW G E' t.heap) (xA G)) 0 0 (xA G) := by
  refine Met.ofW (cc := cX5_state) (maxL := 2) (ret := (some .int)) (by decide) rfl ?_
  intro p e s m args below meth c s₁ B hml hv
  obtain ⟨rfl, hX, hW⟩ := hv
  have hx := B.exec
  have hb := B.bytes
  have hr := B.returns
  have hts := atoms_spec (ws := wsX5_state) B.pre
  have hown : s.vm.findClass RX5 = some m.cls := findClass_of_methodNamed B.named
  have hlocks := B.notSynchronized
  have hS : va_S (xA G) s.heap s.heap [] := va_S.rf
  have hiX5 : ∀ w ∈ u_ws RX5 TX5 20, w ∈ wsX5_state := by decide +kernel
  have hf46 := hts (Cond.fieldLink RX5 46 "VariantMillModel" "state" "[I") (by decide +kernel)
  have hl := lv_entry ([.ref o, .int a0]) (n := 2) (Nat.le_of_ble_eq_true rfl)
  rw [lg_entry_eq]
  generalize (lg_sl ([.ref o, .int a0]) ++ List.replicate (2 - (lg_sl ([.ref o, .int a0])).length) Slot.unset).toArray = ls at hl ⊢
  have hl : lv_has ls 2 [(0, .ref o), (1, .int a0)] := hl
  obtain ⟨H, hH⟩ : ∃ z, z = s.heap := ⟨_, rfl⟩
  rw [← hH] at hW
  have hS : va_S (xA G) s.heap H [] := by rw [hH]; exact hS
  rw [← hH]
  have hFr : xFr tM E E := xFr_rf
  refine lv_aload_n hx hb dX5_state_0 rfl (lv_at hl 0 rfl) ?_
  refine lv_aload_n hx hb dX5_state_1 rfl (lv_at hl 0 rfl) ?_
  refine lv_iload_n hx hb dX5_state_2 rfl (lv_at hl 1 rfl) ?_
  refine x_callSe (va_runV (As := [.int a0]) (rest := [.ref o]) ⟨hx, hb, hml, hown, hts⟩ (kX5_isGame l G _ (σ) o a0 A hM) (cwV 1 hts gX5_state_X5_isGame rfl rfl rfl (by decide +kernel) ⟨Nat.le_of_ble_eq_true rfl, Nat.le_of_ble_eq_true rfl⟩) (x_preV hX hS hW hM.1 rfl) rfl rfl hl.1 rfl (lv_room (Nat.le_of_ble_eq_true rfl)) dX5_state_3 ⟨Nat.le_of_ble_eq_true rfl, Nat.le_of_ble_eq_true rfl⟩) ?_
  refine va_calli (va_runV (As := [.int (zI (fX5_isGame (σ) a0))]) (rest := []) ⟨hx, hb, hml, hown, hts⟩ (kX5_asks l G _ (σ) o (fX5_isGame (σ) a0) A hM hA) (cwV 1 hts gX5_state_X5_asks rfl rfl rfl (by decide +kernel) ⟨Nat.le_of_ble_eq_true rfl, Nat.le_of_ble_eq_true rfl⟩) (x_preV hX hS hW hM.1 rfl) rfl rfl hl.1 rfl (lv_room (Nat.le_of_ble_eq_true rfl)) dX5_state_6 ⟨Nat.le_of_ble_eq_true rfl, Nat.le_of_ble_eq_true rfl⟩) hS (fun _ _ h => h) (fun _ h => h) (fun r2 E1 t H1 locs1 ht hvm hw hB hz1 hk1 hS1 => ?_)
  rw [ht] at hB
  have hS := hS1
  obtain ⟨hrA3, ⟨A3, hMA3, hAA3, htA3⟩, hFrA3⟩ := hw
  have hFr := hFr.trans hFrA3
  have hW : xW G E1 H1 := hB
  subst hrA3
  refine x_ifz_eq (b := fX5_isGame (σ) a0) (tgt := 21) hx hb dX5_state_9 (by decide) (fun c_4 => ?_) (fun c_4 => ?_)
  · have hzA3 := htA3.trans (if_neg (Bool.eq_false_iff.mp c_4))
    refine lv_iconst (v := 0) hx hb dX5_state_21 (by decide) ?_
    exact W.widen (k := 0) (n := 0) (Nat.le_of_ble_eq_true rfl) (Nat.le_of_ble_eq_true rfl) (W.iret (v := 0) hx hb hr (fun t ht hw => ⟨⟨_, E1, rfl, ⟨((0 : Int32), 1), (show _ = (((0 : Int32), 1) : Int32 × Nat) from by unfold mX5_state; rw [if_neg (Bool.eq_false_iff.mp c_4)]), rfl, (show xMd G E1 o (σ) 1 from ⟨A3, hMA3, hAA3, hzA3⟩), hFr⟩, (show xW G E1 t.heap from by rw [ht]; exact hW)⟩, hS.F ht⟩) hS.2.2 dX5_state_22)
  · have hzA3 := htA3.trans (if_pos c_4)
    obtain ⟨u, hau, hu⟩ := x_mG hI (c_4)
    subst hau
    obtain ⟨d, v, hG, hvl, hop⟩ := hI.2.2.2.2.2 u hu
    have hC := hI.1
    have hUu : (nI u).toNatClampNeg = u := nI_clamp (by have := hG.1; omega)
    have hDd : (σ 16 u).toNatClampNeg = d := by rw [hG.2.1]; exact nI_clamp (by have := hG.2.2.1; omega)
    have hVv : (σ 11 u).toNatClampNeg = v := by rw [hG.2.2.2.1]; exact nI_clamp (by have := hG.2.2.2.2; omega)
    have hu4 : v < 4 := hG.2.2.2.2
    refine lv_aload_n hx hb dX5_state_12 rfl (lv_at hl 0 rfl) ?_
    refine va_get (D := G.1) (ci := 5) (v := .ref (A3 15)) (C := RX5) (T := TX5) (N := 20) hx hb hts hiX5 hown hX.1 (x1 hW hMA3.1) 0 rfl rfl 15 (by decide) hf46 (fun _ h9 => h9) rfl dX5_state_13 ?_
    refine lv_iload_n hx hb dX5_state_16 rfl (lv_at hl 1 rfl) ?_
    refine x_ild (k := u) hx hb hX.1 hW hMA3.2.2.2.2.2.2.2.2.2.2.2.2.2.1 (vp_in_nI hG.1 (by omega)) (nI_clamp (by have := hG.1; omega)) dX5_state_17 ?_
    refine lv_goto (tgt := 22) hx hb dX5_state_18 (by decide) ?_
    exact W.widen (k := 0) (n := 0) (Nat.le_of_ble_eq_true rfl) (Nat.le_of_ble_eq_true rfl) (W.iret (v := σ 15 u) hx hb hr (fun t ht hw => ⟨⟨_, E1, rfl, ⟨(σ 15 u, 0), (show _ = ((σ 15 u, 0) : Int32 × Nat) from by rw [hUu, hDd, hVv]; unfold mX5_state; rw [if_pos c_4]), rfl, (show xMd G E1 o (σ) 0 from ⟨A3, hMA3, hAA3, hzA3⟩), hFr⟩, (show xW G E1 t.heap from by rw [ht]; exact hW)⟩, hS.F ht⟩) hS.2.2 dX5_state_22)

def mX5_made (σ : xSg) (u d v : Nat) (a0 : Int32) : Int32 × Nat := if (fX5_isGame (σ) a0) = true then ((σ 16 u, 0)) else (((0 : Int32), 1))
set_option maxHeartbeats 4000000 in
set_option maxRecDepth 100000 in
theorem kX5_made (l : Launch) (G : xG) (E : xE) (σ : xSg) (o : Nat) (a0 : Int32) (A : Nat → Nat) (hM : xMod G E o A σ) (hA : xAi A) (nC nV nG : Nat) (hI : xMi σ nC nV nG) : Met l yX5_made wsX5_made ({ frames := 1, cells := 0, slots := 0, locals := 21 }) (va_Pc [.ref o, .int a0] (xB G E)) (va_Qi (S := xE) (fun r E' => ∃ q : Int32 × Nat, mX5_made σ (a0.toNatClampNeg) ((σ 16 a0.toNatClampNeg).toNatClampNeg) ((σ 11 a0.toNatClampNeg).toNatClampNeg) a0 = q ∧ r = q.1 ∧ xMd G E' o (σ) q.2 ∧ xFr tM E E') (fun E' t => xW G E' t.heap) (xA G)) 0 0 (xA G) := by
  refine Met.ofW (cc := cX5_made) (maxL := 2) (ret := (some .int)) (by decide) rfl ?_
  intro p e s m args below meth c s₁ B hml hv
  obtain ⟨rfl, hX, hW⟩ := hv
  have hx := B.exec
  have hb := B.bytes
  have hr := B.returns
  have hts := atoms_spec (ws := wsX5_made) B.pre
  have hown : s.vm.findClass RX5 = some m.cls := findClass_of_methodNamed B.named
  have hlocks := B.notSynchronized
  have hS : va_S (xA G) s.heap s.heap [] := va_S.rf
  have hiX5 : ∀ w ∈ u_ws RX5 TX5 20, w ∈ wsX5_made := by decide +kernel
  have hf49 := hts (Cond.fieldLink RX5 49 "VariantMillModel" "made" "[I") (by decide +kernel)
  have hl := lv_entry ([.ref o, .int a0]) (n := 2) (Nat.le_of_ble_eq_true rfl)
  rw [lg_entry_eq]
  generalize (lg_sl ([.ref o, .int a0]) ++ List.replicate (2 - (lg_sl ([.ref o, .int a0])).length) Slot.unset).toArray = ls at hl ⊢
  have hl : lv_has ls 2 [(0, .ref o), (1, .int a0)] := hl
  obtain ⟨H, hH⟩ : ∃ z, z = s.heap := ⟨_, rfl⟩
  rw [← hH] at hW
  have hS : va_S (xA G) s.heap H [] := by rw [hH]; exact hS
  rw [← hH]
  have hFr : xFr tM E E := xFr_rf
  refine lv_aload_n hx hb dX5_made_0 rfl (lv_at hl 0 rfl) ?_
  refine lv_aload_n hx hb dX5_made_1 rfl (lv_at hl 0 rfl) ?_
  refine lv_iload_n hx hb dX5_made_2 rfl (lv_at hl 1 rfl) ?_
  refine x_callSe (va_runV (As := [.int a0]) (rest := [.ref o]) ⟨hx, hb, hml, hown, hts⟩ (kX5_isGame l G _ (σ) o a0 A hM) (cwV 1 hts gX5_made_X5_isGame rfl rfl rfl (by decide +kernel) ⟨Nat.le_of_ble_eq_true rfl, Nat.le_of_ble_eq_true rfl⟩) (x_preV hX hS hW hM.1 rfl) rfl rfl hl.1 rfl (lv_room (Nat.le_of_ble_eq_true rfl)) dX5_made_3 ⟨Nat.le_of_ble_eq_true rfl, Nat.le_of_ble_eq_true rfl⟩) ?_
  refine va_calli (va_runV (As := [.int (zI (fX5_isGame (σ) a0))]) (rest := []) ⟨hx, hb, hml, hown, hts⟩ (kX5_asks l G _ (σ) o (fX5_isGame (σ) a0) A hM hA) (cwV 1 hts gX5_made_X5_asks rfl rfl rfl (by decide +kernel) ⟨Nat.le_of_ble_eq_true rfl, Nat.le_of_ble_eq_true rfl⟩) (x_preV hX hS hW hM.1 rfl) rfl rfl hl.1 rfl (lv_room (Nat.le_of_ble_eq_true rfl)) dX5_made_6 ⟨Nat.le_of_ble_eq_true rfl, Nat.le_of_ble_eq_true rfl⟩) hS (fun _ _ h => h) (fun _ h => h) (fun r2 E1 t H1 locs1 ht hvm hw hB hz1 hk1 hS1 => ?_)
  rw [ht] at hB
  have hS := hS1
  obtain ⟨hrA3, ⟨A3, hMA3, hAA3, htA3⟩, hFrA3⟩ := hw
  have hFr := hFr.trans hFrA3
  have hW : xW G E1 H1 := hB
  subst hrA3
  refine x_ifz_eq (b := fX5_isGame (σ) a0) (tgt := 21) hx hb dX5_made_9 (by decide) (fun c_4 => ?_) (fun c_4 => ?_)
  · have hzA3 := htA3.trans (if_neg (Bool.eq_false_iff.mp c_4))
    refine lv_iconst (v := 0) hx hb dX5_made_21 (by decide) ?_
    exact W.widen (k := 0) (n := 0) (Nat.le_of_ble_eq_true rfl) (Nat.le_of_ble_eq_true rfl) (W.iret (v := 0) hx hb hr (fun t ht hw => ⟨⟨_, E1, rfl, ⟨((0 : Int32), 1), (show _ = (((0 : Int32), 1) : Int32 × Nat) from by unfold mX5_made; rw [if_neg (Bool.eq_false_iff.mp c_4)]), rfl, (show xMd G E1 o (σ) 1 from ⟨A3, hMA3, hAA3, hzA3⟩), hFr⟩, (show xW G E1 t.heap from by rw [ht]; exact hW)⟩, hS.F ht⟩) hS.2.2 dX5_made_22)
  · have hzA3 := htA3.trans (if_pos c_4)
    obtain ⟨u, hau, hu⟩ := x_mG hI (c_4)
    subst hau
    obtain ⟨d, v, hG, hvl, hop⟩ := hI.2.2.2.2.2 u hu
    have hC := hI.1
    have hUu : (nI u).toNatClampNeg = u := nI_clamp (by have := hG.1; omega)
    have hDd : (σ 16 u).toNatClampNeg = d := by rw [hG.2.1]; exact nI_clamp (by have := hG.2.2.1; omega)
    have hVv : (σ 11 u).toNatClampNeg = v := by rw [hG.2.2.2.1]; exact nI_clamp (by have := hG.2.2.2.2; omega)
    have hu4 : v < 4 := hG.2.2.2.2
    refine lv_aload_n hx hb dX5_made_12 rfl (lv_at hl 0 rfl) ?_
    refine va_get (D := G.1) (ci := 5) (v := .ref (A3 16)) (C := RX5) (T := TX5) (N := 20) hx hb hts hiX5 hown hX.1 (x1 hW hMA3.1) 0 rfl rfl 16 (by decide) hf49 (fun _ h9 => h9) rfl dX5_made_13 ?_
    refine lv_iload_n hx hb dX5_made_16 rfl (lv_at hl 1 rfl) ?_
    refine x_ild (k := u) hx hb hX.1 hW hMA3.2.2.2.2.2.2.2.2.2.2.2.2.2.2.1 (vp_in_nI hG.1 (by omega)) (nI_clamp (by have := hG.1; omega)) dX5_made_17 ?_
    refine lv_goto (tgt := 22) hx hb dX5_made_18 (by decide) ?_
    exact W.widen (k := 0) (n := 0) (Nat.le_of_ble_eq_true rfl) (Nat.le_of_ble_eq_true rfl) (W.iret (v := σ 16 u) hx hb hr (fun t ht hw => ⟨⟨_, E1, rfl, ⟨(σ 16 u, 0), (show _ = ((σ 16 u, 0) : Int32 × Nat) from by rw [hUu, hDd, hVv]; unfold mX5_made; rw [if_pos c_4]), rfl, (show xMd G E1 o (σ) 0 from ⟨A3, hMA3, hAA3, hzA3⟩), hFr⟩, (show xW G E1 t.heap from by rw [ht]; exact hW)⟩, hS.F ht⟩) hS.2.2 dX5_made_22)

def mX5_pieces (σ : xSg) (u d v : Nat) (a0 : Int32) (a1 : Bool) : Int32 × Nat := if (fX5_isGame (σ) a0) = true then (if a1 = true then ((σ 18 (61 * u + d), 0)) else ((σ 17 (61 * u + d), 0))) else (((0 : Int32), 1))
set_option maxHeartbeats 4000000 in
set_option maxRecDepth 100000 in
theorem kX5_pieces (l : Launch) (G : xG) (E : xE) (σ : xSg) (o : Nat) (a0 : Int32) (a1 : Bool) (A : Nat → Nat) (hM : xMod G E o A σ) (hA : xAi A) (nC nV nG : Nat) (hI : xMi σ nC nV nG) : Met l yX5_pieces wsX5_pieces ({ frames := 1, cells := 0, slots := 0, locals := 21 }) (va_Pc [.ref o, .int a0, .int (zI a1)] (xB G E)) (va_Qi (S := xE) (fun r E' => ∃ q : Int32 × Nat, mX5_pieces σ (a0.toNatClampNeg) ((σ 16 a0.toNatClampNeg).toNatClampNeg) ((σ 11 a0.toNatClampNeg).toNatClampNeg) a0 a1 = q ∧ r = q.1 ∧ xMd G E' o (σ) q.2 ∧ xFr tM E E') (fun E' t => xW G E' t.heap) (xA G)) 0 0 (xA G) := by
  refine Met.ofW (cc := cX5_pieces) (maxL := 3) (ret := (some .int)) (by decide) rfl ?_
  intro p e s m args below meth c s₁ B hml hv
  obtain ⟨rfl, hX, hW⟩ := hv
  have hx := B.exec
  have hb := B.bytes
  have hr := B.returns
  have hts := atoms_spec (ws := wsX5_pieces) B.pre
  have hown : s.vm.findClass RX5 = some m.cls := findClass_of_methodNamed B.named
  have hlocks := B.notSynchronized
  have hS : va_S (xA G) s.heap s.heap [] := va_S.rf
  have hiX5 : ∀ w ∈ u_ws RX5 TX5 20, w ∈ wsX5_pieces := by decide +kernel
  have hf52 := hts (Cond.fieldLink RX5 52 "VariantMillModel" "ones" "[I") (by decide +kernel)
  have hf55 := hts (Cond.fieldLink RX5 55 "VariantMillModel" "others" "[I") (by decide +kernel)
  have hl := lv_entry ([.ref o, .int a0, .int (zI a1)]) (n := 3) (Nat.le_of_ble_eq_true rfl)
  rw [lg_entry_eq]
  generalize (lg_sl ([.ref o, .int a0, .int (zI a1)]) ++ List.replicate (3 - (lg_sl ([.ref o, .int a0, .int (zI a1)])).length) Slot.unset).toArray = ls at hl ⊢
  have hl : lv_has ls 3 [(0, .ref o), (1, .int a0), (2, .int (zI a1))] := hl
  obtain ⟨H, hH⟩ : ∃ z, z = s.heap := ⟨_, rfl⟩
  rw [← hH] at hW
  have hS : va_S (xA G) s.heap H [] := by rw [hH]; exact hS
  rw [← hH]
  have hFr : xFr tM E E := xFr_rf
  refine lv_aload_n hx hb dX5_pieces_0 rfl (lv_at hl 0 rfl) ?_
  refine lv_aload_n hx hb dX5_pieces_1 rfl (lv_at hl 0 rfl) ?_
  refine lv_iload_n hx hb dX5_pieces_2 rfl (lv_at hl 1 rfl) ?_
  refine x_callSe (va_runV (As := [.int a0]) (rest := [.ref o]) ⟨hx, hb, hml, hown, hts⟩ (kX5_isGame l G _ (σ) o a0 A hM) (cwV 1 hts gX5_pieces_X5_isGame rfl rfl rfl (by decide +kernel) ⟨Nat.le_of_ble_eq_true rfl, Nat.le_of_ble_eq_true rfl⟩) (x_preV hX hS hW hM.1 rfl) rfl rfl hl.1 rfl (lv_room (Nat.le_of_ble_eq_true rfl)) dX5_pieces_3 ⟨Nat.le_of_ble_eq_true rfl, Nat.le_of_ble_eq_true rfl⟩) ?_
  refine va_calli (va_runV (As := [.int (zI (fX5_isGame (σ) a0))]) (rest := []) ⟨hx, hb, hml, hown, hts⟩ (kX5_asks l G _ (σ) o (fX5_isGame (σ) a0) A hM hA) (cwV 1 hts gX5_pieces_X5_asks rfl rfl rfl (by decide +kernel) ⟨Nat.le_of_ble_eq_true rfl, Nat.le_of_ble_eq_true rfl⟩) (x_preV hX hS hW hM.1 rfl) rfl rfl hl.1 rfl (lv_room (Nat.le_of_ble_eq_true rfl)) dX5_pieces_6 ⟨Nat.le_of_ble_eq_true rfl, Nat.le_of_ble_eq_true rfl⟩) hS (fun _ _ h => h) (fun _ h => h) (fun r2 E1 t H1 locs1 ht hvm hw hB hz1 hk1 hS1 => ?_)
  rw [ht] at hB
  have hS := hS1
  obtain ⟨hrA3, ⟨A3, hMA3, hAA3, htA3⟩, hFrA3⟩ := hw
  have hFr := hFr.trans hFrA3
  have hW : xW G E1 H1 := hB
  subst hrA3
  refine x_ifz_ne (b := fX5_isGame (σ) a0) (tgt := 14) hx hb dX5_pieces_9 (by decide) (fun c_4 => ?_) (fun c_4 => ?_)
  · have hzA3 := htA3.trans (if_pos c_4)
    obtain ⟨u, hau, hu⟩ := x_mG hI (c_4)
    subst hau
    obtain ⟨d, v, hG, hvl, hop⟩ := hI.2.2.2.2.2 u hu
    have hC := hI.1
    have hUu : (nI u).toNatClampNeg = u := nI_clamp (by have := hG.1; omega)
    have hDd : (σ 16 u).toNatClampNeg = d := by rw [hG.2.1]; exact nI_clamp (by have := hG.2.2.1; omega)
    have hVv : (σ 11 u).toNatClampNeg = v := by rw [hG.2.2.2.1]; exact nI_clamp (by have := hG.2.2.2.2; omega)
    have hu4 : v < 4 := hG.2.2.2.2
    refine lv_iload_n hx hb dX5_pieces_14 rfl (lv_at hl 2 rfl) ?_
    refine x_ifz_eq (b := a1) (tgt := 31) hx hb dX5_pieces_15 (by decide) (fun c_5 => ?_) (fun c_5 => ?_)
    · refine lv_aload_n hx hb dX5_pieces_31 rfl (lv_at hl 0 rfl) ?_
      refine va_get (D := G.1) (ci := 5) (v := .ref (A3 17)) (C := RX5) (T := TX5) (N := 20) hx hb hts hiX5 hown hX.1 (x1 hW hMA3.1) 0 rfl rfl 17 (by decide) hf52 (fun _ h9 => h9) rfl dX5_pieces_32 ?_
      refine lv_aload_n hx hb dX5_pieces_35 rfl (lv_at hl 0 rfl) ?_
      refine lv_iload_n hx hb dX5_pieces_36 rfl (lv_at hl 1 rfl) ?_
      refine x_callSe (va_runV (As := [.int (nI u)]) (rest := [.ref (A3 17)]) ⟨hx, hb, hml, hown, hts⟩ (kX5_at l G _ (σ) d v o u A3 hMA3 hG) (cwV 1 hts gX5_pieces_X5_at rfl rfl rfl (by decide +kernel) ⟨Nat.le_of_ble_eq_true rfl, Nat.le_of_ble_eq_true rfl⟩) (x_preV hX hS hW hMA3.1 rfl) rfl rfl hl.1 rfl (lv_room (Nat.le_of_ble_eq_true rfl)) dX5_pieces_37 ⟨Nat.le_of_ble_eq_true rfl, Nat.le_of_ble_eq_true rfl⟩) ?_
      refine x_ild (k := 61 * u + d) hx hb hX.1 hW hMA3.2.2.2.2.2.2.2.2.2.2.2.2.2.2.2.1 ((x_atI hG).1) ((x_atI hG).2) dX5_pieces_40 ?_
      exact W.widen (k := 0) (n := 0) (Nat.le_of_ble_eq_true rfl) (Nat.le_of_ble_eq_true rfl) (W.iret (v := σ 17 (61 * u + d)) hx hb hr (fun t ht hw => ⟨⟨_, E1, rfl, ⟨(σ 17 (61 * u + d), 0), (show _ = ((σ 17 (61 * u + d), 0) : Int32 × Nat) from by rw [hUu, hDd, hVv]; unfold mX5_pieces; rw [if_pos c_4, if_neg (Bool.eq_false_iff.mp c_5)]), rfl, (show xMd G E1 o (σ) 0 from ⟨A3, hMA3, hAA3, hzA3⟩), hFr⟩, (show xW G E1 t.heap from by rw [ht]; exact hW)⟩, hS.F ht⟩) hS.2.2 dX5_pieces_41)
    · refine lv_aload_n hx hb dX5_pieces_18 rfl (lv_at hl 0 rfl) ?_
      refine va_get (D := G.1) (ci := 5) (v := .ref (A3 18)) (C := RX5) (T := TX5) (N := 20) hx hb hts hiX5 hown hX.1 (x1 hW hMA3.1) 0 rfl rfl 18 (by decide) hf55 (fun _ h9 => h9) rfl dX5_pieces_19 ?_
      refine lv_aload_n hx hb dX5_pieces_22 rfl (lv_at hl 0 rfl) ?_
      refine lv_iload_n hx hb dX5_pieces_23 rfl (lv_at hl 1 rfl) ?_
      refine x_callSe (va_runV (As := [.int (nI u)]) (rest := [.ref (A3 18)]) ⟨hx, hb, hml, hown, hts⟩ (kX5_at l G _ (σ) d v o u A3 hMA3 hG) (cwV 1 hts gX5_pieces_X5_at rfl rfl rfl (by decide +kernel) ⟨Nat.le_of_ble_eq_true rfl, Nat.le_of_ble_eq_true rfl⟩) (x_preV hX hS hW hMA3.1 rfl) rfl rfl hl.1 rfl (lv_room (Nat.le_of_ble_eq_true rfl)) dX5_pieces_24 ⟨Nat.le_of_ble_eq_true rfl, Nat.le_of_ble_eq_true rfl⟩) ?_
      refine x_ild (k := 61 * u + d) hx hb hX.1 hW hMA3.2.2.2.2.2.2.2.2.2.2.2.2.2.2.2.2 ((x_atI hG).1) ((x_atI hG).2) dX5_pieces_27 ?_
      refine lv_goto (tgt := 41) hx hb dX5_pieces_28 (by decide) ?_
      exact W.widen (k := 0) (n := 0) (Nat.le_of_ble_eq_true rfl) (Nat.le_of_ble_eq_true rfl) (W.iret (v := σ 18 (61 * u + d)) hx hb hr (fun t ht hw => ⟨⟨_, E1, rfl, ⟨(σ 18 (61 * u + d), 0), (show _ = ((σ 18 (61 * u + d), 0) : Int32 × Nat) from by rw [hUu, hDd, hVv]; unfold mX5_pieces; rw [if_pos c_4, if_pos c_5]), rfl, (show xMd G E1 o (σ) 0 from ⟨A3, hMA3, hAA3, hzA3⟩), hFr⟩, (show xW G E1 t.heap from by rw [ht]; exact hW)⟩, hS.F ht⟩) hS.2.2 dX5_pieces_41)
  · have hzA3 := htA3.trans (if_neg (Bool.eq_false_iff.mp c_4))
    refine lv_iconst (v := 0) hx hb dX5_pieces_12 (by decide) ?_
    exact W.widen (k := 0) (n := 0) (Nat.le_of_ble_eq_true rfl) (Nat.le_of_ble_eq_true rfl) (W.iret (v := 0) hx hb hr (fun t ht hw => ⟨⟨_, E1, rfl, ⟨((0 : Int32), 1), (show _ = (((0 : Int32), 1) : Int32 × Nat) from by unfold mX5_pieces; rw [if_neg (Bool.eq_false_iff.mp c_4)]), rfl, (show xMd G E1 o (σ) 1 from ⟨A3, hMA3, hAA3, hzA3⟩), hFr⟩, (show xW G E1 t.heap from by rw [ht]; exact hW)⟩, hS.F ht⟩) hS.2.2 dX5_pieces_13)

def mX5_can (σ : xSg) (u d v : Nat) (a0 a1 a2 : Int32) : Int32 × Nat := if (if (fX5_isGame (σ) a0) = true then (if (fX5_isCell a1) = true then (if (fX5_isCell a2) = true then (true) else (false)) else (false)) else (false)) = true then (if (fX5_canNow (σ) d v u a1 a2) = true then (((1 : Int32), 0)) else (((0 : Int32), 0))) else (((0 : Int32), 1))
set_option maxHeartbeats 4000000 in
set_option maxRecDepth 100000 in
theorem kX5_can (l : Launch) (G : xG) (E : xE) (σ : xSg) (o : Nat) (a0 : Int32) (a1 : Int32) (a2 : Int32) (A : Nat → Nat) (hM : xMod G E o A σ) (hA : xAi A) (nC nV nG : Nat) (hI : xMi σ nC nV nG) : Met l yX5_can wsX5_can ({ frames := 4, cells := 0, slots := 0, locals := 108 }) (va_Pc [.ref o, .int a0, .int a1, .int a2] (xB G E)) (va_Qi (S := xE) (fun r E' => ∃ q : Int32 × Nat, mX5_can σ (a0.toNatClampNeg) ((σ 16 a0.toNatClampNeg).toNatClampNeg) ((σ 11 a0.toNatClampNeg).toNatClampNeg) a0 a1 a2 = q ∧ r = q.1 ∧ xMd G E' o (σ) q.2 ∧ xFr tM E E') (fun E' t => xW G E' t.heap) (xA G)) 0 0 (xA G) := by
  refine Met.ofW (cc := cX5_can) (maxL := 4) (ret := (some .boolean)) (by decide) rfl ?_
  intro p e s m args below meth c s₁ B hml hv
  obtain ⟨rfl, hX, hW⟩ := hv
  have hx := B.exec
  have hb := B.bytes
  have hr := B.returns
  have hts := atoms_spec (ws := wsX5_can) B.pre
  have hown : s.vm.findClass RX5 = some m.cls := findClass_of_methodNamed B.named
  have hlocks := B.notSynchronized
  have hS : va_S (xA G) s.heap s.heap [] := va_S.rf
  have hl := lv_entry ([.ref o, .int a0, .int a1, .int a2]) (n := 4) (Nat.le_of_ble_eq_true rfl)
  rw [lg_entry_eq]
  generalize (lg_sl ([.ref o, .int a0, .int a1, .int a2]) ++ List.replicate (4 - (lg_sl ([.ref o, .int a0, .int a1, .int a2])).length) Slot.unset).toArray = ls at hl ⊢
  have hl : lv_has ls 4 [(0, .ref o), (1, .int a0), (2, .int a1), (3, .int a2)] := hl
  obtain ⟨H, hH⟩ : ∃ z, z = s.heap := ⟨_, rfl⟩
  rw [← hH] at hW
  have hS : va_S (xA G) s.heap H [] := by rw [hH]; exact hS
  rw [← hH]
  have hFr : xFr tM E E := xFr_rf
  refine lv_aload_n hx hb dX5_can_0 rfl (lv_at hl 0 rfl) ?_
  refine lv_aload_n hx hb dX5_can_1 rfl (lv_at hl 0 rfl) ?_
  refine lv_iload_n hx hb dX5_can_2 rfl (lv_at hl 1 rfl) ?_
  refine x_callSe (va_runV (As := [.int a0]) (rest := [.ref o]) ⟨hx, hb, hml, hown, hts⟩ (kX5_isGame l G _ (σ) o a0 A hM) (cwV 1 hts gX5_can_X5_isGame rfl rfl rfl (by decide +kernel) ⟨Nat.le_of_ble_eq_true rfl, Nat.le_of_ble_eq_true rfl⟩) (x_preV hX hS hW hM.1 rfl) rfl rfl hl.1 rfl (lv_room (Nat.le_of_ble_eq_true rfl)) dX5_can_3 ⟨Nat.le_of_ble_eq_true rfl, Nat.le_of_ble_eq_true rfl⟩) ?_
  refine x_join (ls' := ls) (rest' := [.ref o]) 28 (zI (if (fX5_isGame (σ) a0) = true then (if (fX5_isCell a1) = true then (if (fX5_isCell a2) = true then (true) else (false)) else (false)) else (false))) (fun v ev => ?_) (fun J => ?_)
  · subst ev
    refine va_calli (va_runV (As := [.int (zI (if (fX5_isGame (σ) a0) = true then (if (fX5_isCell a1) = true then (if (fX5_isCell a2) = true then (true) else (false)) else (false)) else (false)))]) (rest := []) ⟨hx, hb, hml, hown, hts⟩ (kX5_asks l G _ (σ) o (if (fX5_isGame (σ) a0) = true then (if (fX5_isCell a1) = true then (if (fX5_isCell a2) = true then (true) else (false)) else (false)) else (false)) A hM hA) (cwV 1 hts gX5_can_X5_asks rfl rfl rfl (by decide +kernel) ⟨Nat.le_of_ble_eq_true rfl, Nat.le_of_ble_eq_true rfl⟩) (x_preV hX hS hW hM.1 rfl) rfl rfl hl.1 rfl (lv_room (Nat.le_of_ble_eq_true rfl)) dX5_can_28 ⟨Nat.le_of_ble_eq_true rfl, Nat.le_of_ble_eq_true rfl⟩) hS (fun _ _ h => h) (fun _ h => h) (fun r5 E4 t H1 locs1 ht hvm hw hB hz1 hk1 hS1 => ?_)
    rw [ht] at hB
    have hS := hS1
    obtain ⟨hrA6, ⟨A6, hMA6, hAA6, htA6⟩, hFrA6⟩ := hw
    have hFr := hFr.trans hFrA6
    have hW : xW G E4 H1 := hB
    subst hrA6
    refine x_ifz_eq (b := (if (fX5_isGame (σ) a0) = true then (if (fX5_isCell a1) = true then (if (fX5_isCell a2) = true then (true) else (false)) else (false)) else (false))) (tgt := 48) hx hb dX5_can_31 (by decide) (fun c_7 => ?_) (fun c_7 => ?_)
    · have hzA6 := htA6.trans (if_neg (Bool.eq_false_iff.mp c_7))
      refine lv_iconst (v := 0) hx hb dX5_can_48 (by decide) ?_
      exact W.widen (k := 0) (n := 0) (Nat.le_of_ble_eq_true rfl) (Nat.le_of_ble_eq_true rfl) (W.zret (v := 0) hx hb hr rfl (fun t ht hw => ⟨⟨_, E4, rfl, ⟨((0 : Int32), 1), (show _ = (((0 : Int32), 1) : Int32 × Nat) from by unfold mX5_can; rw [if_neg (Bool.eq_false_iff.mp c_7)]), rfl, (show xMd G E4 o (σ) 1 from ⟨A6, hMA6, hAA6, hzA6⟩), hFr⟩, (show xW G E4 t.heap from by rw [ht]; exact hW)⟩, hS.F ht⟩) hS.2.2 dX5_can_49)
    · have hzA6 := htA6.trans (if_pos c_7)
      obtain ⟨u, hau, hu⟩ := x_mG hI (x_if1 c_7)
      subst hau
      obtain ⟨d, v, hG, hvl, hop⟩ := hI.2.2.2.2.2 u hu
      have hC := hI.1
      have hUu : (nI u).toNatClampNeg = u := nI_clamp (by have := hG.1; omega)
      have hDd : (σ 16 u).toNatClampNeg = d := by rw [hG.2.1]; exact nI_clamp (by have := hG.2.2.1; omega)
      have hVv : (σ 11 u).toNatClampNeg = v := by rw [hG.2.2.2.1]; exact nI_clamp (by have := hG.2.2.2.2; omega)
      have hu4 : v < 4 := hG.2.2.2.2
      refine lv_aload_n hx hb dX5_can_34 rfl (lv_at hl 0 rfl) ?_
      refine lv_iload_n hx hb dX5_can_35 rfl (lv_at hl 1 rfl) ?_
      refine lv_iload_n hx hb dX5_can_36 rfl (lv_at hl 2 rfl) ?_
      refine lv_iload_n hx hb dX5_can_37 rfl (lv_at hl 3 rfl) ?_
      refine x_callSe (va_runV (As := [.int (nI u), .int a1, .int a2]) (rest := []) ⟨hx, hb, hml, hown, hts⟩ (kX5_canNow l G _ (σ) d v o u a1 a2 A6 hMA6 hG nC hC) (cwV 3 hts gX5_can_X5_canNow rfl rfl rfl (by decide +kernel) ⟨Nat.le_of_ble_eq_true rfl, Nat.le_of_ble_eq_true rfl⟩) (x_preV hX hS hW hMA6.1 rfl) rfl rfl hl.1 rfl (lv_room (Nat.le_of_ble_eq_true rfl)) dX5_can_38 ⟨Nat.le_of_ble_eq_true rfl, Nat.le_of_ble_eq_true rfl⟩) ?_
      refine x_ifz_eq (b := fX5_canNow (σ) d v u a1 a2) (tgt := 48) hx hb dX5_can_41 (by decide) (fun c_8 => ?_) (fun c_8 => ?_)
      · refine lv_iconst (v := 0) hx hb dX5_can_48 (by decide) ?_
        exact W.widen (k := 0) (n := 0) (Nat.le_of_ble_eq_true rfl) (Nat.le_of_ble_eq_true rfl) (W.zret (v := 0) hx hb hr rfl (fun t ht hw => ⟨⟨_, E4, rfl, ⟨((0 : Int32), 0), (show _ = (((0 : Int32), 0) : Int32 × Nat) from by rw [hUu, hDd, hVv]; unfold mX5_can; rw [if_pos c_7, if_neg (Bool.eq_false_iff.mp c_8)]), rfl, (show xMd G E4 o (σ) 0 from ⟨A6, hMA6, hAA6, hzA6⟩), hFr⟩, (show xW G E4 t.heap from by rw [ht]; exact hW)⟩, hS.F ht⟩) hS.2.2 dX5_can_49)
      · refine lv_iconst (v := 1) hx hb dX5_can_44 (by decide) ?_
        refine lv_goto (tgt := 49) hx hb dX5_can_45 (by decide) ?_
        exact W.widen (k := 0) (n := 0) (Nat.le_of_ble_eq_true rfl) (Nat.le_of_ble_eq_true rfl) (W.zret (v := 1) hx hb hr rfl (fun t ht hw => ⟨⟨_, E4, rfl, ⟨((1 : Int32), 0), (show _ = (((1 : Int32), 0) : Int32 × Nat) from by rw [hUu, hDd, hVv]; unfold mX5_can; rw [if_pos c_7, if_pos c_8]), rfl, (show xMd G E4 o (σ) 0 from ⟨A6, hMA6, hAA6, hzA6⟩), hFr⟩, (show xW G E4 t.heap from by rw [ht]; exact hW)⟩, hS.F ht⟩) hS.2.2 dX5_can_49)
  · refine x_ifz_eq (b := fX5_isGame (σ) a0) (tgt := 27) hx hb dX5_can_6 (by decide) (fun c_1 => ?_) (fun c_1 => ?_)
    · refine lv_iconst (v := 0) hx hb dX5_can_27 (by decide) ?_
      exact J _ (congrArg zI (show false = if (fX5_isGame (σ) a0) = true then (if (fX5_isCell a1) = true then (if (fX5_isCell a2) = true then (true) else (false)) else (false)) else (false) from by rw [if_neg (Bool.eq_false_iff.mp c_1)]))
    · refine lv_iload_n hx hb dX5_can_9 rfl (lv_at hl 2 rfl) ?_
      refine x_callSe (va_runS (As := [.int a1]) (rest := [.ref o]) ⟨hx, hb, hml, hown, hts⟩ (kX5_isCell l a1) (va_cwS 1 hts gX5_can_X5_isCell rfl rfl rfl (by decide +kernel) ⟨Nat.le_of_ble_eq_true rfl, Nat.le_of_ble_eq_true rfl⟩) x_preT rfl rfl hl.1 rfl (lv_room (Nat.le_of_ble_eq_true rfl)) dX5_can_10 ⟨Nat.le_of_ble_eq_true rfl, Nat.le_of_ble_eq_true rfl⟩) ?_
      refine x_ifz_eq (b := fX5_isCell a1) (tgt := 27) hx hb dX5_can_13 (by decide) (fun c_2 => ?_) (fun c_2 => ?_)
      · refine lv_iconst (v := 0) hx hb dX5_can_27 (by decide) ?_
        exact J _ (congrArg zI (show false = if (fX5_isGame (σ) a0) = true then (if (fX5_isCell a1) = true then (if (fX5_isCell a2) = true then (true) else (false)) else (false)) else (false) from by rw [if_pos c_1, if_neg (Bool.eq_false_iff.mp c_2)]))
      · refine lv_iload_n hx hb dX5_can_16 rfl (lv_at hl 3 rfl) ?_
        refine x_callSe (va_runS (As := [.int a2]) (rest := [.ref o]) ⟨hx, hb, hml, hown, hts⟩ (kX5_isCell l a2) (va_cwS 1 hts gX5_can_X5_isCell rfl rfl rfl (by decide +kernel) ⟨Nat.le_of_ble_eq_true rfl, Nat.le_of_ble_eq_true rfl⟩) x_preT rfl rfl hl.1 rfl (lv_room (Nat.le_of_ble_eq_true rfl)) dX5_can_17 ⟨Nat.le_of_ble_eq_true rfl, Nat.le_of_ble_eq_true rfl⟩) ?_
        refine x_ifz_eq (b := fX5_isCell a2) (tgt := 27) hx hb dX5_can_20 (by decide) (fun c_3 => ?_) (fun c_3 => ?_)
        · refine lv_iconst (v := 0) hx hb dX5_can_27 (by decide) ?_
          exact J _ (congrArg zI (show false = if (fX5_isGame (σ) a0) = true then (if (fX5_isCell a1) = true then (if (fX5_isCell a2) = true then (true) else (false)) else (false)) else (false) from by rw [if_pos c_1, if_pos c_2, if_neg (Bool.eq_false_iff.mp c_3)]))
        · refine lv_iconst (v := 1) hx hb dX5_can_23 (by decide) ?_
          refine lv_goto (tgt := 28) hx hb dX5_can_24 (by decide) ?_
          exact J _ (congrArg zI (show true = if (fX5_isGame (σ) a0) = true then (if (fX5_isCell a1) = true then (if (fX5_isCell a2) = true then (true) else (false)) else (false)) else (false) from by rw [if_pos c_1, if_pos c_2, if_pos c_3]))

def mX5_canByAll (σ : xSg) (u d v : Nat) (a0 a1 a2 : Int32) : Int32 × Nat := if (if (fX5_isGame (σ) a0) = true then (if (fX5_isCell a1) = true then (if (fX5_isCell a2) = true then (true) else (false)) else (false)) else (false)) = true then (if (fX5_canNow (σ) d v u a1 a2) = true then (((1 : Int32), 0)) else (((0 : Int32), 0))) else (((0 : Int32), 1))
set_option maxHeartbeats 4000000 in
set_option maxRecDepth 100000 in
theorem kX5_canByAll (l : Launch) (G : xG) (E : xE) (σ : xSg) (o : Nat) (a0 : Int32) (a1 : Int32) (a2 : Int32) (A : Nat → Nat) (hM : xMod G E o A σ) (hA : xAi A) (nC nV nG : Nat) (hI : xMi σ nC nV nG) : Met l yX5_canByAll wsX5_canByAll ({ frames := 4, cells := 0, slots := 0, locals := 108 }) (va_Pc [.ref o, .int a0, .int a1, .int a2] (xB G E)) (va_Qi (S := xE) (fun r E' => ∃ q : Int32 × Nat, mX5_canByAll σ (a0.toNatClampNeg) ((σ 16 a0.toNatClampNeg).toNatClampNeg) ((σ 11 a0.toNatClampNeg).toNatClampNeg) a0 a1 a2 = q ∧ r = q.1 ∧ xMd G E' o (σ) q.2 ∧ xFr tM E E') (fun E' t => xW G E' t.heap) (xA G)) 0 0 (xA G) := by
  refine Met.ofW (cc := cX5_canByAll) (maxL := 4) (ret := (some .boolean)) (by decide) rfl ?_
  intro p e s m args below meth c s₁ B hml hv
  obtain ⟨rfl, hX, hW⟩ := hv
  have hx := B.exec
  have hb := B.bytes
  have hr := B.returns
  have hts := atoms_spec (ws := wsX5_canByAll) B.pre
  have hown : s.vm.findClass RX5 = some m.cls := findClass_of_methodNamed B.named
  have hlocks := B.notSynchronized
  have hS : va_S (xA G) s.heap s.heap [] := va_S.rf
  have hl := lv_entry ([.ref o, .int a0, .int a1, .int a2]) (n := 4) (Nat.le_of_ble_eq_true rfl)
  rw [lg_entry_eq]
  generalize (lg_sl ([.ref o, .int a0, .int a1, .int a2]) ++ List.replicate (4 - (lg_sl ([.ref o, .int a0, .int a1, .int a2])).length) Slot.unset).toArray = ls at hl ⊢
  have hl : lv_has ls 4 [(0, .ref o), (1, .int a0), (2, .int a1), (3, .int a2)] := hl
  obtain ⟨H, hH⟩ : ∃ z, z = s.heap := ⟨_, rfl⟩
  rw [← hH] at hW
  have hS : va_S (xA G) s.heap H [] := by rw [hH]; exact hS
  rw [← hH]
  have hFr : xFr tM E E := xFr_rf
  refine lv_aload_n hx hb dX5_canByAll_0 rfl (lv_at hl 0 rfl) ?_
  refine lv_aload_n hx hb dX5_canByAll_1 rfl (lv_at hl 0 rfl) ?_
  refine lv_iload_n hx hb dX5_canByAll_2 rfl (lv_at hl 1 rfl) ?_
  refine x_callSe (va_runV (As := [.int a0]) (rest := [.ref o]) ⟨hx, hb, hml, hown, hts⟩ (kX5_isGame l G _ (σ) o a0 A hM) (cwV 1 hts gX5_canByAll_X5_isGame rfl rfl rfl (by decide +kernel) ⟨Nat.le_of_ble_eq_true rfl, Nat.le_of_ble_eq_true rfl⟩) (x_preV hX hS hW hM.1 rfl) rfl rfl hl.1 rfl (lv_room (Nat.le_of_ble_eq_true rfl)) dX5_canByAll_3 ⟨Nat.le_of_ble_eq_true rfl, Nat.le_of_ble_eq_true rfl⟩) ?_
  refine x_join (ls' := ls) (rest' := [.ref o]) 28 (zI (if (fX5_isGame (σ) a0) = true then (if (fX5_isCell a1) = true then (if (fX5_isCell a2) = true then (true) else (false)) else (false)) else (false))) (fun v ev => ?_) (fun J => ?_)
  · subst ev
    refine va_calli (va_runV (As := [.int (zI (if (fX5_isGame (σ) a0) = true then (if (fX5_isCell a1) = true then (if (fX5_isCell a2) = true then (true) else (false)) else (false)) else (false)))]) (rest := []) ⟨hx, hb, hml, hown, hts⟩ (kX5_asks l G _ (σ) o (if (fX5_isGame (σ) a0) = true then (if (fX5_isCell a1) = true then (if (fX5_isCell a2) = true then (true) else (false)) else (false)) else (false)) A hM hA) (cwV 1 hts gX5_canByAll_X5_asks rfl rfl rfl (by decide +kernel) ⟨Nat.le_of_ble_eq_true rfl, Nat.le_of_ble_eq_true rfl⟩) (x_preV hX hS hW hM.1 rfl) rfl rfl hl.1 rfl (lv_room (Nat.le_of_ble_eq_true rfl)) dX5_canByAll_28 ⟨Nat.le_of_ble_eq_true rfl, Nat.le_of_ble_eq_true rfl⟩) hS (fun _ _ h => h) (fun _ h => h) (fun r5 E4 t H1 locs1 ht hvm hw hB hz1 hk1 hS1 => ?_)
    rw [ht] at hB
    have hS := hS1
    obtain ⟨hrA6, ⟨A6, hMA6, hAA6, htA6⟩, hFrA6⟩ := hw
    have hFr := hFr.trans hFrA6
    have hW : xW G E4 H1 := hB
    subst hrA6
    refine x_ifz_eq (b := (if (fX5_isGame (σ) a0) = true then (if (fX5_isCell a1) = true then (if (fX5_isCell a2) = true then (true) else (false)) else (false)) else (false))) (tgt := 48) hx hb dX5_canByAll_31 (by decide) (fun c_7 => ?_) (fun c_7 => ?_)
    · have hzA6 := htA6.trans (if_neg (Bool.eq_false_iff.mp c_7))
      refine lv_iconst (v := 0) hx hb dX5_canByAll_48 (by decide) ?_
      exact W.widen (k := 0) (n := 0) (Nat.le_of_ble_eq_true rfl) (Nat.le_of_ble_eq_true rfl) (W.zret (v := 0) hx hb hr rfl (fun t ht hw => ⟨⟨_, E4, rfl, ⟨((0 : Int32), 1), (show _ = (((0 : Int32), 1) : Int32 × Nat) from by unfold mX5_canByAll; rw [if_neg (Bool.eq_false_iff.mp c_7)]), rfl, (show xMd G E4 o (σ) 1 from ⟨A6, hMA6, hAA6, hzA6⟩), hFr⟩, (show xW G E4 t.heap from by rw [ht]; exact hW)⟩, hS.F ht⟩) hS.2.2 dX5_canByAll_49)
    · have hzA6 := htA6.trans (if_pos c_7)
      obtain ⟨u, hau, hu⟩ := x_mG hI (x_if1 c_7)
      subst hau
      obtain ⟨d, v, hG, hvl, hop⟩ := hI.2.2.2.2.2 u hu
      have hC := hI.1
      have hUu : (nI u).toNatClampNeg = u := nI_clamp (by have := hG.1; omega)
      have hDd : (σ 16 u).toNatClampNeg = d := by rw [hG.2.1]; exact nI_clamp (by have := hG.2.2.1; omega)
      have hVv : (σ 11 u).toNatClampNeg = v := by rw [hG.2.2.2.1]; exact nI_clamp (by have := hG.2.2.2.2; omega)
      have hu4 : v < 4 := hG.2.2.2.2
      refine lv_aload_n hx hb dX5_canByAll_34 rfl (lv_at hl 0 rfl) ?_
      refine lv_iload_n hx hb dX5_canByAll_35 rfl (lv_at hl 1 rfl) ?_
      refine lv_iload_n hx hb dX5_canByAll_36 rfl (lv_at hl 2 rfl) ?_
      refine lv_iload_n hx hb dX5_canByAll_37 rfl (lv_at hl 3 rfl) ?_
      refine x_callSe (va_runV (As := [.int (nI u), .int a1, .int a2]) (rest := []) ⟨hx, hb, hml, hown, hts⟩ (kX5_canNow l G _ (σ) d v o u a1 a2 A6 hMA6 hG nC hC) (cwV 3 hts gX5_canByAll_X5_canNow rfl rfl rfl (by decide +kernel) ⟨Nat.le_of_ble_eq_true rfl, Nat.le_of_ble_eq_true rfl⟩) (x_preV hX hS hW hMA6.1 rfl) rfl rfl hl.1 rfl (lv_room (Nat.le_of_ble_eq_true rfl)) dX5_canByAll_38 ⟨Nat.le_of_ble_eq_true rfl, Nat.le_of_ble_eq_true rfl⟩) ?_
      refine x_ifz_eq (b := fX5_canNow (σ) d v u a1 a2) (tgt := 48) hx hb dX5_canByAll_41 (by decide) (fun c_8 => ?_) (fun c_8 => ?_)
      · refine lv_iconst (v := 0) hx hb dX5_canByAll_48 (by decide) ?_
        exact W.widen (k := 0) (n := 0) (Nat.le_of_ble_eq_true rfl) (Nat.le_of_ble_eq_true rfl) (W.zret (v := 0) hx hb hr rfl (fun t ht hw => ⟨⟨_, E4, rfl, ⟨((0 : Int32), 0), (show _ = (((0 : Int32), 0) : Int32 × Nat) from by rw [hUu, hDd, hVv]; unfold mX5_canByAll; rw [if_pos c_7, if_neg (Bool.eq_false_iff.mp c_8)]), rfl, (show xMd G E4 o (σ) 0 from ⟨A6, hMA6, hAA6, hzA6⟩), hFr⟩, (show xW G E4 t.heap from by rw [ht]; exact hW)⟩, hS.F ht⟩) hS.2.2 dX5_canByAll_49)
      · refine lv_iconst (v := 1) hx hb dX5_canByAll_44 (by decide) ?_
        refine lv_goto (tgt := 49) hx hb dX5_canByAll_45 (by decide) ?_
        exact W.widen (k := 0) (n := 0) (Nat.le_of_ble_eq_true rfl) (Nat.le_of_ble_eq_true rfl) (W.zret (v := 1) hx hb hr rfl (fun t ht hw => ⟨⟨_, E4, rfl, ⟨((1 : Int32), 0), (show _ = (((1 : Int32), 0) : Int32 × Nat) from by rw [hUu, hDd, hVv]; unfold mX5_canByAll; rw [if_pos c_7, if_pos c_8]), rfl, (show xMd G E4 o (σ) 0 from ⟨A6, hMA6, hAA6, hzA6⟩), hFr⟩, (show xW G E4 t.heap from by rw [ht]; exact hW)⟩, hS.F ht⟩) hS.2.2 dX5_canByAll_49)
  · refine x_ifz_eq (b := fX5_isGame (σ) a0) (tgt := 27) hx hb dX5_canByAll_6 (by decide) (fun c_1 => ?_) (fun c_1 => ?_)
    · refine lv_iconst (v := 0) hx hb dX5_canByAll_27 (by decide) ?_
      exact J _ (congrArg zI (show false = if (fX5_isGame (σ) a0) = true then (if (fX5_isCell a1) = true then (if (fX5_isCell a2) = true then (true) else (false)) else (false)) else (false) from by rw [if_neg (Bool.eq_false_iff.mp c_1)]))
    · refine lv_iload_n hx hb dX5_canByAll_9 rfl (lv_at hl 2 rfl) ?_
      refine x_callSe (va_runS (As := [.int a1]) (rest := [.ref o]) ⟨hx, hb, hml, hown, hts⟩ (kX5_isCell l a1) (va_cwS 1 hts gX5_canByAll_X5_isCell rfl rfl rfl (by decide +kernel) ⟨Nat.le_of_ble_eq_true rfl, Nat.le_of_ble_eq_true rfl⟩) x_preT rfl rfl hl.1 rfl (lv_room (Nat.le_of_ble_eq_true rfl)) dX5_canByAll_10 ⟨Nat.le_of_ble_eq_true rfl, Nat.le_of_ble_eq_true rfl⟩) ?_
      refine x_ifz_eq (b := fX5_isCell a1) (tgt := 27) hx hb dX5_canByAll_13 (by decide) (fun c_2 => ?_) (fun c_2 => ?_)
      · refine lv_iconst (v := 0) hx hb dX5_canByAll_27 (by decide) ?_
        exact J _ (congrArg zI (show false = if (fX5_isGame (σ) a0) = true then (if (fX5_isCell a1) = true then (if (fX5_isCell a2) = true then (true) else (false)) else (false)) else (false) from by rw [if_pos c_1, if_neg (Bool.eq_false_iff.mp c_2)]))
      · refine lv_iload_n hx hb dX5_canByAll_16 rfl (lv_at hl 3 rfl) ?_
        refine x_callSe (va_runS (As := [.int a2]) (rest := [.ref o]) ⟨hx, hb, hml, hown, hts⟩ (kX5_isCell l a2) (va_cwS 1 hts gX5_canByAll_X5_isCell rfl rfl rfl (by decide +kernel) ⟨Nat.le_of_ble_eq_true rfl, Nat.le_of_ble_eq_true rfl⟩) x_preT rfl rfl hl.1 rfl (lv_room (Nat.le_of_ble_eq_true rfl)) dX5_canByAll_17 ⟨Nat.le_of_ble_eq_true rfl, Nat.le_of_ble_eq_true rfl⟩) ?_
        refine x_ifz_eq (b := fX5_isCell a2) (tgt := 27) hx hb dX5_canByAll_20 (by decide) (fun c_3 => ?_) (fun c_3 => ?_)
        · refine lv_iconst (v := 0) hx hb dX5_canByAll_27 (by decide) ?_
          exact J _ (congrArg zI (show false = if (fX5_isGame (σ) a0) = true then (if (fX5_isCell a1) = true then (if (fX5_isCell a2) = true then (true) else (false)) else (false)) else (false) from by rw [if_pos c_1, if_pos c_2, if_neg (Bool.eq_false_iff.mp c_3)]))
        · refine lv_iconst (v := 1) hx hb dX5_canByAll_23 (by decide) ?_
          refine lv_goto (tgt := 28) hx hb dX5_canByAll_24 (by decide) ?_
          exact J _ (congrArg zI (show true = if (fX5_isGame (σ) a0) = true then (if (fX5_isCell a1) = true then (if (fX5_isCell a2) = true then (true) else (false)) else (false)) else (false) from by rw [if_pos c_1, if_pos c_2, if_pos c_3]))

def mX5_setCards (σ : xSg) (v : Nat) (a0 a1 : Int32) : Int32 × Nat := if (fX5_isVariant (σ) a0) = true then (if (fX5_areCards (σ) a1) = true then ((σ 7 v, 0)) else (((0 : Int32), 2))) else (((0 : Int32), 1))
set_option maxHeartbeats 4000000 in
set_option maxRecDepth 100000 in
theorem kX5_setCards (l : Launch) (G : xG) (E : xE) (σ : xSg) (o : Nat) (a0 : Int32) (a1 : Int32) (A : Nat → Nat) (hM : xMod G E o A σ) (hA : xAi A) (nC nV nG : Nat) (hI : xMi σ nC nV nG) : Met l yX5_setCards wsX5_setCards ({ frames := 1, cells := 0, slots := 0, locals := 21 }) (va_Pc [.ref o, .int a0, .int a1] (xB G E)) (va_Qi (S := xE) (fun r E' => ∃ q : Int32 × Nat, mX5_setCards σ (a0.toNatClampNeg) a0 a1 = q ∧ r = q.1 ∧ xMd G E' o (if q.2 = 0 then sgU σ 7 (a0.toNatClampNeg) a1 else σ) q.2 ∧ xFr tM E E') (fun E' t => xW G E' t.heap) (xA G)) 0 0 (xA G) := by
  refine Met.ofW (cc := cX5_setCards) (maxL := 4) (ret := (some .int)) (by decide) rfl ?_
  intro p e s m args below meth c s₁ B hml hv
  obtain ⟨rfl, hX, hW⟩ := hv
  have hx := B.exec
  have hb := B.bytes
  have hr := B.returns
  have hts := atoms_spec (ws := wsX5_setCards) B.pre
  have hown : s.vm.findClass RX5 = some m.cls := findClass_of_methodNamed B.named
  have hlocks := B.notSynchronized
  have hS : va_S (xA G) s.heap s.heap [] := va_S.rf
  have hiX5 : ∀ w ∈ u_ws RX5 TX5 20, w ∈ wsX5_setCards := by decide +kernel
  have hf25 := hts (Cond.fieldLink RX5 25 "VariantMillModel" "has" "[I") (by decide +kernel)
  have hl := lv_entry ([.ref o, .int a0, .int a1]) (n := 4) (Nat.le_of_ble_eq_true rfl)
  rw [lg_entry_eq]
  generalize (lg_sl ([.ref o, .int a0, .int a1]) ++ List.replicate (4 - (lg_sl ([.ref o, .int a0, .int a1])).length) Slot.unset).toArray = ls at hl ⊢
  have hl : lv_has ls 4 [(0, .ref o), (1, .int a0), (2, .int a1)] := hl
  obtain ⟨H, hH⟩ : ∃ z, z = s.heap := ⟨_, rfl⟩
  rw [← hH] at hW
  have hS : va_S (xA G) s.heap H [] := by rw [hH]; exact hS
  rw [← hH]
  have hFr : xFr tM E E := xFr_rf
  refine lv_aload_n hx hb dX5_setCards_0 rfl (lv_at hl 0 rfl) ?_
  refine lv_aload_n hx hb dX5_setCards_1 rfl (lv_at hl 0 rfl) ?_
  refine lv_iload_n hx hb dX5_setCards_2 rfl (lv_at hl 1 rfl) ?_
  refine x_callSe (va_runV (As := [.int a0]) (rest := [.ref o]) ⟨hx, hb, hml, hown, hts⟩ (kX5_isVariant l G _ (σ) o a0 A hM) (cwV 1 hts gX5_setCards_X5_isVariant rfl rfl rfl (by decide +kernel) ⟨Nat.le_of_ble_eq_true rfl, Nat.le_of_ble_eq_true rfl⟩) (x_preV hX hS hW hM.1 rfl) rfl rfl hl.1 rfl (lv_room (Nat.le_of_ble_eq_true rfl)) dX5_setCards_3 ⟨Nat.le_of_ble_eq_true rfl, Nat.le_of_ble_eq_true rfl⟩) ?_
  refine va_calli (va_runV (As := [.int (zI (fX5_isVariant (σ) a0))]) (rest := []) ⟨hx, hb, hml, hown, hts⟩ (kX5_asks l G _ (σ) o (fX5_isVariant (σ) a0) A hM hA) (cwV 1 hts gX5_setCards_X5_asks rfl rfl rfl (by decide +kernel) ⟨Nat.le_of_ble_eq_true rfl, Nat.le_of_ble_eq_true rfl⟩) (x_preV hX hS hW hM.1 rfl) rfl rfl hl.1 rfl (lv_room (Nat.le_of_ble_eq_true rfl)) dX5_setCards_6 ⟨Nat.le_of_ble_eq_true rfl, Nat.le_of_ble_eq_true rfl⟩) hS (fun _ _ h => h) (fun _ h => h) (fun r2 E1 t H1 locs1 ht hvm hw hB hz1 hk1 hS1 => ?_)
  rw [ht] at hB
  have hS := hS1
  obtain ⟨hrA3, ⟨A3, hMA3, hAA3, htA3⟩, hFrA3⟩ := hw
  have hFr := hFr.trans hFrA3
  have hW : xW G E1 H1 := hB
  subst hrA3
  refine x_ifz_ne (b := fX5_isVariant (σ) a0) (tgt := 14) hx hb dX5_setCards_9 (by decide) (fun c_4 => ?_) (fun c_4 => ?_)
  · have hzA3 := htA3.trans (if_pos c_4)
    obtain ⟨v, hav, hv⟩ := x_mV hI (c_4)
    subst hav
    have hC := hI.1
    have hu4 : v < 4 := by have := hI.2.2.1; omega
    have hVv : (nI v).toNatClampNeg = v := nI_clamp (by omega)
    refine lv_aload_n hx hb dX5_setCards_14 rfl (lv_at hl 0 rfl) ?_
    refine lv_iload_n hx hb dX5_setCards_15 rfl (lv_at hl 2 rfl) ?_
    refine x_callSe (va_runV (As := [.int a1]) (rest := []) ⟨hx, hb, hml, hown, hts⟩ (kX5_areCards l G _ (σ) o a1 A3 hMA3) (cwV 1 hts gX5_setCards_X5_areCards rfl rfl rfl (by decide +kernel) ⟨Nat.le_of_ble_eq_true rfl, Nat.le_of_ble_eq_true rfl⟩) (x_preV hX hS hW hMA3.1 rfl) rfl rfl hl.1 rfl (lv_room (Nat.le_of_ble_eq_true rfl)) dX5_setCards_16 ⟨Nat.le_of_ble_eq_true rfl, Nat.le_of_ble_eq_true rfl⟩) ?_
    refine x_ifz_ne (b := fX5_areCards (σ) a1) (tgt := 28) hx hb dX5_setCards_19 (by decide) (fun c_5 => ?_) (fun c_5 => ?_)
    · refine lv_aload_n hx hb dX5_setCards_28 rfl (lv_at hl 0 rfl) ?_
      refine va_get (D := G.1) (ci := 5) (v := .ref (A3 7)) (C := RX5) (T := TX5) (N := 20) hx hb hts hiX5 hown hX.1 (x1 hW hMA3.1) 0 rfl rfl 7 (by decide) hf25 (fun _ h9 => h9) rfl dX5_setCards_29 ?_
      refine lv_iload_n hx hb dX5_setCards_32 rfl (lv_at hl 1 rfl) ?_
      refine x_ild (k := v) hx hb hX.1 hW hMA3.2.2.2.2.2.2.1 (vp_in_nI hu4 (by omega)) (nI_clamp (by omega)) dX5_setCards_33 ?_
      refine lv_istore_n (lv' := [(3, .int (σ 7 v)), (0, .ref o), (1, .int (nI v)), (2, .int a1)]) hx hb dX5_setCards_34 rfl hl (by decide) rfl (fun ls hl => ?_)
      refine lv_aload_n hx hb dX5_setCards_35 rfl (lv_at hl 1 rfl) ?_
      refine va_get (D := G.1) (ci := 5) (v := .ref (A3 7)) (C := RX5) (T := TX5) (N := 20) hx hb hts hiX5 hown hX.1 (x1 hW hMA3.1) 0 rfl rfl 7 (by decide) hf25 (fun _ h9 => h9) rfl dX5_setCards_36 ?_
      refine lv_iload_n hx hb dX5_setCards_39 rfl (lv_at hl 2 rfl) ?_
      refine lv_iload_n hx hb dX5_setCards_40 rfl (lv_at hl 3 rfl) ?_
      refine x_iast (G := G) hx hb hX.1 hW hS hMA3.2.2.2.2.2.2.1 (vp_in_nI hu4 (by omega)) dX5_setCards_41 (fun H locs hW hS => ?_)
      rw [show (nI v).toNatClampNeg = v from (nI_clamp (by omega))] at hW
      obtain ⟨E6, eE6⟩ : ∃ z, z = xU E1 (A3 7) (.inl (G.2.1 0, 4, .inl (upd (σ 7) v a1))) := ⟨_, rfl⟩
      have hW : xW G E6 H := by rw [eE6]; exact hW
      have hv_o9 : E6 o = some (.inr (5, [.int (σ 0 0), .ref (A3 1), .ref (A3 2), .ref (A3 3), .ref (A3 4), .int (σ 5 0), .ref (A3 6), .ref (A3 7), .ref (A3 8), .ref (A3 9), .int (σ 10 0), .ref (A3 11), .ref (A3 12), .ref (A3 13), .ref (A3 14), .ref (A3 15), .ref (A3 16), .ref (A3 17), .ref (A3 18), .int (nI (A3 19))])) := by rw [eE6]; exact xU_of hMA3.1 hMA3.2.2.2.2.2.2.1 (fun h => by simp at h)
      have hv_A3_19 : E6 (A3 1) = some (.inl (G.2.1 0, 8, .inl (σ 1))) := by rw [eE6]; exact (xU_ne _ _ (hAA3.1.2.2.2.2.1)).trans hMA3.2.1
      have hv_A3_29 : E6 (A3 2) = some (.inl (G.2.1 0, 8, .inl (σ 2))) := by rw [eE6]; exact (xU_ne _ _ (hAA3.2.1.2.2.2.1)).trans hMA3.2.2.1
      have hv_A3_39 : E6 (A3 3) = some (.inl (G.2.1 0, 8, .inl (σ 3))) := by rw [eE6]; exact (xU_ne _ _ (hAA3.2.2.1.2.2.1)).trans hMA3.2.2.2.1
      have hv_A3_49 : E6 (A3 4) = some (.inl (G.2.1 0, 8, .inl (σ 4))) := by rw [eE6]; exact (xU_ne _ _ (hAA3.2.2.2.1.2.1)).trans hMA3.2.2.2.2.1
      have hv_A3_69 : E6 (A3 6) = some (.inl (G.2.1 0, 4, .inl (σ 6))) := by rw [eE6]; exact (xU_ne _ _ (hAA3.2.2.2.2.1.1)).trans hMA3.2.2.2.2.2.1
      have hv_A3_89 : E6 (A3 8) = some (.inl (G.2.1 0, 4, .inl (σ 8))) := by rw [eE6]; exact (xU_ne _ _ (Ne.symm (hAA3.2.2.2.2.2.1.1))).trans hMA3.2.2.2.2.2.2.2.1
      have hv_A3_99 : E6 (A3 9) = some (.inl (G.2.1 0, 4, .inl (σ 9))) := by rw [eE6]; exact (xU_ne _ _ (Ne.symm (hAA3.2.2.2.2.2.1.2.1))).trans hMA3.2.2.2.2.2.2.2.2.1
      have hv_A3_119 : E6 (A3 11) = some (.inl (G.2.1 0, 12, .inl (σ 11))) := by rw [eE6]; exact (xU_ne _ _ (Ne.symm (hAA3.2.2.2.2.2.1.2.2.1))).trans hMA3.2.2.2.2.2.2.2.2.2.1
      have hv_A3_129 : E6 (A3 12) = some (.inl (G.2.1 0, 12, .inl (σ 12))) := by rw [eE6]; exact (xU_ne _ _ (Ne.symm (hAA3.2.2.2.2.2.1.2.2.2.1))).trans hMA3.2.2.2.2.2.2.2.2.2.2.1
      have hv_A3_139 : E6 (A3 13) = some (.inl (G.2.1 0, 12, .inl (σ 13))) := by rw [eE6]; exact (xU_ne _ _ (Ne.symm (hAA3.2.2.2.2.2.1.2.2.2.2.1))).trans hMA3.2.2.2.2.2.2.2.2.2.2.2.1
      have hv_A3_149 : E6 (A3 14) = some (.inl (G.2.1 0, 12, .inl (σ 14))) := by rw [eE6]; exact (xU_ne _ _ (Ne.symm (hAA3.2.2.2.2.2.1.2.2.2.2.2.1))).trans hMA3.2.2.2.2.2.2.2.2.2.2.2.2.1
      have hv_A3_159 : E6 (A3 15) = some (.inl (G.2.1 0, 12, .inl (σ 15))) := by rw [eE6]; exact (xU_ne _ _ (Ne.symm (hAA3.2.2.2.2.2.1.2.2.2.2.2.2.1))).trans hMA3.2.2.2.2.2.2.2.2.2.2.2.2.2.1
      have hv_A3_169 : E6 (A3 16) = some (.inl (G.2.1 0, 12, .inl (σ 16))) := by rw [eE6]; exact (xU_ne _ _ (Ne.symm (hAA3.2.2.2.2.2.1.2.2.2.2.2.2.2.1))).trans hMA3.2.2.2.2.2.2.2.2.2.2.2.2.2.2.1
      have hv_A3_179 : E6 (A3 17) = some (.inl (G.2.1 0, 732, .inl (σ 17))) := by rw [eE6]; exact (xU_ne _ _ (Ne.symm (hAA3.2.2.2.2.2.1.2.2.2.2.2.2.2.2.1))).trans hMA3.2.2.2.2.2.2.2.2.2.2.2.2.2.2.2.1
      have hv_A3_189 : E6 (A3 18) = some (.inl (G.2.1 0, 732, .inl (σ 18))) := by rw [eE6]; exact (xU_ne _ _ (Ne.symm (hAA3.2.2.2.2.2.1.2.2.2.2.2.2.2.2.2))).trans hMA3.2.2.2.2.2.2.2.2.2.2.2.2.2.2.2.2
      have hu_A3_79 : E6 (A3 7) = some (.inl (G.2.1 0, 4, .inl (upd (σ 7) v a1))) := by rw [eE6]; exact xU_self _ _ _
      have hFr : xFr tM E E6 := by rw [eE6]; exact xFr_put hFr hMA3.2.2.2.2.2.2.1 rfl _
      refine lv_iload_n hx hb dX5_setCards_42 rfl (lv_at hl 0 rfl) ?_
      exact W.widen (k := 0) (n := 0) (Nat.le_of_ble_eq_true rfl) (Nat.le_of_ble_eq_true rfl) (W.iret (v := σ 7 v) hx hb hr (fun t ht hw => ⟨⟨_, E6, rfl, ⟨(σ 7 v, 0), (show _ = ((σ 7 v, 0) : Int32 × Nat) from by rw [hVv]; unfold mX5_setCards; rw [if_pos c_4, if_pos c_5]), rfl, (show xMd G E6 o (sgU σ 7 (nI v).toNatClampNeg a1) 0 from (by rw [hVv]; exact ⟨A3, ⟨hv_o9, hv_A3_19, hv_A3_29, hv_A3_39, hv_A3_49, hv_A3_69, hu_A3_79, hv_A3_89, hv_A3_99, hv_A3_119, hv_A3_129, hv_A3_139, hv_A3_149, hv_A3_159, hv_A3_169, hv_A3_179, hv_A3_189⟩, hAA3, hzA3⟩)), hFr⟩, (show xW G E6 t.heap from by rw [ht]; exact hW)⟩, hS.F ht⟩) hS.2.2 dX5_setCards_43)
    · refine lv_aload_n hx hb dX5_setCards_22 rfl (lv_at hl 0 rfl) ?_
      refine lv_iconst (v := 2) hx hb dX5_setCards_23 (by decide) ?_
      refine va_calli (va_runV (As := [.int 2]) (rest := []) ⟨hx, hb, hml, hown, hts⟩ (kX5_fails l G _ (σ) o 2 A3 hMA3 hAA3) (cwV 1 hts gX5_setCards_X5_fails rfl rfl rfl (by decide +kernel) ⟨Nat.le_of_ble_eq_true rfl, Nat.le_of_ble_eq_true rfl⟩) (x_preV hX hS hW hMA3.1 rfl) rfl rfl hl.1 rfl (lv_room (Nat.le_of_ble_eq_true rfl)) dX5_setCards_24 ⟨Nat.le_of_ble_eq_true rfl, Nat.le_of_ble_eq_true rfl⟩) hS (fun _ _ h => h) (fun _ h => h) (fun r8 E7 t H1 locs1 ht hvm hw hB hz1 hk1 hS1 => ?_)
      rw [ht] at hB
      have hS := hS1
      obtain ⟨hrA9, ⟨A9, hMA9, hAA9, htA9⟩, hFrA9⟩ := hw
      have hFr := hFr.trans hFrA9
      have hW : xW G E7 H1 := hB
      subst hrA9
      exact W.widen (k := 0) (n := 0) (Nat.le_of_ble_eq_true rfl) (Nat.le_of_ble_eq_true rfl) (W.iret (v := 0) hx hb hr (fun t ht hw => ⟨⟨_, E7, rfl, ⟨((0 : Int32), 2), (show _ = (((0 : Int32), 2) : Int32 × Nat) from by rw [hVv]; unfold mX5_setCards; rw [if_pos c_4, if_neg (Bool.eq_false_iff.mp c_5)]), rfl, (show xMd G E7 o (σ) 2 from ⟨A9, hMA9, hAA9, htA9⟩), hFr⟩, (show xW G E7 t.heap from by rw [ht]; exact hW)⟩, hS.F ht⟩) hS.2.2 dX5_setCards_27)
  · have hzA3 := htA3.trans (if_neg (Bool.eq_false_iff.mp c_4))
    refine lv_iconst (v := 0) hx hb dX5_setCards_12 (by decide) ?_
    exact W.widen (k := 0) (n := 0) (Nat.le_of_ble_eq_true rfl) (Nat.le_of_ble_eq_true rfl) (W.iret (v := 0) hx hb hr (fun t ht hw => ⟨⟨_, E1, rfl, ⟨((0 : Int32), 1), (show _ = (((0 : Int32), 1) : Int32 × Nat) from by unfold mX5_setCards; rw [if_neg (Bool.eq_false_iff.mp c_4)]), rfl, (show xMd G E1 o (σ) 1 from ⟨A3, hMA3, hAA3, hzA3⟩), hFr⟩, (show xW G E1 t.heap from by rw [ht]; exact hW)⟩, hS.F ht⟩) hS.2.2 dX5_setCards_13)

def mX5_card (σ : xSg) (nC : Nat) (a0 a1 a2 a3 : Int32) : Int32 × Nat := if (if (fX5_in a0 0 2) = true then (if (fX5_in a1 (-2) 2) = true then (if (fX5_in a2 (-2) 2) = true then (if (fX5_in a3 1 4) = true then (if a1 = 0 then (if a2 = 0 then (false) else (true)) else (true)) else (false)) else (false)) else (false)) else (false)) = true then (if (σ 0 0) = (8 : Int32) then (((0 : Int32), 2)) else (((nI (nC + 1)) - 1, 0))) else (((0 : Int32), 1))
set_option maxHeartbeats 4000000 in
set_option maxRecDepth 100000 in
theorem kX5_card (l : Launch) (G : xG) (E : xE) (σ : xSg) (o : Nat) (a0 : Int32) (a1 : Int32) (a2 : Int32) (a3 : Int32) (A : Nat → Nat) (hM : xMod G E o A σ) (hA : xAi A) (nC nV nG : Nat) (hI : xMi σ nC nV nG) : Met l yX5_card wsX5_card ({ frames := 1, cells := 0, slots := 0, locals := 22 }) (va_Pc [.ref o, .int a0, .int a1, .int a2, .int a3] (xB G E)) (va_Qi (S := xE) (fun r E' => ∃ q : Int32 × Nat, mX5_card σ nC a0 a1 a2 a3 = q ∧ r = q.1 ∧ xMd G E' o (if q.2 = 0 then sgCard σ nC a0 a1 a2 (if a0 = 0 then (1 : Int32) else a3) else σ) q.2 ∧ xFr tM E E') (fun E' t => xW G E' t.heap) (xA G)) 0 0 (xA G) := by
  refine Met.ofW (cc := cX5_card) (maxL := 5) (ret := (some .int)) (by decide) rfl ?_
  intro p e s m args below meth c s₁ B hml hv
  obtain ⟨rfl, hX, hW⟩ := hv
  have hx := B.exec
  have hb := B.bytes
  have hr := B.returns
  have hts := atoms_spec (ws := wsX5_card) B.pre
  have hown : s.vm.findClass RX5 = some m.cls := findClass_of_methodNamed B.named
  have hlocks := B.notSynchronized
  have hS : va_S (xA G) s.heap s.heap [] := va_S.rf
  have hiX5 : ∀ w ∈ u_ws RX5 TX5 20, w ∈ wsX5_card := by decide +kernel
  have hf76 := hts (Cond.fieldLink RX5 76 "VariantMillModel" "cards" "I") (by decide +kernel)
  have hf7 := hts (Cond.fieldLink RX5 7 "VariantMillModel" "kind" "[I") (by decide +kernel)
  have hf13 := hts (Cond.fieldLink RX5 13 "VariantMillModel" "dx" "[I") (by decide +kernel)
  have hf16 := hts (Cond.fieldLink RX5 16 "VariantMillModel" "dy" "[I") (by decide +kernel)
  have hf19 := hts (Cond.fieldLink RX5 19 "VariantMillModel" "reach" "[I") (by decide +kernel)
  have hl := lv_entry ([.ref o, .int a0, .int a1, .int a2, .int a3]) (n := 5) (Nat.le_of_ble_eq_true rfl)
  rw [lg_entry_eq]
  generalize (lg_sl ([.ref o, .int a0, .int a1, .int a2, .int a3]) ++ List.replicate (5 - (lg_sl ([.ref o, .int a0, .int a1, .int a2, .int a3])).length) Slot.unset).toArray = ls at hl ⊢
  have hl : lv_has ls 5 [(0, .ref o), (1, .int a0), (2, .int a1), (3, .int a2), (4, .int a3)] := hl
  obtain ⟨H, hH⟩ : ∃ z, z = s.heap := ⟨_, rfl⟩
  rw [← hH] at hW
  have hS : va_S (xA G) s.heap H [] := by rw [hH]; exact hS
  rw [← hH]
  have hFr : xFr tM E E := xFr_rf
  refine lv_aload_n hx hb dX5_card_0 rfl (lv_at hl 0 rfl) ?_
  refine lv_iload_n hx hb dX5_card_1 rfl (lv_at hl 1 rfl) ?_
  refine lv_iconst (v := 0) hx hb dX5_card_2 (by decide) ?_
  refine lv_iconst (v := 2) hx hb dX5_card_3 (by decide) ?_
  refine x_callSe (va_runS (As := [.int a0, .int 0, .int 2]) (rest := [.ref o]) ⟨hx, hb, hml, hown, hts⟩ (kX5_in l a0 0 2) (va_cwS 3 hts gX5_card_X5_in rfl rfl rfl (by decide +kernel) ⟨Nat.le_of_ble_eq_true rfl, Nat.le_of_ble_eq_true rfl⟩) x_preT rfl rfl hl.1 rfl (lv_room (Nat.le_of_ble_eq_true rfl)) dX5_card_4 ⟨Nat.le_of_ble_eq_true rfl, Nat.le_of_ble_eq_true rfl⟩) ?_
  refine x_join (ls' := ls) (rest' := [.ref o]) 53 (zI (if (fX5_in a0 0 2) = true then (if (fX5_in a1 (-2) 2) = true then (if (fX5_in a2 (-2) 2) = true then (if (fX5_in a3 1 4) = true then (if a1 = 0 then (if a2 = 0 then (false) else (true)) else (true)) else (false)) else (false)) else (false)) else (false))) (fun v ev => ?_) (fun J => ?_)
  · subst ev
    refine va_calli (va_runV (As := [.int (zI (if (fX5_in a0 0 2) = true then (if (fX5_in a1 (-2) 2) = true then (if (fX5_in a2 (-2) 2) = true then (if (fX5_in a3 1 4) = true then (if a1 = 0 then (if a2 = 0 then (false) else (true)) else (true)) else (false)) else (false)) else (false)) else (false)))]) (rest := []) ⟨hx, hb, hml, hown, hts⟩ (kX5_asks l G _ (σ) o (if (fX5_in a0 0 2) = true then (if (fX5_in a1 (-2) 2) = true then (if (fX5_in a2 (-2) 2) = true then (if (fX5_in a3 1 4) = true then (if a1 = 0 then (if a2 = 0 then (false) else (true)) else (true)) else (false)) else (false)) else (false)) else (false)) A hM hA) (cwV 1 hts gX5_card_X5_asks rfl rfl rfl (by decide +kernel) ⟨Nat.le_of_ble_eq_true rfl, Nat.le_of_ble_eq_true rfl⟩) (x_preV hX hS hW hM.1 rfl) rfl rfl hl.1 rfl (lv_room (Nat.le_of_ble_eq_true rfl)) dX5_card_53 ⟨Nat.le_of_ble_eq_true rfl, Nat.le_of_ble_eq_true rfl⟩) hS (fun _ _ h => h) (fun _ h => h) (fun r8 E7 t H1 locs1 ht hvm hw hB hz1 hk1 hS1 => ?_)
    rw [ht] at hB
    have hS := hS1
    obtain ⟨hrA9, ⟨A9, hMA9, hAA9, htA9⟩, hFrA9⟩ := hw
    have hFr := hFr.trans hFrA9
    have hW : xW G E7 H1 := hB
    subst hrA9
    refine x_ifz_ne (b := (if (fX5_in a0 0 2) = true then (if (fX5_in a1 (-2) 2) = true then (if (fX5_in a2 (-2) 2) = true then (if (fX5_in a3 1 4) = true then (if a1 = 0 then (if a2 = 0 then (false) else (true)) else (true)) else (false)) else (false)) else (false)) else (false))) (tgt := 61) hx hb dX5_card_56 (by decide) (fun c_10 => ?_) (fun c_10 => ?_)
    · have hzA9 := htA9.trans (if_pos c_10)
      have hcb := hI.1.2.1
      have hcv := hI.1.1
      refine lv_aload_n hx hb dX5_card_61 rfl (lv_at hl 0 rfl) ?_
      refine va_get (D := G.1) (ci := 5) (v := .int (σ 0 0)) (C := RX5) (T := TX5) (N := 20) hx hb hts hiX5 hown hX.1 (x1 hW hMA9.1) 0 rfl rfl 0 (by decide) hf76 (fun _ h9 => h9) rfl dX5_card_62 ?_
      refine lv_bipush (v := 8) hx hb dX5_card_65 (by decide) ?_
      refine lv_icmp_ne (tgt := 76) hx hb dX5_card_67 (by decide) (fun c_11 => ?_) (fun c_11 => ?_)
      · have hcn : nC < 8 := by rcases Nat.lt_or_ge nC 8 with z | z; exact z; exact absurd (show σ 0 0 = (8 : Int32) from by rw [hcv, show nC = 8 by have := hcb; omega]; rfl) c_11
        have hoN : E7 o = some (.inr (5, [.int (nI nC), .ref (A9 1), .ref (A9 2), .ref (A9 3), .ref (A9 4), .int (σ 5 0), .ref (A9 6), .ref (A9 7), .ref (A9 8), .ref (A9 9), .int (σ 10 0), .ref (A9 11), .ref (A9 12), .ref (A9 13), .ref (A9 14), .ref (A9 15), .ref (A9 16), .ref (A9 17), .ref (A9 18), .int (nI (A9 19))])) := by rw [← hcv]; exact hMA9.1
        refine lv_aload_n hx hb dX5_card_76 rfl (lv_at hl 0 rfl) ?_
        refine va_get (D := G.1) (ci := 5) (v := .ref (A9 1)) (C := RX5) (T := TX5) (N := 20) hx hb hts hiX5 hown hX.1 (x1 hW hoN) 0 rfl rfl 1 (by decide) hf7 (fun _ h9 => h9) rfl dX5_card_77 ?_
        refine lv_aload_n hx hb dX5_card_80 rfl (lv_at hl 0 rfl) ?_
        refine va_get (D := G.1) (ci := 5) (v := .int (nI nC)) (C := RX5) (T := TX5) (N := 20) hx hb hts hiX5 hown hX.1 (x1 hW hoN) 0 rfl rfl 0 (by decide) hf76 (fun _ h9 => h9) rfl dX5_card_81 ?_
        refine lv_iload_n hx hb dX5_card_84 rfl (lv_at hl 1 rfl) ?_
        refine x_iast (G := G) hx hb hX.1 hW hS hMA9.2.1 (vp_in_nI hcn (by omega)) dX5_card_85 (fun H locs hW hS => ?_)
        rw [show (nI nC).toNatClampNeg = nC from (nI_clamp (by omega))] at hW
        obtain ⟨E12, eE12⟩ : ∃ z, z = xU E7 (A9 1) (.inl (G.2.1 0, 8, .inl (upd (σ 1) nC a0))) := ⟨_, rfl⟩
        have hW : xW G E12 H := by rw [eE12]; exact hW
        have hoN9 : E12 o = some (.inr (5, [.int (nI nC), .ref (A9 1), .ref (A9 2), .ref (A9 3), .ref (A9 4), .int (σ 5 0), .ref (A9 6), .ref (A9 7), .ref (A9 8), .ref (A9 9), .int (σ 10 0), .ref (A9 11), .ref (A9 12), .ref (A9 13), .ref (A9 14), .ref (A9 15), .ref (A9 16), .ref (A9 17), .ref (A9 18), .int (nI (A9 19))])) := by rw [eE12]; exact xU_of hoN hMA9.2.1 (fun h => by simp at h)
        have hv_A9_29 : E12 (A9 2) = some (.inl (G.2.1 0, 8, .inl (σ 2))) := by rw [eE12]; exact (xU_ne _ _ (Ne.symm (hAA9.1.1))).trans hMA9.2.2.1
        have hv_A9_39 : E12 (A9 3) = some (.inl (G.2.1 0, 8, .inl (σ 3))) := by rw [eE12]; exact (xU_ne _ _ (Ne.symm (hAA9.1.2.1))).trans hMA9.2.2.2.1
        have hv_A9_49 : E12 (A9 4) = some (.inl (G.2.1 0, 8, .inl (σ 4))) := by rw [eE12]; exact (xU_ne _ _ (Ne.symm (hAA9.1.2.2.1))).trans hMA9.2.2.2.2.1
        have hv_A9_69 : E12 (A9 6) = some (.inl (G.2.1 0, 4, .inl (σ 6))) := by rw [eE12]; exact (xU_ne _ _ (Ne.symm (hAA9.1.2.2.2.1))).trans hMA9.2.2.2.2.2.1
        have hv_A9_79 : E12 (A9 7) = some (.inl (G.2.1 0, 4, .inl (σ 7))) := by rw [eE12]; exact (xU_ne _ _ (Ne.symm (hAA9.1.2.2.2.2.1))).trans hMA9.2.2.2.2.2.2.1
        have hv_A9_89 : E12 (A9 8) = some (.inl (G.2.1 0, 4, .inl (σ 8))) := by rw [eE12]; exact (xU_ne _ _ (Ne.symm (hAA9.1.2.2.2.2.2.1))).trans hMA9.2.2.2.2.2.2.2.1
        have hv_A9_99 : E12 (A9 9) = some (.inl (G.2.1 0, 4, .inl (σ 9))) := by rw [eE12]; exact (xU_ne _ _ (Ne.symm (hAA9.1.2.2.2.2.2.2.1))).trans hMA9.2.2.2.2.2.2.2.2.1
        have hv_A9_119 : E12 (A9 11) = some (.inl (G.2.1 0, 12, .inl (σ 11))) := by rw [eE12]; exact (xU_ne _ _ (Ne.symm (hAA9.1.2.2.2.2.2.2.2.1))).trans hMA9.2.2.2.2.2.2.2.2.2.1
        have hv_A9_129 : E12 (A9 12) = some (.inl (G.2.1 0, 12, .inl (σ 12))) := by rw [eE12]; exact (xU_ne _ _ (Ne.symm (hAA9.1.2.2.2.2.2.2.2.2.1))).trans hMA9.2.2.2.2.2.2.2.2.2.2.1
        have hv_A9_139 : E12 (A9 13) = some (.inl (G.2.1 0, 12, .inl (σ 13))) := by rw [eE12]; exact (xU_ne _ _ (Ne.symm (hAA9.1.2.2.2.2.2.2.2.2.2.1))).trans hMA9.2.2.2.2.2.2.2.2.2.2.2.1
        have hv_A9_149 : E12 (A9 14) = some (.inl (G.2.1 0, 12, .inl (σ 14))) := by rw [eE12]; exact (xU_ne _ _ (Ne.symm (hAA9.1.2.2.2.2.2.2.2.2.2.2.1))).trans hMA9.2.2.2.2.2.2.2.2.2.2.2.2.1
        have hv_A9_159 : E12 (A9 15) = some (.inl (G.2.1 0, 12, .inl (σ 15))) := by rw [eE12]; exact (xU_ne _ _ (Ne.symm (hAA9.1.2.2.2.2.2.2.2.2.2.2.2.1))).trans hMA9.2.2.2.2.2.2.2.2.2.2.2.2.2.1
        have hv_A9_169 : E12 (A9 16) = some (.inl (G.2.1 0, 12, .inl (σ 16))) := by rw [eE12]; exact (xU_ne _ _ (Ne.symm (hAA9.1.2.2.2.2.2.2.2.2.2.2.2.2.1))).trans hMA9.2.2.2.2.2.2.2.2.2.2.2.2.2.2.1
        have hv_A9_179 : E12 (A9 17) = some (.inl (G.2.1 0, 732, .inl (σ 17))) := by rw [eE12]; exact (xU_ne _ _ (Ne.symm (hAA9.1.2.2.2.2.2.2.2.2.2.2.2.2.2.1))).trans hMA9.2.2.2.2.2.2.2.2.2.2.2.2.2.2.2.1
        have hv_A9_189 : E12 (A9 18) = some (.inl (G.2.1 0, 732, .inl (σ 18))) := by rw [eE12]; exact (xU_ne _ _ (Ne.symm (hAA9.1.2.2.2.2.2.2.2.2.2.2.2.2.2.2))).trans hMA9.2.2.2.2.2.2.2.2.2.2.2.2.2.2.2.2
        have hu_A9_19 : E12 (A9 1) = some (.inl (G.2.1 0, 8, .inl (upd (σ 1) nC a0))) := by rw [eE12]; exact xU_self _ _ _
        have hFr : xFr tM E E12 := by rw [eE12]; exact xFr_put hFr hMA9.2.1 rfl _
        refine lv_aload_n hx hb dX5_card_86 rfl (lv_at hl 0 rfl) ?_
        refine va_get (D := G.1) (ci := 5) (v := .ref (A9 2)) (C := RX5) (T := TX5) (N := 20) hx hb hts hiX5 hown hX.1 (x1 hW hoN9) 0 rfl rfl 2 (by decide) hf13 (fun _ h9 => h9) rfl dX5_card_87 ?_
        refine lv_aload_n hx hb dX5_card_90 rfl (lv_at hl 0 rfl) ?_
        refine va_get (D := G.1) (ci := 5) (v := .int (nI nC)) (C := RX5) (T := TX5) (N := 20) hx hb hts hiX5 hown hX.1 (x1 hW hoN9) 0 rfl rfl 0 (by decide) hf76 (fun _ h9 => h9) rfl dX5_card_91 ?_
        refine lv_iload_n hx hb dX5_card_94 rfl (lv_at hl 2 rfl) ?_
        refine x_iast (G := G) hx hb hX.1 hW hS hv_A9_29 (vp_in_nI hcn (by omega)) dX5_card_95 (fun H locs hW hS => ?_)
        rw [show (nI nC).toNatClampNeg = nC from (nI_clamp (by omega))] at hW
        obtain ⟨E13, eE13⟩ : ∃ z, z = xU E12 (A9 2) (.inl (G.2.1 0, 8, .inl (upd (σ 2) nC a1))) := ⟨_, rfl⟩
        have hW : xW G E13 H := by rw [eE13]; exact hW
        have hoN99 : E13 o = some (.inr (5, [.int (nI nC), .ref (A9 1), .ref (A9 2), .ref (A9 3), .ref (A9 4), .int (σ 5 0), .ref (A9 6), .ref (A9 7), .ref (A9 8), .ref (A9 9), .int (σ 10 0), .ref (A9 11), .ref (A9 12), .ref (A9 13), .ref (A9 14), .ref (A9 15), .ref (A9 16), .ref (A9 17), .ref (A9 18), .int (nI (A9 19))])) := by rw [eE13]; exact xU_of hoN9 hv_A9_29 (fun h => by simp at h)
        have hu_A9_199 : E13 (A9 1) = some (.inl (G.2.1 0, 8, .inl (upd (σ 1) nC a0))) := by rw [eE13]; exact (xU_ne _ _ (hAA9.1.1)).trans hu_A9_19
        have hv_A9_399 : E13 (A9 3) = some (.inl (G.2.1 0, 8, .inl (σ 3))) := by rw [eE13]; exact (xU_ne _ _ (Ne.symm (hAA9.2.1.1))).trans hv_A9_39
        have hv_A9_499 : E13 (A9 4) = some (.inl (G.2.1 0, 8, .inl (σ 4))) := by rw [eE13]; exact (xU_ne _ _ (Ne.symm (hAA9.2.1.2.1))).trans hv_A9_49
        have hv_A9_699 : E13 (A9 6) = some (.inl (G.2.1 0, 4, .inl (σ 6))) := by rw [eE13]; exact (xU_ne _ _ (Ne.symm (hAA9.2.1.2.2.1))).trans hv_A9_69
        have hv_A9_799 : E13 (A9 7) = some (.inl (G.2.1 0, 4, .inl (σ 7))) := by rw [eE13]; exact (xU_ne _ _ (Ne.symm (hAA9.2.1.2.2.2.1))).trans hv_A9_79
        have hv_A9_899 : E13 (A9 8) = some (.inl (G.2.1 0, 4, .inl (σ 8))) := by rw [eE13]; exact (xU_ne _ _ (Ne.symm (hAA9.2.1.2.2.2.2.1))).trans hv_A9_89
        have hv_A9_999 : E13 (A9 9) = some (.inl (G.2.1 0, 4, .inl (σ 9))) := by rw [eE13]; exact (xU_ne _ _ (Ne.symm (hAA9.2.1.2.2.2.2.2.1))).trans hv_A9_99
        have hv_A9_1199 : E13 (A9 11) = some (.inl (G.2.1 0, 12, .inl (σ 11))) := by rw [eE13]; exact (xU_ne _ _ (Ne.symm (hAA9.2.1.2.2.2.2.2.2.1))).trans hv_A9_119
        have hv_A9_1299 : E13 (A9 12) = some (.inl (G.2.1 0, 12, .inl (σ 12))) := by rw [eE13]; exact (xU_ne _ _ (Ne.symm (hAA9.2.1.2.2.2.2.2.2.2.1))).trans hv_A9_129
        have hv_A9_1399 : E13 (A9 13) = some (.inl (G.2.1 0, 12, .inl (σ 13))) := by rw [eE13]; exact (xU_ne _ _ (Ne.symm (hAA9.2.1.2.2.2.2.2.2.2.2.1))).trans hv_A9_139
        have hv_A9_1499 : E13 (A9 14) = some (.inl (G.2.1 0, 12, .inl (σ 14))) := by rw [eE13]; exact (xU_ne _ _ (Ne.symm (hAA9.2.1.2.2.2.2.2.2.2.2.2.1))).trans hv_A9_149
        have hv_A9_1599 : E13 (A9 15) = some (.inl (G.2.1 0, 12, .inl (σ 15))) := by rw [eE13]; exact (xU_ne _ _ (Ne.symm (hAA9.2.1.2.2.2.2.2.2.2.2.2.2.1))).trans hv_A9_159
        have hv_A9_1699 : E13 (A9 16) = some (.inl (G.2.1 0, 12, .inl (σ 16))) := by rw [eE13]; exact (xU_ne _ _ (Ne.symm (hAA9.2.1.2.2.2.2.2.2.2.2.2.2.2.1))).trans hv_A9_169
        have hv_A9_1799 : E13 (A9 17) = some (.inl (G.2.1 0, 732, .inl (σ 17))) := by rw [eE13]; exact (xU_ne _ _ (Ne.symm (hAA9.2.1.2.2.2.2.2.2.2.2.2.2.2.2.1))).trans hv_A9_179
        have hv_A9_1899 : E13 (A9 18) = some (.inl (G.2.1 0, 732, .inl (σ 18))) := by rw [eE13]; exact (xU_ne _ _ (Ne.symm (hAA9.2.1.2.2.2.2.2.2.2.2.2.2.2.2.2))).trans hv_A9_189
        have hv_A9_299 : E13 (A9 2) = some (.inl (G.2.1 0, 8, .inl (upd (σ 2) nC a1))) := by rw [eE13]; exact xU_self _ _ _
        have hFr : xFr tM E E13 := by rw [eE13]; exact xFr_put hFr hv_A9_29 rfl _
        refine lv_aload_n hx hb dX5_card_96 rfl (lv_at hl 0 rfl) ?_
        refine va_get (D := G.1) (ci := 5) (v := .ref (A9 3)) (C := RX5) (T := TX5) (N := 20) hx hb hts hiX5 hown hX.1 (x1 hW hoN99) 0 rfl rfl 3 (by decide) hf16 (fun _ h9 => h9) rfl dX5_card_97 ?_
        refine lv_aload_n hx hb dX5_card_100 rfl (lv_at hl 0 rfl) ?_
        refine va_get (D := G.1) (ci := 5) (v := .int (nI nC)) (C := RX5) (T := TX5) (N := 20) hx hb hts hiX5 hown hX.1 (x1 hW hoN99) 0 rfl rfl 0 (by decide) hf76 (fun _ h9 => h9) rfl dX5_card_101 ?_
        refine lv_iload_n hx hb dX5_card_104 rfl (lv_at hl 3 rfl) ?_
        refine x_iast (G := G) hx hb hX.1 hW hS hv_A9_399 (vp_in_nI hcn (by omega)) dX5_card_105 (fun H locs hW hS => ?_)
        rw [show (nI nC).toNatClampNeg = nC from (nI_clamp (by omega))] at hW
        obtain ⟨E14, eE14⟩ : ∃ z, z = xU E13 (A9 3) (.inl (G.2.1 0, 8, .inl (upd (σ 3) nC a2))) := ⟨_, rfl⟩
        have hW : xW G E14 H := by rw [eE14]; exact hW
        have hoN999 : E14 o = some (.inr (5, [.int (nI nC), .ref (A9 1), .ref (A9 2), .ref (A9 3), .ref (A9 4), .int (σ 5 0), .ref (A9 6), .ref (A9 7), .ref (A9 8), .ref (A9 9), .int (σ 10 0), .ref (A9 11), .ref (A9 12), .ref (A9 13), .ref (A9 14), .ref (A9 15), .ref (A9 16), .ref (A9 17), .ref (A9 18), .int (nI (A9 19))])) := by rw [eE14]; exact xU_of hoN99 hv_A9_399 (fun h => by simp at h)
        have hu_A9_1999 : E14 (A9 1) = some (.inl (G.2.1 0, 8, .inl (upd (σ 1) nC a0))) := by rw [eE14]; exact (xU_ne _ _ (hAA9.1.2.1)).trans hu_A9_199
        have hv_A9_2999 : E14 (A9 2) = some (.inl (G.2.1 0, 8, .inl (upd (σ 2) nC a1))) := by rw [eE14]; exact (xU_ne _ _ (hAA9.2.1.1)).trans hv_A9_299
        have hv_A9_4999 : E14 (A9 4) = some (.inl (G.2.1 0, 8, .inl (σ 4))) := by rw [eE14]; exact (xU_ne _ _ (Ne.symm (hAA9.2.2.1.1))).trans hv_A9_499
        have hv_A9_6999 : E14 (A9 6) = some (.inl (G.2.1 0, 4, .inl (σ 6))) := by rw [eE14]; exact (xU_ne _ _ (Ne.symm (hAA9.2.2.1.2.1))).trans hv_A9_699
        have hv_A9_7999 : E14 (A9 7) = some (.inl (G.2.1 0, 4, .inl (σ 7))) := by rw [eE14]; exact (xU_ne _ _ (Ne.symm (hAA9.2.2.1.2.2.1))).trans hv_A9_799
        have hv_A9_8999 : E14 (A9 8) = some (.inl (G.2.1 0, 4, .inl (σ 8))) := by rw [eE14]; exact (xU_ne _ _ (Ne.symm (hAA9.2.2.1.2.2.2.1))).trans hv_A9_899
        have hv_A9_9999 : E14 (A9 9) = some (.inl (G.2.1 0, 4, .inl (σ 9))) := by rw [eE14]; exact (xU_ne _ _ (Ne.symm (hAA9.2.2.1.2.2.2.2.1))).trans hv_A9_999
        have hv_A9_11999 : E14 (A9 11) = some (.inl (G.2.1 0, 12, .inl (σ 11))) := by rw [eE14]; exact (xU_ne _ _ (Ne.symm (hAA9.2.2.1.2.2.2.2.2.1))).trans hv_A9_1199
        have hv_A9_12999 : E14 (A9 12) = some (.inl (G.2.1 0, 12, .inl (σ 12))) := by rw [eE14]; exact (xU_ne _ _ (Ne.symm (hAA9.2.2.1.2.2.2.2.2.2.1))).trans hv_A9_1299
        have hv_A9_13999 : E14 (A9 13) = some (.inl (G.2.1 0, 12, .inl (σ 13))) := by rw [eE14]; exact (xU_ne _ _ (Ne.symm (hAA9.2.2.1.2.2.2.2.2.2.2.1))).trans hv_A9_1399
        have hv_A9_14999 : E14 (A9 14) = some (.inl (G.2.1 0, 12, .inl (σ 14))) := by rw [eE14]; exact (xU_ne _ _ (Ne.symm (hAA9.2.2.1.2.2.2.2.2.2.2.2.1))).trans hv_A9_1499
        have hv_A9_15999 : E14 (A9 15) = some (.inl (G.2.1 0, 12, .inl (σ 15))) := by rw [eE14]; exact (xU_ne _ _ (Ne.symm (hAA9.2.2.1.2.2.2.2.2.2.2.2.2.1))).trans hv_A9_1599
        have hv_A9_16999 : E14 (A9 16) = some (.inl (G.2.1 0, 12, .inl (σ 16))) := by rw [eE14]; exact (xU_ne _ _ (Ne.symm (hAA9.2.2.1.2.2.2.2.2.2.2.2.2.2.1))).trans hv_A9_1699
        have hv_A9_17999 : E14 (A9 17) = some (.inl (G.2.1 0, 732, .inl (σ 17))) := by rw [eE14]; exact (xU_ne _ _ (Ne.symm (hAA9.2.2.1.2.2.2.2.2.2.2.2.2.2.2.1))).trans hv_A9_1799
        have hv_A9_18999 : E14 (A9 18) = some (.inl (G.2.1 0, 732, .inl (σ 18))) := by rw [eE14]; exact (xU_ne _ _ (Ne.symm (hAA9.2.2.1.2.2.2.2.2.2.2.2.2.2.2.2))).trans hv_A9_1899
        have hv_A9_3999 : E14 (A9 3) = some (.inl (G.2.1 0, 8, .inl (upd (σ 3) nC a2))) := by rw [eE14]; exact xU_self _ _ _
        have hFr : xFr tM E E14 := by rw [eE14]; exact xFr_put hFr hv_A9_399 rfl _
        refine lv_aload_n hx hb dX5_card_106 rfl (lv_at hl 0 rfl) ?_
        refine va_get (D := G.1) (ci := 5) (v := .ref (A9 4)) (C := RX5) (T := TX5) (N := 20) hx hb hts hiX5 hown hX.1 (x1 hW hoN999) 0 rfl rfl 4 (by decide) hf19 (fun _ h9 => h9) rfl dX5_card_107 ?_
        refine lv_aload_n hx hb dX5_card_110 rfl (lv_at hl 0 rfl) ?_
        refine va_get (D := G.1) (ci := 5) (v := .int (nI nC)) (C := RX5) (T := TX5) (N := 20) hx hb hts hiX5 hown hX.1 (x1 hW hoN999) 0 rfl rfl 0 (by decide) hf76 (fun _ h9 => h9) rfl dX5_card_111 ?_
        refine lv_iload_n hx hb dX5_card_114 rfl (lv_at hl 1 rfl) ?_
        refine x_join (ls' := ls) (rest' := [.int (nI nC), .ref (A9 4)]) 124 ((if a0 = 0 then ((1 : Int32)) else (a3))) (fun v ev => ?_) (fun J => ?_)
        · subst ev
          refine x_iast (G := G) hx hb hX.1 hW hS hv_A9_4999 (vp_in_nI hcn (by omega)) dX5_card_124 (fun H locs hW hS => ?_)
          rw [show (nI nC).toNatClampNeg = nC from (nI_clamp (by omega))] at hW
          obtain ⟨E16, eE16⟩ : ∃ z, z = xU E14 (A9 4) (.inl (G.2.1 0, 8, .inl (upd (σ 4) nC (if a0 = 0 then ((1 : Int32)) else (a3))))) := ⟨_, rfl⟩
          have hW : xW G E16 H := by rw [eE16]; exact hW
          have hoN9999 : E16 o = some (.inr (5, [.int (nI nC), .ref (A9 1), .ref (A9 2), .ref (A9 3), .ref (A9 4), .int (σ 5 0), .ref (A9 6), .ref (A9 7), .ref (A9 8), .ref (A9 9), .int (σ 10 0), .ref (A9 11), .ref (A9 12), .ref (A9 13), .ref (A9 14), .ref (A9 15), .ref (A9 16), .ref (A9 17), .ref (A9 18), .int (nI (A9 19))])) := by rw [eE16]; exact xU_of hoN999 hv_A9_4999 (fun h => by simp at h)
          have hu_A9_19999 : E16 (A9 1) = some (.inl (G.2.1 0, 8, .inl (upd (σ 1) nC a0))) := by rw [eE16]; exact (xU_ne _ _ (hAA9.1.2.2.1)).trans hu_A9_1999
          have hv_A9_29999 : E16 (A9 2) = some (.inl (G.2.1 0, 8, .inl (upd (σ 2) nC a1))) := by rw [eE16]; exact (xU_ne _ _ (hAA9.2.1.2.1)).trans hv_A9_2999
          have hv_A9_39999 : E16 (A9 3) = some (.inl (G.2.1 0, 8, .inl (upd (σ 3) nC a2))) := by rw [eE16]; exact (xU_ne _ _ (hAA9.2.2.1.1)).trans hv_A9_3999
          have hv_A9_69999 : E16 (A9 6) = some (.inl (G.2.1 0, 4, .inl (σ 6))) := by rw [eE16]; exact (xU_ne _ _ (Ne.symm (hAA9.2.2.2.1.1))).trans hv_A9_6999
          have hv_A9_79999 : E16 (A9 7) = some (.inl (G.2.1 0, 4, .inl (σ 7))) := by rw [eE16]; exact (xU_ne _ _ (Ne.symm (hAA9.2.2.2.1.2.1))).trans hv_A9_7999
          have hv_A9_89999 : E16 (A9 8) = some (.inl (G.2.1 0, 4, .inl (σ 8))) := by rw [eE16]; exact (xU_ne _ _ (Ne.symm (hAA9.2.2.2.1.2.2.1))).trans hv_A9_8999
          have hv_A9_99999 : E16 (A9 9) = some (.inl (G.2.1 0, 4, .inl (σ 9))) := by rw [eE16]; exact (xU_ne _ _ (Ne.symm (hAA9.2.2.2.1.2.2.2.1))).trans hv_A9_9999
          have hv_A9_119999 : E16 (A9 11) = some (.inl (G.2.1 0, 12, .inl (σ 11))) := by rw [eE16]; exact (xU_ne _ _ (Ne.symm (hAA9.2.2.2.1.2.2.2.2.1))).trans hv_A9_11999
          have hv_A9_129999 : E16 (A9 12) = some (.inl (G.2.1 0, 12, .inl (σ 12))) := by rw [eE16]; exact (xU_ne _ _ (Ne.symm (hAA9.2.2.2.1.2.2.2.2.2.1))).trans hv_A9_12999
          have hv_A9_139999 : E16 (A9 13) = some (.inl (G.2.1 0, 12, .inl (σ 13))) := by rw [eE16]; exact (xU_ne _ _ (Ne.symm (hAA9.2.2.2.1.2.2.2.2.2.2.1))).trans hv_A9_13999
          have hv_A9_149999 : E16 (A9 14) = some (.inl (G.2.1 0, 12, .inl (σ 14))) := by rw [eE16]; exact (xU_ne _ _ (Ne.symm (hAA9.2.2.2.1.2.2.2.2.2.2.2.1))).trans hv_A9_14999
          have hv_A9_159999 : E16 (A9 15) = some (.inl (G.2.1 0, 12, .inl (σ 15))) := by rw [eE16]; exact (xU_ne _ _ (Ne.symm (hAA9.2.2.2.1.2.2.2.2.2.2.2.2.1))).trans hv_A9_15999
          have hv_A9_169999 : E16 (A9 16) = some (.inl (G.2.1 0, 12, .inl (σ 16))) := by rw [eE16]; exact (xU_ne _ _ (Ne.symm (hAA9.2.2.2.1.2.2.2.2.2.2.2.2.2.1))).trans hv_A9_16999
          have hv_A9_179999 : E16 (A9 17) = some (.inl (G.2.1 0, 732, .inl (σ 17))) := by rw [eE16]; exact (xU_ne _ _ (Ne.symm (hAA9.2.2.2.1.2.2.2.2.2.2.2.2.2.2.1))).trans hv_A9_17999
          have hv_A9_189999 : E16 (A9 18) = some (.inl (G.2.1 0, 732, .inl (σ 18))) := by rw [eE16]; exact (xU_ne _ _ (Ne.symm (hAA9.2.2.2.1.2.2.2.2.2.2.2.2.2.2.2))).trans hv_A9_18999
          have hv_A9_49999 : E16 (A9 4) = some (.inl (G.2.1 0, 8, .inl (upd (σ 4) nC (if a0 = 0 then ((1 : Int32)) else (a3))))) := by rw [eE16]; exact xU_self _ _ _
          have hFr : xFr tM E E16 := by rw [eE16]; exact xFr_put hFr hv_A9_4999 rfl _
          refine lv_aload_n hx hb dX5_card_125 rfl (lv_at hl 0 rfl) ?_
          refine lv_dup hx hb dX5_card_126 rfl ?_
          refine va_get (D := G.1) (ci := 5) (v := .int (nI nC)) (C := RX5) (T := TX5) (N := 20) hx hb hts hiX5 hown hX.1 (x1 hW hoN9999) 0 rfl rfl 0 (by decide) hf76 (fun _ h9 => h9) rfl dX5_card_127 ?_
          refine lv_iconst (v := 1) hx hb dX5_card_130 (by decide) ?_
          refine lv_iadd hx hb dX5_card_131 ?_
          rw [nI_1]
          refine x_put (G := G) (ci := 5) (v := .int (nI (nC + 1))) (ty := .int) (C := RX5) (T := TX5) (N := 20) hx hb hts hiX5 tyX5 tyX5_ok nmX5 hown hX.1 hW hS hoN9999 rfl 0 (by decide) hf76 (fun _ h9 => h9) rfl (by decide +kernel) rfl rfl (Nat.le_of_ble_eq_true rfl) dX5_card_132 (fun H locs hW hS => ?_)
          obtain ⟨E17, eE17⟩ : ∃ z, z = xU E16 o (.inr (5, [.int (nI (nC + 1)), .ref (A9 1), .ref (A9 2), .ref (A9 3), .ref (A9 4), .int (σ 5 0), .ref (A9 6), .ref (A9 7), .ref (A9 8), .ref (A9 9), .int (σ 10 0), .ref (A9 11), .ref (A9 12), .ref (A9 13), .ref (A9 14), .ref (A9 15), .ref (A9 16), .ref (A9 17), .ref (A9 18), .int (nI (A9 19))])) := ⟨_, rfl⟩
          have hW : xW G E17 H := by rw [eE17]; exact hW
          have hu_A9_199999 : E17 (A9 1) = some (.inl (G.2.1 0, 8, .inl (upd (σ 1) nC a0))) := by rw [eE17]; exact xU_of hu_A9_19999 hoN9999 (fun h => by simp at h)
          have hv_A9_299999 : E17 (A9 2) = some (.inl (G.2.1 0, 8, .inl (upd (σ 2) nC a1))) := by rw [eE17]; exact xU_of hv_A9_29999 hoN9999 (fun h => by simp at h)
          have hv_A9_399999 : E17 (A9 3) = some (.inl (G.2.1 0, 8, .inl (upd (σ 3) nC a2))) := by rw [eE17]; exact xU_of hv_A9_39999 hoN9999 (fun h => by simp at h)
          have hv_A9_499999 : E17 (A9 4) = some (.inl (G.2.1 0, 8, .inl (upd (σ 4) nC (if a0 = 0 then ((1 : Int32)) else (a3))))) := by rw [eE17]; exact xU_of hv_A9_49999 hoN9999 (fun h => by simp at h)
          have hv_A9_699999 : E17 (A9 6) = some (.inl (G.2.1 0, 4, .inl (σ 6))) := by rw [eE17]; exact xU_of hv_A9_69999 hoN9999 (fun h => by simp at h)
          have hv_A9_799999 : E17 (A9 7) = some (.inl (G.2.1 0, 4, .inl (σ 7))) := by rw [eE17]; exact xU_of hv_A9_79999 hoN9999 (fun h => by simp at h)
          have hv_A9_899999 : E17 (A9 8) = some (.inl (G.2.1 0, 4, .inl (σ 8))) := by rw [eE17]; exact xU_of hv_A9_89999 hoN9999 (fun h => by simp at h)
          have hv_A9_999999 : E17 (A9 9) = some (.inl (G.2.1 0, 4, .inl (σ 9))) := by rw [eE17]; exact xU_of hv_A9_99999 hoN9999 (fun h => by simp at h)
          have hv_A9_1199999 : E17 (A9 11) = some (.inl (G.2.1 0, 12, .inl (σ 11))) := by rw [eE17]; exact xU_of hv_A9_119999 hoN9999 (fun h => by simp at h)
          have hv_A9_1299999 : E17 (A9 12) = some (.inl (G.2.1 0, 12, .inl (σ 12))) := by rw [eE17]; exact xU_of hv_A9_129999 hoN9999 (fun h => by simp at h)
          have hv_A9_1399999 : E17 (A9 13) = some (.inl (G.2.1 0, 12, .inl (σ 13))) := by rw [eE17]; exact xU_of hv_A9_139999 hoN9999 (fun h => by simp at h)
          have hv_A9_1499999 : E17 (A9 14) = some (.inl (G.2.1 0, 12, .inl (σ 14))) := by rw [eE17]; exact xU_of hv_A9_149999 hoN9999 (fun h => by simp at h)
          have hv_A9_1599999 : E17 (A9 15) = some (.inl (G.2.1 0, 12, .inl (σ 15))) := by rw [eE17]; exact xU_of hv_A9_159999 hoN9999 (fun h => by simp at h)
          have hv_A9_1699999 : E17 (A9 16) = some (.inl (G.2.1 0, 12, .inl (σ 16))) := by rw [eE17]; exact xU_of hv_A9_169999 hoN9999 (fun h => by simp at h)
          have hv_A9_1799999 : E17 (A9 17) = some (.inl (G.2.1 0, 732, .inl (σ 17))) := by rw [eE17]; exact xU_of hv_A9_179999 hoN9999 (fun h => by simp at h)
          have hv_A9_1899999 : E17 (A9 18) = some (.inl (G.2.1 0, 732, .inl (σ 18))) := by rw [eE17]; exact xU_of hv_A9_189999 hoN9999 (fun h => by simp at h)
          have hoN99999 : E17 o = some (.inr (5, [.int (nI (nC + 1)), .ref (A9 1), .ref (A9 2), .ref (A9 3), .ref (A9 4), .int (σ 5 0), .ref (A9 6), .ref (A9 7), .ref (A9 8), .ref (A9 9), .int (σ 10 0), .ref (A9 11), .ref (A9 12), .ref (A9 13), .ref (A9 14), .ref (A9 15), .ref (A9 16), .ref (A9 17), .ref (A9 18), .int (nI (A9 19))])) := by rw [eE17]; exact xU_self _ _ _
          have hFr : xFr tM E E17 := by rw [eE17]; exact xFr_put hFr hoN9999 rfl _
          refine lv_aload_n hx hb dX5_card_135 rfl (lv_at hl 0 rfl) ?_
          refine va_get (D := G.1) (ci := 5) (v := .int (nI (nC + 1))) (C := RX5) (T := TX5) (N := 20) hx hb hts hiX5 hown hX.1 (x1 hW hoN99999) 0 rfl rfl 0 (by decide) hf76 (fun _ h9 => h9) rfl dX5_card_136 ?_
          refine lv_iconst (v := 1) hx hb dX5_card_139 (by decide) ?_
          refine lv_isub hx hb dX5_card_140 ?_
          exact W.widen (k := 0) (n := 0) (Nat.le_of_ble_eq_true rfl) (Nat.le_of_ble_eq_true rfl) (W.iret (v := (nI (nC + 1)) - 1) hx hb hr (fun t ht hw => ⟨⟨_, E17, rfl, ⟨((nI (nC + 1)) - 1, 0), (show _ = (((nI (nC + 1)) - 1, 0) : Int32 × Nat) from by unfold mX5_card; rw [if_pos c_10, if_neg c_11]), rfl, (show xMd G E17 o (sgCard σ nC a0 a1 a2 (if a0 = 0 then (1 : Int32) else a3)) 0 from (by skip; exact ⟨A9, ⟨hoN99999, hu_A9_199999, hv_A9_299999, hv_A9_399999, hv_A9_499999, hv_A9_699999, hv_A9_799999, hv_A9_899999, hv_A9_999999, hv_A9_1199999, hv_A9_1299999, hv_A9_1399999, hv_A9_1499999, hv_A9_1599999, hv_A9_1699999, hv_A9_1799999, hv_A9_1899999⟩, hAA9, hzA9⟩)), hFr⟩, (show xW G E17 t.heap from by rw [ht]; exact hW)⟩, hS.F ht⟩) hS.2.2 dX5_card_141)
        · refine lv_if_ne (tgt := 122) hx hb dX5_card_115 (by decide) (fun c_15 => ?_) (fun c_15 => ?_)
          · refine lv_iload hx hb dX5_card_122 (lv_at hl 4 rfl) ?_
            exact J _ (show (a3 : Int32) = if a0 = 0 then ((1 : Int32)) else (a3) from by rw [if_neg c_15])
          · refine lv_iconst (v := 1) hx hb dX5_card_118 (by decide) ?_
            refine lv_goto (tgt := 124) hx hb dX5_card_119 (by decide) ?_
            exact J _ (show (1 : Int32) = if a0 = 0 then ((1 : Int32)) else (a3) from by rw [if_pos c_15])
      · refine lv_aload_n hx hb dX5_card_70 rfl (lv_at hl 0 rfl) ?_
        refine lv_iconst (v := 2) hx hb dX5_card_71 (by decide) ?_
        refine va_calli (va_runV (As := [.int 2]) (rest := []) ⟨hx, hb, hml, hown, hts⟩ (kX5_fails l G _ (σ) o 2 A9 hMA9 hAA9) (cwV 1 hts gX5_card_X5_fails rfl rfl rfl (by decide +kernel) ⟨Nat.le_of_ble_eq_true rfl, Nat.le_of_ble_eq_true rfl⟩) (x_preV hX hS hW hMA9.1 rfl) rfl rfl hl.1 rfl (lv_room (Nat.le_of_ble_eq_true rfl)) dX5_card_72 ⟨Nat.le_of_ble_eq_true rfl, Nat.le_of_ble_eq_true rfl⟩) hS (fun _ _ h => h) (fun _ h => h) (fun r19 E18 t H1 locs1 ht hvm hw hB hz1 hk1 hS1 => ?_)
        rw [ht] at hB
        have hS := hS1
        obtain ⟨hrA20, ⟨A20, hMA20, hAA20, htA20⟩, hFrA20⟩ := hw
        have hFr := hFr.trans hFrA20
        have hW : xW G E18 H1 := hB
        subst hrA20
        exact W.widen (k := 0) (n := 0) (Nat.le_of_ble_eq_true rfl) (Nat.le_of_ble_eq_true rfl) (W.iret (v := 0) hx hb hr (fun t ht hw => ⟨⟨_, E18, rfl, ⟨((0 : Int32), 2), (show _ = (((0 : Int32), 2) : Int32 × Nat) from by unfold mX5_card; rw [if_pos c_10, if_pos c_11]), rfl, (show xMd G E18 o (σ) 2 from ⟨A20, hMA20, hAA20, htA20⟩), hFr⟩, (show xW G E18 t.heap from by rw [ht]; exact hW)⟩, hS.F ht⟩) hS.2.2 dX5_card_75)
    · have hzA9 := htA9.trans (if_neg (Bool.eq_false_iff.mp c_10))
      refine lv_iconst (v := 0) hx hb dX5_card_59 (by decide) ?_
      exact W.widen (k := 0) (n := 0) (Nat.le_of_ble_eq_true rfl) (Nat.le_of_ble_eq_true rfl) (W.iret (v := 0) hx hb hr (fun t ht hw => ⟨⟨_, E7, rfl, ⟨((0 : Int32), 1), (show _ = (((0 : Int32), 1) : Int32 × Nat) from by unfold mX5_card; rw [if_neg (Bool.eq_false_iff.mp c_10)]), rfl, (show xMd G E7 o (σ) 1 from ⟨A9, hMA9, hAA9, hzA9⟩), hFr⟩, (show xW G E7 t.heap from by rw [ht]; exact hW)⟩, hS.F ht⟩) hS.2.2 dX5_card_60)
  · refine x_ifz_eq (b := fX5_in a0 0 2) (tgt := 52) hx hb dX5_card_7 (by decide) (fun c_1 => ?_) (fun c_1 => ?_)
    · refine lv_iconst (v := 0) hx hb dX5_card_52 (by decide) ?_
      exact J _ (congrArg zI (show false = if (fX5_in a0 0 2) = true then (if (fX5_in a1 (-2) 2) = true then (if (fX5_in a2 (-2) 2) = true then (if (fX5_in a3 1 4) = true then (if a1 = 0 then (if a2 = 0 then (false) else (true)) else (true)) else (false)) else (false)) else (false)) else (false) from by rw [if_neg (Bool.eq_false_iff.mp c_1)]))
    · refine lv_iload_n hx hb dX5_card_10 rfl (lv_at hl 2 rfl) ?_
      refine lv_bipush (v := (-2)) hx hb dX5_card_11 (by decide) ?_
      refine lv_iconst (v := 2) hx hb dX5_card_13 (by decide) ?_
      refine x_callSe (va_runS (As := [.int a1, .int (-2), .int 2]) (rest := [.ref o]) ⟨hx, hb, hml, hown, hts⟩ (kX5_in l a1 (-2) 2) (va_cwS 3 hts gX5_card_X5_in rfl rfl rfl (by decide +kernel) ⟨Nat.le_of_ble_eq_true rfl, Nat.le_of_ble_eq_true rfl⟩) x_preT rfl rfl hl.1 rfl (lv_room (Nat.le_of_ble_eq_true rfl)) dX5_card_14 ⟨Nat.le_of_ble_eq_true rfl, Nat.le_of_ble_eq_true rfl⟩) ?_
      refine x_ifz_eq (b := fX5_in a1 (-2) 2) (tgt := 52) hx hb dX5_card_17 (by decide) (fun c_2 => ?_) (fun c_2 => ?_)
      · refine lv_iconst (v := 0) hx hb dX5_card_52 (by decide) ?_
        exact J _ (congrArg zI (show false = if (fX5_in a0 0 2) = true then (if (fX5_in a1 (-2) 2) = true then (if (fX5_in a2 (-2) 2) = true then (if (fX5_in a3 1 4) = true then (if a1 = 0 then (if a2 = 0 then (false) else (true)) else (true)) else (false)) else (false)) else (false)) else (false) from by rw [if_pos c_1, if_neg (Bool.eq_false_iff.mp c_2)]))
      · refine lv_iload_n hx hb dX5_card_20 rfl (lv_at hl 3 rfl) ?_
        refine lv_bipush (v := (-2)) hx hb dX5_card_21 (by decide) ?_
        refine lv_iconst (v := 2) hx hb dX5_card_23 (by decide) ?_
        refine x_callSe (va_runS (As := [.int a2, .int (-2), .int 2]) (rest := [.ref o]) ⟨hx, hb, hml, hown, hts⟩ (kX5_in l a2 (-2) 2) (va_cwS 3 hts gX5_card_X5_in rfl rfl rfl (by decide +kernel) ⟨Nat.le_of_ble_eq_true rfl, Nat.le_of_ble_eq_true rfl⟩) x_preT rfl rfl hl.1 rfl (lv_room (Nat.le_of_ble_eq_true rfl)) dX5_card_24 ⟨Nat.le_of_ble_eq_true rfl, Nat.le_of_ble_eq_true rfl⟩) ?_
        refine x_ifz_eq (b := fX5_in a2 (-2) 2) (tgt := 52) hx hb dX5_card_27 (by decide) (fun c_3 => ?_) (fun c_3 => ?_)
        · refine lv_iconst (v := 0) hx hb dX5_card_52 (by decide) ?_
          exact J _ (congrArg zI (show false = if (fX5_in a0 0 2) = true then (if (fX5_in a1 (-2) 2) = true then (if (fX5_in a2 (-2) 2) = true then (if (fX5_in a3 1 4) = true then (if a1 = 0 then (if a2 = 0 then (false) else (true)) else (true)) else (false)) else (false)) else (false)) else (false) from by rw [if_pos c_1, if_pos c_2, if_neg (Bool.eq_false_iff.mp c_3)]))
        · refine lv_iload hx hb dX5_card_30 (lv_at hl 4 rfl) ?_
          refine lv_iconst (v := 1) hx hb dX5_card_32 (by decide) ?_
          refine lv_iconst (v := 4) hx hb dX5_card_33 (by decide) ?_
          refine x_callSe (va_runS (As := [.int a3, .int 1, .int 4]) (rest := [.ref o]) ⟨hx, hb, hml, hown, hts⟩ (kX5_in l a3 1 4) (va_cwS 3 hts gX5_card_X5_in rfl rfl rfl (by decide +kernel) ⟨Nat.le_of_ble_eq_true rfl, Nat.le_of_ble_eq_true rfl⟩) x_preT rfl rfl hl.1 rfl (lv_room (Nat.le_of_ble_eq_true rfl)) dX5_card_34 ⟨Nat.le_of_ble_eq_true rfl, Nat.le_of_ble_eq_true rfl⟩) ?_
          refine x_ifz_eq (b := fX5_in a3 1 4) (tgt := 52) hx hb dX5_card_37 (by decide) (fun c_4 => ?_) (fun c_4 => ?_)
          · refine lv_iconst (v := 0) hx hb dX5_card_52 (by decide) ?_
            exact J _ (congrArg zI (show false = if (fX5_in a0 0 2) = true then (if (fX5_in a1 (-2) 2) = true then (if (fX5_in a2 (-2) 2) = true then (if (fX5_in a3 1 4) = true then (if a1 = 0 then (if a2 = 0 then (false) else (true)) else (true)) else (false)) else (false)) else (false)) else (false) from by rw [if_pos c_1, if_pos c_2, if_pos c_3, if_neg (Bool.eq_false_iff.mp c_4)]))
          · refine lv_iload_n hx hb dX5_card_40 rfl (lv_at hl 2 rfl) ?_
            refine lv_if_ne (tgt := 48) hx hb dX5_card_41 (by decide) (fun c_5 => ?_) (fun c_5 => ?_)
            · refine lv_iconst (v := 1) hx hb dX5_card_48 (by decide) ?_
              refine lv_goto (tgt := 53) hx hb dX5_card_49 (by decide) ?_
              exact J _ (congrArg zI (show true = if (fX5_in a0 0 2) = true then (if (fX5_in a1 (-2) 2) = true then (if (fX5_in a2 (-2) 2) = true then (if (fX5_in a3 1 4) = true then (if a1 = 0 then (if a2 = 0 then (false) else (true)) else (true)) else (false)) else (false)) else (false)) else (false) from by rw [if_pos c_1, if_pos c_2, if_pos c_3, if_pos c_4, if_neg c_5]))
            · refine lv_iload_n hx hb dX5_card_44 rfl (lv_at hl 3 rfl) ?_
              refine lv_if_eq (tgt := 52) hx hb dX5_card_45 (by decide) (fun c_6 => ?_) (fun c_6 => ?_)
              · refine lv_iconst (v := 0) hx hb dX5_card_52 (by decide) ?_
                exact J _ (congrArg zI (show false = if (fX5_in a0 0 2) = true then (if (fX5_in a1 (-2) 2) = true then (if (fX5_in a2 (-2) 2) = true then (if (fX5_in a3 1 4) = true then (if a1 = 0 then (if a2 = 0 then (false) else (true)) else (true)) else (false)) else (false)) else (false)) else (false) from by rw [if_pos c_1, if_pos c_2, if_pos c_3, if_pos c_4, if_pos c_5, if_pos c_6]))
              · refine lv_iconst (v := 1) hx hb dX5_card_48 (by decide) ?_
                refine lv_goto (tgt := 53) hx hb dX5_card_49 (by decide) ?_
                exact J _ (congrArg zI (show true = if (fX5_in a0 0 2) = true then (if (fX5_in a1 (-2) 2) = true then (if (fX5_in a2 (-2) 2) = true then (if (fX5_in a3 1 4) = true then (if a1 = 0 then (if a2 = 0 then (false) else (true)) else (true)) else (false)) else (false)) else (false)) else (false) from by rw [if_pos c_1, if_pos c_2, if_pos c_3, if_pos c_4, if_pos c_5, if_neg c_6]))

def mX5_variant (σ : xSg) (nV : Nat) (a0 a1 : Int32) : Int32 × Nat := if (if (fX5_in a0 0 33554431) = true then (if (fX5_areCards (σ) a1) = true then (true) else (false)) else (false)) = true then (if (σ 5 0) = (4 : Int32) then (((0 : Int32), 2)) else (((nI (nV + 1)) - 1, 0))) else (((0 : Int32), 1))
set_option maxHeartbeats 4000000 in
set_option maxRecDepth 100000 in
theorem kX5_variant (l : Launch) (G : xG) (E : xE) (σ : xSg) (o : Nat) (a0 : Int32) (a1 : Int32) (A : Nat → Nat) (hM : xMod G E o A σ) (hA : xAi A) (nC nV nG : Nat) (hI : xMi σ nC nV nG) : Met l yX5_variant wsX5_variant ({ frames := 1, cells := 0, slots := 0, locals := 22 }) (va_Pc [.ref o, .int a0, .int a1] (xB G E)) (va_Qi (S := xE) (fun r E' => ∃ q : Int32 × Nat, mX5_variant σ nV a0 a1 = q ∧ r = q.1 ∧ xMd G E' o (if q.2 = 0 then sgVar σ nV a0 a1 else σ) q.2 ∧ xFr tM E E') (fun E' t => xW G E' t.heap) (xA G)) 0 0 (xA G) := by
  refine Met.ofW (cc := cX5_variant) (maxL := 3) (ret := (some .int)) (by decide) rfl ?_
  intro p e s m args below meth c s₁ B hml hv
  obtain ⟨rfl, hX, hW⟩ := hv
  have hx := B.exec
  have hb := B.bytes
  have hr := B.returns
  have hts := atoms_spec (ws := wsX5_variant) B.pre
  have hown : s.vm.findClass RX5 = some m.cls := findClass_of_methodNamed B.named
  have hlocks := B.notSynchronized
  have hS : va_S (xA G) s.heap s.heap [] := va_S.rf
  have hk83 := hts (Cond.constant RX5 83 (33554431)) (by decide +kernel)
  have hiX5 : ∀ w ∈ u_ws RX5 TX5 20, w ∈ wsX5_variant := by decide +kernel
  have hf62 := hts (Cond.fieldLink RX5 62 "VariantMillModel" "variants" "I") (by decide +kernel)
  have hf22 := hts (Cond.fieldLink RX5 22 "VariantMillModel" "holes" "[I") (by decide +kernel)
  have hf25 := hts (Cond.fieldLink RX5 25 "VariantMillModel" "has" "[I") (by decide +kernel)
  have hl := lv_entry ([.ref o, .int a0, .int a1]) (n := 3) (Nat.le_of_ble_eq_true rfl)
  rw [lg_entry_eq]
  generalize (lg_sl ([.ref o, .int a0, .int a1]) ++ List.replicate (3 - (lg_sl ([.ref o, .int a0, .int a1])).length) Slot.unset).toArray = ls at hl ⊢
  have hl : lv_has ls 3 [(0, .ref o), (1, .int a0), (2, .int a1)] := hl
  obtain ⟨H, hH⟩ : ∃ z, z = s.heap := ⟨_, rfl⟩
  rw [← hH] at hW
  have hS : va_S (xA G) s.heap H [] := by rw [hH]; exact hS
  rw [← hH]
  have hFr : xFr tM E E := xFr_rf
  refine lv_aload_n hx hb dX5_variant_0 rfl (lv_at hl 0 rfl) ?_
  refine lv_iload_n hx hb dX5_variant_1 rfl (lv_at hl 1 rfl) ?_
  refine lv_iconst (v := 0) hx hb dX5_variant_2 (by decide) ?_
  refine lv_ldc (v := 33554431) hx hb hown hk83 dX5_variant_3 ?_
  refine x_callSe (va_runS (As := [.int a0, .int 0, .int 33554431]) (rest := [.ref o]) ⟨hx, hb, hml, hown, hts⟩ (kX5_in l a0 0 33554431) (va_cwS 3 hts gX5_variant_X5_in rfl rfl rfl (by decide +kernel) ⟨Nat.le_of_ble_eq_true rfl, Nat.le_of_ble_eq_true rfl⟩) x_preT rfl rfl hl.1 rfl (lv_room (Nat.le_of_ble_eq_true rfl)) dX5_variant_5 ⟨Nat.le_of_ble_eq_true rfl, Nat.le_of_ble_eq_true rfl⟩) ?_
  refine x_join (ls' := ls) (rest' := [.ref o]) 24 (zI (if (fX5_in a0 0 33554431) = true then (if (fX5_areCards (σ) a1) = true then (true) else (false)) else (false))) (fun v ev => ?_) (fun J => ?_)
  · subst ev
    refine va_calli (va_runV (As := [.int (zI (if (fX5_in a0 0 33554431) = true then (if (fX5_areCards (σ) a1) = true then (true) else (false)) else (false)))]) (rest := []) ⟨hx, hb, hml, hown, hts⟩ (kX5_asks l G _ (σ) o (if (fX5_in a0 0 33554431) = true then (if (fX5_areCards (σ) a1) = true then (true) else (false)) else (false)) A hM hA) (cwV 1 hts gX5_variant_X5_asks rfl rfl rfl (by decide +kernel) ⟨Nat.le_of_ble_eq_true rfl, Nat.le_of_ble_eq_true rfl⟩) (x_preV hX hS hW hM.1 rfl) rfl rfl hl.1 rfl (lv_room (Nat.le_of_ble_eq_true rfl)) dX5_variant_24 ⟨Nat.le_of_ble_eq_true rfl, Nat.le_of_ble_eq_true rfl⟩) hS (fun _ _ h => h) (fun _ h => h) (fun r4 E3 t H1 locs1 ht hvm hw hB hz1 hk1 hS1 => ?_)
    rw [ht] at hB
    have hS := hS1
    obtain ⟨hrA5, ⟨A5, hMA5, hAA5, htA5⟩, hFrA5⟩ := hw
    have hFr := hFr.trans hFrA5
    have hW : xW G E3 H1 := hB
    subst hrA5
    refine x_ifz_ne (b := (if (fX5_in a0 0 33554431) = true then (if (fX5_areCards (σ) a1) = true then (true) else (false)) else (false))) (tgt := 32) hx hb dX5_variant_27 (by decide) (fun c_6 => ?_) (fun c_6 => ?_)
    · have hzA5 := htA5.trans (if_pos c_6)
      have hcb := hI.2.2.1
      have hcv := hI.2.1
      refine lv_aload_n hx hb dX5_variant_32 rfl (lv_at hl 0 rfl) ?_
      refine va_get (D := G.1) (ci := 5) (v := .int (σ 5 0)) (C := RX5) (T := TX5) (N := 20) hx hb hts hiX5 hown hX.1 (x1 hW hMA5.1) 0 rfl rfl 5 (by decide) hf62 (fun _ h9 => h9) rfl dX5_variant_33 ?_
      refine lv_iconst (v := 4) hx hb dX5_variant_36 (by decide) ?_
      refine lv_icmp_ne (tgt := 46) hx hb dX5_variant_37 (by decide) (fun c_7 => ?_) (fun c_7 => ?_)
      · have hcn : nV < 4 := by rcases Nat.lt_or_ge nV 4 with z | z; exact z; exact absurd (show σ 5 0 = (4 : Int32) from by rw [hcv, show nV = 4 by have := hcb; omega]; rfl) c_7
        have hoN : E3 o = some (.inr (5, [.int (σ 0 0), .ref (A5 1), .ref (A5 2), .ref (A5 3), .ref (A5 4), .int (nI nV), .ref (A5 6), .ref (A5 7), .ref (A5 8), .ref (A5 9), .int (σ 10 0), .ref (A5 11), .ref (A5 12), .ref (A5 13), .ref (A5 14), .ref (A5 15), .ref (A5 16), .ref (A5 17), .ref (A5 18), .int (nI (A5 19))])) := by rw [← hcv]; exact hMA5.1
        refine lv_aload_n hx hb dX5_variant_46 rfl (lv_at hl 0 rfl) ?_
        refine va_get (D := G.1) (ci := 5) (v := .ref (A5 6)) (C := RX5) (T := TX5) (N := 20) hx hb hts hiX5 hown hX.1 (x1 hW hoN) 0 rfl rfl 6 (by decide) hf22 (fun _ h9 => h9) rfl dX5_variant_47 ?_
        refine lv_aload_n hx hb dX5_variant_50 rfl (lv_at hl 0 rfl) ?_
        refine va_get (D := G.1) (ci := 5) (v := .int (nI nV)) (C := RX5) (T := TX5) (N := 20) hx hb hts hiX5 hown hX.1 (x1 hW hoN) 0 rfl rfl 5 (by decide) hf62 (fun _ h9 => h9) rfl dX5_variant_51 ?_
        refine lv_iload_n hx hb dX5_variant_54 rfl (lv_at hl 1 rfl) ?_
        refine x_iast (G := G) hx hb hX.1 hW hS hMA5.2.2.2.2.2.1 (vp_in_nI hcn (by omega)) dX5_variant_55 (fun H locs hW hS => ?_)
        rw [show (nI nV).toNatClampNeg = nV from (nI_clamp (by omega))] at hW
        obtain ⟨E8, eE8⟩ : ∃ z, z = xU E3 (A5 6) (.inl (G.2.1 0, 4, .inl (upd (σ 6) nV a0))) := ⟨_, rfl⟩
        have hW : xW G E8 H := by rw [eE8]; exact hW
        have hoN9 : E8 o = some (.inr (5, [.int (σ 0 0), .ref (A5 1), .ref (A5 2), .ref (A5 3), .ref (A5 4), .int (nI nV), .ref (A5 6), .ref (A5 7), .ref (A5 8), .ref (A5 9), .int (σ 10 0), .ref (A5 11), .ref (A5 12), .ref (A5 13), .ref (A5 14), .ref (A5 15), .ref (A5 16), .ref (A5 17), .ref (A5 18), .int (nI (A5 19))])) := by rw [eE8]; exact xU_of hoN hMA5.2.2.2.2.2.1 (fun h => by simp at h)
        have hv_A5_19 : E8 (A5 1) = some (.inl (G.2.1 0, 8, .inl (σ 1))) := by rw [eE8]; exact (xU_ne _ _ (hAA5.1.2.2.2.1)).trans hMA5.2.1
        have hv_A5_29 : E8 (A5 2) = some (.inl (G.2.1 0, 8, .inl (σ 2))) := by rw [eE8]; exact (xU_ne _ _ (hAA5.2.1.2.2.1)).trans hMA5.2.2.1
        have hv_A5_39 : E8 (A5 3) = some (.inl (G.2.1 0, 8, .inl (σ 3))) := by rw [eE8]; exact (xU_ne _ _ (hAA5.2.2.1.2.1)).trans hMA5.2.2.2.1
        have hv_A5_49 : E8 (A5 4) = some (.inl (G.2.1 0, 8, .inl (σ 4))) := by rw [eE8]; exact (xU_ne _ _ (hAA5.2.2.2.1.1)).trans hMA5.2.2.2.2.1
        have hv_A5_79 : E8 (A5 7) = some (.inl (G.2.1 0, 4, .inl (σ 7))) := by rw [eE8]; exact (xU_ne _ _ (Ne.symm (hAA5.2.2.2.2.1.1))).trans hMA5.2.2.2.2.2.2.1
        have hv_A5_89 : E8 (A5 8) = some (.inl (G.2.1 0, 4, .inl (σ 8))) := by rw [eE8]; exact (xU_ne _ _ (Ne.symm (hAA5.2.2.2.2.1.2.1))).trans hMA5.2.2.2.2.2.2.2.1
        have hv_A5_99 : E8 (A5 9) = some (.inl (G.2.1 0, 4, .inl (σ 9))) := by rw [eE8]; exact (xU_ne _ _ (Ne.symm (hAA5.2.2.2.2.1.2.2.1))).trans hMA5.2.2.2.2.2.2.2.2.1
        have hv_A5_119 : E8 (A5 11) = some (.inl (G.2.1 0, 12, .inl (σ 11))) := by rw [eE8]; exact (xU_ne _ _ (Ne.symm (hAA5.2.2.2.2.1.2.2.2.1))).trans hMA5.2.2.2.2.2.2.2.2.2.1
        have hv_A5_129 : E8 (A5 12) = some (.inl (G.2.1 0, 12, .inl (σ 12))) := by rw [eE8]; exact (xU_ne _ _ (Ne.symm (hAA5.2.2.2.2.1.2.2.2.2.1))).trans hMA5.2.2.2.2.2.2.2.2.2.2.1
        have hv_A5_139 : E8 (A5 13) = some (.inl (G.2.1 0, 12, .inl (σ 13))) := by rw [eE8]; exact (xU_ne _ _ (Ne.symm (hAA5.2.2.2.2.1.2.2.2.2.2.1))).trans hMA5.2.2.2.2.2.2.2.2.2.2.2.1
        have hv_A5_149 : E8 (A5 14) = some (.inl (G.2.1 0, 12, .inl (σ 14))) := by rw [eE8]; exact (xU_ne _ _ (Ne.symm (hAA5.2.2.2.2.1.2.2.2.2.2.2.1))).trans hMA5.2.2.2.2.2.2.2.2.2.2.2.2.1
        have hv_A5_159 : E8 (A5 15) = some (.inl (G.2.1 0, 12, .inl (σ 15))) := by rw [eE8]; exact (xU_ne _ _ (Ne.symm (hAA5.2.2.2.2.1.2.2.2.2.2.2.2.1))).trans hMA5.2.2.2.2.2.2.2.2.2.2.2.2.2.1
        have hv_A5_169 : E8 (A5 16) = some (.inl (G.2.1 0, 12, .inl (σ 16))) := by rw [eE8]; exact (xU_ne _ _ (Ne.symm (hAA5.2.2.2.2.1.2.2.2.2.2.2.2.2.1))).trans hMA5.2.2.2.2.2.2.2.2.2.2.2.2.2.2.1
        have hv_A5_179 : E8 (A5 17) = some (.inl (G.2.1 0, 732, .inl (σ 17))) := by rw [eE8]; exact (xU_ne _ _ (Ne.symm (hAA5.2.2.2.2.1.2.2.2.2.2.2.2.2.2.1))).trans hMA5.2.2.2.2.2.2.2.2.2.2.2.2.2.2.2.1
        have hv_A5_189 : E8 (A5 18) = some (.inl (G.2.1 0, 732, .inl (σ 18))) := by rw [eE8]; exact (xU_ne _ _ (Ne.symm (hAA5.2.2.2.2.1.2.2.2.2.2.2.2.2.2.2))).trans hMA5.2.2.2.2.2.2.2.2.2.2.2.2.2.2.2.2
        have hu_A5_69 : E8 (A5 6) = some (.inl (G.2.1 0, 4, .inl (upd (σ 6) nV a0))) := by rw [eE8]; exact xU_self _ _ _
        have hFr : xFr tM E E8 := by rw [eE8]; exact xFr_put hFr hMA5.2.2.2.2.2.1 rfl _
        refine lv_aload_n hx hb dX5_variant_56 rfl (lv_at hl 0 rfl) ?_
        refine va_get (D := G.1) (ci := 5) (v := .ref (A5 7)) (C := RX5) (T := TX5) (N := 20) hx hb hts hiX5 hown hX.1 (x1 hW hoN9) 0 rfl rfl 7 (by decide) hf25 (fun _ h9 => h9) rfl dX5_variant_57 ?_
        refine lv_aload_n hx hb dX5_variant_60 rfl (lv_at hl 0 rfl) ?_
        refine va_get (D := G.1) (ci := 5) (v := .int (nI nV)) (C := RX5) (T := TX5) (N := 20) hx hb hts hiX5 hown hX.1 (x1 hW hoN9) 0 rfl rfl 5 (by decide) hf62 (fun _ h9 => h9) rfl dX5_variant_61 ?_
        refine lv_iload_n hx hb dX5_variant_64 rfl (lv_at hl 2 rfl) ?_
        refine x_iast (G := G) hx hb hX.1 hW hS hv_A5_79 (vp_in_nI hcn (by omega)) dX5_variant_65 (fun H locs hW hS => ?_)
        rw [show (nI nV).toNatClampNeg = nV from (nI_clamp (by omega))] at hW
        obtain ⟨E9, eE9⟩ : ∃ z, z = xU E8 (A5 7) (.inl (G.2.1 0, 4, .inl (upd (σ 7) nV a1))) := ⟨_, rfl⟩
        have hW : xW G E9 H := by rw [eE9]; exact hW
        have hoN99 : E9 o = some (.inr (5, [.int (σ 0 0), .ref (A5 1), .ref (A5 2), .ref (A5 3), .ref (A5 4), .int (nI nV), .ref (A5 6), .ref (A5 7), .ref (A5 8), .ref (A5 9), .int (σ 10 0), .ref (A5 11), .ref (A5 12), .ref (A5 13), .ref (A5 14), .ref (A5 15), .ref (A5 16), .ref (A5 17), .ref (A5 18), .int (nI (A5 19))])) := by rw [eE9]; exact xU_of hoN9 hv_A5_79 (fun h => by simp at h)
        have hv_A5_199 : E9 (A5 1) = some (.inl (G.2.1 0, 8, .inl (σ 1))) := by rw [eE9]; exact (xU_ne _ _ (hAA5.1.2.2.2.2.1)).trans hv_A5_19
        have hv_A5_299 : E9 (A5 2) = some (.inl (G.2.1 0, 8, .inl (σ 2))) := by rw [eE9]; exact (xU_ne _ _ (hAA5.2.1.2.2.2.1)).trans hv_A5_29
        have hv_A5_399 : E9 (A5 3) = some (.inl (G.2.1 0, 8, .inl (σ 3))) := by rw [eE9]; exact (xU_ne _ _ (hAA5.2.2.1.2.2.1)).trans hv_A5_39
        have hv_A5_499 : E9 (A5 4) = some (.inl (G.2.1 0, 8, .inl (σ 4))) := by rw [eE9]; exact (xU_ne _ _ (hAA5.2.2.2.1.2.1)).trans hv_A5_49
        have hu_A5_699 : E9 (A5 6) = some (.inl (G.2.1 0, 4, .inl (upd (σ 6) nV a0))) := by rw [eE9]; exact (xU_ne _ _ (hAA5.2.2.2.2.1.1)).trans hu_A5_69
        have hv_A5_899 : E9 (A5 8) = some (.inl (G.2.1 0, 4, .inl (σ 8))) := by rw [eE9]; exact (xU_ne _ _ (Ne.symm (hAA5.2.2.2.2.2.1.1))).trans hv_A5_89
        have hv_A5_999 : E9 (A5 9) = some (.inl (G.2.1 0, 4, .inl (σ 9))) := by rw [eE9]; exact (xU_ne _ _ (Ne.symm (hAA5.2.2.2.2.2.1.2.1))).trans hv_A5_99
        have hv_A5_1199 : E9 (A5 11) = some (.inl (G.2.1 0, 12, .inl (σ 11))) := by rw [eE9]; exact (xU_ne _ _ (Ne.symm (hAA5.2.2.2.2.2.1.2.2.1))).trans hv_A5_119
        have hv_A5_1299 : E9 (A5 12) = some (.inl (G.2.1 0, 12, .inl (σ 12))) := by rw [eE9]; exact (xU_ne _ _ (Ne.symm (hAA5.2.2.2.2.2.1.2.2.2.1))).trans hv_A5_129
        have hv_A5_1399 : E9 (A5 13) = some (.inl (G.2.1 0, 12, .inl (σ 13))) := by rw [eE9]; exact (xU_ne _ _ (Ne.symm (hAA5.2.2.2.2.2.1.2.2.2.2.1))).trans hv_A5_139
        have hv_A5_1499 : E9 (A5 14) = some (.inl (G.2.1 0, 12, .inl (σ 14))) := by rw [eE9]; exact (xU_ne _ _ (Ne.symm (hAA5.2.2.2.2.2.1.2.2.2.2.2.1))).trans hv_A5_149
        have hv_A5_1599 : E9 (A5 15) = some (.inl (G.2.1 0, 12, .inl (σ 15))) := by rw [eE9]; exact (xU_ne _ _ (Ne.symm (hAA5.2.2.2.2.2.1.2.2.2.2.2.2.1))).trans hv_A5_159
        have hv_A5_1699 : E9 (A5 16) = some (.inl (G.2.1 0, 12, .inl (σ 16))) := by rw [eE9]; exact (xU_ne _ _ (Ne.symm (hAA5.2.2.2.2.2.1.2.2.2.2.2.2.2.1))).trans hv_A5_169
        have hv_A5_1799 : E9 (A5 17) = some (.inl (G.2.1 0, 732, .inl (σ 17))) := by rw [eE9]; exact (xU_ne _ _ (Ne.symm (hAA5.2.2.2.2.2.1.2.2.2.2.2.2.2.2.1))).trans hv_A5_179
        have hv_A5_1899 : E9 (A5 18) = some (.inl (G.2.1 0, 732, .inl (σ 18))) := by rw [eE9]; exact (xU_ne _ _ (Ne.symm (hAA5.2.2.2.2.2.1.2.2.2.2.2.2.2.2.2))).trans hv_A5_189
        have hv_A5_799 : E9 (A5 7) = some (.inl (G.2.1 0, 4, .inl (upd (σ 7) nV a1))) := by rw [eE9]; exact xU_self _ _ _
        have hFr : xFr tM E E9 := by rw [eE9]; exact xFr_put hFr hv_A5_79 rfl _
        refine lv_aload_n hx hb dX5_variant_66 rfl (lv_at hl 0 rfl) ?_
        refine lv_dup hx hb dX5_variant_67 rfl ?_
        refine va_get (D := G.1) (ci := 5) (v := .int (nI nV)) (C := RX5) (T := TX5) (N := 20) hx hb hts hiX5 hown hX.1 (x1 hW hoN99) 0 rfl rfl 5 (by decide) hf62 (fun _ h9 => h9) rfl dX5_variant_68 ?_
        refine lv_iconst (v := 1) hx hb dX5_variant_71 (by decide) ?_
        refine lv_iadd hx hb dX5_variant_72 ?_
        rw [nI_1]
        refine x_put (G := G) (ci := 5) (v := .int (nI (nV + 1))) (ty := .int) (C := RX5) (T := TX5) (N := 20) hx hb hts hiX5 tyX5 tyX5_ok nmX5 hown hX.1 hW hS hoN99 rfl 5 (by decide) hf62 (fun _ h9 => h9) rfl (by decide +kernel) rfl rfl (Nat.le_of_ble_eq_true rfl) dX5_variant_73 (fun H locs hW hS => ?_)
        obtain ⟨E10, eE10⟩ : ∃ z, z = xU E9 o (.inr (5, [.int (σ 0 0), .ref (A5 1), .ref (A5 2), .ref (A5 3), .ref (A5 4), .int (nI (nV + 1)), .ref (A5 6), .ref (A5 7), .ref (A5 8), .ref (A5 9), .int (σ 10 0), .ref (A5 11), .ref (A5 12), .ref (A5 13), .ref (A5 14), .ref (A5 15), .ref (A5 16), .ref (A5 17), .ref (A5 18), .int (nI (A5 19))])) := ⟨_, rfl⟩
        have hW : xW G E10 H := by rw [eE10]; exact hW
        have hv_A5_1999 : E10 (A5 1) = some (.inl (G.2.1 0, 8, .inl (σ 1))) := by rw [eE10]; exact xU_of hv_A5_199 hoN99 (fun h => by simp at h)
        have hv_A5_2999 : E10 (A5 2) = some (.inl (G.2.1 0, 8, .inl (σ 2))) := by rw [eE10]; exact xU_of hv_A5_299 hoN99 (fun h => by simp at h)
        have hv_A5_3999 : E10 (A5 3) = some (.inl (G.2.1 0, 8, .inl (σ 3))) := by rw [eE10]; exact xU_of hv_A5_399 hoN99 (fun h => by simp at h)
        have hv_A5_4999 : E10 (A5 4) = some (.inl (G.2.1 0, 8, .inl (σ 4))) := by rw [eE10]; exact xU_of hv_A5_499 hoN99 (fun h => by simp at h)
        have hu_A5_6999 : E10 (A5 6) = some (.inl (G.2.1 0, 4, .inl (upd (σ 6) nV a0))) := by rw [eE10]; exact xU_of hu_A5_699 hoN99 (fun h => by simp at h)
        have hv_A5_7999 : E10 (A5 7) = some (.inl (G.2.1 0, 4, .inl (upd (σ 7) nV a1))) := by rw [eE10]; exact xU_of hv_A5_799 hoN99 (fun h => by simp at h)
        have hv_A5_8999 : E10 (A5 8) = some (.inl (G.2.1 0, 4, .inl (σ 8))) := by rw [eE10]; exact xU_of hv_A5_899 hoN99 (fun h => by simp at h)
        have hv_A5_9999 : E10 (A5 9) = some (.inl (G.2.1 0, 4, .inl (σ 9))) := by rw [eE10]; exact xU_of hv_A5_999 hoN99 (fun h => by simp at h)
        have hv_A5_11999 : E10 (A5 11) = some (.inl (G.2.1 0, 12, .inl (σ 11))) := by rw [eE10]; exact xU_of hv_A5_1199 hoN99 (fun h => by simp at h)
        have hv_A5_12999 : E10 (A5 12) = some (.inl (G.2.1 0, 12, .inl (σ 12))) := by rw [eE10]; exact xU_of hv_A5_1299 hoN99 (fun h => by simp at h)
        have hv_A5_13999 : E10 (A5 13) = some (.inl (G.2.1 0, 12, .inl (σ 13))) := by rw [eE10]; exact xU_of hv_A5_1399 hoN99 (fun h => by simp at h)
        have hv_A5_14999 : E10 (A5 14) = some (.inl (G.2.1 0, 12, .inl (σ 14))) := by rw [eE10]; exact xU_of hv_A5_1499 hoN99 (fun h => by simp at h)
        have hv_A5_15999 : E10 (A5 15) = some (.inl (G.2.1 0, 12, .inl (σ 15))) := by rw [eE10]; exact xU_of hv_A5_1599 hoN99 (fun h => by simp at h)
        have hv_A5_16999 : E10 (A5 16) = some (.inl (G.2.1 0, 12, .inl (σ 16))) := by rw [eE10]; exact xU_of hv_A5_1699 hoN99 (fun h => by simp at h)
        have hv_A5_17999 : E10 (A5 17) = some (.inl (G.2.1 0, 732, .inl (σ 17))) := by rw [eE10]; exact xU_of hv_A5_1799 hoN99 (fun h => by simp at h)
        have hv_A5_18999 : E10 (A5 18) = some (.inl (G.2.1 0, 732, .inl (σ 18))) := by rw [eE10]; exact xU_of hv_A5_1899 hoN99 (fun h => by simp at h)
        have hoN999 : E10 o = some (.inr (5, [.int (σ 0 0), .ref (A5 1), .ref (A5 2), .ref (A5 3), .ref (A5 4), .int (nI (nV + 1)), .ref (A5 6), .ref (A5 7), .ref (A5 8), .ref (A5 9), .int (σ 10 0), .ref (A5 11), .ref (A5 12), .ref (A5 13), .ref (A5 14), .ref (A5 15), .ref (A5 16), .ref (A5 17), .ref (A5 18), .int (nI (A5 19))])) := by rw [eE10]; exact xU_self _ _ _
        have hFr : xFr tM E E10 := by rw [eE10]; exact xFr_put hFr hoN99 rfl _
        refine lv_aload_n hx hb dX5_variant_76 rfl (lv_at hl 0 rfl) ?_
        refine va_get (D := G.1) (ci := 5) (v := .int (nI (nV + 1))) (C := RX5) (T := TX5) (N := 20) hx hb hts hiX5 hown hX.1 (x1 hW hoN999) 0 rfl rfl 5 (by decide) hf62 (fun _ h9 => h9) rfl dX5_variant_77 ?_
        refine lv_iconst (v := 1) hx hb dX5_variant_80 (by decide) ?_
        refine lv_isub hx hb dX5_variant_81 ?_
        exact W.widen (k := 0) (n := 0) (Nat.le_of_ble_eq_true rfl) (Nat.le_of_ble_eq_true rfl) (W.iret (v := (nI (nV + 1)) - 1) hx hb hr (fun t ht hw => ⟨⟨_, E10, rfl, ⟨((nI (nV + 1)) - 1, 0), (show _ = (((nI (nV + 1)) - 1, 0) : Int32 × Nat) from by unfold mX5_variant; rw [if_pos c_6, if_neg c_7]), rfl, (show xMd G E10 o (sgVar σ nV a0 a1) 0 from (by skip; exact ⟨A5, ⟨hoN999, hv_A5_1999, hv_A5_2999, hv_A5_3999, hv_A5_4999, hu_A5_6999, hv_A5_7999, hv_A5_8999, hv_A5_9999, hv_A5_11999, hv_A5_12999, hv_A5_13999, hv_A5_14999, hv_A5_15999, hv_A5_16999, hv_A5_17999, hv_A5_18999⟩, hAA5, hzA5⟩)), hFr⟩, (show xW G E10 t.heap from by rw [ht]; exact hW)⟩, hS.F ht⟩) hS.2.2 dX5_variant_82)
      · refine lv_aload_n hx hb dX5_variant_40 rfl (lv_at hl 0 rfl) ?_
        refine lv_iconst (v := 2) hx hb dX5_variant_41 (by decide) ?_
        refine va_calli (va_runV (As := [.int 2]) (rest := []) ⟨hx, hb, hml, hown, hts⟩ (kX5_fails l G _ (σ) o 2 A5 hMA5 hAA5) (cwV 1 hts gX5_variant_X5_fails rfl rfl rfl (by decide +kernel) ⟨Nat.le_of_ble_eq_true rfl, Nat.le_of_ble_eq_true rfl⟩) (x_preV hX hS hW hMA5.1 rfl) rfl rfl hl.1 rfl (lv_room (Nat.le_of_ble_eq_true rfl)) dX5_variant_42 ⟨Nat.le_of_ble_eq_true rfl, Nat.le_of_ble_eq_true rfl⟩) hS (fun _ _ h => h) (fun _ h => h) (fun r12 E11 t H1 locs1 ht hvm hw hB hz1 hk1 hS1 => ?_)
        rw [ht] at hB
        have hS := hS1
        obtain ⟨hrA13, ⟨A13, hMA13, hAA13, htA13⟩, hFrA13⟩ := hw
        have hFr := hFr.trans hFrA13
        have hW : xW G E11 H1 := hB
        subst hrA13
        exact W.widen (k := 0) (n := 0) (Nat.le_of_ble_eq_true rfl) (Nat.le_of_ble_eq_true rfl) (W.iret (v := 0) hx hb hr (fun t ht hw => ⟨⟨_, E11, rfl, ⟨((0 : Int32), 2), (show _ = (((0 : Int32), 2) : Int32 × Nat) from by unfold mX5_variant; rw [if_pos c_6, if_pos c_7]), rfl, (show xMd G E11 o (σ) 2 from ⟨A13, hMA13, hAA13, htA13⟩), hFr⟩, (show xW G E11 t.heap from by rw [ht]; exact hW)⟩, hS.F ht⟩) hS.2.2 dX5_variant_45)
    · have hzA5 := htA5.trans (if_neg (Bool.eq_false_iff.mp c_6))
      refine lv_iconst (v := 0) hx hb dX5_variant_30 (by decide) ?_
      exact W.widen (k := 0) (n := 0) (Nat.le_of_ble_eq_true rfl) (Nat.le_of_ble_eq_true rfl) (W.iret (v := 0) hx hb hr (fun t ht hw => ⟨⟨_, E3, rfl, ⟨((0 : Int32), 1), (show _ = (((0 : Int32), 1) : Int32 × Nat) from by unfold mX5_variant; rw [if_neg (Bool.eq_false_iff.mp c_6)]), rfl, (show xMd G E3 o (σ) 1 from ⟨A5, hMA5, hAA5, hzA5⟩), hFr⟩, (show xW G E3 t.heap from by rw [ht]; exact hW)⟩, hS.F ht⟩) hS.2.2 dX5_variant_31)
  · refine x_ifz_eq (b := fX5_in a0 0 33554431) (tgt := 23) hx hb dX5_variant_8 (by decide) (fun c_1 => ?_) (fun c_1 => ?_)
    · refine lv_iconst (v := 0) hx hb dX5_variant_23 (by decide) ?_
      exact J _ (congrArg zI (show false = if (fX5_in a0 0 33554431) = true then (if (fX5_areCards (σ) a1) = true then (true) else (false)) else (false) from by rw [if_neg (Bool.eq_false_iff.mp c_1)]))
    · refine lv_aload_n hx hb dX5_variant_11 rfl (lv_at hl 0 rfl) ?_
      refine lv_iload_n hx hb dX5_variant_12 rfl (lv_at hl 2 rfl) ?_
      refine x_callSe (va_runV (As := [.int a1]) (rest := [.ref o]) ⟨hx, hb, hml, hown, hts⟩ (kX5_areCards l G _ (σ) o a1 A hM) (cwV 1 hts gX5_variant_X5_areCards rfl rfl rfl (by decide +kernel) ⟨Nat.le_of_ble_eq_true rfl, Nat.le_of_ble_eq_true rfl⟩) (x_preV hX hS hW hM.1 rfl) rfl rfl hl.1 rfl (lv_room (Nat.le_of_ble_eq_true rfl)) dX5_variant_13 ⟨Nat.le_of_ble_eq_true rfl, Nat.le_of_ble_eq_true rfl⟩) ?_
      refine x_ifz_eq (b := fX5_areCards (σ) a1) (tgt := 23) hx hb dX5_variant_16 (by decide) (fun c_2 => ?_) (fun c_2 => ?_)
      · refine lv_iconst (v := 0) hx hb dX5_variant_23 (by decide) ?_
        exact J _ (congrArg zI (show false = if (fX5_in a0 0 33554431) = true then (if (fX5_areCards (σ) a1) = true then (true) else (false)) else (false) from by rw [if_pos c_1, if_neg (Bool.eq_false_iff.mp c_2)]))
      · refine lv_iconst (v := 1) hx hb dX5_variant_19 (by decide) ?_
        refine lv_goto (tgt := 24) hx hb dX5_variant_20 (by decide) ?_
        exact J _ (congrArg zI (show true = if (fX5_in a0 0 33554431) = true then (if (fX5_areCards (σ) a1) = true then (true) else (false)) else (false) from by rw [if_pos c_1, if_pos c_2]))

theorem x_at0 {n : Nat} (h : n < 12) : vp_in ((61 : Int32) * (nI n)) 732 ∧ ((61 : Int32) * (nI n)).toNatClampNeg = 61 * n := by
  have e : (61 : Int32) * (nI n) = nI (61 * n) := by rw [show (61 : Int32) = nI 61 from rfl, pk_mul]
  rw [e]
  exact ⟨vp_in_nI (by omega) (by omega), nI_clamp (by omega)⟩

def mX5_begin (σ : xSg) (nG v : Nat) (a0 a1 a2 a3 a4 : Int32) : Int32 × Nat := if (if (fX5_isVariant (σ) a0) = true then (if (fX5_isPlayer a1) = true then (if (fX5_isPlayer a2) = true then (true) else (false)) else (false)) else (false)) = true then (if a1 = a2 then (((0 : Int32), 2)) else (if (fX5_arePieces (σ) a3 (σ 6 v)) = true then (if (fX5_arePieces (σ) a4 (σ 6 v)) = true then (if (a3 &&& a4) = 0 then (if (fX5_isBannedNow (σ) v) = true then (((0 : Int32), 3)) else (if (σ 10 0) = (12 : Int32) then (((0 : Int32), 3)) else (if (fX5_moves (σ) (σ 7 v) (σ 6 v) a3 a4 false) = true then (((nI (nG + 1)) - 1, 0)) else (((0 : Int32), 3))))) else (((0 : Int32), 2))) else (((0 : Int32), 2))) else (((0 : Int32), 2)))) else (((0 : Int32), 1))
set_option maxHeartbeats 4000000 in
set_option maxRecDepth 100000 in
theorem kX5_begin (l : Launch) (G : xG) (E : xE) (σ : xSg) (o : Nat) (a0 : Int32) (a1 : Int32) (a2 : Int32) (a3 : Int32) (a4 : Int32) (A : Nat → Nat) (hM : xMod G E o A σ) (hA : xAi A) (nC nV nG : Nat) (hI : xMi σ nC nV nG) : Met l yX5_begin wsX5_begin ({ frames := 4, cells := 0, slots := 0, locals := 111 }) (va_Pc [.ref o, .int a0, .int a1, .int a2, .int a3, .int a4] (xB G E)) (va_Qi (S := xE) (fun r E' => ∃ q : Int32 × Nat, mX5_begin σ nG (a0.toNatClampNeg) a0 a1 a2 a3 a4 = q ∧ r = q.1 ∧ xMd G E' o (if q.2 = 0 then sgBegin σ nG (a0.toNatClampNeg) a1 a2 a3 a4 else σ) q.2 ∧ xFr tM E E') (fun E' t => xW G E' t.heap) (xA G)) 0 0 (xA G) := by
  refine Met.ofW (cc := cX5_begin) (maxL := 7) (ret := (some .int)) (by decide) rfl ?_
  intro p e s m args below meth c s₁ B hml hv
  obtain ⟨rfl, hX, hW⟩ := hv
  have hx := B.exec
  have hb := B.bytes
  have hr := B.returns
  have hts := atoms_spec (ws := wsX5_begin) B.pre
  have hown : s.vm.findClass RX5 = some m.cls := findClass_of_methodNamed B.named
  have hlocks := B.notSynchronized
  have hS : va_S (xA G) s.heap s.heap [] := va_S.rf
  have hiX5 : ∀ w ∈ u_ws RX5 TX5 20, w ∈ wsX5_begin := by decide +kernel
  have hf22 := hts (Cond.fieldLink RX5 22 "VariantMillModel" "holes" "[I") (by decide +kernel)
  have hf65 := hts (Cond.fieldLink RX5 65 "VariantMillModel" "games" "I") (by decide +kernel)
  have hf25 := hts (Cond.fieldLink RX5 25 "VariantMillModel" "has" "[I") (by decide +kernel)
  have hf34 := hts (Cond.fieldLink RX5 34 "VariantMillModel" "variant" "[I") (by decide +kernel)
  have hf37 := hts (Cond.fieldLink RX5 37 "VariantMillModel" "plays" "[I") (by decide +kernel)
  have hf40 := hts (Cond.fieldLink RX5 40 "VariantMillModel" "first" "[I") (by decide +kernel)
  have hf43 := hts (Cond.fieldLink RX5 43 "VariantMillModel" "second" "[I") (by decide +kernel)
  have hf46 := hts (Cond.fieldLink RX5 46 "VariantMillModel" "state" "[I") (by decide +kernel)
  have hf49 := hts (Cond.fieldLink RX5 49 "VariantMillModel" "made" "[I") (by decide +kernel)
  have hf52 := hts (Cond.fieldLink RX5 52 "VariantMillModel" "ones" "[I") (by decide +kernel)
  have hf55 := hts (Cond.fieldLink RX5 55 "VariantMillModel" "others" "[I") (by decide +kernel)
  have hl := lv_entry ([.ref o, .int a0, .int a1, .int a2, .int a3, .int a4]) (n := 7) (Nat.le_of_ble_eq_true rfl)
  rw [lg_entry_eq]
  generalize (lg_sl ([.ref o, .int a0, .int a1, .int a2, .int a3, .int a4]) ++ List.replicate (7 - (lg_sl ([.ref o, .int a0, .int a1, .int a2, .int a3, .int a4])).length) Slot.unset).toArray = ls at hl ⊢
  have hl : lv_has ls 7 [(0, .ref o), (1, .int a0), (2, .int a1), (3, .int a2), (4, .int a3), (5, .int a4)] := hl
  obtain ⟨H, hH⟩ : ∃ z, z = s.heap := ⟨_, rfl⟩
  rw [← hH] at hW
  have hS : va_S (xA G) s.heap H [] := by rw [hH]; exact hS
  rw [← hH]
  have hFr : xFr tM E E := xFr_rf
  refine lv_aload_n hx hb dX5_begin_0 rfl (lv_at hl 0 rfl) ?_
  refine lv_aload_n hx hb dX5_begin_1 rfl (lv_at hl 0 rfl) ?_
  refine lv_iload_n hx hb dX5_begin_2 rfl (lv_at hl 1 rfl) ?_
  refine x_callSe (va_runV (As := [.int a0]) (rest := [.ref o]) ⟨hx, hb, hml, hown, hts⟩ (kX5_isVariant l G _ (σ) o a0 A hM) (cwV 1 hts gX5_begin_X5_isVariant rfl rfl rfl (by decide +kernel) ⟨Nat.le_of_ble_eq_true rfl, Nat.le_of_ble_eq_true rfl⟩) (x_preV hX hS hW hM.1 rfl) rfl rfl hl.1 rfl (lv_room (Nat.le_of_ble_eq_true rfl)) dX5_begin_3 ⟨Nat.le_of_ble_eq_true rfl, Nat.le_of_ble_eq_true rfl⟩) ?_
  refine x_join (ls' := ls) (rest' := [.ref o]) 28 (zI (if (fX5_isVariant (σ) a0) = true then (if (fX5_isPlayer a1) = true then (if (fX5_isPlayer a2) = true then (true) else (false)) else (false)) else (false))) (fun v ev => ?_) (fun J => ?_)
  · subst ev
    refine va_calli (va_runV (As := [.int (zI (if (fX5_isVariant (σ) a0) = true then (if (fX5_isPlayer a1) = true then (if (fX5_isPlayer a2) = true then (true) else (false)) else (false)) else (false)))]) (rest := []) ⟨hx, hb, hml, hown, hts⟩ (kX5_asks l G _ (σ) o (if (fX5_isVariant (σ) a0) = true then (if (fX5_isPlayer a1) = true then (if (fX5_isPlayer a2) = true then (true) else (false)) else (false)) else (false)) A hM hA) (cwV 1 hts gX5_begin_X5_asks rfl rfl rfl (by decide +kernel) ⟨Nat.le_of_ble_eq_true rfl, Nat.le_of_ble_eq_true rfl⟩) (x_preV hX hS hW hM.1 rfl) rfl rfl hl.1 rfl (lv_room (Nat.le_of_ble_eq_true rfl)) dX5_begin_28 ⟨Nat.le_of_ble_eq_true rfl, Nat.le_of_ble_eq_true rfl⟩) hS (fun _ _ h => h) (fun _ h => h) (fun r5 E4 t H1 locs1 ht hvm hw hB hz1 hk1 hS1 => ?_)
    rw [ht] at hB
    have hS := hS1
    obtain ⟨hrA6, ⟨A6, hMA6, hAA6, htA6⟩, hFrA6⟩ := hw
    have hFr := hFr.trans hFrA6
    have hW : xW G E4 H1 := hB
    subst hrA6
    refine x_ifz_ne (b := (if (fX5_isVariant (σ) a0) = true then (if (fX5_isPlayer a1) = true then (if (fX5_isPlayer a2) = true then (true) else (false)) else (false)) else (false))) (tgt := 36) hx hb dX5_begin_31 (by decide) (fun c_7 => ?_) (fun c_7 => ?_)
    · have hzA6 := htA6.trans (if_pos c_7)
      obtain ⟨v, hav, hv⟩ := x_mV hI (x_if1 c_7)
      subst hav
      have hC := hI.1
      have hu4 : v < 4 := by have := hI.2.2.1; omega
      have hVv : (nI v).toNatClampNeg = v := nI_clamp (by omega)
      have hcb := hI.2.2.2.2.1
      have hcv := hI.2.2.2.1
      refine lv_aload_n hx hb dX5_begin_36 rfl (lv_at hl 0 rfl) ?_
      refine va_get (D := G.1) (ci := 5) (v := .ref (A6 6)) (C := RX5) (T := TX5) (N := 20) hx hb hts hiX5 hown hX.1 (x1 hW hMA6.1) 0 rfl rfl 6 (by decide) hf22 (fun _ h9 => h9) rfl dX5_begin_37 ?_
      refine lv_iload_n hx hb dX5_begin_40 rfl (lv_at hl 1 rfl) ?_
      refine x_ild (k := v) hx hb hX.1 hW hMA6.2.2.2.2.2.1 (vp_in_nI hu4 (by omega)) (nI_clamp (by omega)) dX5_begin_41 ?_
      refine lv_istore (lv' := [(6, .int (σ 6 v)), (0, .ref o), (1, .int (nI v)), (2, .int a1), (3, .int a2), (4, .int a3), (5, .int a4)]) hx hb dX5_begin_42 hl (by decide) rfl (fun ls hl => ?_)
      refine lv_iload_n hx hb dX5_begin_44 rfl (lv_at hl 3 rfl) ?_
      refine lv_iload_n hx hb dX5_begin_45 rfl (lv_at hl 4 rfl) ?_
      refine lv_icmp_eq (tgt := 79) hx hb dX5_begin_46 (by decide) (fun c_8 => ?_) (fun c_8 => ?_)
      · refine lv_aload_n hx hb dX5_begin_79 rfl (lv_at hl 1 rfl) ?_
        refine lv_iconst (v := 2) hx hb dX5_begin_80 (by decide) ?_
        refine va_calli (va_runV (As := [.int 2]) (rest := []) ⟨hx, hb, hml, hown, hts⟩ (kX5_fails l G _ (σ) o 2 A6 hMA6 hAA6) (cwV 1 hts gX5_begin_X5_fails rfl rfl rfl (by decide +kernel) ⟨Nat.le_of_ble_eq_true rfl, Nat.le_of_ble_eq_true rfl⟩) (x_preV hX hS hW hMA6.1 rfl) rfl rfl hl.1 rfl (lv_room (Nat.le_of_ble_eq_true rfl)) dX5_begin_81 ⟨Nat.le_of_ble_eq_true rfl, Nat.le_of_ble_eq_true rfl⟩) hS (fun _ _ h => h) (fun _ h => h) (fun r10 E9 t H1 locs1 ht hvm hw hB hz1 hk1 hS1 => ?_)
        rw [ht] at hB
        have hS := hS1
        obtain ⟨hrA11, ⟨A11, hMA11, hAA11, htA11⟩, hFrA11⟩ := hw
        have hFr := hFr.trans hFrA11
        have hW : xW G E9 H1 := hB
        subst hrA11
        exact W.widen (k := 0) (n := 0) (Nat.le_of_ble_eq_true rfl) (Nat.le_of_ble_eq_true rfl) (W.iret (v := 0) hx hb hr (fun t ht hw => ⟨⟨_, E9, rfl, ⟨((0 : Int32), 2), (show _ = (((0 : Int32), 2) : Int32 × Nat) from by rw [hVv]; unfold mX5_begin; rw [if_pos c_7, if_pos c_8]), rfl, (show xMd G E9 o (σ) 2 from ⟨A11, hMA11, hAA11, htA11⟩), hFr⟩, (show xW G E9 t.heap from by rw [ht]; exact hW)⟩, hS.F ht⟩) hS.2.2 dX5_begin_84)
      · refine lv_aload_n hx hb dX5_begin_49 rfl (lv_at hl 1 rfl) ?_
        refine lv_iload hx hb dX5_begin_50 (lv_at hl 5 rfl) ?_
        refine lv_iload hx hb dX5_begin_52 (lv_at hl 0 rfl) ?_
        refine x_callSe (va_runV (As := [.int a3, .int (σ 6 v)]) (rest := []) ⟨hx, hb, hml, hown, hts⟩ (kX5_arePieces l G _ (σ) o a3 (σ 6 v) A6 hMA6) (cwV 2 hts gX5_begin_X5_arePieces rfl rfl rfl (by decide +kernel) ⟨Nat.le_of_ble_eq_true rfl, Nat.le_of_ble_eq_true rfl⟩) (x_preV hX hS hW hMA6.1 rfl) rfl rfl hl.1 rfl (lv_room (Nat.le_of_ble_eq_true rfl)) dX5_begin_54 ⟨Nat.le_of_ble_eq_true rfl, Nat.le_of_ble_eq_true rfl⟩) ?_
        refine x_ifz_eq (b := fX5_arePieces (σ) a3 (σ 6 v)) (tgt := 79) hx hb dX5_begin_57 (by decide) (fun c_12 => ?_) (fun c_12 => ?_)
        · refine lv_aload_n hx hb dX5_begin_79 rfl (lv_at hl 1 rfl) ?_
          refine lv_iconst (v := 2) hx hb dX5_begin_80 (by decide) ?_
          refine va_calli (va_runV (As := [.int 2]) (rest := []) ⟨hx, hb, hml, hown, hts⟩ (kX5_fails l G _ (σ) o 2 A6 hMA6 hAA6) (cwV 1 hts gX5_begin_X5_fails rfl rfl rfl (by decide +kernel) ⟨Nat.le_of_ble_eq_true rfl, Nat.le_of_ble_eq_true rfl⟩) (x_preV hX hS hW hMA6.1 rfl) rfl rfl hl.1 rfl (lv_room (Nat.le_of_ble_eq_true rfl)) dX5_begin_81 ⟨Nat.le_of_ble_eq_true rfl, Nat.le_of_ble_eq_true rfl⟩) hS (fun _ _ h => h) (fun _ h => h) (fun r14 E13 t H1 locs1 ht hvm hw hB hz1 hk1 hS1 => ?_)
          rw [ht] at hB
          have hS := hS1
          obtain ⟨hrA15, ⟨A15, hMA15, hAA15, htA15⟩, hFrA15⟩ := hw
          have hFr := hFr.trans hFrA15
          have hW : xW G E13 H1 := hB
          subst hrA15
          exact W.widen (k := 0) (n := 0) (Nat.le_of_ble_eq_true rfl) (Nat.le_of_ble_eq_true rfl) (W.iret (v := 0) hx hb hr (fun t ht hw => ⟨⟨_, E13, rfl, ⟨((0 : Int32), 2), (show _ = (((0 : Int32), 2) : Int32 × Nat) from by rw [hVv]; unfold mX5_begin; rw [if_pos c_7, if_neg c_8, if_neg (Bool.eq_false_iff.mp c_12)]), rfl, (show xMd G E13 o (σ) 2 from ⟨A15, hMA15, hAA15, htA15⟩), hFr⟩, (show xW G E13 t.heap from by rw [ht]; exact hW)⟩, hS.F ht⟩) hS.2.2 dX5_begin_84)
        · refine lv_aload_n hx hb dX5_begin_60 rfl (lv_at hl 1 rfl) ?_
          refine lv_iload hx hb dX5_begin_61 (lv_at hl 6 rfl) ?_
          refine lv_iload hx hb dX5_begin_63 (lv_at hl 0 rfl) ?_
          refine x_callSe (va_runV (As := [.int a4, .int (σ 6 v)]) (rest := []) ⟨hx, hb, hml, hown, hts⟩ (kX5_arePieces l G _ (σ) o a4 (σ 6 v) A6 hMA6) (cwV 2 hts gX5_begin_X5_arePieces rfl rfl rfl (by decide +kernel) ⟨Nat.le_of_ble_eq_true rfl, Nat.le_of_ble_eq_true rfl⟩) (x_preV hX hS hW hMA6.1 rfl) rfl rfl hl.1 rfl (lv_room (Nat.le_of_ble_eq_true rfl)) dX5_begin_65 ⟨Nat.le_of_ble_eq_true rfl, Nat.le_of_ble_eq_true rfl⟩) ?_
          refine x_ifz_eq (b := fX5_arePieces (σ) a4 (σ 6 v)) (tgt := 79) hx hb dX5_begin_68 (by decide) (fun c_16 => ?_) (fun c_16 => ?_)
          · refine lv_aload_n hx hb dX5_begin_79 rfl (lv_at hl 1 rfl) ?_
            refine lv_iconst (v := 2) hx hb dX5_begin_80 (by decide) ?_
            refine va_calli (va_runV (As := [.int 2]) (rest := []) ⟨hx, hb, hml, hown, hts⟩ (kX5_fails l G _ (σ) o 2 A6 hMA6 hAA6) (cwV 1 hts gX5_begin_X5_fails rfl rfl rfl (by decide +kernel) ⟨Nat.le_of_ble_eq_true rfl, Nat.le_of_ble_eq_true rfl⟩) (x_preV hX hS hW hMA6.1 rfl) rfl rfl hl.1 rfl (lv_room (Nat.le_of_ble_eq_true rfl)) dX5_begin_81 ⟨Nat.le_of_ble_eq_true rfl, Nat.le_of_ble_eq_true rfl⟩) hS (fun _ _ h => h) (fun _ h => h) (fun r18 E17 t H1 locs1 ht hvm hw hB hz1 hk1 hS1 => ?_)
            rw [ht] at hB
            have hS := hS1
            obtain ⟨hrA19, ⟨A19, hMA19, hAA19, htA19⟩, hFrA19⟩ := hw
            have hFr := hFr.trans hFrA19
            have hW : xW G E17 H1 := hB
            subst hrA19
            exact W.widen (k := 0) (n := 0) (Nat.le_of_ble_eq_true rfl) (Nat.le_of_ble_eq_true rfl) (W.iret (v := 0) hx hb hr (fun t ht hw => ⟨⟨_, E17, rfl, ⟨((0 : Int32), 2), (show _ = (((0 : Int32), 2) : Int32 × Nat) from by rw [hVv]; unfold mX5_begin; rw [if_pos c_7, if_neg c_8, if_pos c_12, if_neg (Bool.eq_false_iff.mp c_16)]), rfl, (show xMd G E17 o (σ) 2 from ⟨A19, hMA19, hAA19, htA19⟩), hFr⟩, (show xW G E17 t.heap from by rw [ht]; exact hW)⟩, hS.F ht⟩) hS.2.2 dX5_begin_84)
          · refine lv_iload hx hb dX5_begin_71 (lv_at hl 5 rfl) ?_
            refine lv_iload hx hb dX5_begin_73 (lv_at hl 6 rfl) ?_
            refine lv_iand hx hb dX5_begin_75 ?_
            refine lv_if_eq (tgt := 85) hx hb dX5_begin_76 (by decide) (fun c_20 => ?_) (fun c_20 => ?_)
            · refine lv_aload_n hx hb dX5_begin_85 rfl (lv_at hl 1 rfl) ?_
              refine lv_iload_n hx hb dX5_begin_86 rfl (lv_at hl 2 rfl) ?_
              refine x_callSe (va_runV (As := [.int (nI v)]) (rest := []) ⟨hx, hb, hml, hown, hts⟩ (kX5_isBannedNow l G _ (σ) o v A6 hMA6 hu4) (cwV 1 hts gX5_begin_X5_isBannedNow rfl rfl rfl (by decide +kernel) ⟨Nat.le_of_ble_eq_true rfl, Nat.le_of_ble_eq_true rfl⟩) (x_preV hX hS hW hMA6.1 rfl) rfl rfl hl.1 rfl (lv_room (Nat.le_of_ble_eq_true rfl)) dX5_begin_87 ⟨Nat.le_of_ble_eq_true rfl, Nat.le_of_ble_eq_true rfl⟩) ?_
              refine x_ifz_ne (b := fX5_isBannedNow (σ) v) (tgt := 122) hx hb dX5_begin_90 (by decide) (fun c_21 => ?_) (fun c_21 => ?_)
              · refine lv_aload_n hx hb dX5_begin_122 rfl (lv_at hl 1 rfl) ?_
                refine lv_iconst (v := 3) hx hb dX5_begin_123 (by decide) ?_
                refine va_calli (va_runV (As := [.int 3]) (rest := []) ⟨hx, hb, hml, hown, hts⟩ (kX5_fails l G _ (σ) o 3 A6 hMA6 hAA6) (cwV 1 hts gX5_begin_X5_fails rfl rfl rfl (by decide +kernel) ⟨Nat.le_of_ble_eq_true rfl, Nat.le_of_ble_eq_true rfl⟩) (x_preV hX hS hW hMA6.1 rfl) rfl rfl hl.1 rfl (lv_room (Nat.le_of_ble_eq_true rfl)) dX5_begin_124 ⟨Nat.le_of_ble_eq_true rfl, Nat.le_of_ble_eq_true rfl⟩) hS (fun _ _ h => h) (fun _ h => h) (fun r23 E22 t H1 locs1 ht hvm hw hB hz1 hk1 hS1 => ?_)
                rw [ht] at hB
                have hS := hS1
                obtain ⟨hrA24, ⟨A24, hMA24, hAA24, htA24⟩, hFrA24⟩ := hw
                have hFr := hFr.trans hFrA24
                have hW : xW G E22 H1 := hB
                subst hrA24
                exact W.widen (k := 0) (n := 0) (Nat.le_of_ble_eq_true rfl) (Nat.le_of_ble_eq_true rfl) (W.iret (v := 0) hx hb hr (fun t ht hw => ⟨⟨_, E22, rfl, ⟨((0 : Int32), 3), (show _ = (((0 : Int32), 3) : Int32 × Nat) from by rw [hVv]; unfold mX5_begin; rw [if_pos c_7, if_neg c_8, if_pos c_12, if_pos c_16, if_pos c_20, if_pos c_21]), rfl, (show xMd G E22 o (σ) 3 from ⟨A24, hMA24, hAA24, htA24⟩), hFr⟩, (show xW G E22 t.heap from by rw [ht]; exact hW)⟩, hS.F ht⟩) hS.2.2 dX5_begin_127)
              · refine lv_aload_n hx hb dX5_begin_93 rfl (lv_at hl 1 rfl) ?_
                refine va_get (D := G.1) (ci := 5) (v := .int (σ 10 0)) (C := RX5) (T := TX5) (N := 20) hx hb hts hiX5 hown hX.1 (x1 hW hMA6.1) 0 rfl rfl 10 (by decide) hf65 (fun _ h9 => h9) rfl dX5_begin_94 ?_
                refine lv_bipush (v := 12) hx hb dX5_begin_97 (by decide) ?_
                refine lv_icmp_eq (tgt := 122) hx hb dX5_begin_99 (by decide) (fun c_25 => ?_) (fun c_25 => ?_)
                · refine lv_aload_n hx hb dX5_begin_122 rfl (lv_at hl 1 rfl) ?_
                  refine lv_iconst (v := 3) hx hb dX5_begin_123 (by decide) ?_
                  refine va_calli (va_runV (As := [.int 3]) (rest := []) ⟨hx, hb, hml, hown, hts⟩ (kX5_fails l G _ (σ) o 3 A6 hMA6 hAA6) (cwV 1 hts gX5_begin_X5_fails rfl rfl rfl (by decide +kernel) ⟨Nat.le_of_ble_eq_true rfl, Nat.le_of_ble_eq_true rfl⟩) (x_preV hX hS hW hMA6.1 rfl) rfl rfl hl.1 rfl (lv_room (Nat.le_of_ble_eq_true rfl)) dX5_begin_124 ⟨Nat.le_of_ble_eq_true rfl, Nat.le_of_ble_eq_true rfl⟩) hS (fun _ _ h => h) (fun _ h => h) (fun r27 E26 t H1 locs1 ht hvm hw hB hz1 hk1 hS1 => ?_)
                  rw [ht] at hB
                  have hS := hS1
                  obtain ⟨hrA28, ⟨A28, hMA28, hAA28, htA28⟩, hFrA28⟩ := hw
                  have hFr := hFr.trans hFrA28
                  have hW : xW G E26 H1 := hB
                  subst hrA28
                  exact W.widen (k := 0) (n := 0) (Nat.le_of_ble_eq_true rfl) (Nat.le_of_ble_eq_true rfl) (W.iret (v := 0) hx hb hr (fun t ht hw => ⟨⟨_, E26, rfl, ⟨((0 : Int32), 3), (show _ = (((0 : Int32), 3) : Int32 × Nat) from by rw [hVv]; unfold mX5_begin; rw [if_pos c_7, if_neg c_8, if_pos c_12, if_pos c_16, if_pos c_20, if_neg (Bool.eq_false_iff.mp c_21), if_pos c_25]), rfl, (show xMd G E26 o (σ) 3 from ⟨A28, hMA28, hAA28, htA28⟩), hFr⟩, (show xW G E26 t.heap from by rw [ht]; exact hW)⟩, hS.F ht⟩) hS.2.2 dX5_begin_127)
                · have hcn : nG < 12 := by rcases Nat.lt_or_ge nG 12 with z | z; exact z; exact absurd (show σ 10 0 = (12 : Int32) from by rw [hcv, show nG = 12 by have := hcb; omega]; rfl) c_25
                  have hoN : E4 o = some (.inr (5, [.int (σ 0 0), .ref (A6 1), .ref (A6 2), .ref (A6 3), .ref (A6 4), .int (σ 5 0), .ref (A6 6), .ref (A6 7), .ref (A6 8), .ref (A6 9), .int (nI nG), .ref (A6 11), .ref (A6 12), .ref (A6 13), .ref (A6 14), .ref (A6 15), .ref (A6 16), .ref (A6 17), .ref (A6 18), .int (nI (A6 19))])) := by rw [← hcv]; exact hMA6.1
                  refine lv_aload_n hx hb dX5_begin_102 rfl (lv_at hl 1 rfl) ?_
                  refine lv_aload_n hx hb dX5_begin_103 rfl (lv_at hl 1 rfl) ?_
                  refine va_get (D := G.1) (ci := 5) (v := .ref (A6 7)) (C := RX5) (T := TX5) (N := 20) hx hb hts hiX5 hown hX.1 (x1 hW hoN) 0 rfl rfl 7 (by decide) hf25 (fun _ h9 => h9) rfl dX5_begin_104 ?_
                  refine lv_iload_n hx hb dX5_begin_107 rfl (lv_at hl 2 rfl) ?_
                  refine x_ild (k := v) hx hb hX.1 hW hMA6.2.2.2.2.2.2.1 (vp_in_nI hu4 (by omega)) (nI_clamp (by omega)) dX5_begin_108 ?_
                  refine lv_iload hx hb dX5_begin_109 (lv_at hl 0 rfl) ?_
                  refine lv_iload hx hb dX5_begin_111 (lv_at hl 5 rfl) ?_
                  refine lv_iload hx hb dX5_begin_113 (lv_at hl 6 rfl) ?_
                  refine lv_iconst (v := 0) hx hb dX5_begin_115 (by decide) ?_
                  refine x_callSe (va_runV (As := [.int (σ 7 v), .int (σ 6 v), .int a3, .int a4, .int 0]) (rest := []) ⟨hx, hb, hml, hown, hts⟩ (kX5_moves l G _ (σ) o (σ 7 v) (σ 6 v) a3 a4 false A6 hMA6 nC hC) (cwV 5 hts gX5_begin_X5_moves rfl rfl rfl (by decide +kernel) ⟨Nat.le_of_ble_eq_true rfl, Nat.le_of_ble_eq_true rfl⟩) (x_preV hX hS hW hoN rfl) rfl rfl hl.1 rfl (lv_room (Nat.le_of_ble_eq_true rfl)) dX5_begin_116 ⟨Nat.le_of_ble_eq_true rfl, Nat.le_of_ble_eq_true rfl⟩) ?_
                  refine x_ifz_ne (b := fX5_moves (σ) (σ 7 v) (σ 6 v) a3 a4 false) (tgt := 128) hx hb dX5_begin_119 (by decide) (fun c_29 => ?_) (fun c_29 => ?_)
                  · refine lv_aload_n hx hb dX5_begin_128 rfl (lv_at hl 1 rfl) ?_
                    refine va_get (D := G.1) (ci := 5) (v := .ref (A6 11)) (C := RX5) (T := TX5) (N := 20) hx hb hts hiX5 hown hX.1 (x1 hW hoN) 0 rfl rfl 11 (by decide) hf34 (fun _ h9 => h9) rfl dX5_begin_129 ?_
                    refine lv_aload_n hx hb dX5_begin_132 rfl (lv_at hl 1 rfl) ?_
                    refine va_get (D := G.1) (ci := 5) (v := .int (nI nG)) (C := RX5) (T := TX5) (N := 20) hx hb hts hiX5 hown hX.1 (x1 hW hoN) 0 rfl rfl 10 (by decide) hf65 (fun _ h9 => h9) rfl dX5_begin_133 ?_
                    refine lv_iload_n hx hb dX5_begin_136 rfl (lv_at hl 2 rfl) ?_
                    refine x_iast (G := G) hx hb hX.1 hW hS hMA6.2.2.2.2.2.2.2.2.2.1 (vp_in_nI hcn (by omega)) dX5_begin_137 (fun H locs hW hS => ?_)
                    rw [show (nI nG).toNatClampNeg = nG from (nI_clamp (by omega))] at hW
                    obtain ⟨E30, eE30⟩ : ∃ z, z = xU E4 (A6 11) (.inl (G.2.1 0, 12, .inl (upd (σ 11) nG (nI v)))) := ⟨_, rfl⟩
                    have hW : xW G E30 H := by rw [eE30]; exact hW
                    have hoN9 : E30 o = some (.inr (5, [.int (σ 0 0), .ref (A6 1), .ref (A6 2), .ref (A6 3), .ref (A6 4), .int (σ 5 0), .ref (A6 6), .ref (A6 7), .ref (A6 8), .ref (A6 9), .int (nI nG), .ref (A6 11), .ref (A6 12), .ref (A6 13), .ref (A6 14), .ref (A6 15), .ref (A6 16), .ref (A6 17), .ref (A6 18), .int (nI (A6 19))])) := by rw [eE30]; exact xU_of hoN hMA6.2.2.2.2.2.2.2.2.2.1 (fun h => by simp at h)
                    have hv_A6_19 : E30 (A6 1) = some (.inl (G.2.1 0, 8, .inl (σ 1))) := by rw [eE30]; exact (xU_ne _ _ (hAA6.1.2.2.2.2.2.2.2.1)).trans hMA6.2.1
                    have hv_A6_29 : E30 (A6 2) = some (.inl (G.2.1 0, 8, .inl (σ 2))) := by rw [eE30]; exact (xU_ne _ _ (hAA6.2.1.2.2.2.2.2.2.1)).trans hMA6.2.2.1
                    have hv_A6_39 : E30 (A6 3) = some (.inl (G.2.1 0, 8, .inl (σ 3))) := by rw [eE30]; exact (xU_ne _ _ (hAA6.2.2.1.2.2.2.2.2.1)).trans hMA6.2.2.2.1
                    have hv_A6_49 : E30 (A6 4) = some (.inl (G.2.1 0, 8, .inl (σ 4))) := by rw [eE30]; exact (xU_ne _ _ (hAA6.2.2.2.1.2.2.2.2.1)).trans hMA6.2.2.2.2.1
                    have hv_A6_69 : E30 (A6 6) = some (.inl (G.2.1 0, 4, .inl (σ 6))) := by rw [eE30]; exact (xU_ne _ _ (hAA6.2.2.2.2.1.2.2.2.1)).trans hMA6.2.2.2.2.2.1
                    have hv_A6_79 : E30 (A6 7) = some (.inl (G.2.1 0, 4, .inl (σ 7))) := by rw [eE30]; exact (xU_ne _ _ (hAA6.2.2.2.2.2.1.2.2.1)).trans hMA6.2.2.2.2.2.2.1
                    have hv_A6_89 : E30 (A6 8) = some (.inl (G.2.1 0, 4, .inl (σ 8))) := by rw [eE30]; exact (xU_ne _ _ (hAA6.2.2.2.2.2.2.1.2.1)).trans hMA6.2.2.2.2.2.2.2.1
                    have hv_A6_99 : E30 (A6 9) = some (.inl (G.2.1 0, 4, .inl (σ 9))) := by rw [eE30]; exact (xU_ne _ _ (hAA6.2.2.2.2.2.2.2.1.1)).trans hMA6.2.2.2.2.2.2.2.2.1
                    have hv_A6_129 : E30 (A6 12) = some (.inl (G.2.1 0, 12, .inl (σ 12))) := by rw [eE30]; exact (xU_ne _ _ (Ne.symm (hAA6.2.2.2.2.2.2.2.2.1.1))).trans hMA6.2.2.2.2.2.2.2.2.2.2.1
                    have hv_A6_139 : E30 (A6 13) = some (.inl (G.2.1 0, 12, .inl (σ 13))) := by rw [eE30]; exact (xU_ne _ _ (Ne.symm (hAA6.2.2.2.2.2.2.2.2.1.2.1))).trans hMA6.2.2.2.2.2.2.2.2.2.2.2.1
                    have hv_A6_149 : E30 (A6 14) = some (.inl (G.2.1 0, 12, .inl (σ 14))) := by rw [eE30]; exact (xU_ne _ _ (Ne.symm (hAA6.2.2.2.2.2.2.2.2.1.2.2.1))).trans hMA6.2.2.2.2.2.2.2.2.2.2.2.2.1
                    have hv_A6_159 : E30 (A6 15) = some (.inl (G.2.1 0, 12, .inl (σ 15))) := by rw [eE30]; exact (xU_ne _ _ (Ne.symm (hAA6.2.2.2.2.2.2.2.2.1.2.2.2.1))).trans hMA6.2.2.2.2.2.2.2.2.2.2.2.2.2.1
                    have hv_A6_169 : E30 (A6 16) = some (.inl (G.2.1 0, 12, .inl (σ 16))) := by rw [eE30]; exact (xU_ne _ _ (Ne.symm (hAA6.2.2.2.2.2.2.2.2.1.2.2.2.2.1))).trans hMA6.2.2.2.2.2.2.2.2.2.2.2.2.2.2.1
                    have hv_A6_179 : E30 (A6 17) = some (.inl (G.2.1 0, 732, .inl (σ 17))) := by rw [eE30]; exact (xU_ne _ _ (Ne.symm (hAA6.2.2.2.2.2.2.2.2.1.2.2.2.2.2.1))).trans hMA6.2.2.2.2.2.2.2.2.2.2.2.2.2.2.2.1
                    have hv_A6_189 : E30 (A6 18) = some (.inl (G.2.1 0, 732, .inl (σ 18))) := by rw [eE30]; exact (xU_ne _ _ (Ne.symm (hAA6.2.2.2.2.2.2.2.2.1.2.2.2.2.2.2))).trans hMA6.2.2.2.2.2.2.2.2.2.2.2.2.2.2.2.2
                    have hu_A6_119 : E30 (A6 11) = some (.inl (G.2.1 0, 12, .inl (upd (σ 11) nG (nI v)))) := by rw [eE30]; exact xU_self _ _ _
                    have hFr : xFr tM E E30 := by rw [eE30]; exact xFr_put hFr hMA6.2.2.2.2.2.2.2.2.2.1 rfl _
                    refine lv_aload_n hx hb dX5_begin_138 rfl (lv_at hl 1 rfl) ?_
                    refine va_get (D := G.1) (ci := 5) (v := .ref (A6 12)) (C := RX5) (T := TX5) (N := 20) hx hb hts hiX5 hown hX.1 (x1 hW hoN9) 0 rfl rfl 12 (by decide) hf37 (fun _ h9 => h9) rfl dX5_begin_139 ?_
                    refine lv_aload_n hx hb dX5_begin_142 rfl (lv_at hl 1 rfl) ?_
                    refine va_get (D := G.1) (ci := 5) (v := .int (nI nG)) (C := RX5) (T := TX5) (N := 20) hx hb hts hiX5 hown hX.1 (x1 hW hoN9) 0 rfl rfl 10 (by decide) hf65 (fun _ h9 => h9) rfl dX5_begin_143 ?_
                    refine lv_aload_n hx hb dX5_begin_146 rfl (lv_at hl 1 rfl) ?_
                    refine va_get (D := G.1) (ci := 5) (v := .ref (A6 7)) (C := RX5) (T := TX5) (N := 20) hx hb hts hiX5 hown hX.1 (x1 hW hoN9) 0 rfl rfl 7 (by decide) hf25 (fun _ h9 => h9) rfl dX5_begin_147 ?_
                    refine lv_iload_n hx hb dX5_begin_150 rfl (lv_at hl 2 rfl) ?_
                    refine x_ild (k := v) hx hb hX.1 hW hv_A6_79 (vp_in_nI hu4 (by omega)) (nI_clamp (by omega)) dX5_begin_151 ?_
                    refine x_iast (G := G) hx hb hX.1 hW hS hv_A6_129 (vp_in_nI hcn (by omega)) dX5_begin_152 (fun H locs hW hS => ?_)
                    rw [show (nI nG).toNatClampNeg = nG from (nI_clamp (by omega))] at hW
                    obtain ⟨E31, eE31⟩ : ∃ z, z = xU E30 (A6 12) (.inl (G.2.1 0, 12, .inl (upd (σ 12) nG (σ 7 v)))) := ⟨_, rfl⟩
                    have hW : xW G E31 H := by rw [eE31]; exact hW
                    have hoN99 : E31 o = some (.inr (5, [.int (σ 0 0), .ref (A6 1), .ref (A6 2), .ref (A6 3), .ref (A6 4), .int (σ 5 0), .ref (A6 6), .ref (A6 7), .ref (A6 8), .ref (A6 9), .int (nI nG), .ref (A6 11), .ref (A6 12), .ref (A6 13), .ref (A6 14), .ref (A6 15), .ref (A6 16), .ref (A6 17), .ref (A6 18), .int (nI (A6 19))])) := by rw [eE31]; exact xU_of hoN9 hv_A6_129 (fun h => by simp at h)
                    have hv_A6_199 : E31 (A6 1) = some (.inl (G.2.1 0, 8, .inl (σ 1))) := by rw [eE31]; exact (xU_ne _ _ (hAA6.1.2.2.2.2.2.2.2.2.1)).trans hv_A6_19
                    have hv_A6_299 : E31 (A6 2) = some (.inl (G.2.1 0, 8, .inl (σ 2))) := by rw [eE31]; exact (xU_ne _ _ (hAA6.2.1.2.2.2.2.2.2.2.1)).trans hv_A6_29
                    have hv_A6_399 : E31 (A6 3) = some (.inl (G.2.1 0, 8, .inl (σ 3))) := by rw [eE31]; exact (xU_ne _ _ (hAA6.2.2.1.2.2.2.2.2.2.1)).trans hv_A6_39
                    have hv_A6_499 : E31 (A6 4) = some (.inl (G.2.1 0, 8, .inl (σ 4))) := by rw [eE31]; exact (xU_ne _ _ (hAA6.2.2.2.1.2.2.2.2.2.1)).trans hv_A6_49
                    have hv_A6_699 : E31 (A6 6) = some (.inl (G.2.1 0, 4, .inl (σ 6))) := by rw [eE31]; exact (xU_ne _ _ (hAA6.2.2.2.2.1.2.2.2.2.1)).trans hv_A6_69
                    have hv_A6_799 : E31 (A6 7) = some (.inl (G.2.1 0, 4, .inl (σ 7))) := by rw [eE31]; exact (xU_ne _ _ (hAA6.2.2.2.2.2.1.2.2.2.1)).trans hv_A6_79
                    have hv_A6_899 : E31 (A6 8) = some (.inl (G.2.1 0, 4, .inl (σ 8))) := by rw [eE31]; exact (xU_ne _ _ (hAA6.2.2.2.2.2.2.1.2.2.1)).trans hv_A6_89
                    have hv_A6_999 : E31 (A6 9) = some (.inl (G.2.1 0, 4, .inl (σ 9))) := by rw [eE31]; exact (xU_ne _ _ (hAA6.2.2.2.2.2.2.2.1.2.1)).trans hv_A6_99
                    have hu_A6_1199 : E31 (A6 11) = some (.inl (G.2.1 0, 12, .inl (upd (σ 11) nG (nI v)))) := by rw [eE31]; exact (xU_ne _ _ (hAA6.2.2.2.2.2.2.2.2.1.1)).trans hu_A6_119
                    have hv_A6_1399 : E31 (A6 13) = some (.inl (G.2.1 0, 12, .inl (σ 13))) := by rw [eE31]; exact (xU_ne _ _ (Ne.symm (hAA6.2.2.2.2.2.2.2.2.2.1.1))).trans hv_A6_139
                    have hv_A6_1499 : E31 (A6 14) = some (.inl (G.2.1 0, 12, .inl (σ 14))) := by rw [eE31]; exact (xU_ne _ _ (Ne.symm (hAA6.2.2.2.2.2.2.2.2.2.1.2.1))).trans hv_A6_149
                    have hv_A6_1599 : E31 (A6 15) = some (.inl (G.2.1 0, 12, .inl (σ 15))) := by rw [eE31]; exact (xU_ne _ _ (Ne.symm (hAA6.2.2.2.2.2.2.2.2.2.1.2.2.1))).trans hv_A6_159
                    have hv_A6_1699 : E31 (A6 16) = some (.inl (G.2.1 0, 12, .inl (σ 16))) := by rw [eE31]; exact (xU_ne _ _ (Ne.symm (hAA6.2.2.2.2.2.2.2.2.2.1.2.2.2.1))).trans hv_A6_169
                    have hv_A6_1799 : E31 (A6 17) = some (.inl (G.2.1 0, 732, .inl (σ 17))) := by rw [eE31]; exact (xU_ne _ _ (Ne.symm (hAA6.2.2.2.2.2.2.2.2.2.1.2.2.2.2.1))).trans hv_A6_179
                    have hv_A6_1899 : E31 (A6 18) = some (.inl (G.2.1 0, 732, .inl (σ 18))) := by rw [eE31]; exact (xU_ne _ _ (Ne.symm (hAA6.2.2.2.2.2.2.2.2.2.1.2.2.2.2.2))).trans hv_A6_189
                    have hv_A6_1299 : E31 (A6 12) = some (.inl (G.2.1 0, 12, .inl (upd (σ 12) nG (σ 7 v)))) := by rw [eE31]; exact xU_self _ _ _
                    have hFr : xFr tM E E31 := by rw [eE31]; exact xFr_put hFr hv_A6_129 rfl _
                    refine lv_aload_n hx hb dX5_begin_153 rfl (lv_at hl 1 rfl) ?_
                    refine va_get (D := G.1) (ci := 5) (v := .ref (A6 13)) (C := RX5) (T := TX5) (N := 20) hx hb hts hiX5 hown hX.1 (x1 hW hoN99) 0 rfl rfl 13 (by decide) hf40 (fun _ h9 => h9) rfl dX5_begin_154 ?_
                    refine lv_aload_n hx hb dX5_begin_157 rfl (lv_at hl 1 rfl) ?_
                    refine va_get (D := G.1) (ci := 5) (v := .int (nI nG)) (C := RX5) (T := TX5) (N := 20) hx hb hts hiX5 hown hX.1 (x1 hW hoN99) 0 rfl rfl 10 (by decide) hf65 (fun _ h9 => h9) rfl dX5_begin_158 ?_
                    refine lv_iload_n hx hb dX5_begin_161 rfl (lv_at hl 3 rfl) ?_
                    refine x_iast (G := G) hx hb hX.1 hW hS hv_A6_1399 (vp_in_nI hcn (by omega)) dX5_begin_162 (fun H locs hW hS => ?_)
                    rw [show (nI nG).toNatClampNeg = nG from (nI_clamp (by omega))] at hW
                    obtain ⟨E32, eE32⟩ : ∃ z, z = xU E31 (A6 13) (.inl (G.2.1 0, 12, .inl (upd (σ 13) nG a1))) := ⟨_, rfl⟩
                    have hW : xW G E32 H := by rw [eE32]; exact hW
                    have hoN999 : E32 o = some (.inr (5, [.int (σ 0 0), .ref (A6 1), .ref (A6 2), .ref (A6 3), .ref (A6 4), .int (σ 5 0), .ref (A6 6), .ref (A6 7), .ref (A6 8), .ref (A6 9), .int (nI nG), .ref (A6 11), .ref (A6 12), .ref (A6 13), .ref (A6 14), .ref (A6 15), .ref (A6 16), .ref (A6 17), .ref (A6 18), .int (nI (A6 19))])) := by rw [eE32]; exact xU_of hoN99 hv_A6_1399 (fun h => by simp at h)
                    have hv_A6_1999 : E32 (A6 1) = some (.inl (G.2.1 0, 8, .inl (σ 1))) := by rw [eE32]; exact (xU_ne _ _ (hAA6.1.2.2.2.2.2.2.2.2.2.1)).trans hv_A6_199
                    have hv_A6_2999 : E32 (A6 2) = some (.inl (G.2.1 0, 8, .inl (σ 2))) := by rw [eE32]; exact (xU_ne _ _ (hAA6.2.1.2.2.2.2.2.2.2.2.1)).trans hv_A6_299
                    have hv_A6_3999 : E32 (A6 3) = some (.inl (G.2.1 0, 8, .inl (σ 3))) := by rw [eE32]; exact (xU_ne _ _ (hAA6.2.2.1.2.2.2.2.2.2.2.1)).trans hv_A6_399
                    have hv_A6_4999 : E32 (A6 4) = some (.inl (G.2.1 0, 8, .inl (σ 4))) := by rw [eE32]; exact (xU_ne _ _ (hAA6.2.2.2.1.2.2.2.2.2.2.1)).trans hv_A6_499
                    have hv_A6_6999 : E32 (A6 6) = some (.inl (G.2.1 0, 4, .inl (σ 6))) := by rw [eE32]; exact (xU_ne _ _ (hAA6.2.2.2.2.1.2.2.2.2.2.1)).trans hv_A6_699
                    have hv_A6_7999 : E32 (A6 7) = some (.inl (G.2.1 0, 4, .inl (σ 7))) := by rw [eE32]; exact (xU_ne _ _ (hAA6.2.2.2.2.2.1.2.2.2.2.1)).trans hv_A6_799
                    have hv_A6_8999 : E32 (A6 8) = some (.inl (G.2.1 0, 4, .inl (σ 8))) := by rw [eE32]; exact (xU_ne _ _ (hAA6.2.2.2.2.2.2.1.2.2.2.1)).trans hv_A6_899
                    have hv_A6_9999 : E32 (A6 9) = some (.inl (G.2.1 0, 4, .inl (σ 9))) := by rw [eE32]; exact (xU_ne _ _ (hAA6.2.2.2.2.2.2.2.1.2.2.1)).trans hv_A6_999
                    have hu_A6_11999 : E32 (A6 11) = some (.inl (G.2.1 0, 12, .inl (upd (σ 11) nG (nI v)))) := by rw [eE32]; exact (xU_ne _ _ (hAA6.2.2.2.2.2.2.2.2.1.2.1)).trans hu_A6_1199
                    have hv_A6_12999 : E32 (A6 12) = some (.inl (G.2.1 0, 12, .inl (upd (σ 12) nG (σ 7 v)))) := by rw [eE32]; exact (xU_ne _ _ (hAA6.2.2.2.2.2.2.2.2.2.1.1)).trans hv_A6_1299
                    have hv_A6_14999 : E32 (A6 14) = some (.inl (G.2.1 0, 12, .inl (σ 14))) := by rw [eE32]; exact (xU_ne _ _ (Ne.symm (hAA6.2.2.2.2.2.2.2.2.2.2.1.1))).trans hv_A6_1499
                    have hv_A6_15999 : E32 (A6 15) = some (.inl (G.2.1 0, 12, .inl (σ 15))) := by rw [eE32]; exact (xU_ne _ _ (Ne.symm (hAA6.2.2.2.2.2.2.2.2.2.2.1.2.1))).trans hv_A6_1599
                    have hv_A6_16999 : E32 (A6 16) = some (.inl (G.2.1 0, 12, .inl (σ 16))) := by rw [eE32]; exact (xU_ne _ _ (Ne.symm (hAA6.2.2.2.2.2.2.2.2.2.2.1.2.2.1))).trans hv_A6_1699
                    have hv_A6_17999 : E32 (A6 17) = some (.inl (G.2.1 0, 732, .inl (σ 17))) := by rw [eE32]; exact (xU_ne _ _ (Ne.symm (hAA6.2.2.2.2.2.2.2.2.2.2.1.2.2.2.1))).trans hv_A6_1799
                    have hv_A6_18999 : E32 (A6 18) = some (.inl (G.2.1 0, 732, .inl (σ 18))) := by rw [eE32]; exact (xU_ne _ _ (Ne.symm (hAA6.2.2.2.2.2.2.2.2.2.2.1.2.2.2.2))).trans hv_A6_1899
                    have hv_A6_13999 : E32 (A6 13) = some (.inl (G.2.1 0, 12, .inl (upd (σ 13) nG a1))) := by rw [eE32]; exact xU_self _ _ _
                    have hFr : xFr tM E E32 := by rw [eE32]; exact xFr_put hFr hv_A6_1399 rfl _
                    refine lv_aload_n hx hb dX5_begin_163 rfl (lv_at hl 1 rfl) ?_
                    refine va_get (D := G.1) (ci := 5) (v := .ref (A6 14)) (C := RX5) (T := TX5) (N := 20) hx hb hts hiX5 hown hX.1 (x1 hW hoN999) 0 rfl rfl 14 (by decide) hf43 (fun _ h9 => h9) rfl dX5_begin_164 ?_
                    refine lv_aload_n hx hb dX5_begin_167 rfl (lv_at hl 1 rfl) ?_
                    refine va_get (D := G.1) (ci := 5) (v := .int (nI nG)) (C := RX5) (T := TX5) (N := 20) hx hb hts hiX5 hown hX.1 (x1 hW hoN999) 0 rfl rfl 10 (by decide) hf65 (fun _ h9 => h9) rfl dX5_begin_168 ?_
                    refine lv_iload_n hx hb dX5_begin_171 rfl (lv_at hl 4 rfl) ?_
                    refine x_iast (G := G) hx hb hX.1 hW hS hv_A6_14999 (vp_in_nI hcn (by omega)) dX5_begin_172 (fun H locs hW hS => ?_)
                    rw [show (nI nG).toNatClampNeg = nG from (nI_clamp (by omega))] at hW
                    obtain ⟨E33, eE33⟩ : ∃ z, z = xU E32 (A6 14) (.inl (G.2.1 0, 12, .inl (upd (σ 14) nG a2))) := ⟨_, rfl⟩
                    have hW : xW G E33 H := by rw [eE33]; exact hW
                    have hoN9999 : E33 o = some (.inr (5, [.int (σ 0 0), .ref (A6 1), .ref (A6 2), .ref (A6 3), .ref (A6 4), .int (σ 5 0), .ref (A6 6), .ref (A6 7), .ref (A6 8), .ref (A6 9), .int (nI nG), .ref (A6 11), .ref (A6 12), .ref (A6 13), .ref (A6 14), .ref (A6 15), .ref (A6 16), .ref (A6 17), .ref (A6 18), .int (nI (A6 19))])) := by rw [eE33]; exact xU_of hoN999 hv_A6_14999 (fun h => by simp at h)
                    have hv_A6_19999 : E33 (A6 1) = some (.inl (G.2.1 0, 8, .inl (σ 1))) := by rw [eE33]; exact (xU_ne _ _ (hAA6.1.2.2.2.2.2.2.2.2.2.2.1)).trans hv_A6_1999
                    have hv_A6_29999 : E33 (A6 2) = some (.inl (G.2.1 0, 8, .inl (σ 2))) := by rw [eE33]; exact (xU_ne _ _ (hAA6.2.1.2.2.2.2.2.2.2.2.2.1)).trans hv_A6_2999
                    have hv_A6_39999 : E33 (A6 3) = some (.inl (G.2.1 0, 8, .inl (σ 3))) := by rw [eE33]; exact (xU_ne _ _ (hAA6.2.2.1.2.2.2.2.2.2.2.2.1)).trans hv_A6_3999
                    have hv_A6_49999 : E33 (A6 4) = some (.inl (G.2.1 0, 8, .inl (σ 4))) := by rw [eE33]; exact (xU_ne _ _ (hAA6.2.2.2.1.2.2.2.2.2.2.2.1)).trans hv_A6_4999
                    have hv_A6_69999 : E33 (A6 6) = some (.inl (G.2.1 0, 4, .inl (σ 6))) := by rw [eE33]; exact (xU_ne _ _ (hAA6.2.2.2.2.1.2.2.2.2.2.2.1)).trans hv_A6_6999
                    have hv_A6_79999 : E33 (A6 7) = some (.inl (G.2.1 0, 4, .inl (σ 7))) := by rw [eE33]; exact (xU_ne _ _ (hAA6.2.2.2.2.2.1.2.2.2.2.2.1)).trans hv_A6_7999
                    have hv_A6_89999 : E33 (A6 8) = some (.inl (G.2.1 0, 4, .inl (σ 8))) := by rw [eE33]; exact (xU_ne _ _ (hAA6.2.2.2.2.2.2.1.2.2.2.2.1)).trans hv_A6_8999
                    have hv_A6_99999 : E33 (A6 9) = some (.inl (G.2.1 0, 4, .inl (σ 9))) := by rw [eE33]; exact (xU_ne _ _ (hAA6.2.2.2.2.2.2.2.1.2.2.2.1)).trans hv_A6_9999
                    have hu_A6_119999 : E33 (A6 11) = some (.inl (G.2.1 0, 12, .inl (upd (σ 11) nG (nI v)))) := by rw [eE33]; exact (xU_ne _ _ (hAA6.2.2.2.2.2.2.2.2.1.2.2.1)).trans hu_A6_11999
                    have hv_A6_129999 : E33 (A6 12) = some (.inl (G.2.1 0, 12, .inl (upd (σ 12) nG (σ 7 v)))) := by rw [eE33]; exact (xU_ne _ _ (hAA6.2.2.2.2.2.2.2.2.2.1.2.1)).trans hv_A6_12999
                    have hv_A6_139999 : E33 (A6 13) = some (.inl (G.2.1 0, 12, .inl (upd (σ 13) nG a1))) := by rw [eE33]; exact (xU_ne _ _ (hAA6.2.2.2.2.2.2.2.2.2.2.1.1)).trans hv_A6_13999
                    have hv_A6_159999 : E33 (A6 15) = some (.inl (G.2.1 0, 12, .inl (σ 15))) := by rw [eE33]; exact (xU_ne _ _ (Ne.symm (hAA6.2.2.2.2.2.2.2.2.2.2.2.1.1))).trans hv_A6_15999
                    have hv_A6_169999 : E33 (A6 16) = some (.inl (G.2.1 0, 12, .inl (σ 16))) := by rw [eE33]; exact (xU_ne _ _ (Ne.symm (hAA6.2.2.2.2.2.2.2.2.2.2.2.1.2.1))).trans hv_A6_16999
                    have hv_A6_179999 : E33 (A6 17) = some (.inl (G.2.1 0, 732, .inl (σ 17))) := by rw [eE33]; exact (xU_ne _ _ (Ne.symm (hAA6.2.2.2.2.2.2.2.2.2.2.2.1.2.2.1))).trans hv_A6_17999
                    have hv_A6_189999 : E33 (A6 18) = some (.inl (G.2.1 0, 732, .inl (σ 18))) := by rw [eE33]; exact (xU_ne _ _ (Ne.symm (hAA6.2.2.2.2.2.2.2.2.2.2.2.1.2.2.2))).trans hv_A6_18999
                    have hv_A6_149999 : E33 (A6 14) = some (.inl (G.2.1 0, 12, .inl (upd (σ 14) nG a2))) := by rw [eE33]; exact xU_self _ _ _
                    have hFr : xFr tM E E33 := by rw [eE33]; exact xFr_put hFr hv_A6_14999 rfl _
                    refine lv_aload_n hx hb dX5_begin_173 rfl (lv_at hl 1 rfl) ?_
                    refine va_get (D := G.1) (ci := 5) (v := .ref (A6 15)) (C := RX5) (T := TX5) (N := 20) hx hb hts hiX5 hown hX.1 (x1 hW hoN9999) 0 rfl rfl 15 (by decide) hf46 (fun _ h9 => h9) rfl dX5_begin_174 ?_
                    refine lv_aload_n hx hb dX5_begin_177 rfl (lv_at hl 1 rfl) ?_
                    refine va_get (D := G.1) (ci := 5) (v := .int (nI nG)) (C := RX5) (T := TX5) (N := 20) hx hb hts hiX5 hown hX.1 (x1 hW hoN9999) 0 rfl rfl 10 (by decide) hf65 (fun _ h9 => h9) rfl dX5_begin_178 ?_
                    refine lv_iconst (v := 0) hx hb dX5_begin_181 (by decide) ?_
                    refine x_iast (G := G) hx hb hX.1 hW hS hv_A6_159999 (vp_in_nI hcn (by omega)) dX5_begin_182 (fun H locs hW hS => ?_)
                    rw [show (nI nG).toNatClampNeg = nG from (nI_clamp (by omega))] at hW
                    obtain ⟨E34, eE34⟩ : ∃ z, z = xU E33 (A6 15) (.inl (G.2.1 0, 12, .inl (upd (σ 15) nG 0))) := ⟨_, rfl⟩
                    have hW : xW G E34 H := by rw [eE34]; exact hW
                    have hoN99999 : E34 o = some (.inr (5, [.int (σ 0 0), .ref (A6 1), .ref (A6 2), .ref (A6 3), .ref (A6 4), .int (σ 5 0), .ref (A6 6), .ref (A6 7), .ref (A6 8), .ref (A6 9), .int (nI nG), .ref (A6 11), .ref (A6 12), .ref (A6 13), .ref (A6 14), .ref (A6 15), .ref (A6 16), .ref (A6 17), .ref (A6 18), .int (nI (A6 19))])) := by rw [eE34]; exact xU_of hoN9999 hv_A6_159999 (fun h => by simp at h)
                    have hv_A6_199999 : E34 (A6 1) = some (.inl (G.2.1 0, 8, .inl (σ 1))) := by rw [eE34]; exact (xU_ne _ _ (hAA6.1.2.2.2.2.2.2.2.2.2.2.2.1)).trans hv_A6_19999
                    have hv_A6_299999 : E34 (A6 2) = some (.inl (G.2.1 0, 8, .inl (σ 2))) := by rw [eE34]; exact (xU_ne _ _ (hAA6.2.1.2.2.2.2.2.2.2.2.2.2.1)).trans hv_A6_29999
                    have hv_A6_399999 : E34 (A6 3) = some (.inl (G.2.1 0, 8, .inl (σ 3))) := by rw [eE34]; exact (xU_ne _ _ (hAA6.2.2.1.2.2.2.2.2.2.2.2.2.1)).trans hv_A6_39999
                    have hv_A6_499999 : E34 (A6 4) = some (.inl (G.2.1 0, 8, .inl (σ 4))) := by rw [eE34]; exact (xU_ne _ _ (hAA6.2.2.2.1.2.2.2.2.2.2.2.2.1)).trans hv_A6_49999
                    have hv_A6_699999 : E34 (A6 6) = some (.inl (G.2.1 0, 4, .inl (σ 6))) := by rw [eE34]; exact (xU_ne _ _ (hAA6.2.2.2.2.1.2.2.2.2.2.2.2.1)).trans hv_A6_69999
                    have hv_A6_799999 : E34 (A6 7) = some (.inl (G.2.1 0, 4, .inl (σ 7))) := by rw [eE34]; exact (xU_ne _ _ (hAA6.2.2.2.2.2.1.2.2.2.2.2.2.1)).trans hv_A6_79999
                    have hv_A6_899999 : E34 (A6 8) = some (.inl (G.2.1 0, 4, .inl (σ 8))) := by rw [eE34]; exact (xU_ne _ _ (hAA6.2.2.2.2.2.2.1.2.2.2.2.2.1)).trans hv_A6_89999
                    have hv_A6_999999 : E34 (A6 9) = some (.inl (G.2.1 0, 4, .inl (σ 9))) := by rw [eE34]; exact (xU_ne _ _ (hAA6.2.2.2.2.2.2.2.1.2.2.2.2.1)).trans hv_A6_99999
                    have hu_A6_1199999 : E34 (A6 11) = some (.inl (G.2.1 0, 12, .inl (upd (σ 11) nG (nI v)))) := by rw [eE34]; exact (xU_ne _ _ (hAA6.2.2.2.2.2.2.2.2.1.2.2.2.1)).trans hu_A6_119999
                    have hv_A6_1299999 : E34 (A6 12) = some (.inl (G.2.1 0, 12, .inl (upd (σ 12) nG (σ 7 v)))) := by rw [eE34]; exact (xU_ne _ _ (hAA6.2.2.2.2.2.2.2.2.2.1.2.2.1)).trans hv_A6_129999
                    have hv_A6_1399999 : E34 (A6 13) = some (.inl (G.2.1 0, 12, .inl (upd (σ 13) nG a1))) := by rw [eE34]; exact (xU_ne _ _ (hAA6.2.2.2.2.2.2.2.2.2.2.1.2.1)).trans hv_A6_139999
                    have hv_A6_1499999 : E34 (A6 14) = some (.inl (G.2.1 0, 12, .inl (upd (σ 14) nG a2))) := by rw [eE34]; exact (xU_ne _ _ (hAA6.2.2.2.2.2.2.2.2.2.2.2.1.1)).trans hv_A6_149999
                    have hv_A6_1699999 : E34 (A6 16) = some (.inl (G.2.1 0, 12, .inl (σ 16))) := by rw [eE34]; exact (xU_ne _ _ (Ne.symm (hAA6.2.2.2.2.2.2.2.2.2.2.2.2.1.1))).trans hv_A6_169999
                    have hv_A6_1799999 : E34 (A6 17) = some (.inl (G.2.1 0, 732, .inl (σ 17))) := by rw [eE34]; exact (xU_ne _ _ (Ne.symm (hAA6.2.2.2.2.2.2.2.2.2.2.2.2.1.2.1))).trans hv_A6_179999
                    have hv_A6_1899999 : E34 (A6 18) = some (.inl (G.2.1 0, 732, .inl (σ 18))) := by rw [eE34]; exact (xU_ne _ _ (Ne.symm (hAA6.2.2.2.2.2.2.2.2.2.2.2.2.1.2.2))).trans hv_A6_189999
                    have hv_A6_1599999 : E34 (A6 15) = some (.inl (G.2.1 0, 12, .inl (upd (σ 15) nG 0))) := by rw [eE34]; exact xU_self _ _ _
                    have hFr : xFr tM E E34 := by rw [eE34]; exact xFr_put hFr hv_A6_159999 rfl _
                    refine lv_aload_n hx hb dX5_begin_183 rfl (lv_at hl 1 rfl) ?_
                    refine va_get (D := G.1) (ci := 5) (v := .ref (A6 16)) (C := RX5) (T := TX5) (N := 20) hx hb hts hiX5 hown hX.1 (x1 hW hoN99999) 0 rfl rfl 16 (by decide) hf49 (fun _ h9 => h9) rfl dX5_begin_184 ?_
                    refine lv_aload_n hx hb dX5_begin_187 rfl (lv_at hl 1 rfl) ?_
                    refine va_get (D := G.1) (ci := 5) (v := .int (nI nG)) (C := RX5) (T := TX5) (N := 20) hx hb hts hiX5 hown hX.1 (x1 hW hoN99999) 0 rfl rfl 10 (by decide) hf65 (fun _ h9 => h9) rfl dX5_begin_188 ?_
                    refine lv_iconst (v := 0) hx hb dX5_begin_191 (by decide) ?_
                    refine x_iast (G := G) hx hb hX.1 hW hS hv_A6_1699999 (vp_in_nI hcn (by omega)) dX5_begin_192 (fun H locs hW hS => ?_)
                    rw [show (nI nG).toNatClampNeg = nG from (nI_clamp (by omega))] at hW
                    obtain ⟨E35, eE35⟩ : ∃ z, z = xU E34 (A6 16) (.inl (G.2.1 0, 12, .inl (upd (σ 16) nG 0))) := ⟨_, rfl⟩
                    have hW : xW G E35 H := by rw [eE35]; exact hW
                    have hoN999999 : E35 o = some (.inr (5, [.int (σ 0 0), .ref (A6 1), .ref (A6 2), .ref (A6 3), .ref (A6 4), .int (σ 5 0), .ref (A6 6), .ref (A6 7), .ref (A6 8), .ref (A6 9), .int (nI nG), .ref (A6 11), .ref (A6 12), .ref (A6 13), .ref (A6 14), .ref (A6 15), .ref (A6 16), .ref (A6 17), .ref (A6 18), .int (nI (A6 19))])) := by rw [eE35]; exact xU_of hoN99999 hv_A6_1699999 (fun h => by simp at h)
                    have hv_A6_1999999 : E35 (A6 1) = some (.inl (G.2.1 0, 8, .inl (σ 1))) := by rw [eE35]; exact (xU_ne _ _ (hAA6.1.2.2.2.2.2.2.2.2.2.2.2.2.1)).trans hv_A6_199999
                    have hv_A6_2999999 : E35 (A6 2) = some (.inl (G.2.1 0, 8, .inl (σ 2))) := by rw [eE35]; exact (xU_ne _ _ (hAA6.2.1.2.2.2.2.2.2.2.2.2.2.2.1)).trans hv_A6_299999
                    have hv_A6_3999999 : E35 (A6 3) = some (.inl (G.2.1 0, 8, .inl (σ 3))) := by rw [eE35]; exact (xU_ne _ _ (hAA6.2.2.1.2.2.2.2.2.2.2.2.2.2.1)).trans hv_A6_399999
                    have hv_A6_4999999 : E35 (A6 4) = some (.inl (G.2.1 0, 8, .inl (σ 4))) := by rw [eE35]; exact (xU_ne _ _ (hAA6.2.2.2.1.2.2.2.2.2.2.2.2.2.1)).trans hv_A6_499999
                    have hv_A6_6999999 : E35 (A6 6) = some (.inl (G.2.1 0, 4, .inl (σ 6))) := by rw [eE35]; exact (xU_ne _ _ (hAA6.2.2.2.2.1.2.2.2.2.2.2.2.2.1)).trans hv_A6_699999
                    have hv_A6_7999999 : E35 (A6 7) = some (.inl (G.2.1 0, 4, .inl (σ 7))) := by rw [eE35]; exact (xU_ne _ _ (hAA6.2.2.2.2.2.1.2.2.2.2.2.2.2.1)).trans hv_A6_799999
                    have hv_A6_8999999 : E35 (A6 8) = some (.inl (G.2.1 0, 4, .inl (σ 8))) := by rw [eE35]; exact (xU_ne _ _ (hAA6.2.2.2.2.2.2.1.2.2.2.2.2.2.1)).trans hv_A6_899999
                    have hv_A6_9999999 : E35 (A6 9) = some (.inl (G.2.1 0, 4, .inl (σ 9))) := by rw [eE35]; exact (xU_ne _ _ (hAA6.2.2.2.2.2.2.2.1.2.2.2.2.2.1)).trans hv_A6_999999
                    have hu_A6_11999999 : E35 (A6 11) = some (.inl (G.2.1 0, 12, .inl (upd (σ 11) nG (nI v)))) := by rw [eE35]; exact (xU_ne _ _ (hAA6.2.2.2.2.2.2.2.2.1.2.2.2.2.1)).trans hu_A6_1199999
                    have hv_A6_12999999 : E35 (A6 12) = some (.inl (G.2.1 0, 12, .inl (upd (σ 12) nG (σ 7 v)))) := by rw [eE35]; exact (xU_ne _ _ (hAA6.2.2.2.2.2.2.2.2.2.1.2.2.2.1)).trans hv_A6_1299999
                    have hv_A6_13999999 : E35 (A6 13) = some (.inl (G.2.1 0, 12, .inl (upd (σ 13) nG a1))) := by rw [eE35]; exact (xU_ne _ _ (hAA6.2.2.2.2.2.2.2.2.2.2.1.2.2.1)).trans hv_A6_1399999
                    have hv_A6_14999999 : E35 (A6 14) = some (.inl (G.2.1 0, 12, .inl (upd (σ 14) nG a2))) := by rw [eE35]; exact (xU_ne _ _ (hAA6.2.2.2.2.2.2.2.2.2.2.2.1.2.1)).trans hv_A6_1499999
                    have hv_A6_15999999 : E35 (A6 15) = some (.inl (G.2.1 0, 12, .inl (upd (σ 15) nG 0))) := by rw [eE35]; exact (xU_ne _ _ (hAA6.2.2.2.2.2.2.2.2.2.2.2.2.1.1)).trans hv_A6_1599999
                    have hv_A6_17999999 : E35 (A6 17) = some (.inl (G.2.1 0, 732, .inl (σ 17))) := by rw [eE35]; exact (xU_ne _ _ (Ne.symm (hAA6.2.2.2.2.2.2.2.2.2.2.2.2.2.1.1))).trans hv_A6_1799999
                    have hv_A6_18999999 : E35 (A6 18) = some (.inl (G.2.1 0, 732, .inl (σ 18))) := by rw [eE35]; exact (xU_ne _ _ (Ne.symm (hAA6.2.2.2.2.2.2.2.2.2.2.2.2.2.1.2))).trans hv_A6_1899999
                    have hv_A6_16999999 : E35 (A6 16) = some (.inl (G.2.1 0, 12, .inl (upd (σ 16) nG 0))) := by rw [eE35]; exact xU_self _ _ _
                    have hFr : xFr tM E E35 := by rw [eE35]; exact xFr_put hFr hv_A6_1699999 rfl _
                    refine lv_aload_n hx hb dX5_begin_193 rfl (lv_at hl 1 rfl) ?_
                    refine va_get (D := G.1) (ci := 5) (v := .ref (A6 17)) (C := RX5) (T := TX5) (N := 20) hx hb hts hiX5 hown hX.1 (x1 hW hoN999999) 0 rfl rfl 17 (by decide) hf52 (fun _ h9 => h9) rfl dX5_begin_194 ?_
                    refine lv_bipush (v := 61) hx hb dX5_begin_197 (by decide) ?_
                    refine lv_aload_n hx hb dX5_begin_199 rfl (lv_at hl 1 rfl) ?_
                    refine va_get (D := G.1) (ci := 5) (v := .int (nI nG)) (C := RX5) (T := TX5) (N := 20) hx hb hts hiX5 hown hX.1 (x1 hW hoN999999) 0 rfl rfl 10 (by decide) hf65 (fun _ h9 => h9) rfl dX5_begin_200 ?_
                    refine lv_imul hx hb dX5_begin_203 ?_
                    refine lv_iload hx hb dX5_begin_204 (lv_at hl 5 rfl) ?_
                    refine x_iast (G := G) hx hb hX.1 hW hS hv_A6_17999999 ((x_at0 hcn).1) dX5_begin_206 (fun H locs hW hS => ?_)
                    rw [show ((61 : Int32) * (nI nG)).toNatClampNeg = 61 * nG from ((x_at0 hcn).2)] at hW
                    obtain ⟨E36, eE36⟩ : ∃ z, z = xU E35 (A6 17) (.inl (G.2.1 0, 732, .inl (upd (σ 17) (61 * nG) a3))) := ⟨_, rfl⟩
                    have hW : xW G E36 H := by rw [eE36]; exact hW
                    have hoN9999999 : E36 o = some (.inr (5, [.int (σ 0 0), .ref (A6 1), .ref (A6 2), .ref (A6 3), .ref (A6 4), .int (σ 5 0), .ref (A6 6), .ref (A6 7), .ref (A6 8), .ref (A6 9), .int (nI nG), .ref (A6 11), .ref (A6 12), .ref (A6 13), .ref (A6 14), .ref (A6 15), .ref (A6 16), .ref (A6 17), .ref (A6 18), .int (nI (A6 19))])) := by rw [eE36]; exact xU_of hoN999999 hv_A6_17999999 (fun h => by simp at h)
                    have hv_A6_19999999 : E36 (A6 1) = some (.inl (G.2.1 0, 8, .inl (σ 1))) := by rw [eE36]; exact (xU_ne _ _ (hAA6.1.2.2.2.2.2.2.2.2.2.2.2.2.2.1)).trans hv_A6_1999999
                    have hv_A6_29999999 : E36 (A6 2) = some (.inl (G.2.1 0, 8, .inl (σ 2))) := by rw [eE36]; exact (xU_ne _ _ (hAA6.2.1.2.2.2.2.2.2.2.2.2.2.2.2.1)).trans hv_A6_2999999
                    have hv_A6_39999999 : E36 (A6 3) = some (.inl (G.2.1 0, 8, .inl (σ 3))) := by rw [eE36]; exact (xU_ne _ _ (hAA6.2.2.1.2.2.2.2.2.2.2.2.2.2.2.1)).trans hv_A6_3999999
                    have hv_A6_49999999 : E36 (A6 4) = some (.inl (G.2.1 0, 8, .inl (σ 4))) := by rw [eE36]; exact (xU_ne _ _ (hAA6.2.2.2.1.2.2.2.2.2.2.2.2.2.2.1)).trans hv_A6_4999999
                    have hv_A6_69999999 : E36 (A6 6) = some (.inl (G.2.1 0, 4, .inl (σ 6))) := by rw [eE36]; exact (xU_ne _ _ (hAA6.2.2.2.2.1.2.2.2.2.2.2.2.2.2.1)).trans hv_A6_6999999
                    have hv_A6_79999999 : E36 (A6 7) = some (.inl (G.2.1 0, 4, .inl (σ 7))) := by rw [eE36]; exact (xU_ne _ _ (hAA6.2.2.2.2.2.1.2.2.2.2.2.2.2.2.1)).trans hv_A6_7999999
                    have hv_A6_89999999 : E36 (A6 8) = some (.inl (G.2.1 0, 4, .inl (σ 8))) := by rw [eE36]; exact (xU_ne _ _ (hAA6.2.2.2.2.2.2.1.2.2.2.2.2.2.2.1)).trans hv_A6_8999999
                    have hv_A6_99999999 : E36 (A6 9) = some (.inl (G.2.1 0, 4, .inl (σ 9))) := by rw [eE36]; exact (xU_ne _ _ (hAA6.2.2.2.2.2.2.2.1.2.2.2.2.2.2.1)).trans hv_A6_9999999
                    have hu_A6_119999999 : E36 (A6 11) = some (.inl (G.2.1 0, 12, .inl (upd (σ 11) nG (nI v)))) := by rw [eE36]; exact (xU_ne _ _ (hAA6.2.2.2.2.2.2.2.2.1.2.2.2.2.2.1)).trans hu_A6_11999999
                    have hv_A6_129999999 : E36 (A6 12) = some (.inl (G.2.1 0, 12, .inl (upd (σ 12) nG (σ 7 v)))) := by rw [eE36]; exact (xU_ne _ _ (hAA6.2.2.2.2.2.2.2.2.2.1.2.2.2.2.1)).trans hv_A6_12999999
                    have hv_A6_139999999 : E36 (A6 13) = some (.inl (G.2.1 0, 12, .inl (upd (σ 13) nG a1))) := by rw [eE36]; exact (xU_ne _ _ (hAA6.2.2.2.2.2.2.2.2.2.2.1.2.2.2.1)).trans hv_A6_13999999
                    have hv_A6_149999999 : E36 (A6 14) = some (.inl (G.2.1 0, 12, .inl (upd (σ 14) nG a2))) := by rw [eE36]; exact (xU_ne _ _ (hAA6.2.2.2.2.2.2.2.2.2.2.2.1.2.2.1)).trans hv_A6_14999999
                    have hv_A6_159999999 : E36 (A6 15) = some (.inl (G.2.1 0, 12, .inl (upd (σ 15) nG 0))) := by rw [eE36]; exact (xU_ne _ _ (hAA6.2.2.2.2.2.2.2.2.2.2.2.2.1.2.1)).trans hv_A6_15999999
                    have hv_A6_169999999 : E36 (A6 16) = some (.inl (G.2.1 0, 12, .inl (upd (σ 16) nG 0))) := by rw [eE36]; exact (xU_ne _ _ (hAA6.2.2.2.2.2.2.2.2.2.2.2.2.2.1.1)).trans hv_A6_16999999
                    have hv_A6_189999999 : E36 (A6 18) = some (.inl (G.2.1 0, 732, .inl (σ 18))) := by rw [eE36]; exact (xU_ne _ _ (Ne.symm (hAA6.2.2.2.2.2.2.2.2.2.2.2.2.2.2))).trans hv_A6_18999999
                    have hv_A6_179999999 : E36 (A6 17) = some (.inl (G.2.1 0, 732, .inl (upd (σ 17) (61 * nG) a3))) := by rw [eE36]; exact xU_self _ _ _
                    have hFr : xFr tM E E36 := by rw [eE36]; exact xFr_put hFr hv_A6_17999999 rfl _
                    refine lv_aload_n hx hb dX5_begin_207 rfl (lv_at hl 1 rfl) ?_
                    refine va_get (D := G.1) (ci := 5) (v := .ref (A6 18)) (C := RX5) (T := TX5) (N := 20) hx hb hts hiX5 hown hX.1 (x1 hW hoN9999999) 0 rfl rfl 18 (by decide) hf55 (fun _ h9 => h9) rfl dX5_begin_208 ?_
                    refine lv_bipush (v := 61) hx hb dX5_begin_211 (by decide) ?_
                    refine lv_aload_n hx hb dX5_begin_213 rfl (lv_at hl 1 rfl) ?_
                    refine va_get (D := G.1) (ci := 5) (v := .int (nI nG)) (C := RX5) (T := TX5) (N := 20) hx hb hts hiX5 hown hX.1 (x1 hW hoN9999999) 0 rfl rfl 10 (by decide) hf65 (fun _ h9 => h9) rfl dX5_begin_214 ?_
                    refine lv_imul hx hb dX5_begin_217 ?_
                    refine lv_iload hx hb dX5_begin_218 (lv_at hl 6 rfl) ?_
                    refine x_iast (G := G) hx hb hX.1 hW hS hv_A6_189999999 ((x_at0 hcn).1) dX5_begin_220 (fun H locs hW hS => ?_)
                    rw [show ((61 : Int32) * (nI nG)).toNatClampNeg = 61 * nG from ((x_at0 hcn).2)] at hW
                    obtain ⟨E37, eE37⟩ : ∃ z, z = xU E36 (A6 18) (.inl (G.2.1 0, 732, .inl (upd (σ 18) (61 * nG) a4))) := ⟨_, rfl⟩
                    have hW : xW G E37 H := by rw [eE37]; exact hW
                    have hoN99999999 : E37 o = some (.inr (5, [.int (σ 0 0), .ref (A6 1), .ref (A6 2), .ref (A6 3), .ref (A6 4), .int (σ 5 0), .ref (A6 6), .ref (A6 7), .ref (A6 8), .ref (A6 9), .int (nI nG), .ref (A6 11), .ref (A6 12), .ref (A6 13), .ref (A6 14), .ref (A6 15), .ref (A6 16), .ref (A6 17), .ref (A6 18), .int (nI (A6 19))])) := by rw [eE37]; exact xU_of hoN9999999 hv_A6_189999999 (fun h => by simp at h)
                    have hv_A6_199999999 : E37 (A6 1) = some (.inl (G.2.1 0, 8, .inl (σ 1))) := by rw [eE37]; exact (xU_ne _ _ (hAA6.1.2.2.2.2.2.2.2.2.2.2.2.2.2.2)).trans hv_A6_19999999
                    have hv_A6_299999999 : E37 (A6 2) = some (.inl (G.2.1 0, 8, .inl (σ 2))) := by rw [eE37]; exact (xU_ne _ _ (hAA6.2.1.2.2.2.2.2.2.2.2.2.2.2.2.2)).trans hv_A6_29999999
                    have hv_A6_399999999 : E37 (A6 3) = some (.inl (G.2.1 0, 8, .inl (σ 3))) := by rw [eE37]; exact (xU_ne _ _ (hAA6.2.2.1.2.2.2.2.2.2.2.2.2.2.2.2)).trans hv_A6_39999999
                    have hv_A6_499999999 : E37 (A6 4) = some (.inl (G.2.1 0, 8, .inl (σ 4))) := by rw [eE37]; exact (xU_ne _ _ (hAA6.2.2.2.1.2.2.2.2.2.2.2.2.2.2.2)).trans hv_A6_49999999
                    have hv_A6_699999999 : E37 (A6 6) = some (.inl (G.2.1 0, 4, .inl (σ 6))) := by rw [eE37]; exact (xU_ne _ _ (hAA6.2.2.2.2.1.2.2.2.2.2.2.2.2.2.2)).trans hv_A6_69999999
                    have hv_A6_799999999 : E37 (A6 7) = some (.inl (G.2.1 0, 4, .inl (σ 7))) := by rw [eE37]; exact (xU_ne _ _ (hAA6.2.2.2.2.2.1.2.2.2.2.2.2.2.2.2)).trans hv_A6_79999999
                    have hv_A6_899999999 : E37 (A6 8) = some (.inl (G.2.1 0, 4, .inl (σ 8))) := by rw [eE37]; exact (xU_ne _ _ (hAA6.2.2.2.2.2.2.1.2.2.2.2.2.2.2.2)).trans hv_A6_89999999
                    have hv_A6_999999999 : E37 (A6 9) = some (.inl (G.2.1 0, 4, .inl (σ 9))) := by rw [eE37]; exact (xU_ne _ _ (hAA6.2.2.2.2.2.2.2.1.2.2.2.2.2.2.2)).trans hv_A6_99999999
                    have hu_A6_1199999999 : E37 (A6 11) = some (.inl (G.2.1 0, 12, .inl (upd (σ 11) nG (nI v)))) := by rw [eE37]; exact (xU_ne _ _ (hAA6.2.2.2.2.2.2.2.2.1.2.2.2.2.2.2)).trans hu_A6_119999999
                    have hv_A6_1299999999 : E37 (A6 12) = some (.inl (G.2.1 0, 12, .inl (upd (σ 12) nG (σ 7 v)))) := by rw [eE37]; exact (xU_ne _ _ (hAA6.2.2.2.2.2.2.2.2.2.1.2.2.2.2.2)).trans hv_A6_129999999
                    have hv_A6_1399999999 : E37 (A6 13) = some (.inl (G.2.1 0, 12, .inl (upd (σ 13) nG a1))) := by rw [eE37]; exact (xU_ne _ _ (hAA6.2.2.2.2.2.2.2.2.2.2.1.2.2.2.2)).trans hv_A6_139999999
                    have hv_A6_1499999999 : E37 (A6 14) = some (.inl (G.2.1 0, 12, .inl (upd (σ 14) nG a2))) := by rw [eE37]; exact (xU_ne _ _ (hAA6.2.2.2.2.2.2.2.2.2.2.2.1.2.2.2)).trans hv_A6_149999999
                    have hv_A6_1599999999 : E37 (A6 15) = some (.inl (G.2.1 0, 12, .inl (upd (σ 15) nG 0))) := by rw [eE37]; exact (xU_ne _ _ (hAA6.2.2.2.2.2.2.2.2.2.2.2.2.1.2.2)).trans hv_A6_159999999
                    have hv_A6_1699999999 : E37 (A6 16) = some (.inl (G.2.1 0, 12, .inl (upd (σ 16) nG 0))) := by rw [eE37]; exact (xU_ne _ _ (hAA6.2.2.2.2.2.2.2.2.2.2.2.2.2.1.2)).trans hv_A6_169999999
                    have hv_A6_1799999999 : E37 (A6 17) = some (.inl (G.2.1 0, 732, .inl (upd (σ 17) (61 * nG) a3))) := by rw [eE37]; exact (xU_ne _ _ (hAA6.2.2.2.2.2.2.2.2.2.2.2.2.2.2)).trans hv_A6_179999999
                    have hv_A6_1899999999 : E37 (A6 18) = some (.inl (G.2.1 0, 732, .inl (upd (σ 18) (61 * nG) a4))) := by rw [eE37]; exact xU_self _ _ _
                    have hFr : xFr tM E E37 := by rw [eE37]; exact xFr_put hFr hv_A6_189999999 rfl _
                    refine lv_aload_n hx hb dX5_begin_221 rfl (lv_at hl 1 rfl) ?_
                    refine lv_dup hx hb dX5_begin_222 rfl ?_
                    refine va_get (D := G.1) (ci := 5) (v := .int (nI nG)) (C := RX5) (T := TX5) (N := 20) hx hb hts hiX5 hown hX.1 (x1 hW hoN99999999) 0 rfl rfl 10 (by decide) hf65 (fun _ h9 => h9) rfl dX5_begin_223 ?_
                    refine lv_iconst (v := 1) hx hb dX5_begin_226 (by decide) ?_
                    refine lv_iadd hx hb dX5_begin_227 ?_
                    rw [nI_1]
                    refine x_put (G := G) (ci := 5) (v := .int (nI (nG + 1))) (ty := .int) (C := RX5) (T := TX5) (N := 20) hx hb hts hiX5 tyX5 tyX5_ok nmX5 hown hX.1 hW hS hoN99999999 rfl 10 (by decide) hf65 (fun _ h9 => h9) rfl (by decide +kernel) rfl rfl (Nat.le_of_ble_eq_true rfl) dX5_begin_228 (fun H locs hW hS => ?_)
                    obtain ⟨E38, eE38⟩ : ∃ z, z = xU E37 o (.inr (5, [.int (σ 0 0), .ref (A6 1), .ref (A6 2), .ref (A6 3), .ref (A6 4), .int (σ 5 0), .ref (A6 6), .ref (A6 7), .ref (A6 8), .ref (A6 9), .int (nI (nG + 1)), .ref (A6 11), .ref (A6 12), .ref (A6 13), .ref (A6 14), .ref (A6 15), .ref (A6 16), .ref (A6 17), .ref (A6 18), .int (nI (A6 19))])) := ⟨_, rfl⟩
                    have hW : xW G E38 H := by rw [eE38]; exact hW
                    have hv_A6_1999999999 : E38 (A6 1) = some (.inl (G.2.1 0, 8, .inl (σ 1))) := by rw [eE38]; exact xU_of hv_A6_199999999 hoN99999999 (fun h => by simp at h)
                    have hv_A6_2999999999 : E38 (A6 2) = some (.inl (G.2.1 0, 8, .inl (σ 2))) := by rw [eE38]; exact xU_of hv_A6_299999999 hoN99999999 (fun h => by simp at h)
                    have hv_A6_3999999999 : E38 (A6 3) = some (.inl (G.2.1 0, 8, .inl (σ 3))) := by rw [eE38]; exact xU_of hv_A6_399999999 hoN99999999 (fun h => by simp at h)
                    have hv_A6_4999999999 : E38 (A6 4) = some (.inl (G.2.1 0, 8, .inl (σ 4))) := by rw [eE38]; exact xU_of hv_A6_499999999 hoN99999999 (fun h => by simp at h)
                    have hv_A6_6999999999 : E38 (A6 6) = some (.inl (G.2.1 0, 4, .inl (σ 6))) := by rw [eE38]; exact xU_of hv_A6_699999999 hoN99999999 (fun h => by simp at h)
                    have hv_A6_7999999999 : E38 (A6 7) = some (.inl (G.2.1 0, 4, .inl (σ 7))) := by rw [eE38]; exact xU_of hv_A6_799999999 hoN99999999 (fun h => by simp at h)
                    have hv_A6_8999999999 : E38 (A6 8) = some (.inl (G.2.1 0, 4, .inl (σ 8))) := by rw [eE38]; exact xU_of hv_A6_899999999 hoN99999999 (fun h => by simp at h)
                    have hv_A6_9999999999 : E38 (A6 9) = some (.inl (G.2.1 0, 4, .inl (σ 9))) := by rw [eE38]; exact xU_of hv_A6_999999999 hoN99999999 (fun h => by simp at h)
                    have hu_A6_11999999999 : E38 (A6 11) = some (.inl (G.2.1 0, 12, .inl (upd (σ 11) nG (nI v)))) := by rw [eE38]; exact xU_of hu_A6_1199999999 hoN99999999 (fun h => by simp at h)
                    have hv_A6_12999999999 : E38 (A6 12) = some (.inl (G.2.1 0, 12, .inl (upd (σ 12) nG (σ 7 v)))) := by rw [eE38]; exact xU_of hv_A6_1299999999 hoN99999999 (fun h => by simp at h)
                    have hv_A6_13999999999 : E38 (A6 13) = some (.inl (G.2.1 0, 12, .inl (upd (σ 13) nG a1))) := by rw [eE38]; exact xU_of hv_A6_1399999999 hoN99999999 (fun h => by simp at h)
                    have hv_A6_14999999999 : E38 (A6 14) = some (.inl (G.2.1 0, 12, .inl (upd (σ 14) nG a2))) := by rw [eE38]; exact xU_of hv_A6_1499999999 hoN99999999 (fun h => by simp at h)
                    have hv_A6_15999999999 : E38 (A6 15) = some (.inl (G.2.1 0, 12, .inl (upd (σ 15) nG 0))) := by rw [eE38]; exact xU_of hv_A6_1599999999 hoN99999999 (fun h => by simp at h)
                    have hv_A6_16999999999 : E38 (A6 16) = some (.inl (G.2.1 0, 12, .inl (upd (σ 16) nG 0))) := by rw [eE38]; exact xU_of hv_A6_1699999999 hoN99999999 (fun h => by simp at h)
                    have hv_A6_17999999999 : E38 (A6 17) = some (.inl (G.2.1 0, 732, .inl (upd (σ 17) (61 * nG) a3))) := by rw [eE38]; exact xU_of hv_A6_1799999999 hoN99999999 (fun h => by simp at h)
                    have hv_A6_18999999999 : E38 (A6 18) = some (.inl (G.2.1 0, 732, .inl (upd (σ 18) (61 * nG) a4))) := by rw [eE38]; exact xU_of hv_A6_1899999999 hoN99999999 (fun h => by simp at h)
                    have hoN999999999 : E38 o = some (.inr (5, [.int (σ 0 0), .ref (A6 1), .ref (A6 2), .ref (A6 3), .ref (A6 4), .int (σ 5 0), .ref (A6 6), .ref (A6 7), .ref (A6 8), .ref (A6 9), .int (nI (nG + 1)), .ref (A6 11), .ref (A6 12), .ref (A6 13), .ref (A6 14), .ref (A6 15), .ref (A6 16), .ref (A6 17), .ref (A6 18), .int (nI (A6 19))])) := by rw [eE38]; exact xU_self _ _ _
                    have hFr : xFr tM E E38 := by rw [eE38]; exact xFr_put hFr hoN99999999 rfl _
                    refine lv_aload_n hx hb dX5_begin_231 rfl (lv_at hl 1 rfl) ?_
                    refine va_get (D := G.1) (ci := 5) (v := .int (nI (nG + 1))) (C := RX5) (T := TX5) (N := 20) hx hb hts hiX5 hown hX.1 (x1 hW hoN999999999) 0 rfl rfl 10 (by decide) hf65 (fun _ h9 => h9) rfl dX5_begin_232 ?_
                    refine lv_iconst (v := 1) hx hb dX5_begin_235 (by decide) ?_
                    refine lv_isub hx hb dX5_begin_236 ?_
                    exact W.widen (k := 0) (n := 0) (Nat.le_of_ble_eq_true rfl) (Nat.le_of_ble_eq_true rfl) (W.iret (v := (nI (nG + 1)) - 1) hx hb hr (fun t ht hw => ⟨⟨_, E38, rfl, ⟨((nI (nG + 1)) - 1, 0), (show _ = (((nI (nG + 1)) - 1, 0) : Int32 × Nat) from by rw [hVv]; unfold mX5_begin; rw [if_pos c_7, if_neg c_8, if_pos c_12, if_pos c_16, if_pos c_20, if_neg (Bool.eq_false_iff.mp c_21), if_neg c_25, if_pos c_29]), rfl, (show xMd G E38 o (sgBegin σ nG (nI v).toNatClampNeg a1 a2 a3 a4) 0 from (by rw [hVv]; exact ⟨A6, ⟨hoN999999999, hv_A6_1999999999, hv_A6_2999999999, hv_A6_3999999999, hv_A6_4999999999, hv_A6_6999999999, hv_A6_7999999999, hv_A6_8999999999, hv_A6_9999999999, hu_A6_11999999999, hv_A6_12999999999, hv_A6_13999999999, hv_A6_14999999999, hv_A6_15999999999, hv_A6_16999999999, hv_A6_17999999999, hv_A6_18999999999⟩, hAA6, hzA6⟩)), hFr⟩, (show xW G E38 t.heap from by rw [ht]; exact hW)⟩, hS.F ht⟩) hS.2.2 dX5_begin_237)
                  · refine lv_aload_n hx hb dX5_begin_122 rfl (lv_at hl 1 rfl) ?_
                    refine lv_iconst (v := 3) hx hb dX5_begin_123 (by decide) ?_
                    refine va_calli (va_runV (As := [.int 3]) (rest := []) ⟨hx, hb, hml, hown, hts⟩ (kX5_fails l G _ (σ) o 3 A6 hMA6 hAA6) (cwV 1 hts gX5_begin_X5_fails rfl rfl rfl (by decide +kernel) ⟨Nat.le_of_ble_eq_true rfl, Nat.le_of_ble_eq_true rfl⟩) (x_preV hX hS hW hoN rfl) rfl rfl hl.1 rfl (lv_room (Nat.le_of_ble_eq_true rfl)) dX5_begin_124 ⟨Nat.le_of_ble_eq_true rfl, Nat.le_of_ble_eq_true rfl⟩) hS (fun _ _ h => h) (fun _ h => h) (fun r40 E39 t H1 locs1 ht hvm hw hB hz1 hk1 hS1 => ?_)
                    rw [ht] at hB
                    have hS := hS1
                    obtain ⟨hrA41, ⟨A41, hMA41, hAA41, htA41⟩, hFrA41⟩ := hw
                    have hFr := hFr.trans hFrA41
                    have hW : xW G E39 H1 := hB
                    subst hrA41
                    exact W.widen (k := 0) (n := 0) (Nat.le_of_ble_eq_true rfl) (Nat.le_of_ble_eq_true rfl) (W.iret (v := 0) hx hb hr (fun t ht hw => ⟨⟨_, E39, rfl, ⟨((0 : Int32), 3), (show _ = (((0 : Int32), 3) : Int32 × Nat) from by rw [hVv]; unfold mX5_begin; rw [if_pos c_7, if_neg c_8, if_pos c_12, if_pos c_16, if_pos c_20, if_neg (Bool.eq_false_iff.mp c_21), if_neg c_25, if_neg (Bool.eq_false_iff.mp c_29)]), rfl, (show xMd G E39 o (σ) 3 from ⟨A41, hMA41, hAA41, htA41⟩), hFr⟩, (show xW G E39 t.heap from by rw [ht]; exact hW)⟩, hS.F ht⟩) hS.2.2 dX5_begin_127)
            · refine lv_aload_n hx hb dX5_begin_79 rfl (lv_at hl 1 rfl) ?_
              refine lv_iconst (v := 2) hx hb dX5_begin_80 (by decide) ?_
              refine va_calli (va_runV (As := [.int 2]) (rest := []) ⟨hx, hb, hml, hown, hts⟩ (kX5_fails l G _ (σ) o 2 A6 hMA6 hAA6) (cwV 1 hts gX5_begin_X5_fails rfl rfl rfl (by decide +kernel) ⟨Nat.le_of_ble_eq_true rfl, Nat.le_of_ble_eq_true rfl⟩) (x_preV hX hS hW hMA6.1 rfl) rfl rfl hl.1 rfl (lv_room (Nat.le_of_ble_eq_true rfl)) dX5_begin_81 ⟨Nat.le_of_ble_eq_true rfl, Nat.le_of_ble_eq_true rfl⟩) hS (fun _ _ h => h) (fun _ h => h) (fun r43 E42 t H1 locs1 ht hvm hw hB hz1 hk1 hS1 => ?_)
              rw [ht] at hB
              have hS := hS1
              obtain ⟨hrA44, ⟨A44, hMA44, hAA44, htA44⟩, hFrA44⟩ := hw
              have hFr := hFr.trans hFrA44
              have hW : xW G E42 H1 := hB
              subst hrA44
              exact W.widen (k := 0) (n := 0) (Nat.le_of_ble_eq_true rfl) (Nat.le_of_ble_eq_true rfl) (W.iret (v := 0) hx hb hr (fun t ht hw => ⟨⟨_, E42, rfl, ⟨((0 : Int32), 2), (show _ = (((0 : Int32), 2) : Int32 × Nat) from by rw [hVv]; unfold mX5_begin; rw [if_pos c_7, if_neg c_8, if_pos c_12, if_pos c_16, if_neg c_20]), rfl, (show xMd G E42 o (σ) 2 from ⟨A44, hMA44, hAA44, htA44⟩), hFr⟩, (show xW G E42 t.heap from by rw [ht]; exact hW)⟩, hS.F ht⟩) hS.2.2 dX5_begin_84)
    · have hzA6 := htA6.trans (if_neg (Bool.eq_false_iff.mp c_7))
      refine lv_iconst (v := 0) hx hb dX5_begin_34 (by decide) ?_
      exact W.widen (k := 0) (n := 0) (Nat.le_of_ble_eq_true rfl) (Nat.le_of_ble_eq_true rfl) (W.iret (v := 0) hx hb hr (fun t ht hw => ⟨⟨_, E4, rfl, ⟨((0 : Int32), 1), (show _ = (((0 : Int32), 1) : Int32 × Nat) from by unfold mX5_begin; rw [if_neg (Bool.eq_false_iff.mp c_7)]), rfl, (show xMd G E4 o (σ) 1 from ⟨A6, hMA6, hAA6, hzA6⟩), hFr⟩, (show xW G E4 t.heap from by rw [ht]; exact hW)⟩, hS.F ht⟩) hS.2.2 dX5_begin_35)
  · refine x_ifz_eq (b := fX5_isVariant (σ) a0) (tgt := 27) hx hb dX5_begin_6 (by decide) (fun c_1 => ?_) (fun c_1 => ?_)
    · refine lv_iconst (v := 0) hx hb dX5_begin_27 (by decide) ?_
      exact J _ (congrArg zI (show false = if (fX5_isVariant (σ) a0) = true then (if (fX5_isPlayer a1) = true then (if (fX5_isPlayer a2) = true then (true) else (false)) else (false)) else (false) from by rw [if_neg (Bool.eq_false_iff.mp c_1)]))
    · refine lv_iload_n hx hb dX5_begin_9 rfl (lv_at hl 2 rfl) ?_
      refine x_callSe (va_runS (As := [.int a1]) (rest := [.ref o]) ⟨hx, hb, hml, hown, hts⟩ (kX5_isPlayer l a1) (va_cwS 1 hts gX5_begin_X5_isPlayer rfl rfl rfl (by decide +kernel) ⟨Nat.le_of_ble_eq_true rfl, Nat.le_of_ble_eq_true rfl⟩) x_preT rfl rfl hl.1 rfl (lv_room (Nat.le_of_ble_eq_true rfl)) dX5_begin_10 ⟨Nat.le_of_ble_eq_true rfl, Nat.le_of_ble_eq_true rfl⟩) ?_
      refine x_ifz_eq (b := fX5_isPlayer a1) (tgt := 27) hx hb dX5_begin_13 (by decide) (fun c_2 => ?_) (fun c_2 => ?_)
      · refine lv_iconst (v := 0) hx hb dX5_begin_27 (by decide) ?_
        exact J _ (congrArg zI (show false = if (fX5_isVariant (σ) a0) = true then (if (fX5_isPlayer a1) = true then (if (fX5_isPlayer a2) = true then (true) else (false)) else (false)) else (false) from by rw [if_pos c_1, if_neg (Bool.eq_false_iff.mp c_2)]))
      · refine lv_iload_n hx hb dX5_begin_16 rfl (lv_at hl 3 rfl) ?_
        refine x_callSe (va_runS (As := [.int a2]) (rest := [.ref o]) ⟨hx, hb, hml, hown, hts⟩ (kX5_isPlayer l a2) (va_cwS 1 hts gX5_begin_X5_isPlayer rfl rfl rfl (by decide +kernel) ⟨Nat.le_of_ble_eq_true rfl, Nat.le_of_ble_eq_true rfl⟩) x_preT rfl rfl hl.1 rfl (lv_room (Nat.le_of_ble_eq_true rfl)) dX5_begin_17 ⟨Nat.le_of_ble_eq_true rfl, Nat.le_of_ble_eq_true rfl⟩) ?_
        refine x_ifz_eq (b := fX5_isPlayer a2) (tgt := 27) hx hb dX5_begin_20 (by decide) (fun c_3 => ?_) (fun c_3 => ?_)
        · refine lv_iconst (v := 0) hx hb dX5_begin_27 (by decide) ?_
          exact J _ (congrArg zI (show false = if (fX5_isVariant (σ) a0) = true then (if (fX5_isPlayer a1) = true then (if (fX5_isPlayer a2) = true then (true) else (false)) else (false)) else (false) from by rw [if_pos c_1, if_pos c_2, if_neg (Bool.eq_false_iff.mp c_3)]))
        · refine lv_iconst (v := 1) hx hb dX5_begin_23 (by decide) ?_
          refine lv_goto (tgt := 28) hx hb dX5_begin_24 (by decide) ?_
          exact J _ (congrArg zI (show true = if (fX5_isVariant (σ) a0) = true then (if (fX5_isPlayer a1) = true then (if (fX5_isPlayer a2) = true then (true) else (false)) else (false)) else (false) from by rw [if_pos c_1, if_pos c_2, if_pos c_3]))

def mX5_vote (σ : xSg) (v : Nat) (a0 a1 : Int32) : Int32 × Nat := if (if (fX5_isPlayer a0) = true then (if (fX5_isVariant (σ) a1) = true then (true) else (false)) else (false)) = true then ((fX5_size ((upd (σ 8) v ((σ 8 v) ^^^ ((1 : Int32) <<< (a0 &&& 31)))) v), 0)) else (((0 : Int32), 1))
set_option maxHeartbeats 4000000 in
set_option maxRecDepth 100000 in
theorem kX5_vote (l : Launch) (G : xG) (E : xE) (σ : xSg) (o : Nat) (a0 : Int32) (a1 : Int32) (A : Nat → Nat) (hM : xMod G E o A σ) (hA : xAi A) (nC nV nG : Nat) (hI : xMi σ nC nV nG) : Met l yX5_vote wsX5_vote ({ frames := 1, cells := 0, slots := 0, locals := 22 }) (va_Pc [.ref o, .int a0, .int a1] (xB G E)) (va_Qi (S := xE) (fun r E' => ∃ q : Int32 × Nat, mX5_vote σ (a1.toNatClampNeg) a0 a1 = q ∧ r = q.1 ∧ xMd G E' o (if q.2 = 0 then sgU σ 8 (a1.toNatClampNeg) ((σ 8 a1.toNatClampNeg) ^^^ ((1 : Int32) <<< (a0 &&& 31))) else σ) q.2 ∧ xFr tM E E') (fun E' t => xW G E' t.heap) (xA G)) 0 0 (xA G) := by
  refine Met.ofW (cc := cX5_vote) (maxL := 3) (ret := (some .int)) (by decide) rfl ?_
  intro p e s m args below meth c s₁ B hml hv
  obtain ⟨rfl, hX, hW⟩ := hv
  have hx := B.exec
  have hb := B.bytes
  have hr := B.returns
  have hts := atoms_spec (ws := wsX5_vote) B.pre
  have hown : s.vm.findClass RX5 = some m.cls := findClass_of_methodNamed B.named
  have hlocks := B.notSynchronized
  have hS : va_S (xA G) s.heap s.heap [] := va_S.rf
  have hiX5 : ∀ w ∈ u_ws RX5 TX5 20, w ∈ wsX5_vote := by decide +kernel
  have hf28 := hts (Cond.fieldLink RX5 28 "VariantMillModel" "votes" "[I") (by decide +kernel)
  have hl := lv_entry ([.ref o, .int a0, .int a1]) (n := 3) (Nat.le_of_ble_eq_true rfl)
  rw [lg_entry_eq]
  generalize (lg_sl ([.ref o, .int a0, .int a1]) ++ List.replicate (3 - (lg_sl ([.ref o, .int a0, .int a1])).length) Slot.unset).toArray = ls at hl ⊢
  have hl : lv_has ls 3 [(0, .ref o), (1, .int a0), (2, .int a1)] := hl
  obtain ⟨H, hH⟩ : ∃ z, z = s.heap := ⟨_, rfl⟩
  rw [← hH] at hW
  have hS : va_S (xA G) s.heap H [] := by rw [hH]; exact hS
  rw [← hH]
  have hFr : xFr tM E E := xFr_rf
  refine lv_aload_n hx hb dX5_vote_0 rfl (lv_at hl 0 rfl) ?_
  refine lv_iload_n hx hb dX5_vote_1 rfl (lv_at hl 1 rfl) ?_
  refine x_callSe (va_runS (As := [.int a0]) (rest := [.ref o]) ⟨hx, hb, hml, hown, hts⟩ (kX5_isPlayer l a0) (va_cwS 1 hts gX5_vote_X5_isPlayer rfl rfl rfl (by decide +kernel) ⟨Nat.le_of_ble_eq_true rfl, Nat.le_of_ble_eq_true rfl⟩) x_preT rfl rfl hl.1 rfl (lv_room (Nat.le_of_ble_eq_true rfl)) dX5_vote_2 ⟨Nat.le_of_ble_eq_true rfl, Nat.le_of_ble_eq_true rfl⟩) ?_
  refine x_join (ls' := ls) (rest' := [.ref o]) 21 (zI (if (fX5_isPlayer a0) = true then (if (fX5_isVariant (σ) a1) = true then (true) else (false)) else (false))) (fun v ev => ?_) (fun J => ?_)
  · subst ev
    refine va_calli (va_runV (As := [.int (zI (if (fX5_isPlayer a0) = true then (if (fX5_isVariant (σ) a1) = true then (true) else (false)) else (false)))]) (rest := []) ⟨hx, hb, hml, hown, hts⟩ (kX5_asks l G _ (σ) o (if (fX5_isPlayer a0) = true then (if (fX5_isVariant (σ) a1) = true then (true) else (false)) else (false)) A hM hA) (cwV 1 hts gX5_vote_X5_asks rfl rfl rfl (by decide +kernel) ⟨Nat.le_of_ble_eq_true rfl, Nat.le_of_ble_eq_true rfl⟩) (x_preV hX hS hW hM.1 rfl) rfl rfl hl.1 rfl (lv_room (Nat.le_of_ble_eq_true rfl)) dX5_vote_21 ⟨Nat.le_of_ble_eq_true rfl, Nat.le_of_ble_eq_true rfl⟩) hS (fun _ _ h => h) (fun _ h => h) (fun r4 E3 t H1 locs1 ht hvm hw hB hz1 hk1 hS1 => ?_)
    rw [ht] at hB
    have hS := hS1
    obtain ⟨hrA5, ⟨A5, hMA5, hAA5, htA5⟩, hFrA5⟩ := hw
    have hFr := hFr.trans hFrA5
    have hW : xW G E3 H1 := hB
    subst hrA5
    refine x_ifz_ne (b := (if (fX5_isPlayer a0) = true then (if (fX5_isVariant (σ) a1) = true then (true) else (false)) else (false))) (tgt := 29) hx hb dX5_vote_24 (by decide) (fun c_6 => ?_) (fun c_6 => ?_)
    · have hzA5 := htA5.trans (if_pos c_6)
      obtain ⟨v, hav, hv⟩ := x_mV hI (x_if1 (x_if2 c_6))
      subst hav
      have hC := hI.1
      have hu4 : v < 4 := by have := hI.2.2.1; omega
      have hVv : (nI v).toNatClampNeg = v := nI_clamp (by omega)
      refine lv_aload_n hx hb dX5_vote_29 rfl (lv_at hl 0 rfl) ?_
      refine va_get (D := G.1) (ci := 5) (v := .ref (A5 8)) (C := RX5) (T := TX5) (N := 20) hx hb hts hiX5 hown hX.1 (x1 hW hMA5.1) 0 rfl rfl 8 (by decide) hf28 (fun _ h9 => h9) rfl dX5_vote_30 ?_
      refine lv_iload_n hx hb dX5_vote_33 rfl (lv_at hl 2 rfl) ?_
      refine lv_dup2_11 hx hb dX5_vote_34 rfl rfl ?_
      refine x_ild (k := v) hx hb hX.1 hW hMA5.2.2.2.2.2.2.2.1 (vp_in_nI hu4 (by omega)) (nI_clamp (by omega)) dX5_vote_35 ?_
      refine lv_iconst (v := 1) hx hb dX5_vote_36 (by decide) ?_
      refine lv_iload_n hx hb dX5_vote_37 rfl (lv_at hl 1 rfl) ?_
      refine lv_ishl hx hb dX5_vote_38 ?_
      refine lv_ixor hx hb dX5_vote_39 ?_
      refine x_iast (G := G) hx hb hX.1 hW hS hMA5.2.2.2.2.2.2.2.1 (vp_in_nI hu4 (by omega)) dX5_vote_40 (fun H locs hW hS => ?_)
      rw [show (nI v).toNatClampNeg = v from (nI_clamp (by omega))] at hW
      obtain ⟨E7, eE7⟩ : ∃ z, z = xU E3 (A5 8) (.inl (G.2.1 0, 4, .inl (upd (σ 8) v ((σ 8 v) ^^^ ((1 : Int32) <<< (a0 &&& 31)))))) := ⟨_, rfl⟩
      have hW : xW G E7 H := by rw [eE7]; exact hW
      have hv_o9 : E7 o = some (.inr (5, [.int (σ 0 0), .ref (A5 1), .ref (A5 2), .ref (A5 3), .ref (A5 4), .int (σ 5 0), .ref (A5 6), .ref (A5 7), .ref (A5 8), .ref (A5 9), .int (σ 10 0), .ref (A5 11), .ref (A5 12), .ref (A5 13), .ref (A5 14), .ref (A5 15), .ref (A5 16), .ref (A5 17), .ref (A5 18), .int (nI (A5 19))])) := by rw [eE7]; exact xU_of hMA5.1 hMA5.2.2.2.2.2.2.2.1 (fun h => by simp at h)
      have hv_A5_19 : E7 (A5 1) = some (.inl (G.2.1 0, 8, .inl (σ 1))) := by rw [eE7]; exact (xU_ne _ _ (hAA5.1.2.2.2.2.2.1)).trans hMA5.2.1
      have hv_A5_29 : E7 (A5 2) = some (.inl (G.2.1 0, 8, .inl (σ 2))) := by rw [eE7]; exact (xU_ne _ _ (hAA5.2.1.2.2.2.2.1)).trans hMA5.2.2.1
      have hv_A5_39 : E7 (A5 3) = some (.inl (G.2.1 0, 8, .inl (σ 3))) := by rw [eE7]; exact (xU_ne _ _ (hAA5.2.2.1.2.2.2.1)).trans hMA5.2.2.2.1
      have hv_A5_49 : E7 (A5 4) = some (.inl (G.2.1 0, 8, .inl (σ 4))) := by rw [eE7]; exact (xU_ne _ _ (hAA5.2.2.2.1.2.2.1)).trans hMA5.2.2.2.2.1
      have hv_A5_69 : E7 (A5 6) = some (.inl (G.2.1 0, 4, .inl (σ 6))) := by rw [eE7]; exact (xU_ne _ _ (hAA5.2.2.2.2.1.2.1)).trans hMA5.2.2.2.2.2.1
      have hv_A5_79 : E7 (A5 7) = some (.inl (G.2.1 0, 4, .inl (σ 7))) := by rw [eE7]; exact (xU_ne _ _ (hAA5.2.2.2.2.2.1.1)).trans hMA5.2.2.2.2.2.2.1
      have hv_A5_99 : E7 (A5 9) = some (.inl (G.2.1 0, 4, .inl (σ 9))) := by rw [eE7]; exact (xU_ne _ _ (Ne.symm (hAA5.2.2.2.2.2.2.1.1))).trans hMA5.2.2.2.2.2.2.2.2.1
      have hv_A5_119 : E7 (A5 11) = some (.inl (G.2.1 0, 12, .inl (σ 11))) := by rw [eE7]; exact (xU_ne _ _ (Ne.symm (hAA5.2.2.2.2.2.2.1.2.1))).trans hMA5.2.2.2.2.2.2.2.2.2.1
      have hv_A5_129 : E7 (A5 12) = some (.inl (G.2.1 0, 12, .inl (σ 12))) := by rw [eE7]; exact (xU_ne _ _ (Ne.symm (hAA5.2.2.2.2.2.2.1.2.2.1))).trans hMA5.2.2.2.2.2.2.2.2.2.2.1
      have hv_A5_139 : E7 (A5 13) = some (.inl (G.2.1 0, 12, .inl (σ 13))) := by rw [eE7]; exact (xU_ne _ _ (Ne.symm (hAA5.2.2.2.2.2.2.1.2.2.2.1))).trans hMA5.2.2.2.2.2.2.2.2.2.2.2.1
      have hv_A5_149 : E7 (A5 14) = some (.inl (G.2.1 0, 12, .inl (σ 14))) := by rw [eE7]; exact (xU_ne _ _ (Ne.symm (hAA5.2.2.2.2.2.2.1.2.2.2.2.1))).trans hMA5.2.2.2.2.2.2.2.2.2.2.2.2.1
      have hv_A5_159 : E7 (A5 15) = some (.inl (G.2.1 0, 12, .inl (σ 15))) := by rw [eE7]; exact (xU_ne _ _ (Ne.symm (hAA5.2.2.2.2.2.2.1.2.2.2.2.2.1))).trans hMA5.2.2.2.2.2.2.2.2.2.2.2.2.2.1
      have hv_A5_169 : E7 (A5 16) = some (.inl (G.2.1 0, 12, .inl (σ 16))) := by rw [eE7]; exact (xU_ne _ _ (Ne.symm (hAA5.2.2.2.2.2.2.1.2.2.2.2.2.2.1))).trans hMA5.2.2.2.2.2.2.2.2.2.2.2.2.2.2.1
      have hv_A5_179 : E7 (A5 17) = some (.inl (G.2.1 0, 732, .inl (σ 17))) := by rw [eE7]; exact (xU_ne _ _ (Ne.symm (hAA5.2.2.2.2.2.2.1.2.2.2.2.2.2.2.1))).trans hMA5.2.2.2.2.2.2.2.2.2.2.2.2.2.2.2.1
      have hv_A5_189 : E7 (A5 18) = some (.inl (G.2.1 0, 732, .inl (σ 18))) := by rw [eE7]; exact (xU_ne _ _ (Ne.symm (hAA5.2.2.2.2.2.2.1.2.2.2.2.2.2.2.2))).trans hMA5.2.2.2.2.2.2.2.2.2.2.2.2.2.2.2.2
      have hu_A5_89 : E7 (A5 8) = some (.inl (G.2.1 0, 4, .inl (upd (σ 8) v ((σ 8 v) ^^^ ((1 : Int32) <<< (a0 &&& 31)))))) := by rw [eE7]; exact xU_self _ _ _
      have hFr : xFr tM E E7 := by rw [eE7]; exact xFr_put hFr hMA5.2.2.2.2.2.2.2.1 rfl _
      refine lv_aload_n hx hb dX5_vote_41 rfl (lv_at hl 0 rfl) ?_
      refine va_get (D := G.1) (ci := 5) (v := .ref (A5 8)) (C := RX5) (T := TX5) (N := 20) hx hb hts hiX5 hown hX.1 (x1 hW hv_o9) 0 rfl rfl 8 (by decide) hf28 (fun _ h9 => h9) rfl dX5_vote_42 ?_
      refine lv_iload_n hx hb dX5_vote_45 rfl (lv_at hl 2 rfl) ?_
      refine x_ild (k := v) hx hb hX.1 hW hu_A5_89 (vp_in_nI hu4 (by omega)) (nI_clamp (by omega)) dX5_vote_46 ?_
      refine x_callSe (va_runS (As := [.int ((upd (σ 8) v ((σ 8 v) ^^^ ((1 : Int32) <<< (a0 &&& 31)))) v)]) (rest := []) ⟨hx, hb, hml, hown, hts⟩ (kX5_size l ((upd (σ 8) v ((σ 8 v) ^^^ ((1 : Int32) <<< (a0 &&& 31)))) v)) (va_cwS 1 hts gX5_vote_X5_size rfl rfl rfl (by decide +kernel) ⟨Nat.le_of_ble_eq_true rfl, Nat.le_of_ble_eq_true rfl⟩) x_preT rfl rfl hl.1 rfl (lv_room (Nat.le_of_ble_eq_true rfl)) dX5_vote_47 ⟨Nat.le_of_ble_eq_true rfl, Nat.le_of_ble_eq_true rfl⟩) ?_
      exact W.widen (k := 0) (n := 0) (Nat.le_of_ble_eq_true rfl) (Nat.le_of_ble_eq_true rfl) (W.iret (v := fX5_size ((upd (σ 8) v ((σ 8 v) ^^^ ((1 : Int32) <<< (a0 &&& 31)))) v)) hx hb hr (fun t ht hw => ⟨⟨_, E7, rfl, ⟨(fX5_size ((upd (σ 8) v ((σ 8 v) ^^^ ((1 : Int32) <<< (a0 &&& 31)))) v), 0), (show _ = ((fX5_size ((upd (σ 8) v ((σ 8 v) ^^^ ((1 : Int32) <<< (a0 &&& 31)))) v), 0) : Int32 × Nat) from by rw [hVv]; unfold mX5_vote; rw [if_pos c_6]), rfl, (show xMd G E7 o (sgU σ 8 (nI v).toNatClampNeg ((σ 8 (nI v).toNatClampNeg) ^^^ ((1 : Int32) <<< (a0 &&& 31)))) 0 from (by rw [hVv]; exact ⟨A5, ⟨hv_o9, hv_A5_19, hv_A5_29, hv_A5_39, hv_A5_49, hv_A5_69, hv_A5_79, hu_A5_89, hv_A5_99, hv_A5_119, hv_A5_129, hv_A5_139, hv_A5_149, hv_A5_159, hv_A5_169, hv_A5_179, hv_A5_189⟩, hAA5, hzA5⟩)), hFr⟩, (show xW G E7 t.heap from by rw [ht]; exact hW)⟩, hS.F ht⟩) hS.2.2 dX5_vote_50)
    · have hzA5 := htA5.trans (if_neg (Bool.eq_false_iff.mp c_6))
      refine lv_iconst (v := 0) hx hb dX5_vote_27 (by decide) ?_
      exact W.widen (k := 0) (n := 0) (Nat.le_of_ble_eq_true rfl) (Nat.le_of_ble_eq_true rfl) (W.iret (v := 0) hx hb hr (fun t ht hw => ⟨⟨_, E3, rfl, ⟨((0 : Int32), 1), (show _ = (((0 : Int32), 1) : Int32 × Nat) from by unfold mX5_vote; rw [if_neg (Bool.eq_false_iff.mp c_6)]), rfl, (show xMd G E3 o (σ) 1 from ⟨A5, hMA5, hAA5, hzA5⟩), hFr⟩, (show xW G E3 t.heap from by rw [ht]; exact hW)⟩, hS.F ht⟩) hS.2.2 dX5_vote_28)
  · refine x_ifz_eq (b := fX5_isPlayer a0) (tgt := 20) hx hb dX5_vote_5 (by decide) (fun c_1 => ?_) (fun c_1 => ?_)
    · refine lv_iconst (v := 0) hx hb dX5_vote_20 (by decide) ?_
      exact J _ (congrArg zI (show false = if (fX5_isPlayer a0) = true then (if (fX5_isVariant (σ) a1) = true then (true) else (false)) else (false) from by rw [if_neg (Bool.eq_false_iff.mp c_1)]))
    · refine lv_aload_n hx hb dX5_vote_8 rfl (lv_at hl 0 rfl) ?_
      refine lv_iload_n hx hb dX5_vote_9 rfl (lv_at hl 2 rfl) ?_
      refine x_callSe (va_runV (As := [.int a1]) (rest := [.ref o]) ⟨hx, hb, hml, hown, hts⟩ (kX5_isVariant l G _ (σ) o a1 A hM) (cwV 1 hts gX5_vote_X5_isVariant rfl rfl rfl (by decide +kernel) ⟨Nat.le_of_ble_eq_true rfl, Nat.le_of_ble_eq_true rfl⟩) (x_preV hX hS hW hM.1 rfl) rfl rfl hl.1 rfl (lv_room (Nat.le_of_ble_eq_true rfl)) dX5_vote_10 ⟨Nat.le_of_ble_eq_true rfl, Nat.le_of_ble_eq_true rfl⟩) ?_
      refine x_ifz_eq (b := fX5_isVariant (σ) a1) (tgt := 20) hx hb dX5_vote_13 (by decide) (fun c_2 => ?_) (fun c_2 => ?_)
      · refine lv_iconst (v := 0) hx hb dX5_vote_20 (by decide) ?_
        exact J _ (congrArg zI (show false = if (fX5_isPlayer a0) = true then (if (fX5_isVariant (σ) a1) = true then (true) else (false)) else (false) from by rw [if_pos c_1, if_neg (Bool.eq_false_iff.mp c_2)]))
      · refine lv_iconst (v := 1) hx hb dX5_vote_16 (by decide) ?_
        refine lv_goto (tgt := 21) hx hb dX5_vote_17 (by decide) ?_
        exact J _ (congrArg zI (show true = if (fX5_isPlayer a0) = true then (if (fX5_isVariant (σ) a1) = true then (true) else (false)) else (false) from by rw [if_pos c_1, if_pos c_2]))

def mX5_isBanned (σ : xSg) (v : Nat) (a0 : Int32) : Int32 × Nat := if (fX5_isVariant (σ) a0) = true then (if (fX5_isBannedNow (σ) v) = true then (((1 : Int32), 0)) else (((0 : Int32), 0))) else (((0 : Int32), 1))
set_option maxHeartbeats 4000000 in
set_option maxRecDepth 100000 in
theorem kX5_isBanned (l : Launch) (G : xG) (E : xE) (σ : xSg) (o : Nat) (a0 : Int32) (A : Nat → Nat) (hM : xMod G E o A σ) (hA : xAi A) (nC nV nG : Nat) (hI : xMi σ nC nV nG) : Met l yX5_isBanned wsX5_isBanned ({ frames := 1, cells := 0, slots := 0, locals := 23 }) (va_Pc [.ref o, .int a0] (xB G E)) (va_Qi (S := xE) (fun r E' => ∃ q : Int32 × Nat, mX5_isBanned σ (a0.toNatClampNeg) a0 = q ∧ r = q.1 ∧ xMd G E' o (σ) q.2 ∧ xFr tM E E') (fun E' t => xW G E' t.heap) (xA G)) 0 0 (xA G) := by
  refine Met.ofW (cc := cX5_isBanned) (maxL := 2) (ret := (some .boolean)) (by decide) rfl ?_
  intro p e s m args below meth c s₁ B hml hv
  obtain ⟨rfl, hX, hW⟩ := hv
  have hx := B.exec
  have hb := B.bytes
  have hr := B.returns
  have hts := atoms_spec (ws := wsX5_isBanned) B.pre
  have hown : s.vm.findClass RX5 = some m.cls := findClass_of_methodNamed B.named
  have hlocks := B.notSynchronized
  have hS : va_S (xA G) s.heap s.heap [] := va_S.rf
  have hl := lv_entry ([.ref o, .int a0]) (n := 2) (Nat.le_of_ble_eq_true rfl)
  rw [lg_entry_eq]
  generalize (lg_sl ([.ref o, .int a0]) ++ List.replicate (2 - (lg_sl ([.ref o, .int a0])).length) Slot.unset).toArray = ls at hl ⊢
  have hl : lv_has ls 2 [(0, .ref o), (1, .int a0)] := hl
  obtain ⟨H, hH⟩ : ∃ z, z = s.heap := ⟨_, rfl⟩
  rw [← hH] at hW
  have hS : va_S (xA G) s.heap H [] := by rw [hH]; exact hS
  rw [← hH]
  have hFr : xFr tM E E := xFr_rf
  refine lv_aload_n hx hb dX5_isBanned_0 rfl (lv_at hl 0 rfl) ?_
  refine lv_aload_n hx hb dX5_isBanned_1 rfl (lv_at hl 0 rfl) ?_
  refine lv_iload_n hx hb dX5_isBanned_2 rfl (lv_at hl 1 rfl) ?_
  refine x_callSe (va_runV (As := [.int a0]) (rest := [.ref o]) ⟨hx, hb, hml, hown, hts⟩ (kX5_isVariant l G _ (σ) o a0 A hM) (cwV 1 hts gX5_isBanned_X5_isVariant rfl rfl rfl (by decide +kernel) ⟨Nat.le_of_ble_eq_true rfl, Nat.le_of_ble_eq_true rfl⟩) (x_preV hX hS hW hM.1 rfl) rfl rfl hl.1 rfl (lv_room (Nat.le_of_ble_eq_true rfl)) dX5_isBanned_3 ⟨Nat.le_of_ble_eq_true rfl, Nat.le_of_ble_eq_true rfl⟩) ?_
  refine va_calli (va_runV (As := [.int (zI (fX5_isVariant (σ) a0))]) (rest := []) ⟨hx, hb, hml, hown, hts⟩ (kX5_asks l G _ (σ) o (fX5_isVariant (σ) a0) A hM hA) (cwV 1 hts gX5_isBanned_X5_asks rfl rfl rfl (by decide +kernel) ⟨Nat.le_of_ble_eq_true rfl, Nat.le_of_ble_eq_true rfl⟩) (x_preV hX hS hW hM.1 rfl) rfl rfl hl.1 rfl (lv_room (Nat.le_of_ble_eq_true rfl)) dX5_isBanned_6 ⟨Nat.le_of_ble_eq_true rfl, Nat.le_of_ble_eq_true rfl⟩) hS (fun _ _ h => h) (fun _ h => h) (fun r2 E1 t H1 locs1 ht hvm hw hB hz1 hk1 hS1 => ?_)
  rw [ht] at hB
  have hS := hS1
  obtain ⟨hrA3, ⟨A3, hMA3, hAA3, htA3⟩, hFrA3⟩ := hw
  have hFr := hFr.trans hFrA3
  have hW : xW G E1 H1 := hB
  subst hrA3
  refine x_ifz_eq (b := fX5_isVariant (σ) a0) (tgt := 24) hx hb dX5_isBanned_9 (by decide) (fun c_4 => ?_) (fun c_4 => ?_)
  · have hzA3 := htA3.trans (if_neg (Bool.eq_false_iff.mp c_4))
    refine lv_iconst (v := 0) hx hb dX5_isBanned_24 (by decide) ?_
    exact W.widen (k := 0) (n := 0) (Nat.le_of_ble_eq_true rfl) (Nat.le_of_ble_eq_true rfl) (W.zret (v := 0) hx hb hr rfl (fun t ht hw => ⟨⟨_, E1, rfl, ⟨((0 : Int32), 1), (show _ = (((0 : Int32), 1) : Int32 × Nat) from by unfold mX5_isBanned; rw [if_neg (Bool.eq_false_iff.mp c_4)]), rfl, (show xMd G E1 o (σ) 1 from ⟨A3, hMA3, hAA3, hzA3⟩), hFr⟩, (show xW G E1 t.heap from by rw [ht]; exact hW)⟩, hS.F ht⟩) hS.2.2 dX5_isBanned_25)
  · have hzA3 := htA3.trans (if_pos c_4)
    obtain ⟨v, hav, hv⟩ := x_mV hI (c_4)
    subst hav
    have hC := hI.1
    have hu4 : v < 4 := by have := hI.2.2.1; omega
    have hVv : (nI v).toNatClampNeg = v := nI_clamp (by omega)
    refine lv_aload_n hx hb dX5_isBanned_12 rfl (lv_at hl 0 rfl) ?_
    refine lv_iload_n hx hb dX5_isBanned_13 rfl (lv_at hl 1 rfl) ?_
    refine x_callSe (va_runV (As := [.int (nI v)]) (rest := []) ⟨hx, hb, hml, hown, hts⟩ (kX5_isBannedNow l G _ (σ) o v A3 hMA3 hu4) (cwV 1 hts gX5_isBanned_X5_isBannedNow rfl rfl rfl (by decide +kernel) ⟨Nat.le_of_ble_eq_true rfl, Nat.le_of_ble_eq_true rfl⟩) (x_preV hX hS hW hMA3.1 rfl) rfl rfl hl.1 rfl (lv_room (Nat.le_of_ble_eq_true rfl)) dX5_isBanned_14 ⟨Nat.le_of_ble_eq_true rfl, Nat.le_of_ble_eq_true rfl⟩) ?_
    refine x_ifz_eq (b := fX5_isBannedNow (σ) v) (tgt := 24) hx hb dX5_isBanned_17 (by decide) (fun c_5 => ?_) (fun c_5 => ?_)
    · refine lv_iconst (v := 0) hx hb dX5_isBanned_24 (by decide) ?_
      exact W.widen (k := 0) (n := 0) (Nat.le_of_ble_eq_true rfl) (Nat.le_of_ble_eq_true rfl) (W.zret (v := 0) hx hb hr rfl (fun t ht hw => ⟨⟨_, E1, rfl, ⟨((0 : Int32), 0), (show _ = (((0 : Int32), 0) : Int32 × Nat) from by rw [hVv]; unfold mX5_isBanned; rw [if_pos c_4, if_neg (Bool.eq_false_iff.mp c_5)]), rfl, (show xMd G E1 o (σ) 0 from ⟨A3, hMA3, hAA3, hzA3⟩), hFr⟩, (show xW G E1 t.heap from by rw [ht]; exact hW)⟩, hS.F ht⟩) hS.2.2 dX5_isBanned_25)
    · refine lv_iconst (v := 1) hx hb dX5_isBanned_20 (by decide) ?_
      refine lv_goto (tgt := 25) hx hb dX5_isBanned_21 (by decide) ?_
      exact W.widen (k := 0) (n := 0) (Nat.le_of_ble_eq_true rfl) (Nat.le_of_ble_eq_true rfl) (W.zret (v := 1) hx hb hr rfl (fun t ht hw => ⟨⟨_, E1, rfl, ⟨((1 : Int32), 0), (show _ = (((1 : Int32), 0) : Int32 × Nat) from by rw [hVv]; unfold mX5_isBanned; rw [if_pos c_4, if_pos c_5]), rfl, (show xMd G E1 o (σ) 0 from ⟨A3, hMA3, hAA3, hzA3⟩), hFr⟩, (show xW G E1 t.heap from by rw [ht]; exact hW)⟩, hS.F ht⟩) hS.2.2 dX5_isBanned_25)

def mX5_endless (σ : xSg) (v : Nat) (a0 : Int32) : Int32 × Nat := if (fX5_isVariant (σ) a0) = true then ((σ 9 v, 0)) else (((0 : Int32), 1))
set_option maxHeartbeats 4000000 in
set_option maxRecDepth 100000 in
theorem kX5_endless (l : Launch) (G : xG) (E : xE) (σ : xSg) (o : Nat) (a0 : Int32) (A : Nat → Nat) (hM : xMod G E o A σ) (hA : xAi A) (nC nV nG : Nat) (hI : xMi σ nC nV nG) : Met l yX5_endless wsX5_endless ({ frames := 1, cells := 0, slots := 0, locals := 21 }) (va_Pc [.ref o, .int a0] (xB G E)) (va_Qi (S := xE) (fun r E' => ∃ q : Int32 × Nat, mX5_endless σ (a0.toNatClampNeg) a0 = q ∧ r = q.1 ∧ xMd G E' o (σ) q.2 ∧ xFr tM E E') (fun E' t => xW G E' t.heap) (xA G)) 0 0 (xA G) := by
  refine Met.ofW (cc := cX5_endless) (maxL := 2) (ret := (some .int)) (by decide) rfl ?_
  intro p e s m args below meth c s₁ B hml hv
  obtain ⟨rfl, hX, hW⟩ := hv
  have hx := B.exec
  have hb := B.bytes
  have hr := B.returns
  have hts := atoms_spec (ws := wsX5_endless) B.pre
  have hown : s.vm.findClass RX5 = some m.cls := findClass_of_methodNamed B.named
  have hlocks := B.notSynchronized
  have hS : va_S (xA G) s.heap s.heap [] := va_S.rf
  have hiX5 : ∀ w ∈ u_ws RX5 TX5 20, w ∈ wsX5_endless := by decide +kernel
  have hf31 := hts (Cond.fieldLink RX5 31 "VariantMillModel" "endless" "[I") (by decide +kernel)
  have hl := lv_entry ([.ref o, .int a0]) (n := 2) (Nat.le_of_ble_eq_true rfl)
  rw [lg_entry_eq]
  generalize (lg_sl ([.ref o, .int a0]) ++ List.replicate (2 - (lg_sl ([.ref o, .int a0])).length) Slot.unset).toArray = ls at hl ⊢
  have hl : lv_has ls 2 [(0, .ref o), (1, .int a0)] := hl
  obtain ⟨H, hH⟩ : ∃ z, z = s.heap := ⟨_, rfl⟩
  rw [← hH] at hW
  have hS : va_S (xA G) s.heap H [] := by rw [hH]; exact hS
  rw [← hH]
  have hFr : xFr tM E E := xFr_rf
  refine lv_aload_n hx hb dX5_endless_0 rfl (lv_at hl 0 rfl) ?_
  refine lv_aload_n hx hb dX5_endless_1 rfl (lv_at hl 0 rfl) ?_
  refine lv_iload_n hx hb dX5_endless_2 rfl (lv_at hl 1 rfl) ?_
  refine x_callSe (va_runV (As := [.int a0]) (rest := [.ref o]) ⟨hx, hb, hml, hown, hts⟩ (kX5_isVariant l G _ (σ) o a0 A hM) (cwV 1 hts gX5_endless_X5_isVariant rfl rfl rfl (by decide +kernel) ⟨Nat.le_of_ble_eq_true rfl, Nat.le_of_ble_eq_true rfl⟩) (x_preV hX hS hW hM.1 rfl) rfl rfl hl.1 rfl (lv_room (Nat.le_of_ble_eq_true rfl)) dX5_endless_3 ⟨Nat.le_of_ble_eq_true rfl, Nat.le_of_ble_eq_true rfl⟩) ?_
  refine va_calli (va_runV (As := [.int (zI (fX5_isVariant (σ) a0))]) (rest := []) ⟨hx, hb, hml, hown, hts⟩ (kX5_asks l G _ (σ) o (fX5_isVariant (σ) a0) A hM hA) (cwV 1 hts gX5_endless_X5_asks rfl rfl rfl (by decide +kernel) ⟨Nat.le_of_ble_eq_true rfl, Nat.le_of_ble_eq_true rfl⟩) (x_preV hX hS hW hM.1 rfl) rfl rfl hl.1 rfl (lv_room (Nat.le_of_ble_eq_true rfl)) dX5_endless_6 ⟨Nat.le_of_ble_eq_true rfl, Nat.le_of_ble_eq_true rfl⟩) hS (fun _ _ h => h) (fun _ h => h) (fun r2 E1 t H1 locs1 ht hvm hw hB hz1 hk1 hS1 => ?_)
  rw [ht] at hB
  have hS := hS1
  obtain ⟨hrA3, ⟨A3, hMA3, hAA3, htA3⟩, hFrA3⟩ := hw
  have hFr := hFr.trans hFrA3
  have hW : xW G E1 H1 := hB
  subst hrA3
  refine x_ifz_eq (b := fX5_isVariant (σ) a0) (tgt := 21) hx hb dX5_endless_9 (by decide) (fun c_4 => ?_) (fun c_4 => ?_)
  · have hzA3 := htA3.trans (if_neg (Bool.eq_false_iff.mp c_4))
    refine lv_iconst (v := 0) hx hb dX5_endless_21 (by decide) ?_
    exact W.widen (k := 0) (n := 0) (Nat.le_of_ble_eq_true rfl) (Nat.le_of_ble_eq_true rfl) (W.iret (v := 0) hx hb hr (fun t ht hw => ⟨⟨_, E1, rfl, ⟨((0 : Int32), 1), (show _ = (((0 : Int32), 1) : Int32 × Nat) from by unfold mX5_endless; rw [if_neg (Bool.eq_false_iff.mp c_4)]), rfl, (show xMd G E1 o (σ) 1 from ⟨A3, hMA3, hAA3, hzA3⟩), hFr⟩, (show xW G E1 t.heap from by rw [ht]; exact hW)⟩, hS.F ht⟩) hS.2.2 dX5_endless_22)
  · have hzA3 := htA3.trans (if_pos c_4)
    obtain ⟨v, hav, hv⟩ := x_mV hI (c_4)
    subst hav
    have hC := hI.1
    have hu4 : v < 4 := by have := hI.2.2.1; omega
    have hVv : (nI v).toNatClampNeg = v := nI_clamp (by omega)
    refine lv_aload_n hx hb dX5_endless_12 rfl (lv_at hl 0 rfl) ?_
    refine va_get (D := G.1) (ci := 5) (v := .ref (A3 9)) (C := RX5) (T := TX5) (N := 20) hx hb hts hiX5 hown hX.1 (x1 hW hMA3.1) 0 rfl rfl 9 (by decide) hf31 (fun _ h9 => h9) rfl dX5_endless_13 ?_
    refine lv_iload_n hx hb dX5_endless_16 rfl (lv_at hl 1 rfl) ?_
    refine x_ild (k := v) hx hb hX.1 hW hMA3.2.2.2.2.2.2.2.2.1 (vp_in_nI hu4 (by omega)) (nI_clamp (by omega)) dX5_endless_17 ?_
    refine lv_goto (tgt := 22) hx hb dX5_endless_18 (by decide) ?_
    exact W.widen (k := 0) (n := 0) (Nat.le_of_ble_eq_true rfl) (Nat.le_of_ble_eq_true rfl) (W.iret (v := σ 9 v) hx hb hr (fun t ht hw => ⟨⟨_, E1, rfl, ⟨(σ 9 v, 0), (show _ = ((σ 9 v, 0) : Int32 × Nat) from by rw [hVv]; unfold mX5_endless; rw [if_pos c_4]), rfl, (show xMd G E1 o (σ) 0 from ⟨A3, hMA3, hAA3, hzA3⟩), hFr⟩, (show xW G E1 t.heap from by rw [ht]; exact hW)⟩, hS.F ht⟩) hS.2.2 dX5_endless_22)

def mX5_asksValue (σ : xSg) (u d v : Nat) (a0 a1 : Int32) : Int32 × Nat := if (fX5_isGame (σ) a0) = true then (if (fX5_in a1 0 2) = true then ((fX5_valueAt (σ) d v u a1, 0)) else (((0 : Int32), 2))) else (((0 : Int32), 1))
set_option maxHeartbeats 4000000 in
set_option maxRecDepth 100000 in
theorem kX5_asksValue (l : Launch) (G : xG) (E : xE) (σ : xSg) (o : Nat) (a0 : Int32) (a1 : Int32) (A : Nat → Nat) (hM : xMod G E o A σ) (hA : xAi A) (nC nV nG : Nat) (hI : xMi σ nC nV nG) : Met l yX5_asksValue wsX5_asksValue ({ frames := 8, cells := 0, slots := 0, locals := 218 }) (va_Pc [.ref o, .int a0, .int a1] (xB G E)) (va_Qi (S := xE) (fun r E' => ∃ q : Int32 × Nat, mX5_asksValue σ (a0.toNatClampNeg) ((σ 16 a0.toNatClampNeg).toNatClampNeg) ((σ 11 a0.toNatClampNeg).toNatClampNeg) a0 a1 = q ∧ r = q.1 ∧ xMd G E' o (σ) q.2 ∧ xFr tM E E') (fun E' t => xW G E' t.heap) (xA G)) 0 0 (xA G) := by
  refine Met.ofW (cc := cX5_asksValue) (maxL := 3) (ret := (some .int)) (by decide) rfl ?_
  intro p e s m args below meth c s₁ B hml hv
  obtain ⟨rfl, hX, hW⟩ := hv
  have hx := B.exec
  have hb := B.bytes
  have hr := B.returns
  have hts := atoms_spec (ws := wsX5_asksValue) B.pre
  have hown : s.vm.findClass RX5 = some m.cls := findClass_of_methodNamed B.named
  have hlocks := B.notSynchronized
  have hS : va_S (xA G) s.heap s.heap [] := va_S.rf
  have hl := lv_entry ([.ref o, .int a0, .int a1]) (n := 3) (Nat.le_of_ble_eq_true rfl)
  rw [lg_entry_eq]
  generalize (lg_sl ([.ref o, .int a0, .int a1]) ++ List.replicate (3 - (lg_sl ([.ref o, .int a0, .int a1])).length) Slot.unset).toArray = ls at hl ⊢
  have hl : lv_has ls 3 [(0, .ref o), (1, .int a0), (2, .int a1)] := hl
  obtain ⟨H, hH⟩ : ∃ z, z = s.heap := ⟨_, rfl⟩
  rw [← hH] at hW
  have hS : va_S (xA G) s.heap H [] := by rw [hH]; exact hS
  rw [← hH]
  have hFr : xFr tM E E := xFr_rf
  refine lv_aload_n hx hb dX5_asksValue_0 rfl (lv_at hl 0 rfl) ?_
  refine lv_aload_n hx hb dX5_asksValue_1 rfl (lv_at hl 0 rfl) ?_
  refine lv_iload_n hx hb dX5_asksValue_2 rfl (lv_at hl 1 rfl) ?_
  refine x_callSe (va_runV (As := [.int a0]) (rest := [.ref o]) ⟨hx, hb, hml, hown, hts⟩ (kX5_isGame l G _ (σ) o a0 A hM) (cwV 1 hts gX5_asksValue_X5_isGame rfl rfl rfl (by decide +kernel) ⟨Nat.le_of_ble_eq_true rfl, Nat.le_of_ble_eq_true rfl⟩) (x_preV hX hS hW hM.1 rfl) rfl rfl hl.1 rfl (lv_room (Nat.le_of_ble_eq_true rfl)) dX5_asksValue_3 ⟨Nat.le_of_ble_eq_true rfl, Nat.le_of_ble_eq_true rfl⟩) ?_
  refine va_calli (va_runV (As := [.int (zI (fX5_isGame (σ) a0))]) (rest := []) ⟨hx, hb, hml, hown, hts⟩ (kX5_asks l G _ (σ) o (fX5_isGame (σ) a0) A hM hA) (cwV 1 hts gX5_asksValue_X5_asks rfl rfl rfl (by decide +kernel) ⟨Nat.le_of_ble_eq_true rfl, Nat.le_of_ble_eq_true rfl⟩) (x_preV hX hS hW hM.1 rfl) rfl rfl hl.1 rfl (lv_room (Nat.le_of_ble_eq_true rfl)) dX5_asksValue_6 ⟨Nat.le_of_ble_eq_true rfl, Nat.le_of_ble_eq_true rfl⟩) hS (fun _ _ h => h) (fun _ h => h) (fun r2 E1 t H1 locs1 ht hvm hw hB hz1 hk1 hS1 => ?_)
  rw [ht] at hB
  have hS := hS1
  obtain ⟨hrA3, ⟨A3, hMA3, hAA3, htA3⟩, hFrA3⟩ := hw
  have hFr := hFr.trans hFrA3
  have hW : xW G E1 H1 := hB
  subst hrA3
  refine x_ifz_ne (b := fX5_isGame (σ) a0) (tgt := 14) hx hb dX5_asksValue_9 (by decide) (fun c_4 => ?_) (fun c_4 => ?_)
  · have hzA3 := htA3.trans (if_pos c_4)
    obtain ⟨u, hau, hu⟩ := x_mG hI (c_4)
    subst hau
    obtain ⟨d, v, hG, hvl, hop⟩ := hI.2.2.2.2.2 u hu
    have hC := hI.1
    have hUu : (nI u).toNatClampNeg = u := nI_clamp (by have := hG.1; omega)
    have hDd : (σ 16 u).toNatClampNeg = d := by rw [hG.2.1]; exact nI_clamp (by have := hG.2.2.1; omega)
    have hVv : (σ 11 u).toNatClampNeg = v := by rw [hG.2.2.2.1]; exact nI_clamp (by have := hG.2.2.2.2; omega)
    have hu4 : v < 4 := hG.2.2.2.2
    refine lv_iload_n hx hb dX5_asksValue_14 rfl (lv_at hl 2 rfl) ?_
    refine lv_iconst (v := 0) hx hb dX5_asksValue_15 (by decide) ?_
    refine lv_iconst (v := 2) hx hb dX5_asksValue_16 (by decide) ?_
    refine x_callSe (va_runS (As := [.int a1, .int 0, .int 2]) (rest := []) ⟨hx, hb, hml, hown, hts⟩ (kX5_in l a1 0 2) (va_cwS 3 hts gX5_asksValue_X5_in rfl rfl rfl (by decide +kernel) ⟨Nat.le_of_ble_eq_true rfl, Nat.le_of_ble_eq_true rfl⟩) x_preT rfl rfl hl.1 rfl (lv_room (Nat.le_of_ble_eq_true rfl)) dX5_asksValue_17 ⟨Nat.le_of_ble_eq_true rfl, Nat.le_of_ble_eq_true rfl⟩) ?_
    refine x_ifz_eq (b := fX5_in a1 0 2) (tgt := 32) hx hb dX5_asksValue_20 (by decide) (fun c_5 => ?_) (fun c_5 => ?_)
    · refine lv_aload_n hx hb dX5_asksValue_32 rfl (lv_at hl 0 rfl) ?_
      refine lv_iconst (v := 2) hx hb dX5_asksValue_33 (by decide) ?_
      refine va_calli (va_runV (As := [.int 2]) (rest := []) ⟨hx, hb, hml, hown, hts⟩ (kX5_fails l G _ (σ) o 2 A3 hMA3 hAA3) (cwV 1 hts gX5_asksValue_X5_fails rfl rfl rfl (by decide +kernel) ⟨Nat.le_of_ble_eq_true rfl, Nat.le_of_ble_eq_true rfl⟩) (x_preV hX hS hW hMA3.1 rfl) rfl rfl hl.1 rfl (lv_room (Nat.le_of_ble_eq_true rfl)) dX5_asksValue_34 ⟨Nat.le_of_ble_eq_true rfl, Nat.le_of_ble_eq_true rfl⟩) hS (fun _ _ h => h) (fun _ h => h) (fun r7 E6 t H1 locs1 ht hvm hw hB hz1 hk1 hS1 => ?_)
      rw [ht] at hB
      have hS := hS1
      obtain ⟨hrA8, ⟨A8, hMA8, hAA8, htA8⟩, hFrA8⟩ := hw
      have hFr := hFr.trans hFrA8
      have hW : xW G E6 H1 := hB
      subst hrA8
      exact W.widen (k := 0) (n := 0) (Nat.le_of_ble_eq_true rfl) (Nat.le_of_ble_eq_true rfl) (W.iret (v := 0) hx hb hr (fun t ht hw => ⟨⟨_, E6, rfl, ⟨((0 : Int32), 2), (show _ = (((0 : Int32), 2) : Int32 × Nat) from by rw [hUu, hDd, hVv]; unfold mX5_asksValue; rw [if_pos c_4, if_neg (Bool.eq_false_iff.mp c_5)]), rfl, (show xMd G E6 o (σ) 2 from ⟨A8, hMA8, hAA8, htA8⟩), hFr⟩, (show xW G E6 t.heap from by rw [ht]; exact hW)⟩, hS.F ht⟩) hS.2.2 dX5_asksValue_37)
    · refine lv_aload_n hx hb dX5_asksValue_23 rfl (lv_at hl 0 rfl) ?_
      refine lv_iload_n hx hb dX5_asksValue_24 rfl (lv_at hl 1 rfl) ?_
      refine lv_iload_n hx hb dX5_asksValue_25 rfl (lv_at hl 2 rfl) ?_
      refine x_callSe (va_runV (As := [.int (nI u), .int a1]) (rest := []) ⟨hx, hb, hml, hown, hts⟩ (kX5_valueAt l G _ (σ) d v o u a1 A3 hMA3 hG nC hC) (cwV 2 hts gX5_asksValue_X5_valueAt rfl rfl rfl (by decide +kernel) ⟨Nat.le_of_ble_eq_true rfl, Nat.le_of_ble_eq_true rfl⟩) (x_preV hX hS hW hMA3.1 rfl) rfl rfl hl.1 rfl (lv_room (Nat.le_of_ble_eq_true rfl)) dX5_asksValue_26 ⟨Nat.le_of_ble_eq_true rfl, Nat.le_of_ble_eq_true rfl⟩) ?_
      refine lv_goto (tgt := 37) hx hb dX5_asksValue_29 (by decide) ?_
      exact W.widen (k := 0) (n := 0) (Nat.le_of_ble_eq_true rfl) (Nat.le_of_ble_eq_true rfl) (W.iret (v := fX5_valueAt (σ) d v u a1) hx hb hr (fun t ht hw => ⟨⟨_, E1, rfl, ⟨(fX5_valueAt (σ) d v u a1, 0), (show _ = ((fX5_valueAt (σ) d v u a1, 0) : Int32 × Nat) from by rw [hUu, hDd, hVv]; unfold mX5_asksValue; rw [if_pos c_4, if_pos c_5]), rfl, (show xMd G E1 o (σ) 0 from ⟨A3, hMA3, hAA3, hzA3⟩), hFr⟩, (show xW G E1 t.heap from by rw [ht]; exact hW)⟩, hS.F ht⟩) hS.2.2 dX5_asksValue_37)
  · have hzA3 := htA3.trans (if_neg (Bool.eq_false_iff.mp c_4))
    refine lv_iconst (v := 0) hx hb dX5_asksValue_12 (by decide) ?_
    exact W.widen (k := 0) (n := 0) (Nat.le_of_ble_eq_true rfl) (Nat.le_of_ble_eq_true rfl) (W.iret (v := 0) hx hb hr (fun t ht hw => ⟨⟨_, E1, rfl, ⟨((0 : Int32), 1), (show _ = (((0 : Int32), 1) : Int32 × Nat) from by unfold mX5_asksValue; rw [if_neg (Bool.eq_false_iff.mp c_4)]), rfl, (show xMd G E1 o (σ) 1 from ⟨A3, hMA3, hAA3, hzA3⟩), hFr⟩, (show xW G E1 t.heap from by rw [ht]; exact hW)⟩, hS.F ht⟩) hS.2.2 dX5_asksValue_13)

set_option maxHeartbeats 4000000 in
set_option maxRecDepth 100000 in
theorem kX5_value (l : Launch) (G : xG) (E : xE) (σ : xSg) (o : Nat) (a0 a1 : Int32) (A : Nat → Nat) (hM : xMod G E o A σ) (hA : xAi A) (nC nV nG : Nat) (hI : xMi σ nC nV nG) : Met l yX5_value wsX5_value ({ frames := 9, cells := 0, slots := 0, locals := 240 }) (va_Pc [.ref o, .int a0, .int a1] (xB G E)) (va_Qi (S := xE) (fun r E' => ∃ q : Int32 × Nat, mX5_asksValue σ (a0.toNatClampNeg) ((σ 16 a0.toNatClampNeg).toNatClampNeg) ((σ 11 a0.toNatClampNeg).toNatClampNeg) a0 a1 = q ∧ r = q.1 ∧ xMd G E' o σ q.2 ∧ xFr tM E E') (fun E' t => xW G E' t.heap) (xA G)) 0 0 (xA G) := by
  refine Met.ofW (cc := cX5_value) (maxL := 3) (ret := (some .int)) (by decide) rfl ?_
  intro p e s m args below meth c s₁ B hml hv
  obtain ⟨rfl, hX, hW⟩ := hv
  have hx := B.exec
  have hb := B.bytes
  have hr := B.returns
  have hts := atoms_spec (ws := wsX5_value) B.pre
  have hown : s.vm.findClass RX5 = some m.cls := findClass_of_methodNamed B.named
  have hlocks := B.notSynchronized
  have hS : va_S (xA G) s.heap s.heap [] := va_S.rf
  have hl := lv_entry ([.ref o, .int a0, .int a1]) (n := 3) (Nat.le_of_ble_eq_true rfl)
  rw [lg_entry_eq]
  generalize (lg_sl ([.ref o, .int a0, .int a1]) ++ List.replicate (3 - (lg_sl ([.ref o, .int a0, .int a1])).length) Slot.unset).toArray = ls at hl ⊢
  have hl : lv_has ls 3 [(0, .ref o), (1, .int a0), (2, .int a1)] := hl
  obtain ⟨H, hH⟩ : ∃ z, z = s.heap := ⟨_, rfl⟩
  rw [← hH] at hW
  have hS : va_S (xA G) s.heap H [] := by rw [hH]; exact hS
  rw [← hH]
  have hFr : xFr tM E E := xFr_rf
  refine lv_aload_n hx hb dX5_value_0 rfl (lv_at hl 0 rfl) ?_
  refine lv_iload_n hx hb dX5_value_1 rfl (lv_at hl 1 rfl) ?_
  refine lv_iload_n hx hb dX5_value_2 rfl (lv_at hl 2 rfl) ?_
  refine va_calli (va_runV (As := [.int a0, .int a1]) (rest := []) ⟨hx, hb, hml, hown, hts⟩ (kX5_asksValue l G _ σ o a0 a1 A hM hA nC nV nG hI) (cwV 2 hts gX5_value_X5_asksValue rfl rfl rfl (by decide +kernel) ⟨Nat.le_of_ble_eq_true rfl, Nat.le_of_ble_eq_true rfl⟩) (x_preV hX hS hW hM.1 rfl) rfl rfl hl.1 rfl (lv_room (Nat.le_of_ble_eq_true rfl)) dX5_value_3 ⟨Nat.le_of_ble_eq_true rfl, Nat.le_of_ble_eq_true rfl⟩) hS (fun _ _ h => h) (fun _ h => h) (fun r2 E1 t H1 locs1 ht hvm hw hB hz1 hk1 hS1 => ?_)
  rw [ht] at hB
  have hS := hS1
  obtain ⟨q9, hq9, hr9, hm9, hf9⟩ := hw
  have hW : xW G E1 H1 := hB
  exact W.widen (k := 0) (n := 0) (Nat.le_of_ble_eq_true rfl) (Nat.le_of_ble_eq_true rfl) (W.iret (v := r2) hx hb hr (fun t ht hw => ⟨⟨_, E1, rfl, ⟨q9, hq9, hr9, hm9, hf9⟩, (show xW G E1 t.heap from by rw [ht]; exact hW)⟩, hS.F ht⟩) hS.2.2 dX5_value_6)

set_option maxHeartbeats 4000000 in
set_option maxRecDepth 100000 in
theorem kX5_valueByAll (l : Launch) (G : xG) (E : xE) (σ : xSg) (o : Nat) (a0 a1 : Int32) (A : Nat → Nat) (hM : xMod G E o A σ) (hA : xAi A) (nC nV nG : Nat) (hI : xMi σ nC nV nG) : Met l yX5_valueByAll wsX5_valueByAll ({ frames := 9, cells := 0, slots := 0, locals := 240 }) (va_Pc [.ref o, .int a0, .int a1] (xB G E)) (va_Qi (S := xE) (fun r E' => ∃ q : Int32 × Nat, mX5_asksValue σ (a0.toNatClampNeg) ((σ 16 a0.toNatClampNeg).toNatClampNeg) ((σ 11 a0.toNatClampNeg).toNatClampNeg) a0 a1 = q ∧ r = q.1 ∧ xMd G E' o σ q.2 ∧ xFr tM E E') (fun E' t => xW G E' t.heap) (xA G)) 0 0 (xA G) := by
  refine Met.ofW (cc := cX5_valueByAll) (maxL := 3) (ret := (some .int)) (by decide) rfl ?_
  intro p e s m args below meth c s₁ B hml hv
  obtain ⟨rfl, hX, hW⟩ := hv
  have hx := B.exec
  have hb := B.bytes
  have hr := B.returns
  have hts := atoms_spec (ws := wsX5_valueByAll) B.pre
  have hown : s.vm.findClass RX5 = some m.cls := findClass_of_methodNamed B.named
  have hlocks := B.notSynchronized
  have hS : va_S (xA G) s.heap s.heap [] := va_S.rf
  have hl := lv_entry ([.ref o, .int a0, .int a1]) (n := 3) (Nat.le_of_ble_eq_true rfl)
  rw [lg_entry_eq]
  generalize (lg_sl ([.ref o, .int a0, .int a1]) ++ List.replicate (3 - (lg_sl ([.ref o, .int a0, .int a1])).length) Slot.unset).toArray = ls at hl ⊢
  have hl : lv_has ls 3 [(0, .ref o), (1, .int a0), (2, .int a1)] := hl
  obtain ⟨H, hH⟩ : ∃ z, z = s.heap := ⟨_, rfl⟩
  rw [← hH] at hW
  have hS : va_S (xA G) s.heap H [] := by rw [hH]; exact hS
  rw [← hH]
  have hFr : xFr tM E E := xFr_rf
  refine lv_aload_n hx hb dX5_valueByAll_0 rfl (lv_at hl 0 rfl) ?_
  refine lv_iload_n hx hb dX5_valueByAll_1 rfl (lv_at hl 1 rfl) ?_
  refine lv_iload_n hx hb dX5_valueByAll_2 rfl (lv_at hl 2 rfl) ?_
  refine va_calli (va_runV (As := [.int a0, .int a1]) (rest := []) ⟨hx, hb, hml, hown, hts⟩ (kX5_asksValue l G _ σ o a0 a1 A hM hA nC nV nG hI) (cwV 2 hts gX5_valueByAll_X5_asksValue rfl rfl rfl (by decide +kernel) ⟨Nat.le_of_ble_eq_true rfl, Nat.le_of_ble_eq_true rfl⟩) (x_preV hX hS hW hM.1 rfl) rfl rfl hl.1 rfl (lv_room (Nat.le_of_ble_eq_true rfl)) dX5_valueByAll_3 ⟨Nat.le_of_ble_eq_true rfl, Nat.le_of_ble_eq_true rfl⟩) hS (fun _ _ h => h) (fun _ h => h) (fun r2 E1 t H1 locs1 ht hvm hw hB hz1 hk1 hS1 => ?_)
  rw [ht] at hB
  have hS := hS1
  obtain ⟨q9, hq9, hr9, hm9, hf9⟩ := hw
  have hW : xW G E1 H1 := hB
  exact W.widen (k := 0) (n := 0) (Nat.le_of_ble_eq_true rfl) (Nat.le_of_ble_eq_true rfl) (W.iret (v := r2) hx hb hr (fun t ht hw => ⟨⟨_, E1, rfl, ⟨q9, hq9, hr9, hm9, hf9⟩, (show xW G E1 t.heap from by rw [ht]; exact hW)⟩, hS.F ht⟩) hS.2.2 dX5_valueByAll_6)

theorem x_canOpen {σ : xSg} {d v u : Nat} {a b : Int32} (h : fX5_canNow σ d v u a b = true) : σ 15 u = 0 := by
  unfold fX5_canNow at h
  by_cases z : σ 15 u = 0
  · exact z
  · rw [if_neg z] at h; cases h
theorem upd_id (f : Nat → Int32) (k : Nat) : upd f k (f k) = f := by
  funext j
  by_cases h : j = k
  · rw [h, upd_s]
  · rw [upd_n _ _ h]

def moA (σ : xSg) (u d v : Nat) (a1 a2 : Int32) : Int32 := if fX5_isSecondsTurn σ d v u = true then ((fX5_piecesOf σ d v u false) &&& (((1 : Int32) <<< (a2 &&& 31)) ^^^ (-1))) else (((fX5_piecesOf σ d v u true) &&& (((1 : Int32) <<< (a1 &&& 31)) ^^^ (-1))) ||| ((1 : Int32) <<< (a2 &&& 31)))
def moB (σ : xSg) (u d v : Nat) (a1 a2 : Int32) : Int32 := if fX5_isSecondsTurn σ d v u = true then (((fX5_piecesOf σ d v u true) &&& (((1 : Int32) <<< (a1 &&& 31)) ^^^ (-1))) ||| ((1 : Int32) <<< (a2 &&& 31))) else ((fX5_piecesOf σ d v u false) &&& (((1 : Int32) <<< (a2 &&& 31)) ^^^ (-1)))

def mX5_move (σ : xSg) (u d v : Nat) (a0 a1 a2 : Int32) : Int32 × Nat × Int32 := if (if (fX5_isGame (σ) a0) = true then (if (fX5_isCell a1) = true then (if (fX5_isCell a2) = true then (true) else (false)) else (false)) else (false)) = true then (if (fX5_isBannedNow (σ) v) = true then (((0 : Int32), 2, (0 : Int32))) else (if (fX5_canNow (σ) d v u a1 a2) = true then (if (fX5_moves (sgU (sgU (sgU σ 16 u (nI (d + 1))) 17 (61 * u + (d + 1)) (moA σ u d v a1 a2)) 18 (61 * u + (d + 1)) (moB σ u d v a1 a2)) (σ 12 u) (σ 6 v) ((fX5_piecesOf (σ) d v u false) &&& (((1 : Int32) <<< (a2 &&& 31)) ^^^ (-1))) (((fX5_piecesOf (σ) d v u true) &&& (((1 : Int32) <<< (a1 &&& 31)) ^^^ (-1))) ||| ((1 : Int32) <<< (a2 &&& 31))) (if (fX5_isSecondsTurn (σ) d v u) = true then (false) else (true))) = true then (if (fX5_times (sgU (sgU (sgU σ 16 u (nI (d + 1))) 17 (61 * u + (d + 1)) (moA σ u d v a1 a2)) 18 (61 * u + (d + 1)) (moB σ u d v a1 a2)) (d + 1) v u) < 3 then (if ((upd (σ 16) u (nI (d + 1))) u) = 60 then ((3, 0, σ 9 v)) else ((σ 15 u, 0, σ 9 v))) else ((3, 0, ((σ 9 v) + 1)))) else (((if (fX5_isSecondsTurn (σ) d v u) = true then ((2 : Int32)) else ((1 : Int32))), 0, σ 9 v))) else (((0 : Int32), 2, (0 : Int32))))) else (((0 : Int32), 1, (0 : Int32)))
set_option maxHeartbeats 4000000 in
set_option maxRecDepth 100000 in
theorem kX5_move (l : Launch) (G : xG) (E : xE) (σ : xSg) (o : Nat) (a0 a1 a2 : Int32) (A : Nat → Nat) (hM : xMod G E o A σ) (hA : xAi A) (nC nV nG : Nat) (hI : xMi σ nC nV nG) : Met l yX5_move wsX5_move ({ frames := 4, cells := 0, slots := 0, locals := 111 }) (va_Pc [.ref o, .int a0, .int a1, .int a2] (xB G E)) (va_Qi (S := xE) (fun r E' => ∃ q : Int32 × Nat × Int32, mX5_move σ (a0.toNatClampNeg) ((σ 16 a0.toNatClampNeg).toNatClampNeg) ((σ 11 a0.toNatClampNeg).toNatClampNeg) a0 a1 a2 = q ∧ r = q.1 ∧ xMd G E' o (if q.2.1 = 0 then sgMove σ (a0.toNatClampNeg) ((σ 16 a0.toNatClampNeg).toNatClampNeg) ((σ 11 a0.toNatClampNeg).toNatClampNeg) (moA σ (a0.toNatClampNeg) ((σ 16 a0.toNatClampNeg).toNatClampNeg) ((σ 11 a0.toNatClampNeg).toNatClampNeg) a1 a2) (moB σ (a0.toNatClampNeg) ((σ 16 a0.toNatClampNeg).toNatClampNeg) ((σ 11 a0.toNatClampNeg).toNatClampNeg) a1 a2) q.1 q.2.2 else σ) q.2.1 ∧ xFr tM E E') (fun E' t => xW G E' t.heap) (xA G)) 0 0 (xA G) := by
  refine Met.ofW (cc := cX5_move) (maxL := 7) (ret := (some .int)) (by decide) rfl ?_
  intro p e s m args below meth c s₁ B hml hv
  obtain ⟨rfl, hX, hW⟩ := hv
  have hx := B.exec
  have hb := B.bytes
  have hr := B.returns
  have hts := atoms_spec (ws := wsX5_move) B.pre
  have hown : s.vm.findClass RX5 = some m.cls := findClass_of_methodNamed B.named
  have hlocks := B.notSynchronized
  have hS : va_S (xA G) s.heap s.heap [] := va_S.rf
  have hiX5 : ∀ w ∈ u_ws RX5 TX5 20, w ∈ wsX5_move := by decide +kernel
  have hf34 := hts (Cond.fieldLink RX5 34 "VariantMillModel" "variant" "[I") (by decide +kernel)
  have hf49 := hts (Cond.fieldLink RX5 49 "VariantMillModel" "made" "[I") (by decide +kernel)
  have hf52 := hts (Cond.fieldLink RX5 52 "VariantMillModel" "ones" "[I") (by decide +kernel)
  have hf55 := hts (Cond.fieldLink RX5 55 "VariantMillModel" "others" "[I") (by decide +kernel)
  have hf37 := hts (Cond.fieldLink RX5 37 "VariantMillModel" "plays" "[I") (by decide +kernel)
  have hf22 := hts (Cond.fieldLink RX5 22 "VariantMillModel" "holes" "[I") (by decide +kernel)
  have hf46 := hts (Cond.fieldLink RX5 46 "VariantMillModel" "state" "[I") (by decide +kernel)
  have hf31 := hts (Cond.fieldLink RX5 31 "VariantMillModel" "endless" "[I") (by decide +kernel)
  have hl := lv_entry ([.ref o, .int a0, .int a1, .int a2]) (n := 7) (Nat.le_of_ble_eq_true rfl)
  rw [lg_entry_eq]
  generalize (lg_sl ([.ref o, .int a0, .int a1, .int a2]) ++ List.replicate (7 - (lg_sl ([.ref o, .int a0, .int a1, .int a2])).length) Slot.unset).toArray = ls at hl ⊢
  have hl : lv_has ls 7 [(0, .ref o), (1, .int a0), (2, .int a1), (3, .int a2)] := hl
  obtain ⟨H, hH⟩ : ∃ z, z = s.heap := ⟨_, rfl⟩
  rw [← hH] at hW
  have hS : va_S (xA G) s.heap H [] := by rw [hH]; exact hS
  rw [← hH]
  have hFr : xFr tM E E := xFr_rf
  refine lv_aload_n hx hb dX5_move_0 rfl (lv_at hl 0 rfl) ?_
  refine lv_aload_n hx hb dX5_move_1 rfl (lv_at hl 0 rfl) ?_
  refine lv_iload_n hx hb dX5_move_2 rfl (lv_at hl 1 rfl) ?_
  refine x_callSe (va_runV (As := [.int a0]) (rest := [.ref o]) ⟨hx, hb, hml, hown, hts⟩ (kX5_isGame l G _ (σ) o a0 A hM) (cwV 1 hts gX5_move_X5_isGame rfl rfl rfl (by decide +kernel) ⟨Nat.le_of_ble_eq_true rfl, Nat.le_of_ble_eq_true rfl⟩) (x_preV hX hS hW hM.1 rfl) rfl rfl hl.1 rfl (lv_room (Nat.le_of_ble_eq_true rfl)) dX5_move_3 ⟨Nat.le_of_ble_eq_true rfl, Nat.le_of_ble_eq_true rfl⟩) ?_
  refine x_join (ls' := ls) (rest' := [.ref o]) 28 (zI (if (fX5_isGame (σ) a0) = true then (if (fX5_isCell a1) = true then (if (fX5_isCell a2) = true then (true) else (false)) else (false)) else (false))) (fun v ev => ?_) (fun J => ?_)
  · subst ev
    refine va_calli (va_runV (As := [.int (zI (if (fX5_isGame (σ) a0) = true then (if (fX5_isCell a1) = true then (if (fX5_isCell a2) = true then (true) else (false)) else (false)) else (false)))]) (rest := []) ⟨hx, hb, hml, hown, hts⟩ (kX5_asks l G _ (σ) o (if (fX5_isGame (σ) a0) = true then (if (fX5_isCell a1) = true then (if (fX5_isCell a2) = true then (true) else (false)) else (false)) else (false)) A hM hA) (cwV 1 hts gX5_move_X5_asks rfl rfl rfl (by decide +kernel) ⟨Nat.le_of_ble_eq_true rfl, Nat.le_of_ble_eq_true rfl⟩) (x_preV hX hS hW hM.1 rfl) rfl rfl hl.1 rfl (lv_room (Nat.le_of_ble_eq_true rfl)) dX5_move_28 ⟨Nat.le_of_ble_eq_true rfl, Nat.le_of_ble_eq_true rfl⟩) hS (fun _ _ h => h) (fun _ h => h) (fun r5 E4 t H1 locs1 ht hvm hw hB hz1 hk1 hS1 => ?_)
    rw [ht] at hB
    have hS := hS1
    obtain ⟨hrA6, ⟨A6, hMA6, hAA6, htA6⟩, hFrA6⟩ := hw
    have hFr := hFr.trans hFrA6
    have hW : xW G E4 H1 := hB
    subst hrA6
    refine x_ifz_ne (b := (if (fX5_isGame (σ) a0) = true then (if (fX5_isCell a1) = true then (if (fX5_isCell a2) = true then (true) else (false)) else (false)) else (false))) (tgt := 36) hx hb dX5_move_31 (by decide) (fun c_7 => ?_) (fun c_7 => ?_)
    · have hzA6 := htA6.trans (if_pos c_7)
      obtain ⟨u, hau, hu⟩ := x_mG hI (x_if1 c_7)
      subst hau
      obtain ⟨d, v, hG, hvl, hop⟩ := hI.2.2.2.2.2 u hu
      have hC := hI.1
      have hUu : (nI u).toNatClampNeg = u := nI_clamp (by have := hG.1; omega)
      have hDd : (σ 16 u).toNatClampNeg = d := by rw [hG.2.1]; exact nI_clamp (by have := hG.2.2.1; omega)
      have hVv : (σ 11 u).toNatClampNeg = v := by rw [hG.2.2.2.1]; exact nI_clamp (by have := hG.2.2.2.2; omega)
      have hu4 : v < 4 := hG.2.2.2.2
      refine lv_aload_n hx hb dX5_move_36 rfl (lv_at hl 0 rfl) ?_
      refine lv_aload_n hx hb dX5_move_37 rfl (lv_at hl 0 rfl) ?_
      refine va_get (D := G.1) (ci := 5) (v := .ref (A6 11)) (C := RX5) (T := TX5) (N := 20) hx hb hts hiX5 hown hX.1 (x1 hW hMA6.1) 0 rfl rfl 11 (by decide) hf34 (fun _ h9 => h9) rfl dX5_move_38 ?_
      refine lv_iload_n hx hb dX5_move_41 rfl (lv_at hl 1 rfl) ?_
      refine x_ild (k := u) hx hb hX.1 hW hMA6.2.2.2.2.2.2.2.2.2.1 (vp_in_nI hG.1 (by omega)) (nI_clamp (by have := hG.1; omega)) dX5_move_42 ?_
      rw [hG.2.2.2.1]
      refine x_callSe (va_runV (As := [.int (nI v)]) (rest := []) ⟨hx, hb, hml, hown, hts⟩ (kX5_isBannedNow l G _ (σ) o v A6 hMA6 hu4) (cwV 1 hts gX5_move_X5_isBannedNow rfl rfl rfl (by decide +kernel) ⟨Nat.le_of_ble_eq_true rfl, Nat.le_of_ble_eq_true rfl⟩) (x_preV hX hS hW hMA6.1 rfl) rfl rfl hl.1 rfl (lv_room (Nat.le_of_ble_eq_true rfl)) dX5_move_43 ⟨Nat.le_of_ble_eq_true rfl, Nat.le_of_ble_eq_true rfl⟩) ?_
      refine x_ifz_ne (b := fX5_isBannedNow (σ) v) (tgt := 59) hx hb dX5_move_46 (by decide) (fun c_8 => ?_) (fun c_8 => ?_)
      · refine lv_aload_n hx hb dX5_move_59 rfl (lv_at hl 0 rfl) ?_
        refine lv_iconst (v := 2) hx hb dX5_move_60 (by decide) ?_
        refine va_calli (va_runV (As := [.int 2]) (rest := []) ⟨hx, hb, hml, hown, hts⟩ (kX5_fails l G _ (σ) o 2 A6 hMA6 hAA6) (cwV 1 hts gX5_move_X5_fails rfl rfl rfl (by decide +kernel) ⟨Nat.le_of_ble_eq_true rfl, Nat.le_of_ble_eq_true rfl⟩) (x_preV hX hS hW hMA6.1 rfl) rfl rfl hl.1 rfl (lv_room (Nat.le_of_ble_eq_true rfl)) dX5_move_61 ⟨Nat.le_of_ble_eq_true rfl, Nat.le_of_ble_eq_true rfl⟩) hS (fun _ _ h => h) (fun _ h => h) (fun r10 E9 t H1 locs1 ht hvm hw hB hz1 hk1 hS1 => ?_)
        rw [ht] at hB
        have hS := hS1
        obtain ⟨hrA11, ⟨A11, hMA11, hAA11, htA11⟩, hFrA11⟩ := hw
        have hFr := hFr.trans hFrA11
        have hW : xW G E9 H1 := hB
        subst hrA11
        exact W.widen (k := 0) (n := 0) (Nat.le_of_ble_eq_true rfl) (Nat.le_of_ble_eq_true rfl) (W.iret (v := 0) hx hb hr (fun t ht hw => ⟨⟨_, E9, rfl, ⟨((0 : Int32), 2, (0 : Int32)), (show _ = (((0 : Int32), 2, (0 : Int32)) : Int32 × Nat × Int32) from by rw [hUu, hDd, hVv]; unfold mX5_move; rw [if_pos c_7, if_pos c_8]), rfl, (show xMd G E9 o (σ) 2 from ⟨A11, hMA11, hAA11, htA11⟩), hFr⟩, (show xW G E9 t.heap from by rw [ht]; exact hW)⟩, hS.F ht⟩) hS.2.2 dX5_move_64)
      · refine lv_aload_n hx hb dX5_move_49 rfl (lv_at hl 0 rfl) ?_
        refine lv_iload_n hx hb dX5_move_50 rfl (lv_at hl 1 rfl) ?_
        refine lv_iload_n hx hb dX5_move_51 rfl (lv_at hl 2 rfl) ?_
        refine lv_iload_n hx hb dX5_move_52 rfl (lv_at hl 3 rfl) ?_
        refine x_callSe (va_runV (As := [.int (nI u), .int a1, .int a2]) (rest := []) ⟨hx, hb, hml, hown, hts⟩ (kX5_canNow l G _ (σ) d v o u a1 a2 A6 hMA6 hG nC hC) (cwV 3 hts gX5_move_X5_canNow rfl rfl rfl (by decide +kernel) ⟨Nat.le_of_ble_eq_true rfl, Nat.le_of_ble_eq_true rfl⟩) (x_preV hX hS hW hMA6.1 rfl) rfl rfl hl.1 rfl (lv_room (Nat.le_of_ble_eq_true rfl)) dX5_move_53 ⟨Nat.le_of_ble_eq_true rfl, Nat.le_of_ble_eq_true rfl⟩) ?_
        refine x_ifz_ne (b := fX5_canNow (σ) d v u a1 a2) (tgt := 65) hx hb dX5_move_56 (by decide) (fun c_12 => ?_) (fun c_12 => ?_)
        · have hd : d < 60 := hop (x_canOpen c_12)
          refine lv_aload_n hx hb dX5_move_65 rfl (lv_at hl 0 rfl) ?_
          refine lv_iload_n hx hb dX5_move_66 rfl (lv_at hl 1 rfl) ?_
          refine lv_iconst (v := 1) hx hb dX5_move_67 (by decide) ?_
          refine x_callSe (va_runV (As := [.int (nI u), .int 1]) (rest := []) ⟨hx, hb, hml, hown, hts⟩ (kX5_piecesOf l G _ (σ) d v o u true A6 hMA6 hG) (cwV 2 hts gX5_move_X5_piecesOf rfl rfl rfl (by decide +kernel) ⟨Nat.le_of_ble_eq_true rfl, Nat.le_of_ble_eq_true rfl⟩) (x_preV hX hS hW hMA6.1 rfl) rfl rfl hl.1 rfl (lv_room (Nat.le_of_ble_eq_true rfl)) dX5_move_68 ⟨Nat.le_of_ble_eq_true rfl, Nat.le_of_ble_eq_true rfl⟩) ?_
          refine lv_iconst (v := 1) hx hb dX5_move_71 (by decide) ?_
          refine lv_iload_n hx hb dX5_move_72 rfl (lv_at hl 2 rfl) ?_
          refine lv_ishl hx hb dX5_move_73 ?_
          refine lv_iconst (v := (-1)) hx hb dX5_move_74 (by decide) ?_
          refine lv_ixor hx hb dX5_move_75 ?_
          refine lv_iand hx hb dX5_move_76 ?_
          refine lv_iconst (v := 1) hx hb dX5_move_77 (by decide) ?_
          refine lv_iload_n hx hb dX5_move_78 rfl (lv_at hl 3 rfl) ?_
          refine lv_ishl hx hb dX5_move_79 ?_
          refine lv_ior hx hb dX5_move_80 ?_
          refine lv_istore (lv' := [(4, .int (((fX5_piecesOf (σ) d v u true) &&& (((1 : Int32) <<< (a1 &&& 31)) ^^^ (-1))) ||| ((1 : Int32) <<< (a2 &&& 31)))), (0, .ref o), (1, .int (nI u)), (2, .int a1), (3, .int a2)]) hx hb dX5_move_81 hl (by decide) rfl (fun ls hl => ?_)
          refine lv_aload_n hx hb dX5_move_83 rfl (lv_at hl 1 rfl) ?_
          refine lv_iload_n hx hb dX5_move_84 rfl (lv_at hl 2 rfl) ?_
          refine lv_iconst (v := 0) hx hb dX5_move_85 (by decide) ?_
          refine x_callSe (va_runV (As := [.int (nI u), .int 0]) (rest := []) ⟨hx, hb, hml, hown, hts⟩ (kX5_piecesOf l G _ (σ) d v o u false A6 hMA6 hG) (cwV 2 hts gX5_move_X5_piecesOf rfl rfl rfl (by decide +kernel) ⟨Nat.le_of_ble_eq_true rfl, Nat.le_of_ble_eq_true rfl⟩) (x_preV hX hS hW hMA6.1 rfl) rfl rfl hl.1 rfl (lv_room (Nat.le_of_ble_eq_true rfl)) dX5_move_86 ⟨Nat.le_of_ble_eq_true rfl, Nat.le_of_ble_eq_true rfl⟩) ?_
          refine lv_iconst (v := 1) hx hb dX5_move_89 (by decide) ?_
          refine lv_iload_n hx hb dX5_move_90 rfl (lv_at hl 4 rfl) ?_
          refine lv_ishl hx hb dX5_move_91 ?_
          refine lv_iconst (v := (-1)) hx hb dX5_move_92 (by decide) ?_
          refine lv_ixor hx hb dX5_move_93 ?_
          refine lv_iand hx hb dX5_move_94 ?_
          refine lv_istore (lv' := [(5, .int ((fX5_piecesOf (σ) d v u false) &&& (((1 : Int32) <<< (a2 &&& 31)) ^^^ (-1)))), (4, .int (((fX5_piecesOf (σ) d v u true) &&& (((1 : Int32) <<< (a1 &&& 31)) ^^^ (-1))) ||| ((1 : Int32) <<< (a2 &&& 31)))), (0, .ref o), (1, .int (nI u)), (2, .int a1), (3, .int a2)]) hx hb dX5_move_95 hl (by decide) rfl (fun ls hl => ?_)
          refine lv_aload_n hx hb dX5_move_97 rfl (lv_at hl 2 rfl) ?_
          refine lv_iload_n hx hb dX5_move_98 rfl (lv_at hl 3 rfl) ?_
          refine x_callSe (va_runV (As := [.int (nI u)]) (rest := []) ⟨hx, hb, hml, hown, hts⟩ (kX5_isSecondsTurn l G _ (σ) d v o u A6 hMA6 hG) (cwV 1 hts gX5_move_X5_isSecondsTurn rfl rfl rfl (by decide +kernel) ⟨Nat.le_of_ble_eq_true rfl, Nat.le_of_ble_eq_true rfl⟩) (x_preV hX hS hW hMA6.1 rfl) rfl rfl hl.1 rfl (lv_room (Nat.le_of_ble_eq_true rfl)) dX5_move_99 ⟨Nat.le_of_ble_eq_true rfl, Nat.le_of_ble_eq_true rfl⟩) ?_
          refine lv_istore (lv' := [(6, .int (zI (fX5_isSecondsTurn (σ) d v u))), (5, .int ((fX5_piecesOf (σ) d v u false) &&& (((1 : Int32) <<< (a2 &&& 31)) ^^^ (-1)))), (4, .int (((fX5_piecesOf (σ) d v u true) &&& (((1 : Int32) <<< (a1 &&& 31)) ^^^ (-1))) ||| ((1 : Int32) <<< (a2 &&& 31)))), (0, .ref o), (1, .int (nI u)), (2, .int a1), (3, .int a2)]) hx hb dX5_move_102 hl (by decide) rfl (fun ls hl => ?_)
          refine lv_aload_n hx hb dX5_move_104 rfl (lv_at hl 3 rfl) ?_
          refine va_get (D := G.1) (ci := 5) (v := .ref (A6 16)) (C := RX5) (T := TX5) (N := 20) hx hb hts hiX5 hown hX.1 (x1 hW hMA6.1) 0 rfl rfl 16 (by decide) hf49 (fun _ h9 => h9) rfl dX5_move_105 ?_
          refine lv_iload_n hx hb dX5_move_108 rfl (lv_at hl 4 rfl) ?_
          refine lv_dup2_11 hx hb dX5_move_109 rfl rfl ?_
          refine x_ild (k := u) hx hb hX.1 hW hMA6.2.2.2.2.2.2.2.2.2.2.2.2.2.2.1 (vp_in_nI hG.1 (by omega)) (nI_clamp (by have := hG.1; omega)) dX5_move_110 ?_
          rw [hG.2.1]
          refine lv_iconst (v := 1) hx hb dX5_move_111 (by decide) ?_
          refine lv_iadd hx hb dX5_move_112 ?_
          rw [nI_1]
          refine x_iast (G := G) hx hb hX.1 hW hS hMA6.2.2.2.2.2.2.2.2.2.2.2.2.2.2.1 (vp_in_nI hG.1 (by omega)) dX5_move_113 (fun H locs hW hS => ?_)
          rw [show (nI u).toNatClampNeg = u from (nI_clamp (by have := hG.1; omega))] at hW
          obtain ⟨E13, eE13⟩ : ∃ z, z = xU E4 (A6 16) (.inl (G.2.1 0, 12, .inl (upd (σ 16) u (nI (d + 1))))) := ⟨_, rfl⟩
          have hW : xW G E13 H := by rw [eE13]; exact hW
          have hv_o9 : E13 o = some (.inr (5, [.int (σ 0 0), .ref (A6 1), .ref (A6 2), .ref (A6 3), .ref (A6 4), .int (σ 5 0), .ref (A6 6), .ref (A6 7), .ref (A6 8), .ref (A6 9), .int (σ 10 0), .ref (A6 11), .ref (A6 12), .ref (A6 13), .ref (A6 14), .ref (A6 15), .ref (A6 16), .ref (A6 17), .ref (A6 18), .int (nI (A6 19))])) := by rw [eE13]; exact xU_of hMA6.1 hMA6.2.2.2.2.2.2.2.2.2.2.2.2.2.2.1 (fun h => by simp at h)
          have hv_A6_19 : E13 (A6 1) = some (.inl (G.2.1 0, 8, .inl (σ 1))) := by rw [eE13]; exact (xU_ne _ _ (hAA6.1.2.2.2.2.2.2.2.2.2.2.2.2.1)).trans hMA6.2.1
          have hv_A6_29 : E13 (A6 2) = some (.inl (G.2.1 0, 8, .inl (σ 2))) := by rw [eE13]; exact (xU_ne _ _ (hAA6.2.1.2.2.2.2.2.2.2.2.2.2.2.1)).trans hMA6.2.2.1
          have hv_A6_39 : E13 (A6 3) = some (.inl (G.2.1 0, 8, .inl (σ 3))) := by rw [eE13]; exact (xU_ne _ _ (hAA6.2.2.1.2.2.2.2.2.2.2.2.2.2.1)).trans hMA6.2.2.2.1
          have hv_A6_49 : E13 (A6 4) = some (.inl (G.2.1 0, 8, .inl (σ 4))) := by rw [eE13]; exact (xU_ne _ _ (hAA6.2.2.2.1.2.2.2.2.2.2.2.2.2.1)).trans hMA6.2.2.2.2.1
          have hv_A6_69 : E13 (A6 6) = some (.inl (G.2.1 0, 4, .inl (σ 6))) := by rw [eE13]; exact (xU_ne _ _ (hAA6.2.2.2.2.1.2.2.2.2.2.2.2.2.1)).trans hMA6.2.2.2.2.2.1
          have hv_A6_79 : E13 (A6 7) = some (.inl (G.2.1 0, 4, .inl (σ 7))) := by rw [eE13]; exact (xU_ne _ _ (hAA6.2.2.2.2.2.1.2.2.2.2.2.2.2.1)).trans hMA6.2.2.2.2.2.2.1
          have hv_A6_89 : E13 (A6 8) = some (.inl (G.2.1 0, 4, .inl (σ 8))) := by rw [eE13]; exact (xU_ne _ _ (hAA6.2.2.2.2.2.2.1.2.2.2.2.2.2.1)).trans hMA6.2.2.2.2.2.2.2.1
          have hv_A6_99 : E13 (A6 9) = some (.inl (G.2.1 0, 4, .inl (σ 9))) := by rw [eE13]; exact (xU_ne _ _ (hAA6.2.2.2.2.2.2.2.1.2.2.2.2.2.1)).trans hMA6.2.2.2.2.2.2.2.2.1
          have hv_A6_119 : E13 (A6 11) = some (.inl (G.2.1 0, 12, .inl (σ 11))) := by rw [eE13]; exact (xU_ne _ _ (hAA6.2.2.2.2.2.2.2.2.1.2.2.2.2.1)).trans hMA6.2.2.2.2.2.2.2.2.2.1
          have hv_A6_129 : E13 (A6 12) = some (.inl (G.2.1 0, 12, .inl (σ 12))) := by rw [eE13]; exact (xU_ne _ _ (hAA6.2.2.2.2.2.2.2.2.2.1.2.2.2.1)).trans hMA6.2.2.2.2.2.2.2.2.2.2.1
          have hv_A6_139 : E13 (A6 13) = some (.inl (G.2.1 0, 12, .inl (σ 13))) := by rw [eE13]; exact (xU_ne _ _ (hAA6.2.2.2.2.2.2.2.2.2.2.1.2.2.1)).trans hMA6.2.2.2.2.2.2.2.2.2.2.2.1
          have hv_A6_149 : E13 (A6 14) = some (.inl (G.2.1 0, 12, .inl (σ 14))) := by rw [eE13]; exact (xU_ne _ _ (hAA6.2.2.2.2.2.2.2.2.2.2.2.1.2.1)).trans hMA6.2.2.2.2.2.2.2.2.2.2.2.2.1
          have hv_A6_159 : E13 (A6 15) = some (.inl (G.2.1 0, 12, .inl (σ 15))) := by rw [eE13]; exact (xU_ne _ _ (hAA6.2.2.2.2.2.2.2.2.2.2.2.2.1.1)).trans hMA6.2.2.2.2.2.2.2.2.2.2.2.2.2.1
          have hv_A6_179 : E13 (A6 17) = some (.inl (G.2.1 0, 732, .inl (σ 17))) := by rw [eE13]; exact (xU_ne _ _ (Ne.symm (hAA6.2.2.2.2.2.2.2.2.2.2.2.2.2.1.1))).trans hMA6.2.2.2.2.2.2.2.2.2.2.2.2.2.2.2.1
          have hv_A6_189 : E13 (A6 18) = some (.inl (G.2.1 0, 732, .inl (σ 18))) := by rw [eE13]; exact (xU_ne _ _ (Ne.symm (hAA6.2.2.2.2.2.2.2.2.2.2.2.2.2.1.2))).trans hMA6.2.2.2.2.2.2.2.2.2.2.2.2.2.2.2.2
          have hu_A6_169 : E13 (A6 16) = some (.inl (G.2.1 0, 12, .inl (upd (σ 16) u (nI (d + 1))))) := by rw [eE13]; exact xU_self _ _ _
          have hFr : xFr tM E E13 := by rw [eE13]; exact xFr_put hFr hMA6.2.2.2.2.2.2.2.2.2.2.2.2.2.2.1 rfl _
          have hM1 : xMod G E13 o A6 (sgU σ 16 u (nI (d + 1))) := ⟨hv_o9, hv_A6_19, hv_A6_29, hv_A6_39, hv_A6_49, hv_A6_69, hv_A6_79, hv_A6_89, hv_A6_99, hv_A6_119, hv_A6_129, hv_A6_139, hv_A6_149, hv_A6_159, hu_A6_169, hv_A6_179, hv_A6_189⟩
          have hG1 : xGm (sgU σ 16 u (nI (d + 1))) u (d + 1) v := ⟨hG.1, show upd (σ 16) u (nI (d + 1)) u = _ from upd_s _ _ _, hd, hG.2.2.2.1, hG.2.2.2.2⟩
          have hC1 : xCd (sgU σ 16 u (nI (d + 1))) nC := hI.1
          refine lv_aload_n hx hb dX5_move_114 rfl (lv_at hl 3 rfl) ?_
          refine va_get (D := G.1) (ci := 5) (v := .ref (A6 17)) (C := RX5) (T := TX5) (N := 20) hx hb hts hiX5 hown hX.1 (x1 hW hv_o9) 0 rfl rfl 17 (by decide) hf52 (fun _ h9 => h9) rfl dX5_move_115 ?_
          refine lv_aload_n hx hb dX5_move_118 rfl (lv_at hl 3 rfl) ?_
          refine lv_iload_n hx hb dX5_move_119 rfl (lv_at hl 4 rfl) ?_
          refine x_callSe (va_runV (As := [.int (nI u)]) (rest := [.ref (A6 17)]) ⟨hx, hb, hml, hown, hts⟩ (kX5_at l G _ (sgU σ 16 u (nI (d + 1))) (d + 1) v o u A6 hM1 hG1) (cwV 1 hts gX5_move_X5_at rfl rfl rfl (by decide +kernel) ⟨Nat.le_of_ble_eq_true rfl, Nat.le_of_ble_eq_true rfl⟩) (x_preV hX hS hW hv_o9 rfl) rfl rfl hl.1 rfl (lv_room (Nat.le_of_ble_eq_true rfl)) dX5_move_120 ⟨Nat.le_of_ble_eq_true rfl, Nat.le_of_ble_eq_true rfl⟩) ?_
          refine lv_iload hx hb dX5_move_123 (lv_at hl 0 rfl) ?_
          refine x_join (ls' := ls) (rest' := [.int (fX5_at (sgU σ 16 u (nI (d + 1))) (d + 1) v u), .ref (A6 17)]) 135 ((if (fX5_isSecondsTurn (σ) d v u) = true then (((fX5_piecesOf (σ) d v u false) &&& (((1 : Int32) <<< (a2 &&& 31)) ^^^ (-1)))) else ((((fX5_piecesOf (σ) d v u true) &&& (((1 : Int32) <<< (a1 &&& 31)) ^^^ (-1))) ||| ((1 : Int32) <<< (a2 &&& 31)))))) (fun v ev => ?_) (fun J => ?_)
          · subst ev
            rw [show (if (fX5_isSecondsTurn (σ) d v u) = true then (((fX5_piecesOf (σ) d v u false) &&& (((1 : Int32) <<< (a2 &&& 31)) ^^^ (-1)))) else ((((fX5_piecesOf (σ) d v u true) &&& (((1 : Int32) <<< (a1 &&& 31)) ^^^ (-1))) ||| ((1 : Int32) <<< (a2 &&& 31))))) = moA σ u d v a1 a2 from rfl]
            refine x_iast (G := G) hx hb hX.1 hW hS hv_A6_179 ((x_atI hG1).1) dX5_move_135 (fun H locs hW hS => ?_)
            rw [show (fX5_at (sgU σ 16 u (nI (d + 1))) (d + 1) v u).toNatClampNeg = 61 * u + (d + 1) from ((x_atI hG1).2)] at hW
            obtain ⟨E15, eE15⟩ : ∃ z, z = xU E13 (A6 17) (.inl (G.2.1 0, 732, .inl (upd (σ 17) (61 * u + (d + 1)) (moA σ u d v a1 a2)))) := ⟨_, rfl⟩
            have hW : xW G E15 H := by rw [eE15]; exact hW
            have hv_o99 : E15 o = some (.inr (5, [.int (σ 0 0), .ref (A6 1), .ref (A6 2), .ref (A6 3), .ref (A6 4), .int (σ 5 0), .ref (A6 6), .ref (A6 7), .ref (A6 8), .ref (A6 9), .int (σ 10 0), .ref (A6 11), .ref (A6 12), .ref (A6 13), .ref (A6 14), .ref (A6 15), .ref (A6 16), .ref (A6 17), .ref (A6 18), .int (nI (A6 19))])) := by rw [eE15]; exact xU_of hv_o9 hv_A6_179 (fun h => by simp at h)
            have hv_A6_199 : E15 (A6 1) = some (.inl (G.2.1 0, 8, .inl (σ 1))) := by rw [eE15]; exact (xU_ne _ _ (hAA6.1.2.2.2.2.2.2.2.2.2.2.2.2.2.1)).trans hv_A6_19
            have hv_A6_299 : E15 (A6 2) = some (.inl (G.2.1 0, 8, .inl (σ 2))) := by rw [eE15]; exact (xU_ne _ _ (hAA6.2.1.2.2.2.2.2.2.2.2.2.2.2.2.1)).trans hv_A6_29
            have hv_A6_399 : E15 (A6 3) = some (.inl (G.2.1 0, 8, .inl (σ 3))) := by rw [eE15]; exact (xU_ne _ _ (hAA6.2.2.1.2.2.2.2.2.2.2.2.2.2.2.1)).trans hv_A6_39
            have hv_A6_499 : E15 (A6 4) = some (.inl (G.2.1 0, 8, .inl (σ 4))) := by rw [eE15]; exact (xU_ne _ _ (hAA6.2.2.2.1.2.2.2.2.2.2.2.2.2.2.1)).trans hv_A6_49
            have hv_A6_699 : E15 (A6 6) = some (.inl (G.2.1 0, 4, .inl (σ 6))) := by rw [eE15]; exact (xU_ne _ _ (hAA6.2.2.2.2.1.2.2.2.2.2.2.2.2.2.1)).trans hv_A6_69
            have hv_A6_799 : E15 (A6 7) = some (.inl (G.2.1 0, 4, .inl (σ 7))) := by rw [eE15]; exact (xU_ne _ _ (hAA6.2.2.2.2.2.1.2.2.2.2.2.2.2.2.1)).trans hv_A6_79
            have hv_A6_899 : E15 (A6 8) = some (.inl (G.2.1 0, 4, .inl (σ 8))) := by rw [eE15]; exact (xU_ne _ _ (hAA6.2.2.2.2.2.2.1.2.2.2.2.2.2.2.1)).trans hv_A6_89
            have hv_A6_999 : E15 (A6 9) = some (.inl (G.2.1 0, 4, .inl (σ 9))) := by rw [eE15]; exact (xU_ne _ _ (hAA6.2.2.2.2.2.2.2.1.2.2.2.2.2.2.1)).trans hv_A6_99
            have hv_A6_1199 : E15 (A6 11) = some (.inl (G.2.1 0, 12, .inl (σ 11))) := by rw [eE15]; exact (xU_ne _ _ (hAA6.2.2.2.2.2.2.2.2.1.2.2.2.2.2.1)).trans hv_A6_119
            have hv_A6_1299 : E15 (A6 12) = some (.inl (G.2.1 0, 12, .inl (σ 12))) := by rw [eE15]; exact (xU_ne _ _ (hAA6.2.2.2.2.2.2.2.2.2.1.2.2.2.2.1)).trans hv_A6_129
            have hv_A6_1399 : E15 (A6 13) = some (.inl (G.2.1 0, 12, .inl (σ 13))) := by rw [eE15]; exact (xU_ne _ _ (hAA6.2.2.2.2.2.2.2.2.2.2.1.2.2.2.1)).trans hv_A6_139
            have hv_A6_1499 : E15 (A6 14) = some (.inl (G.2.1 0, 12, .inl (σ 14))) := by rw [eE15]; exact (xU_ne _ _ (hAA6.2.2.2.2.2.2.2.2.2.2.2.1.2.2.1)).trans hv_A6_149
            have hv_A6_1599 : E15 (A6 15) = some (.inl (G.2.1 0, 12, .inl (σ 15))) := by rw [eE15]; exact (xU_ne _ _ (hAA6.2.2.2.2.2.2.2.2.2.2.2.2.1.2.1)).trans hv_A6_159
            have hu_A6_1699 : E15 (A6 16) = some (.inl (G.2.1 0, 12, .inl (upd (σ 16) u (nI (d + 1))))) := by rw [eE15]; exact (xU_ne _ _ (hAA6.2.2.2.2.2.2.2.2.2.2.2.2.2.1.1)).trans hu_A6_169
            have hv_A6_1899 : E15 (A6 18) = some (.inl (G.2.1 0, 732, .inl (σ 18))) := by rw [eE15]; exact (xU_ne _ _ (Ne.symm (hAA6.2.2.2.2.2.2.2.2.2.2.2.2.2.2))).trans hv_A6_189
            have hv_A6_1799 : E15 (A6 17) = some (.inl (G.2.1 0, 732, .inl (upd (σ 17) (61 * u + (d + 1)) (moA σ u d v a1 a2)))) := by rw [eE15]; exact xU_self _ _ _
            have hFr : xFr tM E E15 := by rw [eE15]; exact xFr_put hFr hv_A6_179 rfl _
            have hM2 : xMod G E15 o A6 (sgU (sgU σ 16 u (nI (d + 1))) 17 (61 * u + (d + 1)) (moA σ u d v a1 a2)) := ⟨hv_o99, hv_A6_199, hv_A6_299, hv_A6_399, hv_A6_499, hv_A6_699, hv_A6_799, hv_A6_899, hv_A6_999, hv_A6_1199, hv_A6_1299, hv_A6_1399, hv_A6_1499, hv_A6_1599, hu_A6_1699, hv_A6_1799, hv_A6_1899⟩
            have hG2 : xGm (sgU (sgU σ 16 u (nI (d + 1))) 17 (61 * u + (d + 1)) (moA σ u d v a1 a2)) u (d + 1) v := ⟨hG.1, show upd (σ 16) u (nI (d + 1)) u = _ from upd_s _ _ _, hd, hG.2.2.2.1, hG.2.2.2.2⟩
            have hC2 : xCd (sgU (sgU σ 16 u (nI (d + 1))) 17 (61 * u + (d + 1)) (moA σ u d v a1 a2)) nC := hI.1
            refine lv_aload_n hx hb dX5_move_136 rfl (lv_at hl 3 rfl) ?_
            refine va_get (D := G.1) (ci := 5) (v := .ref (A6 18)) (C := RX5) (T := TX5) (N := 20) hx hb hts hiX5 hown hX.1 (x1 hW hv_o99) 0 rfl rfl 18 (by decide) hf55 (fun _ h9 => h9) rfl dX5_move_137 ?_
            refine lv_aload_n hx hb dX5_move_140 rfl (lv_at hl 3 rfl) ?_
            refine lv_iload_n hx hb dX5_move_141 rfl (lv_at hl 4 rfl) ?_
            refine x_callSe (va_runV (As := [.int (nI u)]) (rest := [.ref (A6 18)]) ⟨hx, hb, hml, hown, hts⟩ (kX5_at l G _ (sgU (sgU σ 16 u (nI (d + 1))) 17 (61 * u + (d + 1)) (moA σ u d v a1 a2)) (d + 1) v o u A6 hM2 hG2) (cwV 1 hts gX5_move_X5_at rfl rfl rfl (by decide +kernel) ⟨Nat.le_of_ble_eq_true rfl, Nat.le_of_ble_eq_true rfl⟩) (x_preV hX hS hW hv_o99 rfl) rfl rfl hl.1 rfl (lv_room (Nat.le_of_ble_eq_true rfl)) dX5_move_142 ⟨Nat.le_of_ble_eq_true rfl, Nat.le_of_ble_eq_true rfl⟩) ?_
            refine lv_iload hx hb dX5_move_145 (lv_at hl 0 rfl) ?_
            refine x_join (ls' := ls) (rest' := [.int (fX5_at (sgU (sgU σ 16 u (nI (d + 1))) 17 (61 * u + (d + 1)) (moA σ u d v a1 a2)) (d + 1) v u), .ref (A6 18)]) 157 ((if (fX5_isSecondsTurn (σ) d v u) = true then ((((fX5_piecesOf (σ) d v u true) &&& (((1 : Int32) <<< (a1 &&& 31)) ^^^ (-1))) ||| ((1 : Int32) <<< (a2 &&& 31)))) else (((fX5_piecesOf (σ) d v u false) &&& (((1 : Int32) <<< (a2 &&& 31)) ^^^ (-1)))))) (fun v ev => ?_) (fun J => ?_)
            · subst ev
              rw [show (if (fX5_isSecondsTurn (σ) d v u) = true then ((((fX5_piecesOf (σ) d v u true) &&& (((1 : Int32) <<< (a1 &&& 31)) ^^^ (-1))) ||| ((1 : Int32) <<< (a2 &&& 31)))) else (((fX5_piecesOf (σ) d v u false) &&& (((1 : Int32) <<< (a2 &&& 31)) ^^^ (-1))))) = moB σ u d v a1 a2 from rfl]
              refine x_iast (G := G) hx hb hX.1 hW hS hv_A6_1899 ((x_atI hG2).1) dX5_move_157 (fun H locs hW hS => ?_)
              rw [show (fX5_at (sgU (sgU σ 16 u (nI (d + 1))) 17 (61 * u + (d + 1)) (moA σ u d v a1 a2)) (d + 1) v u).toNatClampNeg = 61 * u + (d + 1) from ((x_atI hG2).2)] at hW
              obtain ⟨E17, eE17⟩ : ∃ z, z = xU E15 (A6 18) (.inl (G.2.1 0, 732, .inl (upd (σ 18) (61 * u + (d + 1)) (moB σ u d v a1 a2)))) := ⟨_, rfl⟩
              have hW : xW G E17 H := by rw [eE17]; exact hW
              have hv_o999 : E17 o = some (.inr (5, [.int (σ 0 0), .ref (A6 1), .ref (A6 2), .ref (A6 3), .ref (A6 4), .int (σ 5 0), .ref (A6 6), .ref (A6 7), .ref (A6 8), .ref (A6 9), .int (σ 10 0), .ref (A6 11), .ref (A6 12), .ref (A6 13), .ref (A6 14), .ref (A6 15), .ref (A6 16), .ref (A6 17), .ref (A6 18), .int (nI (A6 19))])) := by rw [eE17]; exact xU_of hv_o99 hv_A6_1899 (fun h => by simp at h)
              have hv_A6_1999 : E17 (A6 1) = some (.inl (G.2.1 0, 8, .inl (σ 1))) := by rw [eE17]; exact (xU_ne _ _ (hAA6.1.2.2.2.2.2.2.2.2.2.2.2.2.2.2)).trans hv_A6_199
              have hv_A6_2999 : E17 (A6 2) = some (.inl (G.2.1 0, 8, .inl (σ 2))) := by rw [eE17]; exact (xU_ne _ _ (hAA6.2.1.2.2.2.2.2.2.2.2.2.2.2.2.2)).trans hv_A6_299
              have hv_A6_3999 : E17 (A6 3) = some (.inl (G.2.1 0, 8, .inl (σ 3))) := by rw [eE17]; exact (xU_ne _ _ (hAA6.2.2.1.2.2.2.2.2.2.2.2.2.2.2.2)).trans hv_A6_399
              have hv_A6_4999 : E17 (A6 4) = some (.inl (G.2.1 0, 8, .inl (σ 4))) := by rw [eE17]; exact (xU_ne _ _ (hAA6.2.2.2.1.2.2.2.2.2.2.2.2.2.2.2)).trans hv_A6_499
              have hv_A6_6999 : E17 (A6 6) = some (.inl (G.2.1 0, 4, .inl (σ 6))) := by rw [eE17]; exact (xU_ne _ _ (hAA6.2.2.2.2.1.2.2.2.2.2.2.2.2.2.2)).trans hv_A6_699
              have hv_A6_7999 : E17 (A6 7) = some (.inl (G.2.1 0, 4, .inl (σ 7))) := by rw [eE17]; exact (xU_ne _ _ (hAA6.2.2.2.2.2.1.2.2.2.2.2.2.2.2.2)).trans hv_A6_799
              have hv_A6_8999 : E17 (A6 8) = some (.inl (G.2.1 0, 4, .inl (σ 8))) := by rw [eE17]; exact (xU_ne _ _ (hAA6.2.2.2.2.2.2.1.2.2.2.2.2.2.2.2)).trans hv_A6_899
              have hv_A6_9999 : E17 (A6 9) = some (.inl (G.2.1 0, 4, .inl (σ 9))) := by rw [eE17]; exact (xU_ne _ _ (hAA6.2.2.2.2.2.2.2.1.2.2.2.2.2.2.2)).trans hv_A6_999
              have hv_A6_11999 : E17 (A6 11) = some (.inl (G.2.1 0, 12, .inl (σ 11))) := by rw [eE17]; exact (xU_ne _ _ (hAA6.2.2.2.2.2.2.2.2.1.2.2.2.2.2.2)).trans hv_A6_1199
              have hv_A6_12999 : E17 (A6 12) = some (.inl (G.2.1 0, 12, .inl (σ 12))) := by rw [eE17]; exact (xU_ne _ _ (hAA6.2.2.2.2.2.2.2.2.2.1.2.2.2.2.2)).trans hv_A6_1299
              have hv_A6_13999 : E17 (A6 13) = some (.inl (G.2.1 0, 12, .inl (σ 13))) := by rw [eE17]; exact (xU_ne _ _ (hAA6.2.2.2.2.2.2.2.2.2.2.1.2.2.2.2)).trans hv_A6_1399
              have hv_A6_14999 : E17 (A6 14) = some (.inl (G.2.1 0, 12, .inl (σ 14))) := by rw [eE17]; exact (xU_ne _ _ (hAA6.2.2.2.2.2.2.2.2.2.2.2.1.2.2.2)).trans hv_A6_1499
              have hv_A6_15999 : E17 (A6 15) = some (.inl (G.2.1 0, 12, .inl (σ 15))) := by rw [eE17]; exact (xU_ne _ _ (hAA6.2.2.2.2.2.2.2.2.2.2.2.2.1.2.2)).trans hv_A6_1599
              have hu_A6_16999 : E17 (A6 16) = some (.inl (G.2.1 0, 12, .inl (upd (σ 16) u (nI (d + 1))))) := by rw [eE17]; exact (xU_ne _ _ (hAA6.2.2.2.2.2.2.2.2.2.2.2.2.2.1.2)).trans hu_A6_1699
              have hv_A6_17999 : E17 (A6 17) = some (.inl (G.2.1 0, 732, .inl (upd (σ 17) (61 * u + (d + 1)) (moA σ u d v a1 a2)))) := by rw [eE17]; exact (xU_ne _ _ (hAA6.2.2.2.2.2.2.2.2.2.2.2.2.2.2)).trans hv_A6_1799
              have hv_A6_18999 : E17 (A6 18) = some (.inl (G.2.1 0, 732, .inl (upd (σ 18) (61 * u + (d + 1)) (moB σ u d v a1 a2)))) := by rw [eE17]; exact xU_self _ _ _
              have hFr : xFr tM E E17 := by rw [eE17]; exact xFr_put hFr hv_A6_1899 rfl _
              have hM3 : xMod G E17 o A6 (sgU (sgU (sgU σ 16 u (nI (d + 1))) 17 (61 * u + (d + 1)) (moA σ u d v a1 a2)) 18 (61 * u + (d + 1)) (moB σ u d v a1 a2)) := ⟨hv_o999, hv_A6_1999, hv_A6_2999, hv_A6_3999, hv_A6_4999, hv_A6_6999, hv_A6_7999, hv_A6_8999, hv_A6_9999, hv_A6_11999, hv_A6_12999, hv_A6_13999, hv_A6_14999, hv_A6_15999, hu_A6_16999, hv_A6_17999, hv_A6_18999⟩
              have hG3 : xGm (sgU (sgU (sgU σ 16 u (nI (d + 1))) 17 (61 * u + (d + 1)) (moA σ u d v a1 a2)) 18 (61 * u + (d + 1)) (moB σ u d v a1 a2)) u (d + 1) v := ⟨hG.1, show upd (σ 16) u (nI (d + 1)) u = _ from upd_s _ _ _, hd, hG.2.2.2.1, hG.2.2.2.2⟩
              have hC3 : xCd (sgU (sgU (sgU σ 16 u (nI (d + 1))) 17 (61 * u + (d + 1)) (moA σ u d v a1 a2)) 18 (61 * u + (d + 1)) (moB σ u d v a1 a2)) nC := hI.1
              refine lv_aload_n hx hb dX5_move_158 rfl (lv_at hl 3 rfl) ?_
              refine lv_aload_n hx hb dX5_move_159 rfl (lv_at hl 3 rfl) ?_
              refine va_get (D := G.1) (ci := 5) (v := .ref (A6 12)) (C := RX5) (T := TX5) (N := 20) hx hb hts hiX5 hown hX.1 (x1 hW hv_o999) 0 rfl rfl 12 (by decide) hf37 (fun _ h9 => h9) rfl dX5_move_160 ?_
              refine lv_iload_n hx hb dX5_move_163 rfl (lv_at hl 4 rfl) ?_
              refine x_ild (k := u) hx hb hX.1 hW hv_A6_12999 (vp_in_nI hG.1 (by omega)) (nI_clamp (by have := hG.1; omega)) dX5_move_164 ?_
              refine lv_aload_n hx hb dX5_move_165 rfl (lv_at hl 3 rfl) ?_
              refine va_get (D := G.1) (ci := 5) (v := .ref (A6 6)) (C := RX5) (T := TX5) (N := 20) hx hb hts hiX5 hown hX.1 (x1 hW hv_o999) 0 rfl rfl 6 (by decide) hf22 (fun _ h9 => h9) rfl dX5_move_166 ?_
              refine lv_aload_n hx hb dX5_move_169 rfl (lv_at hl 3 rfl) ?_
              refine va_get (D := G.1) (ci := 5) (v := .ref (A6 11)) (C := RX5) (T := TX5) (N := 20) hx hb hts hiX5 hown hX.1 (x1 hW hv_o999) 0 rfl rfl 11 (by decide) hf34 (fun _ h9 => h9) rfl dX5_move_170 ?_
              refine lv_iload_n hx hb dX5_move_173 rfl (lv_at hl 4 rfl) ?_
              refine x_ild (k := u) hx hb hX.1 hW hv_A6_11999 (vp_in_nI hG.1 (by omega)) (nI_clamp (by have := hG.1; omega)) dX5_move_174 ?_
              refine x_ild (k := v) hx hb hX.1 hW hv_A6_6999 (by rw [hG.2.2.2.1]; exact vp_in_nI hG.2.2.2.2 (by omega)) (by rw [hG.2.2.2.1]; exact nI_clamp (by have := hG.2.2.2.2; omega)) dX5_move_175 ?_
              refine lv_iload hx hb dX5_move_176 (lv_at hl 1 rfl) ?_
              refine lv_iload hx hb dX5_move_178 (lv_at hl 2 rfl) ?_
              refine lv_iload hx hb dX5_move_180 (lv_at hl 0 rfl) ?_
              refine x_join (ls' := ls) (rest' := [.int (((fX5_piecesOf (σ) d v u true) &&& (((1 : Int32) <<< (a1 &&& 31)) ^^^ (-1))) ||| ((1 : Int32) <<< (a2 &&& 31))), .int ((fX5_piecesOf (σ) d v u false) &&& (((1 : Int32) <<< (a2 &&& 31)) ^^^ (-1))), .int (σ 6 v), .int (σ 12 u), .ref o]) 190 (zI (if (fX5_isSecondsTurn (σ) d v u) = true then (false) else (true))) (fun v ev => ?_) (fun J => ?_)
              · subst ev
                refine x_callSe (va_runV (As := [.int (σ 12 u), .int (σ 6 v), .int ((fX5_piecesOf (σ) d v u false) &&& (((1 : Int32) <<< (a2 &&& 31)) ^^^ (-1))), .int (((fX5_piecesOf (σ) d v u true) &&& (((1 : Int32) <<< (a1 &&& 31)) ^^^ (-1))) ||| ((1 : Int32) <<< (a2 &&& 31))), .int (zI (if (fX5_isSecondsTurn (σ) d v u) = true then (false) else (true)))]) (rest := []) ⟨hx, hb, hml, hown, hts⟩ (kX5_moves l G _ (sgU (sgU (sgU σ 16 u (nI (d + 1))) 17 (61 * u + (d + 1)) (moA σ u d v a1 a2)) 18 (61 * u + (d + 1)) (moB σ u d v a1 a2)) o (σ 12 u) (σ 6 v) ((fX5_piecesOf (σ) d v u false) &&& (((1 : Int32) <<< (a2 &&& 31)) ^^^ (-1))) (((fX5_piecesOf (σ) d v u true) &&& (((1 : Int32) <<< (a1 &&& 31)) ^^^ (-1))) ||| ((1 : Int32) <<< (a2 &&& 31))) (if (fX5_isSecondsTurn (σ) d v u) = true then (false) else (true)) A6 hM3 nC hC3) (cwV 5 hts gX5_move_X5_moves rfl rfl rfl (by decide +kernel) ⟨Nat.le_of_ble_eq_true rfl, Nat.le_of_ble_eq_true rfl⟩) (x_preV hX hS hW hv_o999 rfl) rfl rfl hl.1 rfl (lv_room (Nat.le_of_ble_eq_true rfl)) dX5_move_190 ⟨Nat.le_of_ble_eq_true rfl, Nat.le_of_ble_eq_true rfl⟩) ?_
                refine x_ifz_ne (b := fX5_moves (sgU (sgU (sgU σ 16 u (nI (d + 1))) 17 (61 * u + (d + 1)) (moA σ u d v a1 a2)) 18 (61 * u + (d + 1)) (moB σ u d v a1 a2)) (σ 12 u) (σ 6 v) ((fX5_piecesOf (σ) d v u false) &&& (((1 : Int32) <<< (a2 &&& 31)) ^^^ (-1))) (((fX5_piecesOf (σ) d v u true) &&& (((1 : Int32) <<< (a1 &&& 31)) ^^^ (-1))) ||| ((1 : Int32) <<< (a2 &&& 31))) (if (fX5_isSecondsTurn (σ) d v u) = true then (false) else (true))) (tgt := 215) hx hb dX5_move_193 (by decide) (fun c_19 => ?_) (fun c_19 => ?_)
                · refine lv_aload_n hx hb dX5_move_215 rfl (lv_at hl 3 rfl) ?_
                  refine lv_iload_n hx hb dX5_move_216 rfl (lv_at hl 4 rfl) ?_
                  refine x_callSe (va_runV (As := [.int (nI u)]) (rest := []) ⟨hx, hb, hml, hown, hts⟩ (kX5_times l G _ (sgU (sgU (sgU σ 16 u (nI (d + 1))) 17 (61 * u + (d + 1)) (moA σ u d v a1 a2)) 18 (61 * u + (d + 1)) (moB σ u d v a1 a2)) (d + 1) v o u A6 hM3 hG3) (cwV 1 hts gX5_move_X5_times rfl rfl rfl (by decide +kernel) ⟨Nat.le_of_ble_eq_true rfl, Nat.le_of_ble_eq_true rfl⟩) (x_preV hX hS hW hv_o999 rfl) rfl rfl hl.1 rfl (lv_room (Nat.le_of_ble_eq_true rfl)) dX5_move_217 ⟨Nat.le_of_ble_eq_true rfl, Nat.le_of_ble_eq_true rfl⟩) ?_
                  refine lv_iconst (v := 3) hx hb dX5_move_220 (by decide) ?_
                  refine lv_icmp_lt (tgt := 249) hx hb dX5_move_221 (by decide) (fun c_20 => ?_) (fun c_20 => ?_)
                  · refine lv_aload_n hx hb dX5_move_249 rfl (lv_at hl 3 rfl) ?_
                    refine va_get (D := G.1) (ci := 5) (v := .ref (A6 16)) (C := RX5) (T := TX5) (N := 20) hx hb hts hiX5 hown hX.1 (x1 hW hv_o999) 0 rfl rfl 16 (by decide) hf49 (fun _ h9 => h9) rfl dX5_move_250 ?_
                    refine lv_iload_n hx hb dX5_move_253 rfl (lv_at hl 4 rfl) ?_
                    refine x_ild (k := u) hx hb hX.1 hW hu_A6_16999 (vp_in_nI hG.1 (by omega)) (nI_clamp (by have := hG.1; omega)) dX5_move_254 ?_
                    refine lv_bipush (v := 60) hx hb dX5_move_255 (by decide) ?_
                    refine lv_icmp_ne (tgt := 267) hx hb dX5_move_257 (by decide) (fun c_21 => ?_) (fun c_21 => ?_)
                    · refine lv_aload_n hx hb dX5_move_267 rfl (lv_at hl 3 rfl) ?_
                      refine va_get (D := G.1) (ci := 5) (v := .ref (A6 15)) (C := RX5) (T := TX5) (N := 20) hx hb hts hiX5 hown hX.1 (x1 hW hv_o999) 0 rfl rfl 15 (by decide) hf46 (fun _ h9 => h9) rfl dX5_move_268 ?_
                      refine lv_iload_n hx hb dX5_move_271 rfl (lv_at hl 4 rfl) ?_
                      refine x_ild (k := u) hx hb hX.1 hW hv_A6_15999 (vp_in_nI hG.1 (by omega)) (nI_clamp (by have := hG.1; omega)) dX5_move_272 ?_
                      have hf22 : E17 (A6 15) = some (.inl (G.2.1 0, 12, .inl (upd (σ 15) u (σ 15 u)))) := by rw [upd_id]; exact hv_A6_15999
                      have hf23 : E17 (A6 9) = some (.inl (G.2.1 0, 4, .inl (upd (σ 9) v (σ 9 v)))) := by rw [upd_id]; exact hv_A6_9999
                      exact W.widen (k := 0) (n := 0) (Nat.le_of_ble_eq_true rfl) (Nat.le_of_ble_eq_true rfl) (W.iret (v := σ 15 u) hx hb hr (fun t ht hw => ⟨⟨_, E17, rfl, ⟨(σ 15 u, 0, σ 9 v), (show _ = ((σ 15 u, 0, σ 9 v) : Int32 × Nat × Int32) from by rw [hUu, hDd, hVv]; unfold mX5_move; rw [if_pos c_7, if_neg (Bool.eq_false_iff.mp c_8), if_pos c_12, if_pos c_19, if_pos c_20, if_neg c_21]), rfl, (show xMd G E17 o (sgMove σ ((nI u).toNatClampNeg) ((σ 16 (nI u).toNatClampNeg).toNatClampNeg) ((σ 11 (nI u).toNatClampNeg).toNatClampNeg) (moA σ ((nI u).toNatClampNeg) ((σ 16 (nI u).toNatClampNeg).toNatClampNeg) ((σ 11 (nI u).toNatClampNeg).toNatClampNeg) a1 a2) (moB σ ((nI u).toNatClampNeg) ((σ 16 (nI u).toNatClampNeg).toNatClampNeg) ((σ 11 (nI u).toNatClampNeg).toNatClampNeg) a1 a2) (σ 15 u) (σ 9 v)) 0 from (by rw [hUu, hDd, hVv]; exact ⟨A6, ⟨hv_o999, hv_A6_1999, hv_A6_2999, hv_A6_3999, hv_A6_4999, hv_A6_6999, hv_A6_7999, hv_A6_8999, hf23, hv_A6_11999, hv_A6_12999, hv_A6_13999, hv_A6_14999, hf22, hu_A6_16999, hv_A6_17999, hv_A6_18999⟩, hAA6, hzA6⟩)), hFr⟩, (show xW G E17 t.heap from by rw [ht]; exact hW)⟩, hS.F ht⟩) hS.2.2 dX5_move_273)
                    · refine lv_aload_n hx hb dX5_move_260 rfl (lv_at hl 3 rfl) ?_
                      refine va_get (D := G.1) (ci := 5) (v := .ref (A6 15)) (C := RX5) (T := TX5) (N := 20) hx hb hts hiX5 hown hX.1 (x1 hW hv_o999) 0 rfl rfl 15 (by decide) hf46 (fun _ h9 => h9) rfl dX5_move_261 ?_
                      refine lv_iload_n hx hb dX5_move_264 rfl (lv_at hl 4 rfl) ?_
                      refine lv_iconst (v := 3) hx hb dX5_move_265 (by decide) ?_
                      refine x_iast (G := G) hx hb hX.1 hW hS hv_A6_15999 (vp_in_nI hG.1 (by omega)) dX5_move_266 (fun H locs hW hS => ?_)
                      rw [show (nI u).toNatClampNeg = u from (nI_clamp (by have := hG.1; omega))] at hW
                      obtain ⟨E24, eE24⟩ : ∃ z, z = xU E17 (A6 15) (.inl (G.2.1 0, 12, .inl (upd (σ 15) u 3))) := ⟨_, rfl⟩
                      have hW : xW G E24 H := by rw [eE24]; exact hW
                      have hv_o9999 : E24 o = some (.inr (5, [.int (σ 0 0), .ref (A6 1), .ref (A6 2), .ref (A6 3), .ref (A6 4), .int (σ 5 0), .ref (A6 6), .ref (A6 7), .ref (A6 8), .ref (A6 9), .int (σ 10 0), .ref (A6 11), .ref (A6 12), .ref (A6 13), .ref (A6 14), .ref (A6 15), .ref (A6 16), .ref (A6 17), .ref (A6 18), .int (nI (A6 19))])) := by rw [eE24]; exact xU_of hv_o999 hv_A6_15999 (fun h => by simp at h)
                      have hv_A6_19999 : E24 (A6 1) = some (.inl (G.2.1 0, 8, .inl (σ 1))) := by rw [eE24]; exact (xU_ne _ _ (hAA6.1.2.2.2.2.2.2.2.2.2.2.2.1)).trans hv_A6_1999
                      have hv_A6_29999 : E24 (A6 2) = some (.inl (G.2.1 0, 8, .inl (σ 2))) := by rw [eE24]; exact (xU_ne _ _ (hAA6.2.1.2.2.2.2.2.2.2.2.2.2.1)).trans hv_A6_2999
                      have hv_A6_39999 : E24 (A6 3) = some (.inl (G.2.1 0, 8, .inl (σ 3))) := by rw [eE24]; exact (xU_ne _ _ (hAA6.2.2.1.2.2.2.2.2.2.2.2.2.1)).trans hv_A6_3999
                      have hv_A6_49999 : E24 (A6 4) = some (.inl (G.2.1 0, 8, .inl (σ 4))) := by rw [eE24]; exact (xU_ne _ _ (hAA6.2.2.2.1.2.2.2.2.2.2.2.2.1)).trans hv_A6_4999
                      have hv_A6_69999 : E24 (A6 6) = some (.inl (G.2.1 0, 4, .inl (σ 6))) := by rw [eE24]; exact (xU_ne _ _ (hAA6.2.2.2.2.1.2.2.2.2.2.2.2.1)).trans hv_A6_6999
                      have hv_A6_79999 : E24 (A6 7) = some (.inl (G.2.1 0, 4, .inl (σ 7))) := by rw [eE24]; exact (xU_ne _ _ (hAA6.2.2.2.2.2.1.2.2.2.2.2.2.1)).trans hv_A6_7999
                      have hv_A6_89999 : E24 (A6 8) = some (.inl (G.2.1 0, 4, .inl (σ 8))) := by rw [eE24]; exact (xU_ne _ _ (hAA6.2.2.2.2.2.2.1.2.2.2.2.2.1)).trans hv_A6_8999
                      have hv_A6_99999 : E24 (A6 9) = some (.inl (G.2.1 0, 4, .inl (σ 9))) := by rw [eE24]; exact (xU_ne _ _ (hAA6.2.2.2.2.2.2.2.1.2.2.2.2.1)).trans hv_A6_9999
                      have hv_A6_119999 : E24 (A6 11) = some (.inl (G.2.1 0, 12, .inl (σ 11))) := by rw [eE24]; exact (xU_ne _ _ (hAA6.2.2.2.2.2.2.2.2.1.2.2.2.1)).trans hv_A6_11999
                      have hv_A6_129999 : E24 (A6 12) = some (.inl (G.2.1 0, 12, .inl (σ 12))) := by rw [eE24]; exact (xU_ne _ _ (hAA6.2.2.2.2.2.2.2.2.2.1.2.2.1)).trans hv_A6_12999
                      have hv_A6_139999 : E24 (A6 13) = some (.inl (G.2.1 0, 12, .inl (σ 13))) := by rw [eE24]; exact (xU_ne _ _ (hAA6.2.2.2.2.2.2.2.2.2.2.1.2.1)).trans hv_A6_13999
                      have hv_A6_149999 : E24 (A6 14) = some (.inl (G.2.1 0, 12, .inl (σ 14))) := by rw [eE24]; exact (xU_ne _ _ (hAA6.2.2.2.2.2.2.2.2.2.2.2.1.1)).trans hv_A6_14999
                      have hu_A6_169999 : E24 (A6 16) = some (.inl (G.2.1 0, 12, .inl (upd (σ 16) u (nI (d + 1))))) := by rw [eE24]; exact (xU_ne _ _ (Ne.symm (hAA6.2.2.2.2.2.2.2.2.2.2.2.2.1.1))).trans hu_A6_16999
                      have hv_A6_179999 : E24 (A6 17) = some (.inl (G.2.1 0, 732, .inl (upd (σ 17) (61 * u + (d + 1)) (moA σ u d v a1 a2)))) := by rw [eE24]; exact (xU_ne _ _ (Ne.symm (hAA6.2.2.2.2.2.2.2.2.2.2.2.2.1.2.1))).trans hv_A6_17999
                      have hv_A6_189999 : E24 (A6 18) = some (.inl (G.2.1 0, 732, .inl (upd (σ 18) (61 * u + (d + 1)) (moB σ u d v a1 a2)))) := by rw [eE24]; exact (xU_ne _ _ (Ne.symm (hAA6.2.2.2.2.2.2.2.2.2.2.2.2.1.2.2))).trans hv_A6_18999
                      have hv_A6_159999 : E24 (A6 15) = some (.inl (G.2.1 0, 12, .inl (upd (σ 15) u 3))) := by rw [eE24]; exact xU_self _ _ _
                      have hFr : xFr tM E E24 := by rw [eE24]; exact xFr_put hFr hv_A6_15999 rfl _
                      refine lv_aload_n hx hb dX5_move_267 rfl (lv_at hl 3 rfl) ?_
                      refine va_get (D := G.1) (ci := 5) (v := .ref (A6 15)) (C := RX5) (T := TX5) (N := 20) hx hb hts hiX5 hown hX.1 (x1 hW hv_o9999) 0 rfl rfl 15 (by decide) hf46 (fun _ h9 => h9) rfl dX5_move_268 ?_
                      refine lv_iload_n hx hb dX5_move_271 rfl (lv_at hl 4 rfl) ?_
                      refine x_ild (k := u) hx hb hX.1 hW hv_A6_159999 (vp_in_nI hG.1 (by omega)) (nI_clamp (by have := hG.1; omega)) dX5_move_272 ?_
                      rw [upd_s]
                      have hf25 : E24 (A6 9) = some (.inl (G.2.1 0, 4, .inl (upd (σ 9) v (σ 9 v)))) := by rw [upd_id]; exact hv_A6_99999
                      exact W.widen (k := 0) (n := 0) (Nat.le_of_ble_eq_true rfl) (Nat.le_of_ble_eq_true rfl) (W.iret (v := 3) hx hb hr (fun t ht hw => ⟨⟨_, E24, rfl, ⟨(3, 0, σ 9 v), (show _ = ((3, 0, σ 9 v) : Int32 × Nat × Int32) from by rw [hUu, hDd, hVv]; unfold mX5_move; rw [if_pos c_7, if_neg (Bool.eq_false_iff.mp c_8), if_pos c_12, if_pos c_19, if_pos c_20, if_pos c_21]), rfl, (show xMd G E24 o (sgMove σ ((nI u).toNatClampNeg) ((σ 16 (nI u).toNatClampNeg).toNatClampNeg) ((σ 11 (nI u).toNatClampNeg).toNatClampNeg) (moA σ ((nI u).toNatClampNeg) ((σ 16 (nI u).toNatClampNeg).toNatClampNeg) ((σ 11 (nI u).toNatClampNeg).toNatClampNeg) a1 a2) (moB σ ((nI u).toNatClampNeg) ((σ 16 (nI u).toNatClampNeg).toNatClampNeg) ((σ 11 (nI u).toNatClampNeg).toNatClampNeg) a1 a2) 3 (σ 9 v)) 0 from (by rw [hUu, hDd, hVv]; exact ⟨A6, ⟨hv_o9999, hv_A6_19999, hv_A6_29999, hv_A6_39999, hv_A6_49999, hv_A6_69999, hv_A6_79999, hv_A6_89999, hf25, hv_A6_119999, hv_A6_129999, hv_A6_139999, hv_A6_149999, hv_A6_159999, hu_A6_169999, hv_A6_179999, hv_A6_189999⟩, hAA6, hzA6⟩)), hFr⟩, (show xW G E24 t.heap from by rw [ht]; exact hW)⟩, hS.F ht⟩) hS.2.2 dX5_move_273)
                  · refine lv_aload_n hx hb dX5_move_224 rfl (lv_at hl 3 rfl) ?_
                    refine va_get (D := G.1) (ci := 5) (v := .ref (A6 15)) (C := RX5) (T := TX5) (N := 20) hx hb hts hiX5 hown hX.1 (x1 hW hv_o999) 0 rfl rfl 15 (by decide) hf46 (fun _ h9 => h9) rfl dX5_move_225 ?_
                    refine lv_iload_n hx hb dX5_move_228 rfl (lv_at hl 4 rfl) ?_
                    refine lv_iconst (v := 3) hx hb dX5_move_229 (by decide) ?_
                    refine x_iast (G := G) hx hb hX.1 hW hS hv_A6_15999 (vp_in_nI hG.1 (by omega)) dX5_move_230 (fun H locs hW hS => ?_)
                    rw [show (nI u).toNatClampNeg = u from (nI_clamp (by have := hG.1; omega))] at hW
                    obtain ⟨E26, eE26⟩ : ∃ z, z = xU E17 (A6 15) (.inl (G.2.1 0, 12, .inl (upd (σ 15) u 3))) := ⟨_, rfl⟩
                    have hW : xW G E26 H := by rw [eE26]; exact hW
                    have hv_o9999 : E26 o = some (.inr (5, [.int (σ 0 0), .ref (A6 1), .ref (A6 2), .ref (A6 3), .ref (A6 4), .int (σ 5 0), .ref (A6 6), .ref (A6 7), .ref (A6 8), .ref (A6 9), .int (σ 10 0), .ref (A6 11), .ref (A6 12), .ref (A6 13), .ref (A6 14), .ref (A6 15), .ref (A6 16), .ref (A6 17), .ref (A6 18), .int (nI (A6 19))])) := by rw [eE26]; exact xU_of hv_o999 hv_A6_15999 (fun h => by simp at h)
                    have hv_A6_19999 : E26 (A6 1) = some (.inl (G.2.1 0, 8, .inl (σ 1))) := by rw [eE26]; exact (xU_ne _ _ (hAA6.1.2.2.2.2.2.2.2.2.2.2.2.1)).trans hv_A6_1999
                    have hv_A6_29999 : E26 (A6 2) = some (.inl (G.2.1 0, 8, .inl (σ 2))) := by rw [eE26]; exact (xU_ne _ _ (hAA6.2.1.2.2.2.2.2.2.2.2.2.2.1)).trans hv_A6_2999
                    have hv_A6_39999 : E26 (A6 3) = some (.inl (G.2.1 0, 8, .inl (σ 3))) := by rw [eE26]; exact (xU_ne _ _ (hAA6.2.2.1.2.2.2.2.2.2.2.2.2.1)).trans hv_A6_3999
                    have hv_A6_49999 : E26 (A6 4) = some (.inl (G.2.1 0, 8, .inl (σ 4))) := by rw [eE26]; exact (xU_ne _ _ (hAA6.2.2.2.1.2.2.2.2.2.2.2.2.1)).trans hv_A6_4999
                    have hv_A6_69999 : E26 (A6 6) = some (.inl (G.2.1 0, 4, .inl (σ 6))) := by rw [eE26]; exact (xU_ne _ _ (hAA6.2.2.2.2.1.2.2.2.2.2.2.2.1)).trans hv_A6_6999
                    have hv_A6_79999 : E26 (A6 7) = some (.inl (G.2.1 0, 4, .inl (σ 7))) := by rw [eE26]; exact (xU_ne _ _ (hAA6.2.2.2.2.2.1.2.2.2.2.2.2.1)).trans hv_A6_7999
                    have hv_A6_89999 : E26 (A6 8) = some (.inl (G.2.1 0, 4, .inl (σ 8))) := by rw [eE26]; exact (xU_ne _ _ (hAA6.2.2.2.2.2.2.1.2.2.2.2.2.1)).trans hv_A6_8999
                    have hv_A6_99999 : E26 (A6 9) = some (.inl (G.2.1 0, 4, .inl (σ 9))) := by rw [eE26]; exact (xU_ne _ _ (hAA6.2.2.2.2.2.2.2.1.2.2.2.2.1)).trans hv_A6_9999
                    have hv_A6_119999 : E26 (A6 11) = some (.inl (G.2.1 0, 12, .inl (σ 11))) := by rw [eE26]; exact (xU_ne _ _ (hAA6.2.2.2.2.2.2.2.2.1.2.2.2.1)).trans hv_A6_11999
                    have hv_A6_129999 : E26 (A6 12) = some (.inl (G.2.1 0, 12, .inl (σ 12))) := by rw [eE26]; exact (xU_ne _ _ (hAA6.2.2.2.2.2.2.2.2.2.1.2.2.1)).trans hv_A6_12999
                    have hv_A6_139999 : E26 (A6 13) = some (.inl (G.2.1 0, 12, .inl (σ 13))) := by rw [eE26]; exact (xU_ne _ _ (hAA6.2.2.2.2.2.2.2.2.2.2.1.2.1)).trans hv_A6_13999
                    have hv_A6_149999 : E26 (A6 14) = some (.inl (G.2.1 0, 12, .inl (σ 14))) := by rw [eE26]; exact (xU_ne _ _ (hAA6.2.2.2.2.2.2.2.2.2.2.2.1.1)).trans hv_A6_14999
                    have hu_A6_169999 : E26 (A6 16) = some (.inl (G.2.1 0, 12, .inl (upd (σ 16) u (nI (d + 1))))) := by rw [eE26]; exact (xU_ne _ _ (Ne.symm (hAA6.2.2.2.2.2.2.2.2.2.2.2.2.1.1))).trans hu_A6_16999
                    have hv_A6_179999 : E26 (A6 17) = some (.inl (G.2.1 0, 732, .inl (upd (σ 17) (61 * u + (d + 1)) (moA σ u d v a1 a2)))) := by rw [eE26]; exact (xU_ne _ _ (Ne.symm (hAA6.2.2.2.2.2.2.2.2.2.2.2.2.1.2.1))).trans hv_A6_17999
                    have hv_A6_189999 : E26 (A6 18) = some (.inl (G.2.1 0, 732, .inl (upd (σ 18) (61 * u + (d + 1)) (moB σ u d v a1 a2)))) := by rw [eE26]; exact (xU_ne _ _ (Ne.symm (hAA6.2.2.2.2.2.2.2.2.2.2.2.2.1.2.2))).trans hv_A6_18999
                    have hv_A6_159999 : E26 (A6 15) = some (.inl (G.2.1 0, 12, .inl (upd (σ 15) u 3))) := by rw [eE26]; exact xU_self _ _ _
                    have hFr : xFr tM E E26 := by rw [eE26]; exact xFr_put hFr hv_A6_15999 rfl _
                    refine lv_aload_n hx hb dX5_move_231 rfl (lv_at hl 3 rfl) ?_
                    refine va_get (D := G.1) (ci := 5) (v := .ref (A6 9)) (C := RX5) (T := TX5) (N := 20) hx hb hts hiX5 hown hX.1 (x1 hW hv_o9999) 0 rfl rfl 9 (by decide) hf31 (fun _ h9 => h9) rfl dX5_move_232 ?_
                    refine lv_aload_n hx hb dX5_move_235 rfl (lv_at hl 3 rfl) ?_
                    refine va_get (D := G.1) (ci := 5) (v := .ref (A6 11)) (C := RX5) (T := TX5) (N := 20) hx hb hts hiX5 hown hX.1 (x1 hW hv_o9999) 0 rfl rfl 11 (by decide) hf34 (fun _ h9 => h9) rfl dX5_move_236 ?_
                    refine lv_iload_n hx hb dX5_move_239 rfl (lv_at hl 4 rfl) ?_
                    refine x_ild (k := u) hx hb hX.1 hW hv_A6_119999 (vp_in_nI hG.1 (by omega)) (nI_clamp (by have := hG.1; omega)) dX5_move_240 ?_
                    refine lv_dup2_11 hx hb dX5_move_241 rfl rfl ?_
                    refine x_ild (k := v) hx hb hX.1 hW hv_A6_99999 (by rw [hG.2.2.2.1]; exact vp_in_nI hG.2.2.2.2 (by omega)) (by rw [hG.2.2.2.1]; exact nI_clamp (by have := hG.2.2.2.2; omega)) dX5_move_242 ?_
                    refine lv_iconst (v := 1) hx hb dX5_move_243 (by decide) ?_
                    refine lv_iadd hx hb dX5_move_244 ?_
                    refine x_iast (G := G) hx hb hX.1 hW hS hv_A6_99999 (by rw [hG.2.2.2.1]; exact vp_in_nI hG.2.2.2.2 (by omega)) dX5_move_245 (fun H locs hW hS => ?_)
                    rw [show (σ 11 u).toNatClampNeg = v from (by rw [hG.2.2.2.1]; exact nI_clamp (by have := hG.2.2.2.2; omega))] at hW
                    obtain ⟨E27, eE27⟩ : ∃ z, z = xU E26 (A6 9) (.inl (G.2.1 0, 4, .inl (upd (σ 9) v ((σ 9 v) + 1)))) := ⟨_, rfl⟩
                    have hW : xW G E27 H := by rw [eE27]; exact hW
                    have hv_o99999 : E27 o = some (.inr (5, [.int (σ 0 0), .ref (A6 1), .ref (A6 2), .ref (A6 3), .ref (A6 4), .int (σ 5 0), .ref (A6 6), .ref (A6 7), .ref (A6 8), .ref (A6 9), .int (σ 10 0), .ref (A6 11), .ref (A6 12), .ref (A6 13), .ref (A6 14), .ref (A6 15), .ref (A6 16), .ref (A6 17), .ref (A6 18), .int (nI (A6 19))])) := by rw [eE27]; exact xU_of hv_o9999 hv_A6_99999 (fun h => by simp at h)
                    have hv_A6_199999 : E27 (A6 1) = some (.inl (G.2.1 0, 8, .inl (σ 1))) := by rw [eE27]; exact (xU_ne _ _ (hAA6.1.2.2.2.2.2.2.1)).trans hv_A6_19999
                    have hv_A6_299999 : E27 (A6 2) = some (.inl (G.2.1 0, 8, .inl (σ 2))) := by rw [eE27]; exact (xU_ne _ _ (hAA6.2.1.2.2.2.2.2.1)).trans hv_A6_29999
                    have hv_A6_399999 : E27 (A6 3) = some (.inl (G.2.1 0, 8, .inl (σ 3))) := by rw [eE27]; exact (xU_ne _ _ (hAA6.2.2.1.2.2.2.2.1)).trans hv_A6_39999
                    have hv_A6_499999 : E27 (A6 4) = some (.inl (G.2.1 0, 8, .inl (σ 4))) := by rw [eE27]; exact (xU_ne _ _ (hAA6.2.2.2.1.2.2.2.1)).trans hv_A6_49999
                    have hv_A6_699999 : E27 (A6 6) = some (.inl (G.2.1 0, 4, .inl (σ 6))) := by rw [eE27]; exact (xU_ne _ _ (hAA6.2.2.2.2.1.2.2.1)).trans hv_A6_69999
                    have hv_A6_799999 : E27 (A6 7) = some (.inl (G.2.1 0, 4, .inl (σ 7))) := by rw [eE27]; exact (xU_ne _ _ (hAA6.2.2.2.2.2.1.2.1)).trans hv_A6_79999
                    have hv_A6_899999 : E27 (A6 8) = some (.inl (G.2.1 0, 4, .inl (σ 8))) := by rw [eE27]; exact (xU_ne _ _ (hAA6.2.2.2.2.2.2.1.1)).trans hv_A6_89999
                    have hv_A6_1199999 : E27 (A6 11) = some (.inl (G.2.1 0, 12, .inl (σ 11))) := by rw [eE27]; exact (xU_ne _ _ (Ne.symm (hAA6.2.2.2.2.2.2.2.1.1))).trans hv_A6_119999
                    have hv_A6_1299999 : E27 (A6 12) = some (.inl (G.2.1 0, 12, .inl (σ 12))) := by rw [eE27]; exact (xU_ne _ _ (Ne.symm (hAA6.2.2.2.2.2.2.2.1.2.1))).trans hv_A6_129999
                    have hv_A6_1399999 : E27 (A6 13) = some (.inl (G.2.1 0, 12, .inl (σ 13))) := by rw [eE27]; exact (xU_ne _ _ (Ne.symm (hAA6.2.2.2.2.2.2.2.1.2.2.1))).trans hv_A6_139999
                    have hv_A6_1499999 : E27 (A6 14) = some (.inl (G.2.1 0, 12, .inl (σ 14))) := by rw [eE27]; exact (xU_ne _ _ (Ne.symm (hAA6.2.2.2.2.2.2.2.1.2.2.2.1))).trans hv_A6_149999
                    have hv_A6_1599999 : E27 (A6 15) = some (.inl (G.2.1 0, 12, .inl (upd (σ 15) u 3))) := by rw [eE27]; exact (xU_ne _ _ (Ne.symm (hAA6.2.2.2.2.2.2.2.1.2.2.2.2.1))).trans hv_A6_159999
                    have hu_A6_1699999 : E27 (A6 16) = some (.inl (G.2.1 0, 12, .inl (upd (σ 16) u (nI (d + 1))))) := by rw [eE27]; exact (xU_ne _ _ (Ne.symm (hAA6.2.2.2.2.2.2.2.1.2.2.2.2.2.1))).trans hu_A6_169999
                    have hv_A6_1799999 : E27 (A6 17) = some (.inl (G.2.1 0, 732, .inl (upd (σ 17) (61 * u + (d + 1)) (moA σ u d v a1 a2)))) := by rw [eE27]; exact (xU_ne _ _ (Ne.symm (hAA6.2.2.2.2.2.2.2.1.2.2.2.2.2.2.1))).trans hv_A6_179999
                    have hv_A6_1899999 : E27 (A6 18) = some (.inl (G.2.1 0, 732, .inl (upd (σ 18) (61 * u + (d + 1)) (moB σ u d v a1 a2)))) := by rw [eE27]; exact (xU_ne _ _ (Ne.symm (hAA6.2.2.2.2.2.2.2.1.2.2.2.2.2.2.2))).trans hv_A6_189999
                    have hv_A6_999999 : E27 (A6 9) = some (.inl (G.2.1 0, 4, .inl (upd (σ 9) v ((σ 9 v) + 1)))) := by rw [eE27]; exact xU_self _ _ _
                    have hFr : xFr tM E E27 := by rw [eE27]; exact xFr_put hFr hv_A6_99999 rfl _
                    refine lv_goto (tgt := 267) hx hb dX5_move_246 (by decide) ?_
                    refine lv_aload_n hx hb dX5_move_267 rfl (lv_at hl 3 rfl) ?_
                    refine va_get (D := G.1) (ci := 5) (v := .ref (A6 15)) (C := RX5) (T := TX5) (N := 20) hx hb hts hiX5 hown hX.1 (x1 hW hv_o99999) 0 rfl rfl 15 (by decide) hf46 (fun _ h9 => h9) rfl dX5_move_268 ?_
                    refine lv_iload_n hx hb dX5_move_271 rfl (lv_at hl 4 rfl) ?_
                    refine x_ild (k := u) hx hb hX.1 hW hv_A6_1599999 (vp_in_nI hG.1 (by omega)) (nI_clamp (by have := hG.1; omega)) dX5_move_272 ?_
                    rw [upd_s]
                    exact W.widen (k := 0) (n := 0) (Nat.le_of_ble_eq_true rfl) (Nat.le_of_ble_eq_true rfl) (W.iret (v := 3) hx hb hr (fun t ht hw => ⟨⟨_, E27, rfl, ⟨(3, 0, ((σ 9 v) + 1)), (show _ = ((3, 0, ((σ 9 v) + 1)) : Int32 × Nat × Int32) from by rw [hUu, hDd, hVv]; unfold mX5_move; rw [if_pos c_7, if_neg (Bool.eq_false_iff.mp c_8), if_pos c_12, if_pos c_19, if_neg c_20]), rfl, (show xMd G E27 o (sgMove σ ((nI u).toNatClampNeg) ((σ 16 (nI u).toNatClampNeg).toNatClampNeg) ((σ 11 (nI u).toNatClampNeg).toNatClampNeg) (moA σ ((nI u).toNatClampNeg) ((σ 16 (nI u).toNatClampNeg).toNatClampNeg) ((σ 11 (nI u).toNatClampNeg).toNatClampNeg) a1 a2) (moB σ ((nI u).toNatClampNeg) ((σ 16 (nI u).toNatClampNeg).toNatClampNeg) ((σ 11 (nI u).toNatClampNeg).toNatClampNeg) a1 a2) 3 ((σ 9 v) + 1)) 0 from (by rw [hUu, hDd, hVv]; exact ⟨A6, ⟨hv_o99999, hv_A6_199999, hv_A6_299999, hv_A6_399999, hv_A6_499999, hv_A6_699999, hv_A6_799999, hv_A6_899999, hv_A6_999999, hv_A6_1199999, hv_A6_1299999, hv_A6_1399999, hv_A6_1499999, hv_A6_1599999, hu_A6_1699999, hv_A6_1799999, hv_A6_1899999⟩, hAA6, hzA6⟩)), hFr⟩, (show xW G E27 t.heap from by rw [ht]; exact hW)⟩, hS.F ht⟩) hS.2.2 dX5_move_273)
                · refine lv_aload_n hx hb dX5_move_196 rfl (lv_at hl 3 rfl) ?_
                  refine va_get (D := G.1) (ci := 5) (v := .ref (A6 15)) (C := RX5) (T := TX5) (N := 20) hx hb hts hiX5 hown hX.1 (x1 hW hv_o999) 0 rfl rfl 15 (by decide) hf46 (fun _ h9 => h9) rfl dX5_move_197 ?_
                  refine lv_iload_n hx hb dX5_move_200 rfl (lv_at hl 4 rfl) ?_
                  refine lv_iload hx hb dX5_move_201 (lv_at hl 0 rfl) ?_
                  refine x_join (ls' := ls) (rest' := [.int (nI u), .ref (A6 15)]) 211 ((if (fX5_isSecondsTurn (σ) d v u) = true then ((2 : Int32)) else ((1 : Int32)))) (fun v ev => ?_) (fun J => ?_)
                  · subst ev
                    refine x_iast (G := G) hx hb hX.1 hW hS hv_A6_15999 (vp_in_nI hG.1 (by omega)) dX5_move_211 (fun H locs hW hS => ?_)
                    rw [show (nI u).toNatClampNeg = u from (nI_clamp (by have := hG.1; omega))] at hW
                    obtain ⟨E29, eE29⟩ : ∃ z, z = xU E17 (A6 15) (.inl (G.2.1 0, 12, .inl (upd (σ 15) u (if (fX5_isSecondsTurn (σ) d v u) = true then ((2 : Int32)) else ((1 : Int32)))))) := ⟨_, rfl⟩
                    have hW : xW G E29 H := by rw [eE29]; exact hW
                    have hv_o9999 : E29 o = some (.inr (5, [.int (σ 0 0), .ref (A6 1), .ref (A6 2), .ref (A6 3), .ref (A6 4), .int (σ 5 0), .ref (A6 6), .ref (A6 7), .ref (A6 8), .ref (A6 9), .int (σ 10 0), .ref (A6 11), .ref (A6 12), .ref (A6 13), .ref (A6 14), .ref (A6 15), .ref (A6 16), .ref (A6 17), .ref (A6 18), .int (nI (A6 19))])) := by rw [eE29]; exact xU_of hv_o999 hv_A6_15999 (fun h => by simp at h)
                    have hv_A6_19999 : E29 (A6 1) = some (.inl (G.2.1 0, 8, .inl (σ 1))) := by rw [eE29]; exact (xU_ne _ _ (hAA6.1.2.2.2.2.2.2.2.2.2.2.2.1)).trans hv_A6_1999
                    have hv_A6_29999 : E29 (A6 2) = some (.inl (G.2.1 0, 8, .inl (σ 2))) := by rw [eE29]; exact (xU_ne _ _ (hAA6.2.1.2.2.2.2.2.2.2.2.2.2.1)).trans hv_A6_2999
                    have hv_A6_39999 : E29 (A6 3) = some (.inl (G.2.1 0, 8, .inl (σ 3))) := by rw [eE29]; exact (xU_ne _ _ (hAA6.2.2.1.2.2.2.2.2.2.2.2.2.1)).trans hv_A6_3999
                    have hv_A6_49999 : E29 (A6 4) = some (.inl (G.2.1 0, 8, .inl (σ 4))) := by rw [eE29]; exact (xU_ne _ _ (hAA6.2.2.2.1.2.2.2.2.2.2.2.2.1)).trans hv_A6_4999
                    have hv_A6_69999 : E29 (A6 6) = some (.inl (G.2.1 0, 4, .inl (σ 6))) := by rw [eE29]; exact (xU_ne _ _ (hAA6.2.2.2.2.1.2.2.2.2.2.2.2.1)).trans hv_A6_6999
                    have hv_A6_79999 : E29 (A6 7) = some (.inl (G.2.1 0, 4, .inl (σ 7))) := by rw [eE29]; exact (xU_ne _ _ (hAA6.2.2.2.2.2.1.2.2.2.2.2.2.1)).trans hv_A6_7999
                    have hv_A6_89999 : E29 (A6 8) = some (.inl (G.2.1 0, 4, .inl (σ 8))) := by rw [eE29]; exact (xU_ne _ _ (hAA6.2.2.2.2.2.2.1.2.2.2.2.2.1)).trans hv_A6_8999
                    have hv_A6_99999 : E29 (A6 9) = some (.inl (G.2.1 0, 4, .inl (σ 9))) := by rw [eE29]; exact (xU_ne _ _ (hAA6.2.2.2.2.2.2.2.1.2.2.2.2.1)).trans hv_A6_9999
                    have hv_A6_119999 : E29 (A6 11) = some (.inl (G.2.1 0, 12, .inl (σ 11))) := by rw [eE29]; exact (xU_ne _ _ (hAA6.2.2.2.2.2.2.2.2.1.2.2.2.1)).trans hv_A6_11999
                    have hv_A6_129999 : E29 (A6 12) = some (.inl (G.2.1 0, 12, .inl (σ 12))) := by rw [eE29]; exact (xU_ne _ _ (hAA6.2.2.2.2.2.2.2.2.2.1.2.2.1)).trans hv_A6_12999
                    have hv_A6_139999 : E29 (A6 13) = some (.inl (G.2.1 0, 12, .inl (σ 13))) := by rw [eE29]; exact (xU_ne _ _ (hAA6.2.2.2.2.2.2.2.2.2.2.1.2.1)).trans hv_A6_13999
                    have hv_A6_149999 : E29 (A6 14) = some (.inl (G.2.1 0, 12, .inl (σ 14))) := by rw [eE29]; exact (xU_ne _ _ (hAA6.2.2.2.2.2.2.2.2.2.2.2.1.1)).trans hv_A6_14999
                    have hu_A6_169999 : E29 (A6 16) = some (.inl (G.2.1 0, 12, .inl (upd (σ 16) u (nI (d + 1))))) := by rw [eE29]; exact (xU_ne _ _ (Ne.symm (hAA6.2.2.2.2.2.2.2.2.2.2.2.2.1.1))).trans hu_A6_16999
                    have hv_A6_179999 : E29 (A6 17) = some (.inl (G.2.1 0, 732, .inl (upd (σ 17) (61 * u + (d + 1)) (moA σ u d v a1 a2)))) := by rw [eE29]; exact (xU_ne _ _ (Ne.symm (hAA6.2.2.2.2.2.2.2.2.2.2.2.2.1.2.1))).trans hv_A6_17999
                    have hv_A6_189999 : E29 (A6 18) = some (.inl (G.2.1 0, 732, .inl (upd (σ 18) (61 * u + (d + 1)) (moB σ u d v a1 a2)))) := by rw [eE29]; exact (xU_ne _ _ (Ne.symm (hAA6.2.2.2.2.2.2.2.2.2.2.2.2.1.2.2))).trans hv_A6_18999
                    have hv_A6_159999 : E29 (A6 15) = some (.inl (G.2.1 0, 12, .inl (upd (σ 15) u (if (fX5_isSecondsTurn (σ) d v u) = true then ((2 : Int32)) else ((1 : Int32)))))) := by rw [eE29]; exact xU_self _ _ _
                    have hFr : xFr tM E E29 := by rw [eE29]; exact xFr_put hFr hv_A6_15999 rfl _
                    refine lv_goto (tgt := 267) hx hb dX5_move_212 (by decide) ?_
                    refine lv_aload_n hx hb dX5_move_267 rfl (lv_at hl 3 rfl) ?_
                    refine va_get (D := G.1) (ci := 5) (v := .ref (A6 15)) (C := RX5) (T := TX5) (N := 20) hx hb hts hiX5 hown hX.1 (x1 hW hv_o9999) 0 rfl rfl 15 (by decide) hf46 (fun _ h9 => h9) rfl dX5_move_268 ?_
                    refine lv_iload_n hx hb dX5_move_271 rfl (lv_at hl 4 rfl) ?_
                    refine x_ild (k := u) hx hb hX.1 hW hv_A6_159999 (vp_in_nI hG.1 (by omega)) (nI_clamp (by have := hG.1; omega)) dX5_move_272 ?_
                    rw [upd_s]
                    have hf30 : E29 (A6 9) = some (.inl (G.2.1 0, 4, .inl (upd (σ 9) v (σ 9 v)))) := by rw [upd_id]; exact hv_A6_99999
                    exact W.widen (k := 0) (n := 0) (Nat.le_of_ble_eq_true rfl) (Nat.le_of_ble_eq_true rfl) (W.iret (v := (if (fX5_isSecondsTurn (σ) d v u) = true then ((2 : Int32)) else ((1 : Int32)))) hx hb hr (fun t ht hw => ⟨⟨_, E29, rfl, ⟨((if (fX5_isSecondsTurn (σ) d v u) = true then ((2 : Int32)) else ((1 : Int32))), 0, σ 9 v), (show _ = (((if (fX5_isSecondsTurn (σ) d v u) = true then ((2 : Int32)) else ((1 : Int32))), 0, σ 9 v) : Int32 × Nat × Int32) from by rw [hUu, hDd, hVv]; unfold mX5_move; rw [if_pos c_7, if_neg (Bool.eq_false_iff.mp c_8), if_pos c_12, if_neg (Bool.eq_false_iff.mp c_19)]), rfl, (show xMd G E29 o (sgMove σ ((nI u).toNatClampNeg) ((σ 16 (nI u).toNatClampNeg).toNatClampNeg) ((σ 11 (nI u).toNatClampNeg).toNatClampNeg) (moA σ ((nI u).toNatClampNeg) ((σ 16 (nI u).toNatClampNeg).toNatClampNeg) ((σ 11 (nI u).toNatClampNeg).toNatClampNeg) a1 a2) (moB σ ((nI u).toNatClampNeg) ((σ 16 (nI u).toNatClampNeg).toNatClampNeg) ((σ 11 (nI u).toNatClampNeg).toNatClampNeg) a1 a2) (if (fX5_isSecondsTurn (σ) d v u) = true then ((2 : Int32)) else ((1 : Int32))) (σ 9 v)) 0 from (by rw [hUu, hDd, hVv]; exact ⟨A6, ⟨hv_o9999, hv_A6_19999, hv_A6_29999, hv_A6_39999, hv_A6_49999, hv_A6_69999, hv_A6_79999, hv_A6_89999, hf30, hv_A6_119999, hv_A6_129999, hv_A6_139999, hv_A6_149999, hv_A6_159999, hu_A6_169999, hv_A6_179999, hv_A6_189999⟩, hAA6, hzA6⟩)), hFr⟩, (show xW G E29 t.heap from by rw [ht]; exact hW)⟩, hS.F ht⟩) hS.2.2 dX5_move_273)
                  · refine x_ifz_eq (b := fX5_isSecondsTurn (σ) d v u) (tgt := 210) hx hb dX5_move_203 (by decide) (fun c_28 => ?_) (fun c_28 => ?_)
                    · refine lv_iconst (v := 1) hx hb dX5_move_210 (by decide) ?_
                      exact J _ (show (1 : Int32) = if (fX5_isSecondsTurn (σ) d v u) = true then ((2 : Int32)) else ((1 : Int32)) from by rw [if_neg (Bool.eq_false_iff.mp c_28)])
                    · refine lv_iconst (v := 2) hx hb dX5_move_206 (by decide) ?_
                      refine lv_goto (tgt := 211) hx hb dX5_move_207 (by decide) ?_
                      exact J _ (show (2 : Int32) = if (fX5_isSecondsTurn (σ) d v u) = true then ((2 : Int32)) else ((1 : Int32)) from by rw [if_pos c_28])
              · refine x_ifz_ne (b := fX5_isSecondsTurn (σ) d v u) (tgt := 189) hx hb dX5_move_182 (by decide) (fun c_18 => ?_) (fun c_18 => ?_)
                · refine lv_iconst (v := 0) hx hb dX5_move_189 (by decide) ?_
                  exact J _ (congrArg zI (show false = if (fX5_isSecondsTurn (σ) d v u) = true then (false) else (true) from by rw [if_pos c_18]))
                · refine lv_iconst (v := 1) hx hb dX5_move_185 (by decide) ?_
                  refine lv_goto (tgt := 190) hx hb dX5_move_186 (by decide) ?_
                  exact J _ (congrArg zI (show true = if (fX5_isSecondsTurn (σ) d v u) = true then (false) else (true) from by rw [if_neg (Bool.eq_false_iff.mp c_18)]))
            · refine x_ifz_eq (b := fX5_isSecondsTurn (σ) d v u) (tgt := 155) hx hb dX5_move_147 (by decide) (fun c_16 => ?_) (fun c_16 => ?_)
              · refine lv_iload hx hb dX5_move_155 (lv_at hl 1 rfl) ?_
                exact J _ (show ((fX5_piecesOf (σ) d v u false) &&& (((1 : Int32) <<< (a2 &&& 31)) ^^^ (-1)) : Int32) = if (fX5_isSecondsTurn (σ) d v u) = true then ((((fX5_piecesOf (σ) d v u true) &&& (((1 : Int32) <<< (a1 &&& 31)) ^^^ (-1))) ||| ((1 : Int32) <<< (a2 &&& 31)))) else (((fX5_piecesOf (σ) d v u false) &&& (((1 : Int32) <<< (a2 &&& 31)) ^^^ (-1)))) from by rw [if_neg (Bool.eq_false_iff.mp c_16)])
              · refine lv_iload hx hb dX5_move_150 (lv_at hl 2 rfl) ?_
                refine lv_goto (tgt := 157) hx hb dX5_move_152 (by decide) ?_
                exact J _ (show (((fX5_piecesOf (σ) d v u true) &&& (((1 : Int32) <<< (a1 &&& 31)) ^^^ (-1))) ||| ((1 : Int32) <<< (a2 &&& 31)) : Int32) = if (fX5_isSecondsTurn (σ) d v u) = true then ((((fX5_piecesOf (σ) d v u true) &&& (((1 : Int32) <<< (a1 &&& 31)) ^^^ (-1))) ||| ((1 : Int32) <<< (a2 &&& 31)))) else (((fX5_piecesOf (σ) d v u false) &&& (((1 : Int32) <<< (a2 &&& 31)) ^^^ (-1)))) from by rw [if_pos c_16])
          · refine x_ifz_eq (b := fX5_isSecondsTurn (σ) d v u) (tgt := 133) hx hb dX5_move_125 (by decide) (fun c_14 => ?_) (fun c_14 => ?_)
            · refine lv_iload hx hb dX5_move_133 (lv_at hl 2 rfl) ?_
              exact J _ (show (((fX5_piecesOf (σ) d v u true) &&& (((1 : Int32) <<< (a1 &&& 31)) ^^^ (-1))) ||| ((1 : Int32) <<< (a2 &&& 31)) : Int32) = if (fX5_isSecondsTurn (σ) d v u) = true then (((fX5_piecesOf (σ) d v u false) &&& (((1 : Int32) <<< (a2 &&& 31)) ^^^ (-1)))) else ((((fX5_piecesOf (σ) d v u true) &&& (((1 : Int32) <<< (a1 &&& 31)) ^^^ (-1))) ||| ((1 : Int32) <<< (a2 &&& 31)))) from by rw [if_neg (Bool.eq_false_iff.mp c_14)])
            · refine lv_iload hx hb dX5_move_128 (lv_at hl 1 rfl) ?_
              refine lv_goto (tgt := 135) hx hb dX5_move_130 (by decide) ?_
              exact J _ (show ((fX5_piecesOf (σ) d v u false) &&& (((1 : Int32) <<< (a2 &&& 31)) ^^^ (-1)) : Int32) = if (fX5_isSecondsTurn (σ) d v u) = true then (((fX5_piecesOf (σ) d v u false) &&& (((1 : Int32) <<< (a2 &&& 31)) ^^^ (-1)))) else ((((fX5_piecesOf (σ) d v u true) &&& (((1 : Int32) <<< (a1 &&& 31)) ^^^ (-1))) ||| ((1 : Int32) <<< (a2 &&& 31)))) from by rw [if_pos c_14])
        · refine lv_aload_n hx hb dX5_move_59 rfl (lv_at hl 0 rfl) ?_
          refine lv_iconst (v := 2) hx hb dX5_move_60 (by decide) ?_
          refine va_calli (va_runV (As := [.int 2]) (rest := []) ⟨hx, hb, hml, hown, hts⟩ (kX5_fails l G _ (σ) o 2 A6 hMA6 hAA6) (cwV 1 hts gX5_move_X5_fails rfl rfl rfl (by decide +kernel) ⟨Nat.le_of_ble_eq_true rfl, Nat.le_of_ble_eq_true rfl⟩) (x_preV hX hS hW hMA6.1 rfl) rfl rfl hl.1 rfl (lv_room (Nat.le_of_ble_eq_true rfl)) dX5_move_61 ⟨Nat.le_of_ble_eq_true rfl, Nat.le_of_ble_eq_true rfl⟩) hS (fun _ _ h => h) (fun _ h => h) (fun r32 E31 t H1 locs1 ht hvm hw hB hz1 hk1 hS1 => ?_)
          rw [ht] at hB
          have hS := hS1
          obtain ⟨hrA33, ⟨A33, hMA33, hAA33, htA33⟩, hFrA33⟩ := hw
          have hFr := hFr.trans hFrA33
          have hW : xW G E31 H1 := hB
          subst hrA33
          exact W.widen (k := 0) (n := 0) (Nat.le_of_ble_eq_true rfl) (Nat.le_of_ble_eq_true rfl) (W.iret (v := 0) hx hb hr (fun t ht hw => ⟨⟨_, E31, rfl, ⟨((0 : Int32), 2, (0 : Int32)), (show _ = (((0 : Int32), 2, (0 : Int32)) : Int32 × Nat × Int32) from by rw [hUu, hDd, hVv]; unfold mX5_move; rw [if_pos c_7, if_neg (Bool.eq_false_iff.mp c_8), if_neg (Bool.eq_false_iff.mp c_12)]), rfl, (show xMd G E31 o (σ) 2 from ⟨A33, hMA33, hAA33, htA33⟩), hFr⟩, (show xW G E31 t.heap from by rw [ht]; exact hW)⟩, hS.F ht⟩) hS.2.2 dX5_move_64)
    · have hzA6 := htA6.trans (if_neg (Bool.eq_false_iff.mp c_7))
      refine lv_iconst (v := 0) hx hb dX5_move_34 (by decide) ?_
      exact W.widen (k := 0) (n := 0) (Nat.le_of_ble_eq_true rfl) (Nat.le_of_ble_eq_true rfl) (W.iret (v := 0) hx hb hr (fun t ht hw => ⟨⟨_, E4, rfl, ⟨((0 : Int32), 1, (0 : Int32)), (show _ = (((0 : Int32), 1, (0 : Int32)) : Int32 × Nat × Int32) from by unfold mX5_move; rw [if_neg (Bool.eq_false_iff.mp c_7)]), rfl, (show xMd G E4 o (σ) 1 from ⟨A6, hMA6, hAA6, hzA6⟩), hFr⟩, (show xW G E4 t.heap from by rw [ht]; exact hW)⟩, hS.F ht⟩) hS.2.2 dX5_move_35)
  · refine x_ifz_eq (b := fX5_isGame (σ) a0) (tgt := 27) hx hb dX5_move_6 (by decide) (fun c_1 => ?_) (fun c_1 => ?_)
    · refine lv_iconst (v := 0) hx hb dX5_move_27 (by decide) ?_
      exact J _ (congrArg zI (show false = if (fX5_isGame (σ) a0) = true then (if (fX5_isCell a1) = true then (if (fX5_isCell a2) = true then (true) else (false)) else (false)) else (false) from by rw [if_neg (Bool.eq_false_iff.mp c_1)]))
    · refine lv_iload_n hx hb dX5_move_9 rfl (lv_at hl 2 rfl) ?_
      refine x_callSe (va_runS (As := [.int a1]) (rest := [.ref o]) ⟨hx, hb, hml, hown, hts⟩ (kX5_isCell l a1) (va_cwS 1 hts gX5_move_X5_isCell rfl rfl rfl (by decide +kernel) ⟨Nat.le_of_ble_eq_true rfl, Nat.le_of_ble_eq_true rfl⟩) x_preT rfl rfl hl.1 rfl (lv_room (Nat.le_of_ble_eq_true rfl)) dX5_move_10 ⟨Nat.le_of_ble_eq_true rfl, Nat.le_of_ble_eq_true rfl⟩) ?_
      refine x_ifz_eq (b := fX5_isCell a1) (tgt := 27) hx hb dX5_move_13 (by decide) (fun c_2 => ?_) (fun c_2 => ?_)
      · refine lv_iconst (v := 0) hx hb dX5_move_27 (by decide) ?_
        exact J _ (congrArg zI (show false = if (fX5_isGame (σ) a0) = true then (if (fX5_isCell a1) = true then (if (fX5_isCell a2) = true then (true) else (false)) else (false)) else (false) from by rw [if_pos c_1, if_neg (Bool.eq_false_iff.mp c_2)]))
      · refine lv_iload_n hx hb dX5_move_16 rfl (lv_at hl 3 rfl) ?_
        refine x_callSe (va_runS (As := [.int a2]) (rest := [.ref o]) ⟨hx, hb, hml, hown, hts⟩ (kX5_isCell l a2) (va_cwS 1 hts gX5_move_X5_isCell rfl rfl rfl (by decide +kernel) ⟨Nat.le_of_ble_eq_true rfl, Nat.le_of_ble_eq_true rfl⟩) x_preT rfl rfl hl.1 rfl (lv_room (Nat.le_of_ble_eq_true rfl)) dX5_move_17 ⟨Nat.le_of_ble_eq_true rfl, Nat.le_of_ble_eq_true rfl⟩) ?_
        refine x_ifz_eq (b := fX5_isCell a2) (tgt := 27) hx hb dX5_move_20 (by decide) (fun c_3 => ?_) (fun c_3 => ?_)
        · refine lv_iconst (v := 0) hx hb dX5_move_27 (by decide) ?_
          exact J _ (congrArg zI (show false = if (fX5_isGame (σ) a0) = true then (if (fX5_isCell a1) = true then (if (fX5_isCell a2) = true then (true) else (false)) else (false)) else (false) from by rw [if_pos c_1, if_pos c_2, if_neg (Bool.eq_false_iff.mp c_3)]))
        · refine lv_iconst (v := 1) hx hb dX5_move_23 (by decide) ?_
          refine lv_goto (tgt := 28) hx hb dX5_move_24 (by decide) ?_
          exact J _ (congrArg zI (show true = if (fX5_isGame (σ) a0) = true then (if (fX5_isCell a1) = true then (if (fX5_isCell a2) = true then (true) else (false)) else (false)) else (false) from by rw [if_pos c_1, if_pos c_2, if_pos c_3]))
