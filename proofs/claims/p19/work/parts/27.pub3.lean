def tX4_variant (nC nV : Nat) (a0 a1 : Int32) : Nat := if a0 < 0 then (1) else (if 33554431 < a0 then (1) else (if (fX4_isSetOfCards (nI nC) a1) = true then (if (nI nV) < 4 then (0) else (2)) else (1)))
set_option maxHeartbeats 4000000 in
set_option maxRecDepth 100000 in
theorem kX4_variant (l : Launch) (hl9 : l.stackTraces = false) (G : xG) (E : xE) (o : Nat) (a0 : Int32) (a1 : Int32) (ct vt gt : Nat) (tb vb gb : Nat → Option Nat) (sa : Nat → Nat) (nC nV nG : Nat) (σ : xSg) (hCls : xCls G E o ct vt gt tb vb gb sa nC nV nG σ) (hZ : σ 8 nV = 0 ∧ σ 9 nV = 0) : vx_Met l yX4_variant wsX4_variant ({ frames := 6, cells := 2, slots := 6, locals := 90 }) (va_Pc [.ref o, .int a0, .int a1] (xB G E)) (va_Qi (S := xE) (fun r E' => tX4_variant nC nV a0 a1 = 0 ∧ r = nI nV ∧ nV < 4 ∧ ∃ q : Nat, xCls G E' o ct vt gt tb (va_up vb nV (some q)) gb sa nC (nV + 1) nG (sgVar σ nV a0 a1) ∧ xFr tC E E') (fun E' t => xW G E' t.heap) (xA G)) (xX G E (fun n => xEx n (tX4_variant nC nV a0 a1))) 2 6 (xA G) := by
  refine vx_ofW (cc := cX4_variant) (maxL := 4) (ret := (some .int)) (by decide) rfl ?_
  intro p e s m args below meth c s₁ B hml hno hv
  obtain ⟨rfl, hX, hW⟩ := hv
  have hx := B.exec
  have hb := B.bytes
  have hr := B.returns
  have hts := atoms_spec (ws := wsX4_variant) B.pre
  have hown : s.vm.findClass RX4 = some m.cls := findClass_of_methodNamed B.named
  have hlocks := B.notSynchronized
  have hS : va_S (xA G) s.heap s.heap [] := va_S.rf
  have hk50 := hts (Cond.constant RX4 50 (33554431)) (by decide +kernel)
  have hiX4 : ∀ w ∈ u_ws RX4 TX4 6, w ∈ wsX4_variant := by decide +kernel
  have hf57 := hts (Cond.fieldLink RX4 57 "VariantMill" "variantCount" "I") (by decide +kernel)
  have hf17 := hts (Cond.fieldLink RX4 17 "VariantMill" "variants" "[LVariantMill$Variant;") (by decide +kernel)
  have hcl15 := hts (Cond.classLink RX4 15 RX3) (by decide +kernel)
  have hinX3 := hts (Cond.instantiable RX3 3) (by decide +kernel)
  have hiniRX3 := hts (Cond.initialized RX3) (by decide +kernel)
  have hiX3 : ∀ w ∈ u_ws RX3 TX3 3, w ∈ wsX4_variant := by decide +kernel
  have hcl62 := hts (Cond.classLink RX4 62 RX2) (by decide +kernel)
  have hinX2 := hts (Cond.instantiable RX2 3) (by decide +kernel)
  have hiniRX2 := hts (Cond.initialized RX2) (by decide +kernel)
  have hiX2 : ∀ w ∈ u_ws RX2 TX2 3, w ∈ wsX4_variant := by decide +kernel
  have hf11 := hts (Cond.fieldLink RX4 11 "VariantMill" "cardTable" "[LVariantMill$Card;") (by decide +kernel)
  have hml64 := hts (Cond.methodLink RX4 64 yX2_init) (by decide +kernel)
  have himX2_init := hts (Cond.instanceMethod yX2_init) (by decide +kernel)
  have hml67 := hts (Cond.methodLink RX4 67 yX3_init) (by decide +kernel)
  have himX3_init := hts (Cond.instanceMethod yX3_init) (by decide +kernel)
  have hl := lv_entry ([.ref o, .int a0, .int a1]) (n := 4) (Nat.le_of_ble_eq_true rfl)
  rw [lg_entry_eq]
  generalize (lg_sl ([.ref o, .int a0, .int a1]) ++ List.replicate (4 - (lg_sl ([.ref o, .int a0, .int a1])).length) Slot.unset).toArray = ls at hl ⊢
  have hl : lv_has ls 4 [(0, .ref o), (1, .int a0), (2, .int a1)] := hl
  obtain ⟨H, hH⟩ : ∃ z, z = s.heap := ⟨_, rfl⟩
  rw [← hH] at hW
  have hS : va_S (xA G) s.heap H [] := by rw [hH]; exact hS
  rw [← hH]
  have hCls0 := hCls
  obtain ⟨hE, h0, h5, h10, hT, hV, hGs⟩ := hCls
  have hcb := hV.2.1
  refine lv_iload_n hx hb dX4_variant_0 rfl (lv_at hl 1 rfl) ?_
  refine lv_if_lt (tgt := 18) hx hb dX4_variant_1 (by decide) (fun c_1 => ?_) (fun c_1 => ?_)
  · exact x_throw hx hb hl9 hown (cls := "java/lang/IllegalArgumentException") (text := "no such holes or cards") (ik := 31) (is := 55) (ic := 35) hts hX hS hW (by decide +kernel) (by decide +kernel) (by decide +kernel) (by decide +kernel) (fun w h => List.mem_cons_of_mem _ (List.mem_append_left _ (List.mem_append_right _ h))) (by decide +kernel) (by decide +kernel) (hl.1.trans hml.symm) dX4_variant_18 dX4_variant_21 dX4_variant_22 dX4_variant_24 dX4_variant_27 hno (Nat.le_of_ble_eq_true rfl) (Nat.le_of_ble_eq_true rfl) (Nat.le_of_ble_eq_true rfl) (Nat.le_of_ble_eq_true rfl) hlocks (Or.inl ⟨(show tX4_variant nC nV a0 a1 = 1 from by unfold tX4_variant; rw [if_pos c_1]), rfl⟩) (Nat.le_of_ble_eq_true rfl) (Nat.le_of_ble_eq_true rfl)
  · refine lv_iload_n hx hb dX4_variant_4 rfl (lv_at hl 1 rfl) ?_
    refine lv_ldc (v := 33554431) hx hb hown hk50 dX4_variant_5 ?_
    refine lv_icmp_gt (tgt := 18) hx hb dX4_variant_7 (by decide) (fun c_2 => ?_) (fun c_2 => ?_)
    · exact x_throw hx hb hl9 hown (cls := "java/lang/IllegalArgumentException") (text := "no such holes or cards") (ik := 31) (is := 55) (ic := 35) hts hX hS hW (by decide +kernel) (by decide +kernel) (by decide +kernel) (by decide +kernel) (fun w h => List.mem_cons_of_mem _ (List.mem_append_left _ (List.mem_append_right _ h))) (by decide +kernel) (by decide +kernel) (hl.1.trans hml.symm) dX4_variant_18 dX4_variant_21 dX4_variant_22 dX4_variant_24 dX4_variant_27 hno (Nat.le_of_ble_eq_true rfl) (Nat.le_of_ble_eq_true rfl) (Nat.le_of_ble_eq_true rfl) (Nat.le_of_ble_eq_true rfl) hlocks (Or.inl ⟨(show tX4_variant nC nV a0 a1 = 1 from by unfold tX4_variant; rw [if_neg c_1, if_pos c_2]), rfl⟩) (Nat.le_of_ble_eq_true rfl) (Nat.le_of_ble_eq_true rfl)
    · refine lv_aload_n hx hb dX4_variant_10 rfl (lv_at hl 0 rfl) ?_
      refine lv_iload_n hx hb dX4_variant_11 rfl (lv_at hl 2 rfl) ?_
      refine x_callSe (va_runV (As := [.int a1]) (rest := []) ⟨hx, hb, hml, hown, hts⟩ (kX4_isSetOfCards l G _ (nI nC) o a1 ct vt gt (nI nV) (nI nG) hE) (cwV 1 hts gX4_variant_X4_isSetOfCards rfl rfl rfl (by decide +kernel) ⟨Nat.le_of_ble_eq_true rfl, Nat.le_of_ble_eq_true rfl⟩) (x_preV hX hS hW hE rfl) rfl rfl hl.1 rfl (lv_room (Nat.le_of_ble_eq_true rfl)) dX4_variant_12 ⟨Nat.le_of_ble_eq_true rfl, Nat.le_of_ble_eq_true rfl⟩) ?_
      refine x_ifz_ne (b := fX4_isSetOfCards (nI nC) a1) (tgt := 28) hx hb dX4_variant_15 (by decide) (fun c_3 => ?_) (fun c_3 => ?_)
      · refine lv_aload_n hx hb dX4_variant_28 rfl (lv_at hl 0 rfl) ?_
        refine va_get (D := G.1) (ci := 4) (v := .int (nI nV)) (C := RX4) (T := TX4) (N := 6) hx hb hts hiX4 hown hX.1 (x1 hW hE) 0 rfl rfl 4 (by decide) hf57 (fun _ h9 => h9) rfl dX4_variant_29 ?_
        refine lv_aload_n hx hb dX4_variant_32 rfl (lv_at hl 0 rfl) ?_
        refine va_get (D := G.1) (ci := 4) (v := .ref vt) (C := RX4) (T := TX4) (N := 6) hx hb hts hiX4 hown hX.1 (x1 hW hE) 0 rfl rfl 1 (by decide) hf17 (fun _ h9 => h9) rfl dX4_variant_33 ?_
        refine va_alen (D := G.1) hx hb hX.1 (x1 hW hV.1) 0 3 rfl rfl (v := 4) rfl dX4_variant_36 ?_
        refine lv_icmp_lt (tgt := 50) hx hb dX4_variant_37 (by decide) (fun c_4 => ?_) (fun c_4 => ?_)
        · have hcn : nV < 4 := (nI_ltI (by have := hcb; omega) (by omega)).mp c_4
          refine lv_aload_n hx hb dX4_variant_50 rfl (lv_at hl 0 rfl) ?_
          refine va_get (D := G.1) (ci := 4) (v := .int (nI nV)) (C := RX4) (T := TX4) (N := 6) hx hb hts hiX4 hown hX.1 (x1 hW hE) 0 rfl rfl 4 (by decide) hf57 (fun _ h9 => h9) rfl dX4_variant_51 ?_
          refine lv_istore_n (lv' := [(3, .int (nI nV)), (0, .ref o), (1, .int a0), (2, .int a1)]) hx hb dX4_variant_54 rfl hl (by decide) rfl (fun ls hl => ?_)
          refine lv_aload_n hx hb dX4_variant_55 rfl (lv_at hl 1 rfl) ?_
          refine va_get (D := G.1) (ci := 4) (v := .ref vt) (C := RX4) (T := TX4) (N := 6) hx hb hts hiX4 hown hX.1 (x1 hW hE) 0 rfl rfl 1 (by decide) hf17 (fun _ h9 => h9) rfl dX4_variant_56 ?_
          refine lv_iload_n hx hb dX4_variant_59 rfl (lv_at hl 0 rfl) ?_
          refine x_new (G := G) (ci := 3) (fs := [.null, .int 0, .int 0]) (C := RX3) (T := TX3) (N := 3) hx hb hts hiX3 tyX3 tyX3_ok hown hcl15 hinX3 hiniRX3 hX.1 hW hS rfl (fun j hj => by rcases (show j = 0 ∨ j = 1 ∨ j = 2 by omega) with rfl | rfl | rfl <;> rfl) (Nat.le_of_ble_eq_true rfl) (Nat.le_of_ble_eq_true rfl) dX4_variant_60 (fun q5 H1 hqq5 hzq5 hW1 hS1 => ?_)
          have hne6 : o ≠ q5 := by rw [hqq5]; exact Nat.ne_of_lt (hW.lt hE)
          have hne6' : q5 ≠ o := Ne.symm hne6
          have hne7 : ct ≠ q5 := by rw [hqq5]; exact Nat.ne_of_lt (hW.lt hT.1)
          have hne7' : q5 ≠ ct := Ne.symm hne7
          have hne8 : vt ≠ q5 := by rw [hqq5]; exact Nat.ne_of_lt (hW.lt hV.1)
          have hne8' : q5 ≠ vt := Ne.symm hne8
          have hne9 : gt ≠ q5 := by rw [hqq5]; exact Nat.ne_of_lt (hW.lt hGs.1)
          have hne9' : q5 ≠ gt := Ne.symm hne9
          have hnoq5 : E q5 = none := by rw [hqq5]; exact hW.new
          have hltq5 : G.2.2 ≤ q5 := by rw [hqq5]; exact hW.1
          have hW := hW1
          have hS := hS1
          generalize H1 = H at hW hS ⊢
          obtain ⟨E10, eE10⟩ : ∃ z, z = xU E q5 (.inr (3, [.null, .int 0, .int 0])) := ⟨_, rfl⟩
          have hW : xW G E10 H := by rw [eE10]; exact hW
          have hE9 : E10 o = some (.inr (4, [.ref ct, .ref vt, .ref gt, .int (nI nC), .int (nI nV), .int (nI nG)])) := by rw [eE10]; exact (xU_ne _ _ hne6).trans hE
          have hv_ct9 : E10 ct = some (.inl (G.2.1 2, 8, .inr (.inr (.inr (.inr tb))))) := by rw [eE10]; exact (xU_ne _ _ hne7).trans hT.1
          have hv_vt9 : E10 vt = some (.inl (G.2.1 3, 4, .inr (.inr (.inr (.inr vb))))) := by rw [eE10]; exact (xU_ne _ _ hne8).trans hV.1
          have hv_gt9 : E10 gt = some (.inl (G.2.1 4, 12, .inr (.inr (.inr (.inr gb))))) := by rw [eE10]; exact (xU_ne _ _ hne9).trans hGs.1
          have hnq59 : E10 q5 = some (.inr (3, [.null, .int 0, .int 0])) := by rw [eE10]; exact xU_self _ _ _
          refine lv_dup hx hb dX4_variant_63 rfl ?_
          refine x_new (G := G) (ci := 2) (fs := [.null, .int 0, .int 0]) (C := RX2) (T := TX2) (N := 3) hx hb hts hiX2 tyX2 tyX2_ok hown hcl62 hinX2 hiniRX2 hX.1 hW hS rfl (fun j hj => by rcases (show j = 0 ∨ j = 1 ∨ j = 2 by omega) with rfl | rfl | rfl <;> rfl) (Nat.le_of_ble_eq_true rfl) (Nat.le_of_ble_eq_true rfl) dX4_variant_64 (fun q11 H1 hqq11 hzq11 hW1 hS1 => ?_)
          have hne12 : o ≠ q11 := by rw [hqq11]; exact Nat.ne_of_lt (hW.lt hE9)
          have hne12' : q11 ≠ o := Ne.symm hne12
          have hne13 : ct ≠ q11 := by rw [hqq11]; exact Nat.ne_of_lt (hW.lt hv_ct9)
          have hne13' : q11 ≠ ct := Ne.symm hne13
          have hne14 : vt ≠ q11 := by rw [hqq11]; exact Nat.ne_of_lt (hW.lt hv_vt9)
          have hne14' : q11 ≠ vt := Ne.symm hne14
          have hne15 : gt ≠ q11 := by rw [hqq11]; exact Nat.ne_of_lt (hW.lt hv_gt9)
          have hne15' : q11 ≠ gt := Ne.symm hne15
          have hne16 : q5 ≠ q11 := by rw [hqq11]; exact Nat.ne_of_lt (hW.lt hnq59)
          have hne16' : q11 ≠ q5 := Ne.symm hne16
          have hnoq11 : E10 q11 = none := by rw [hqq11]; exact hW.new
          have hltq11 : G.2.2 ≤ q11 := by rw [hqq11]; exact hW.1
          have hW := hW1
          have hS := hS1
          generalize H1 = H at hW hS ⊢
          obtain ⟨E17, eE17⟩ : ∃ z, z = xU E10 q11 (.inr (2, [.null, .int 0, .int 0])) := ⟨_, rfl⟩
          have hW : xW G E17 H := by rw [eE17]; exact hW
          have hE99 : E17 o = some (.inr (4, [.ref ct, .ref vt, .ref gt, .int (nI nC), .int (nI nV), .int (nI nG)])) := by rw [eE17]; exact (xU_ne _ _ hne12).trans hE9
          have hv_ct99 : E17 ct = some (.inl (G.2.1 2, 8, .inr (.inr (.inr (.inr tb))))) := by rw [eE17]; exact (xU_ne _ _ hne13).trans hv_ct9
          have hv_vt99 : E17 vt = some (.inl (G.2.1 3, 4, .inr (.inr (.inr (.inr vb))))) := by rw [eE17]; exact (xU_ne _ _ hne14).trans hv_vt9
          have hv_gt99 : E17 gt = some (.inl (G.2.1 4, 12, .inr (.inr (.inr (.inr gb))))) := by rw [eE17]; exact (xU_ne _ _ hne15).trans hv_gt9
          have hnq599 : E17 q5 = some (.inr (3, [.null, .int 0, .int 0])) := by rw [eE17]; exact (xU_ne _ _ hne16).trans hnq59
          have hnq119 : E17 q11 = some (.inr (2, [.null, .int 0, .int 0])) := by rw [eE17]; exact xU_self _ _ _
          refine lv_dup hx hb dX4_variant_67 rfl ?_
          refine lv_aload_n hx hb dX4_variant_68 rfl (lv_at hl 1 rfl) ?_
          refine va_get (D := G.1) (ci := 4) (v := .ref ct) (C := RX4) (T := TX4) (N := 6) hx hb hts hiX4 hown hX.1 (x1 hW hE99) 0 rfl rfl 0 (by decide) hf11 (fun _ h9 => h9) rfl dX4_variant_69 ?_
          refine lv_iload_n hx hb dX4_variant_72 rfl (lv_at hl 3 rfl) ?_
          refine lv_iload_n hx hb dX4_variant_73 rfl (lv_at hl 2 rfl) ?_
          refine va_callv (va_runI (As := [.ref ct, .int a1, .int a0]) (rest := [.ref q11, .ref q5, .ref q5, .int (nI nV), .ref vt]) ⟨hx, hb, hml, hown, hts⟩ (kX2_init l G _ q11 ct a1 a0 hnq119) (cwI 3 hts gX4_variant_X2_init rfl rfl rfl hiniRX2 hml64 himX2_init rfl (by decide +kernel) ⟨Nat.le_of_ble_eq_true rfl, Nat.le_of_ble_eq_true rfl⟩) (x_preS hX hS hW) rfl rfl hl.1 rfl (lv_room (Nat.le_of_ble_eq_true rfl)) dX4_variant_74 ⟨Nat.le_of_ble_eq_true rfl, Nat.le_of_ble_eq_true rfl⟩) hS (fun _ _ h => h) (fun _ h => h) (fun E18 t H1 locs1 ht hvm hw hB hz1 hk1 hS1 => ?_)
          rw [ht] at hB
          have hS := hS1
          have ehE18 : E18 = xU E17 q11 (.inr (2, [.ref ct, .int a1, .int a0])) := hw
          have hW : xW G E18 H1 := hB
          have hE999 : E18 o = some (.inr (4, [.ref ct, .ref vt, .ref gt, .int (nI nC), .int (nI nV), .int (nI nG)])) := by rw [ehE18]; exact (xU_ne _ _ hne12).trans (hE99)
          have hv_ct999 : E18 ct = some (.inl (G.2.1 2, 8, .inr (.inr (.inr (.inr tb))))) := by rw [ehE18]; exact (xU_ne _ _ hne13).trans (hv_ct99)
          have hv_vt999 : E18 vt = some (.inl (G.2.1 3, 4, .inr (.inr (.inr (.inr vb))))) := by rw [ehE18]; exact (xU_ne _ _ hne14).trans (hv_vt99)
          have hv_gt999 : E18 gt = some (.inl (G.2.1 4, 12, .inr (.inr (.inr (.inr gb))))) := by rw [ehE18]; exact (xU_ne _ _ hne15).trans (hv_gt99)
          have hnq5999 : E18 q5 = some (.inr (3, [.null, .int 0, .int 0])) := by rw [ehE18]; exact (xU_ne _ _ hne16).trans (hnq599)
          have hnew20 : E18 q11 = some (.inr (2, [.ref ct, .int a1, .int a0])) := by rw [ehE18]; exact xU_self _ _ _
          refine va_callv (va_runI (As := [.ref q11]) (rest := [.ref q5, .int (nI nV), .ref vt]) ⟨hx, hb, hml, hown, hts⟩ (kX3_init l G _ q5 q11 hnq5999) (cwI 1 hts gX4_variant_X3_init rfl rfl rfl hiniRX3 hml67 himX3_init rfl (by decide +kernel) ⟨Nat.le_of_ble_eq_true rfl, Nat.le_of_ble_eq_true rfl⟩) (x_preS hX hS hW) rfl rfl hl.1 rfl (lv_room (Nat.le_of_ble_eq_true rfl)) dX4_variant_77 ⟨Nat.le_of_ble_eq_true rfl, Nat.le_of_ble_eq_true rfl⟩) hS (fun _ _ h => h) (fun _ h => h) (fun E21 t H1 locs1 ht hvm hw hB hz1 hk1 hS1 => ?_)
          rw [ht] at hB
          have hS := hS1
          have ehE21 : E21 = xU E18 q5 (.inr (3, [.ref q11, .int 0, .int 0])) := hw
          have hW : xW G E21 H1 := hB
          have hE9999 : E21 o = some (.inr (4, [.ref ct, .ref vt, .ref gt, .int (nI nC), .int (nI nV), .int (nI nG)])) := by rw [ehE21]; exact (xU_ne _ _ hne6).trans (hE999)
          have hv_ct9999 : E21 ct = some (.inl (G.2.1 2, 8, .inr (.inr (.inr (.inr tb))))) := by rw [ehE21]; exact (xU_ne _ _ hne7).trans (hv_ct999)
          have hv_vt9999 : E21 vt = some (.inl (G.2.1 3, 4, .inr (.inr (.inr (.inr vb))))) := by rw [ehE21]; exact (xU_ne _ _ hne8).trans (hv_vt999)
          have hv_gt9999 : E21 gt = some (.inl (G.2.1 4, 12, .inr (.inr (.inr (.inr gb))))) := by rw [ehE21]; exact (xU_ne _ _ hne9).trans (hv_gt999)
          have hnew209 : E21 q11 = some (.inr (2, [.ref ct, .int a1, .int a0])) := by rw [ehE21]; exact (xU_ne _ _ hne16').trans (hnew20)
          have hnew23 : E21 q5 = some (.inr (3, [.ref q11, .int 0, .int 0])) := by rw [ehE21]; exact xU_self _ _ _
          refine x_astq (G := G) hx hb hX.1 hW hS 3 3 hv_vt9999 rfl hnew23 rfl (vp_in_nI hcn (by omega)) dX4_variant_80 (fun H locs hW hS => ?_)
          rw [show (nI nV).toNatClampNeg = nV from (nI_clamp (by omega))] at hW
          obtain ⟨E24, eE24⟩ : ∃ z, z = xU E21 vt (.inl (G.2.1 3, 4, .inr (.inr (.inr (.inr (va_up vb nV (some q5))))))) := ⟨_, rfl⟩
          have hW : xW G E24 H := by rw [eE24]; exact hW
          have hE99999 : E24 o = some (.inr (4, [.ref ct, .ref vt, .ref gt, .int (nI nC), .int (nI nV), .int (nI nG)])) := by rw [eE24]; exact xU_of hE9999 hv_vt9999 (fun h => by simp at h)
          have hv_ct99999 : E24 ct = some (.inl (G.2.1 2, 8, .inr (.inr (.inr (.inr tb))))) := by rw [eE24]; exact xU_of hv_ct9999 hv_vt9999 (fun h => by simp at h)
          have hv_gt99999 : E24 gt = some (.inl (G.2.1 4, 12, .inr (.inr (.inr (.inr gb))))) := by rw [eE24]; exact xU_of hv_gt9999 hv_vt9999 (fun h => by simp at h)
          have hnew239 : E24 q5 = some (.inr (3, [.ref q11, .int 0, .int 0])) := by rw [eE24]; exact (xU_ne _ _ hne8').trans hnew23
          have hnew2099 : E24 q11 = some (.inr (2, [.ref ct, .int a1, .int a0])) := by rw [eE24]; exact (xU_ne _ _ hne14').trans hnew209
          have hv_vt99999 : E24 vt = some (.inl (G.2.1 3, 4, .inr (.inr (.inr (.inr (va_up vb nV (some q5))))))) := by rw [eE24]; exact xU_self _ _ _
          refine lv_aload_n hx hb dX4_variant_81 rfl (lv_at hl 1 rfl) ?_
          refine lv_iload_n hx hb dX4_variant_82 rfl (lv_at hl 0 rfl) ?_
          refine lv_iconst (v := 1) hx hb dX4_variant_83 (by decide) ?_
          refine lv_iadd hx hb dX4_variant_84 ?_
          rw [nI_1]
          refine x_put (G := G) (ci := 4) (v := .int (nI (nV + 1))) (ty := .int) (C := RX4) (T := TX4) (N := 6) hx hb hts hiX4 tyX4 tyX4_ok nmX4 hown hX.1 hW hS hE99999 rfl 4 (by decide) hf57 (fun _ h9 => h9) rfl (by decide +kernel) rfl rfl (Nat.le_of_ble_eq_true rfl) dX4_variant_85 (fun H locs hW hS => ?_)
          obtain ⟨E25, eE25⟩ : ∃ z, z = xU E24 o (.inr (4, [.ref ct, .ref vt, .ref gt, .int (nI nC), .int (nI (nV + 1)), .int (nI nG)])) := ⟨_, rfl⟩
          have hW : xW G E25 H := by rw [eE25]; exact hW
          have hv_ct999999 : E25 ct = some (.inl (G.2.1 2, 8, .inr (.inr (.inr (.inr tb))))) := by rw [eE25]; exact xU_of hv_ct99999 hE99999 (fun h => by simp at h)
          have hv_vt999999 : E25 vt = some (.inl (G.2.1 3, 4, .inr (.inr (.inr (.inr (va_up vb nV (some q5))))))) := by rw [eE25]; exact xU_of hv_vt99999 hE99999 (fun h => by simp at h)
          have hv_gt999999 : E25 gt = some (.inl (G.2.1 4, 12, .inr (.inr (.inr (.inr gb))))) := by rw [eE25]; exact xU_of hv_gt99999 hE99999 (fun h => by simp at h)
          have hnew2399 : E25 q5 = some (.inr (3, [.ref q11, .int 0, .int 0])) := by rw [eE25]; exact (xU_ne _ _ hne6').trans hnew239
          have hnew20999 : E25 q11 = some (.inr (2, [.ref ct, .int a1, .int a0])) := by rw [eE25]; exact (xU_ne _ _ hne12').trans hnew2099
          have hE999999 : E25 o = some (.inr (4, [.ref ct, .ref vt, .ref gt, .int (nI nC), .int (nI (nV + 1)), .int (nI nG)])) := by rw [eE25]; exact xU_self _ _ _
          refine lv_iload_n hx hb dX4_variant_88 rfl (lv_at hl 0 rfl) ?_
          exact vx_ret (W.widen (k := 2) (n := 6) (Nat.le_of_ble_eq_true rfl) (Nat.le_of_ble_eq_true rfl) (W.iret (v := nI nV) hx hb hr (fun t ht hw => ⟨⟨_, E25, rfl, ⟨(show tX4_variant nC nV a0 a1 = 0 from by unfold tX4_variant; rw [if_neg c_1, if_neg c_2, if_pos c_3, if_pos c_4]), rfl, hcn, q5, xCls_variant (q1 := q5) (q2 := q11) (v0 := .inr (3, [.null, .int 0, .int 0])) hCls0 hcn hnoq5 (xU_noneE eE10 hnoq11).1 (xU_noneE eE10 hnoq11).2 a0 a1 hZ.1 hZ.2 (by rw [eE25, eE24, ehE21, ehE18, eE17, eE10]; simp only [xU_xU]) rfl⟩, (show xW G E25 t.heap from by rw [ht]; exact hW)⟩, hS.F ht⟩) hS.2.2 dX4_variant_89))
        · exact x_throw hx hb hl9 hown (cls := "java/lang/IllegalStateException") (text := "there are 4 variants") (ik := 42) (is := 60) (ic := 46) hts hX hS hW (by decide +kernel) (by decide +kernel) (by decide +kernel) (by decide +kernel) (fun w h => List.mem_cons_of_mem _ (List.mem_append_right _ h)) (by decide +kernel) (by decide +kernel) (hl.1.trans hml.symm) dX4_variant_40 dX4_variant_43 dX4_variant_44 dX4_variant_46 dX4_variant_49 hno (Nat.le_of_ble_eq_true rfl) (Nat.le_of_ble_eq_true rfl) (Nat.le_of_ble_eq_true rfl) (Nat.le_of_ble_eq_true rfl) hlocks (Or.inr (Or.inl ⟨(show tX4_variant nC nV a0 a1 = 2 from by unfold tX4_variant; rw [if_neg c_1, if_neg c_2, if_pos c_3, if_neg c_4]), rfl⟩)) (Nat.le_of_ble_eq_true rfl) (Nat.le_of_ble_eq_true rfl)
      · exact x_throw hx hb hl9 hown (cls := "java/lang/IllegalArgumentException") (text := "no such holes or cards") (ik := 31) (is := 55) (ic := 35) hts hX hS hW (by decide +kernel) (by decide +kernel) (by decide +kernel) (by decide +kernel) (fun w h => List.mem_cons_of_mem _ (List.mem_append_left _ (List.mem_append_right _ h))) (by decide +kernel) (by decide +kernel) (hl.1.trans hml.symm) dX4_variant_18 dX4_variant_21 dX4_variant_22 dX4_variant_24 dX4_variant_27 hno (Nat.le_of_ble_eq_true rfl) (Nat.le_of_ble_eq_true rfl) (Nat.le_of_ble_eq_true rfl) (Nat.le_of_ble_eq_true rfl) hlocks (Or.inl ⟨(show tX4_variant nC nV a0 a1 = 1 from by unfold tX4_variant; rw [if_neg c_1, if_neg c_2, if_neg (Bool.eq_false_iff.mp c_3)]), rfl⟩) (Nat.le_of_ble_eq_true rfl) (Nat.le_of_ble_eq_true rfl)

def tX4_begin (σ : xSg) (nC nV nG v : Nat) (a0 a1 a2 a3 a4 : Int32) : Nat := if (tIx (nI nV) a0) = 0 then (if (tX4_checkPlayer a1) = 0 then (if (tX4_checkPlayer a2) = 0 then (if a1 = a2 then (1) else (if (fX2_canHold (σ 6 v) a3) = true then (if (fX2_canHold (σ 6 v) a4) = true then (if (a3 &&& a4) = 0 then (if (fX3_isOut (σ 8 v) (σ 9 v)) = true then (2) else (if 12 ≤ (nI nG) then (2) else (if (fX2_hasMove (σ) nC (σ 7 v) (σ 6 v) a3 a4 false) = true then (0) else (2)))) else (1)) else (1)) else (1))) else tX4_checkPlayer a2) else tX4_checkPlayer a1) else tIx (nI nV) a0
set_option maxHeartbeats 4000000 in
set_option maxRecDepth 100000 in
theorem kX4_begin (l : Launch) (hl9 : l.stackTraces = false) (G : xG) (E : xE) (o : Nat) (a0 : Int32) (a1 : Int32) (a2 : Int32) (a3 : Int32) (a4 : Int32) (ct vt gt : Nat) (tb vb gb : Nat → Option Nat) (sa : Nat → Nat) (nC nV nG : Nat) (σ : xSg) (hCls : xCls G E o ct vt gt tb vb gb sa nC nV nG σ) : vx_Met l yX4_begin wsX4_begin ({ frames := 7, cells := 5, slots := 88, locals := 112 }) (va_Pc [.ref o, .int a0, .int a1, .int a2, .int a3, .int a4] (xB G E)) (va_Qi (S := xE) (fun r E' => tX4_begin σ nC nV nG (a0.toNatClampNeg) a0 a1 a2 a3 a4 = 0 ∧ ∃ v : Nat, a0 = nI v ∧ v < nV ∧ r = nI nG ∧ nG < 12 ∧ ∃ q s : Nat, xCls G E' o ct vt gt tb vb (va_up gb nG (some q)) (va_up sa nG s) nC nV (nG + 1) (sgBegin σ nG v a1 a2 a3 a4) ∧ xFr tC E E') (fun E' t => xW G E' t.heap) (xA G)) (xX G E (fun n => xEx n (tX4_begin σ nC nV nG (a0.toNatClampNeg) a0 a1 a2 a3 a4))) 5 88 (xA G) := by
  refine vx_ofW (cc := cX4_begin) (maxL := 9) (ret := (some .int)) (by decide) rfl ?_
  intro p e s m args below meth c s₁ B hml hno hv
  obtain ⟨rfl, hX, hW⟩ := hv
  have hx := B.exec
  have hb := B.bytes
  have hr := B.returns
  have hts := atoms_spec (ws := wsX4_begin) B.pre
  have hown : s.vm.findClass RX4 = some m.cls := findClass_of_methodNamed B.named
  have hlocks := B.notSynchronized
  have hS : va_S (xA G) s.heap s.heap [] := va_S.rf
  have hiX3 : ∀ w ∈ u_ws RX3 TX3 3, w ∈ wsX4_begin := by decide +kernel
  have hf76 := hts (Cond.fieldLink RX4 76 "VariantMill$Variant" "rules" "LVariantMill$Rules;") (by decide +kernel)
  have hiX4 : ∀ w ∈ u_ws RX4 TX4 6, w ∈ wsX4_begin := by decide +kernel
  have hf99 := hts (Cond.fieldLink RX4 99 "VariantMill" "gameCount" "I") (by decide +kernel)
  have hf23 := hts (Cond.fieldLink RX4 23 "VariantMill" "games" "[LVariantMill$Game;") (by decide +kernel)
  have hcl21 := hts (Cond.classLink RX4 21 RX1) (by decide +kernel)
  have hinX1 := hts (Cond.instantiable RX1 9) (by decide +kernel)
  have hiniRX1 := hts (Cond.initialized RX1) (by decide +kernel)
  have hiX1 : ∀ w ∈ u_ws RX1 TX1 9, w ∈ wsX4_begin := by decide +kernel
  have hml108 := hts (Cond.methodLink RX4 108 yX1_init) (by decide +kernel)
  have himX1_init := hts (Cond.instanceMethod yX1_init) (by decide +kernel)
  have hl := lv_entry ([.ref o, .int a0, .int a1, .int a2, .int a3, .int a4]) (n := 9) (Nat.le_of_ble_eq_true rfl)
  rw [lg_entry_eq]
  generalize (lg_sl ([.ref o, .int a0, .int a1, .int a2, .int a3, .int a4]) ++ List.replicate (9 - (lg_sl ([.ref o, .int a0, .int a1, .int a2, .int a3, .int a4])).length) Slot.unset).toArray = ls at hl ⊢
  have hl : lv_has ls 9 [(0, .ref o), (1, .int a0), (2, .int a1), (3, .int a2), (4, .int a3), (5, .int a4)] := hl
  obtain ⟨H, hH⟩ : ∃ z, z = s.heap := ⟨_, rfl⟩
  rw [← hH] at hW
  have hS : va_S (xA G) s.heap H [] := by rw [hH]; exact hS
  rw [← hH]
  have hCls0 := hCls
  obtain ⟨hE, h0, h5, h10, hT, hV, hGs⟩ := hCls
  have hcb := hGs.2.1
  refine lv_aload_n hx hb dX4_begin_0 rfl (lv_at hl 0 rfl) ?_
  refine lv_iload_n hx hb dX4_begin_1 rfl (lv_at hl 1 rfl) ?_
  refine vx_callr (vx_runV (As := [.int a0]) (rest := []) ⟨hx, hb, hml, hown, hts⟩ (kX4_variantAt l hl9 G E o a0 ct vt gt nC nV nG vb hE hV.1 hV.2.1 hV.2.2.1 hV.some) (cwV 1 hts gX4_begin_X4_variantAt rfl rfl rfl (by decide +kernel) ⟨Nat.le_of_ble_eq_true rfl, Nat.le_of_ble_eq_true rfl⟩) (x_preV hX hS hW hE rfl) rfl rfl hl.1 rfl (lv_room (Nat.le_of_ble_eq_true rfl)) dX4_begin_2 ⟨Nat.le_of_ble_eq_true rfl, Nat.le_of_ble_eq_true rfl⟩) hS (fun _ _ h => h) (fun _ h => h) (fun _ _ h => h) (fun Ex ce q9 ux t H1 locs1 ht hvm hpx hB hz1 hk1 hS1 hce hcv hcl => ?_) (fun E1 r2 t H1 locs1 ht hvm hw hB hz1 hk1 hS1 => ?_)
  · obtain ⟨hpx, hB⟩ := hB
    rw [ht] at hB
    exact vx_widen (k := 5) (n := 88) (Nat.le_of_ble_eq_true rfl) (Nat.le_of_ble_eq_true rfl) (vx_out (fun x hx9 => (hno x hx9).elim) hlocks hce hcv hcl (fun t9 ht9 hv9 => ⟨(), trivial, ⟨(by rw [(show tX4_begin σ nC nV nG (a0.toNatClampNeg) a0 a1 a2 a3 a4 = tIx (nI nV) a0 from by unfold tX4_begin; rw [if_neg (xEx_ne hpx)])]; exact hpx), by rw [ht9]; exact hB⟩, hS1.F ht9⟩) hS1.2.2 (Nat.le_refl _) (Nat.le_refl _))
  · rw [ht] at hB
    have hS := hS1
    obtain ⟨⟨v, hav, hvl, hvb, hEe⟩, hB⟩ := hB
    rw [hEe] at hB
    have hW : xW G E H1 := hB
    obtain ⟨va2, vr, hva, hVa, hVr⟩ := hV.2.2.2.1 v hvl
    obtain rfl : r2 = va2 := Option.some.inj (hvb.symm.trans hva)
    have ht0 : tIx (nI nV) a0 = 0 := by rw [hav]; exact tIx_ok hvl (by have := hV.2.1; omega)
    have hVv : a0.toNatClampNeg = v := by rw [hav]; exact nI_clamp (by have := hV.2.1; omega)
    refine lv_astore (lv' := [(6, .ref r2), (0, .ref o), (1, .int a0), (2, .int a1), (3, .int a2), (4, .int a3), (5, .int a4)]) hx hb dX4_begin_5 hl (by decide) rfl (fun ls hl => ?_)
    refine lv_iload_n hx hb dX4_begin_7 rfl (lv_at hl 3 rfl) ?_
    refine vx_callv (vx_runS (As := [.int a1]) (rest := []) ⟨hx, hb, hml, hown, hts⟩ (kX4_checkPlayer l hl9 G E a1) (va_cwS 1 hts gX4_begin_X4_checkPlayer rfl rfl rfl (by decide +kernel) ⟨Nat.le_of_ble_eq_true rfl, Nat.le_of_ble_eq_true rfl⟩) (x_preS hX hS hW) rfl rfl hl.1 rfl (lv_room (Nat.le_of_ble_eq_true rfl)) dX4_begin_8 ⟨Nat.le_of_ble_eq_true rfl, Nat.le_of_ble_eq_true rfl⟩) hS (fun _ _ h => h) (fun _ h => h) (fun _ _ h => h) (fun Ex ce q9 ux t H1 locs1 ht hvm hpx hB hz1 hk1 hS1 hce hcv hcl => ?_) (fun E4 t H1 locs1 ht hvm hw hB hz1 hk1 hS1 => ?_)
    · obtain ⟨hpx, hB⟩ := hB
      rw [ht] at hB
      exact vx_widen (k := 5) (n := 88) (Nat.le_of_ble_eq_true rfl) (Nat.le_of_ble_eq_true rfl) (vx_out (fun x hx9 => (hno x hx9).elim) hlocks hce hcv hcl (fun t9 ht9 hv9 => ⟨(), trivial, ⟨(by rw [(show tX4_begin σ nC nV nG (a0.toNatClampNeg) a0 a1 a2 a3 a4 = tX4_checkPlayer a1 from by rw [hVv]; unfold tX4_begin; rw [if_pos ht0, if_neg (xEx_ne hpx)])]; exact hpx), by rw [ht9]; exact hB⟩, hS1.F ht9⟩) hS1.2.2 (Nat.le_refl _) (Nat.le_refl _))
    · rw [ht] at hB
      have hS := hS1
      obtain ⟨hk7, hEe⟩ := hw
      rw [hEe] at hB
      have hW : xW G E H1 := hB
      refine lv_iload_n hx hb dX4_begin_11 rfl (lv_at hl 4 rfl) ?_
      refine vx_callv (vx_runS (As := [.int a2]) (rest := []) ⟨hx, hb, hml, hown, hts⟩ (kX4_checkPlayer l hl9 G E a2) (va_cwS 1 hts gX4_begin_X4_checkPlayer rfl rfl rfl (by decide +kernel) ⟨Nat.le_of_ble_eq_true rfl, Nat.le_of_ble_eq_true rfl⟩) (x_preS hX hS hW) rfl rfl hl.1 rfl (lv_room (Nat.le_of_ble_eq_true rfl)) dX4_begin_12 ⟨Nat.le_of_ble_eq_true rfl, Nat.le_of_ble_eq_true rfl⟩) hS (fun _ _ h => h) (fun _ h => h) (fun _ _ h => h) (fun Ex ce q9 ux t H1 locs1 ht hvm hpx hB hz1 hk1 hS1 hce hcv hcl => ?_) (fun E8 t H1 locs1 ht hvm hw hB hz1 hk1 hS1 => ?_)
      · obtain ⟨hpx, hB⟩ := hB
        rw [ht] at hB
        exact vx_widen (k := 5) (n := 88) (Nat.le_of_ble_eq_true rfl) (Nat.le_of_ble_eq_true rfl) (vx_out (fun x hx9 => (hno x hx9).elim) hlocks hce hcv hcl (fun t9 ht9 hv9 => ⟨(), trivial, ⟨(by rw [(show tX4_begin σ nC nV nG (a0.toNatClampNeg) a0 a1 a2 a3 a4 = tX4_checkPlayer a2 from by rw [hVv]; unfold tX4_begin; rw [if_pos ht0, if_pos hk7, if_neg (xEx_ne hpx)])]; exact hpx), by rw [ht9]; exact hB⟩, hS1.F ht9⟩) hS1.2.2 (Nat.le_refl _) (Nat.le_refl _))
      · rw [ht] at hB
        have hS := hS1
        obtain ⟨hk11, hEe⟩ := hw
        rw [hEe] at hB
        have hW : xW G E H1 := hB
        refine lv_aload hx hb dX4_begin_15 (lv_at hl 0 rfl) ?_
        refine va_get (D := G.1) (ci := 3) (v := .ref vr) (C := RX3) (T := TX3) (N := 3) hx hb hts hiX3 hown hX.1 (x1 hW hVa) 0 rfl rfl 0 (by decide) hf76 (fun _ h9 => h9) rfl dX4_begin_17 ?_
        refine lv_astore (lv' := [(7, .ref vr), (6, .ref r2), (0, .ref o), (1, .int a0), (2, .int a1), (3, .int a2), (4, .int a3), (5, .int a4)]) hx hb dX4_begin_20 hl (by decide) rfl (fun ls hl => ?_)
        refine lv_iload_n hx hb dX4_begin_22 rfl (lv_at hl 4 rfl) ?_
        refine lv_iload_n hx hb dX4_begin_23 rfl (lv_at hl 5 rfl) ?_
        refine lv_icmp_eq (tgt := 55) hx hb dX4_begin_24 (by decide) (fun c_12 => ?_) (fun c_12 => ?_)
        · exact x_throw hx hb hl9 hown (cls := "java/lang/IllegalArgumentException") (text := "no such game can be") (ik := 31) (is := 93) (ic := 35) hts hX hS hW (by decide +kernel) (by decide +kernel) (by decide +kernel) (by decide +kernel) (fun w h => List.mem_cons_of_mem _ (List.mem_append_left _ (List.mem_append_left _ (List.mem_append_right _ h)))) (by decide +kernel) (by decide +kernel) (hl.1.trans hml.symm) dX4_begin_55 dX4_begin_58 dX4_begin_59 dX4_begin_61 dX4_begin_64 hno (Nat.le_of_ble_eq_true rfl) (Nat.le_of_ble_eq_true rfl) (Nat.le_of_ble_eq_true rfl) (Nat.le_of_ble_eq_true rfl) hlocks (Or.inl ⟨(show tX4_begin σ nC nV nG (a0.toNatClampNeg) a0 a1 a2 a3 a4 = 1 from by rw [hVv]; unfold tX4_begin; rw [if_pos ht0, if_pos hk7, if_pos hk11, if_pos c_12]), rfl⟩) (Nat.le_of_ble_eq_true rfl) (Nat.le_of_ble_eq_true rfl)
        · refine lv_aload hx hb dX4_begin_27 (lv_at hl 0 rfl) ?_
          refine lv_iload hx hb dX4_begin_29 (lv_at hl 6 rfl) ?_
          refine x_callSe (va_runV (As := [.int a3]) (rest := []) ⟨hx, hb, hml, hown, hts⟩ (kX2_canHold l G _ (σ 6 v) vr a3 ct (σ 7 v) hVr) (cwV 1 hts gX4_begin_X2_canHold rfl rfl rfl (by decide +kernel) ⟨Nat.le_of_ble_eq_true rfl, Nat.le_of_ble_eq_true rfl⟩) (x_preV hX hS hW hVr rfl) rfl rfl hl.1 rfl (lv_room (Nat.le_of_ble_eq_true rfl)) dX4_begin_31 ⟨Nat.le_of_ble_eq_true rfl, Nat.le_of_ble_eq_true rfl⟩) ?_
          refine x_ifz_eq (b := fX2_canHold (σ 6 v) a3) (tgt := 55) hx hb dX4_begin_34 (by decide) (fun c_13 => ?_) (fun c_13 => ?_)
          · exact x_throw hx hb hl9 hown (cls := "java/lang/IllegalArgumentException") (text := "no such game can be") (ik := 31) (is := 93) (ic := 35) hts hX hS hW (by decide +kernel) (by decide +kernel) (by decide +kernel) (by decide +kernel) (fun w h => List.mem_cons_of_mem _ (List.mem_append_left _ (List.mem_append_left _ (List.mem_append_right _ h)))) (by decide +kernel) (by decide +kernel) (hl.1.trans hml.symm) dX4_begin_55 dX4_begin_58 dX4_begin_59 dX4_begin_61 dX4_begin_64 hno (Nat.le_of_ble_eq_true rfl) (Nat.le_of_ble_eq_true rfl) (Nat.le_of_ble_eq_true rfl) (Nat.le_of_ble_eq_true rfl) hlocks (Or.inl ⟨(show tX4_begin σ nC nV nG (a0.toNatClampNeg) a0 a1 a2 a3 a4 = 1 from by rw [hVv]; unfold tX4_begin; rw [if_pos ht0, if_pos hk7, if_pos hk11, if_neg c_12, if_neg (Bool.eq_false_iff.mp c_13)]), rfl⟩) (Nat.le_of_ble_eq_true rfl) (Nat.le_of_ble_eq_true rfl)
          · refine lv_aload hx hb dX4_begin_37 (lv_at hl 0 rfl) ?_
            refine lv_iload hx hb dX4_begin_39 (lv_at hl 7 rfl) ?_
            refine x_callSe (va_runV (As := [.int a4]) (rest := []) ⟨hx, hb, hml, hown, hts⟩ (kX2_canHold l G _ (σ 6 v) vr a4 ct (σ 7 v) hVr) (cwV 1 hts gX4_begin_X2_canHold rfl rfl rfl (by decide +kernel) ⟨Nat.le_of_ble_eq_true rfl, Nat.le_of_ble_eq_true rfl⟩) (x_preV hX hS hW hVr rfl) rfl rfl hl.1 rfl (lv_room (Nat.le_of_ble_eq_true rfl)) dX4_begin_41 ⟨Nat.le_of_ble_eq_true rfl, Nat.le_of_ble_eq_true rfl⟩) ?_
            refine x_ifz_eq (b := fX2_canHold (σ 6 v) a4) (tgt := 55) hx hb dX4_begin_44 (by decide) (fun c_14 => ?_) (fun c_14 => ?_)
            · exact x_throw hx hb hl9 hown (cls := "java/lang/IllegalArgumentException") (text := "no such game can be") (ik := 31) (is := 93) (ic := 35) hts hX hS hW (by decide +kernel) (by decide +kernel) (by decide +kernel) (by decide +kernel) (fun w h => List.mem_cons_of_mem _ (List.mem_append_left _ (List.mem_append_left _ (List.mem_append_right _ h)))) (by decide +kernel) (by decide +kernel) (hl.1.trans hml.symm) dX4_begin_55 dX4_begin_58 dX4_begin_59 dX4_begin_61 dX4_begin_64 hno (Nat.le_of_ble_eq_true rfl) (Nat.le_of_ble_eq_true rfl) (Nat.le_of_ble_eq_true rfl) (Nat.le_of_ble_eq_true rfl) hlocks (Or.inl ⟨(show tX4_begin σ nC nV nG (a0.toNatClampNeg) a0 a1 a2 a3 a4 = 1 from by rw [hVv]; unfold tX4_begin; rw [if_pos ht0, if_pos hk7, if_pos hk11, if_neg c_12, if_pos c_13, if_neg (Bool.eq_false_iff.mp c_14)]), rfl⟩) (Nat.le_of_ble_eq_true rfl) (Nat.le_of_ble_eq_true rfl)
            · refine lv_iload hx hb dX4_begin_47 (lv_at hl 6 rfl) ?_
              refine lv_iload hx hb dX4_begin_49 (lv_at hl 7 rfl) ?_
              refine lv_iand hx hb dX4_begin_51 ?_
              refine lv_if_eq (tgt := 65) hx hb dX4_begin_52 (by decide) (fun c_15 => ?_) (fun c_15 => ?_)
              · refine lv_aload hx hb dX4_begin_65 (lv_at hl 1 rfl) ?_
                refine x_callSe (va_runV (As := []) (rest := []) ⟨hx, hb, hml, hown, hts⟩ (kX3_isOut l G _ (σ 8 v) (σ 9 v) r2 vr hVa) (cwV 0 hts gX4_begin_X3_isOut rfl rfl rfl (by decide +kernel) ⟨Nat.le_of_ble_eq_true rfl, Nat.le_of_ble_eq_true rfl⟩) (x_preV hX hS hW hVa rfl) rfl rfl hl.1 rfl (lv_room (Nat.le_of_ble_eq_true rfl)) dX4_begin_67 ⟨Nat.le_of_ble_eq_true rfl, Nat.le_of_ble_eq_true rfl⟩) ?_
                refine x_ifz_ne (b := fX3_isOut (σ 8 v) (σ 9 v)) (tgt := 98) hx hb dX4_begin_70 (by decide) (fun c_16 => ?_) (fun c_16 => ?_)
                · exact x_throw hx hb hl9 hown (cls := "java/lang/IllegalStateException") (text := "banned, 12 games, or no move") (ik := 42) (is := 106) (ic := 46) hts hX hS hW (by decide +kernel) (by decide +kernel) (by decide +kernel) (by decide +kernel) (fun w h => List.mem_cons_of_mem _ (List.mem_append_left _ (List.mem_append_right _ h))) (by decide +kernel) (by decide +kernel) (hl.1.trans hml.symm) dX4_begin_98 dX4_begin_101 dX4_begin_102 dX4_begin_104 dX4_begin_107 hno (Nat.le_of_ble_eq_true rfl) (Nat.le_of_ble_eq_true rfl) (Nat.le_of_ble_eq_true rfl) (Nat.le_of_ble_eq_true rfl) hlocks (Or.inr (Or.inl ⟨(show tX4_begin σ nC nV nG (a0.toNatClampNeg) a0 a1 a2 a3 a4 = 2 from by rw [hVv]; unfold tX4_begin; rw [if_pos ht0, if_pos hk7, if_pos hk11, if_neg c_12, if_pos c_13, if_pos c_14, if_pos c_15, if_pos c_16]), rfl⟩)) (Nat.le_of_ble_eq_true rfl) (Nat.le_of_ble_eq_true rfl)
                · refine lv_aload_n hx hb dX4_begin_73 rfl (lv_at hl 2 rfl) ?_
                  refine va_get (D := G.1) (ci := 4) (v := .int (nI nG)) (C := RX4) (T := TX4) (N := 6) hx hb hts hiX4 hown hX.1 (x1 hW hE) 0 rfl rfl 5 (by decide) hf99 (fun _ h9 => h9) rfl dX4_begin_74 ?_
                  refine lv_aload_n hx hb dX4_begin_77 rfl (lv_at hl 2 rfl) ?_
                  refine va_get (D := G.1) (ci := 4) (v := .ref gt) (C := RX4) (T := TX4) (N := 6) hx hb hts hiX4 hown hX.1 (x1 hW hE) 0 rfl rfl 2 (by decide) hf23 (fun _ h9 => h9) rfl dX4_begin_78 ?_
                  refine va_alen (D := G.1) hx hb hX.1 (x1 hW hGs.1) 0 4 rfl rfl (v := 12) rfl dX4_begin_81 ?_
                  refine lv_icmp_ge (tgt := 98) hx hb dX4_begin_82 (by decide) (fun c_17 => ?_) (fun c_17 => ?_)
                  · exact x_throw hx hb hl9 hown (cls := "java/lang/IllegalStateException") (text := "banned, 12 games, or no move") (ik := 42) (is := 106) (ic := 46) hts hX hS hW (by decide +kernel) (by decide +kernel) (by decide +kernel) (by decide +kernel) (fun w h => List.mem_cons_of_mem _ (List.mem_append_left _ (List.mem_append_right _ h))) (by decide +kernel) (by decide +kernel) (hl.1.trans hml.symm) dX4_begin_98 dX4_begin_101 dX4_begin_102 dX4_begin_104 dX4_begin_107 hno (Nat.le_of_ble_eq_true rfl) (Nat.le_of_ble_eq_true rfl) (Nat.le_of_ble_eq_true rfl) (Nat.le_of_ble_eq_true rfl) hlocks (Or.inr (Or.inl ⟨(show tX4_begin σ nC nV nG (a0.toNatClampNeg) a0 a1 a2 a3 a4 = 2 from by rw [hVv]; unfold tX4_begin; rw [if_pos ht0, if_pos hk7, if_pos hk11, if_neg c_12, if_pos c_13, if_pos c_14, if_pos c_15, if_neg (Bool.eq_false_iff.mp c_16), if_pos c_17]), rfl⟩)) (Nat.le_of_ble_eq_true rfl) (Nat.le_of_ble_eq_true rfl)
                  · have hcn : nG < 12 := x_nge (B := 12) c_17 (by have := hcb; omega)
                    refine lv_aload hx hb dX4_begin_85 (lv_at hl 0 rfl) ?_
                    refine lv_iload hx hb dX4_begin_87 (lv_at hl 6 rfl) ?_
                    refine lv_iload hx hb dX4_begin_89 (lv_at hl 7 rfl) ?_
                    refine lv_iconst (v := 0) hx hb dX4_begin_91 (by decide) ?_
                    refine x_callSe (va_runV (As := [.int a3, .int a4, .int 0]) (rest := []) ⟨hx, hb, hml, hown, hts⟩ (kX2_hasMove l G _ (σ) nC (σ 7 v) (σ 6 v) vr a3 a4 false ct tb hVr hT) (cwV 3 hts gX4_begin_X2_hasMove rfl rfl rfl (by decide +kernel) ⟨Nat.le_of_ble_eq_true rfl, Nat.le_of_ble_eq_true rfl⟩) (x_preV hX hS hW hVr rfl) rfl rfl hl.1 rfl (lv_room (Nat.le_of_ble_eq_true rfl)) dX4_begin_92 ⟨Nat.le_of_ble_eq_true rfl, Nat.le_of_ble_eq_true rfl⟩) ?_
                    refine x_ifz_ne (b := fX2_hasMove (σ) nC (σ 7 v) (σ 6 v) a3 a4 false) (tgt := 108) hx hb dX4_begin_95 (by decide) (fun c_18 => ?_) (fun c_18 => ?_)
                    · refine lv_aload_n hx hb dX4_begin_108 rfl (lv_at hl 2 rfl) ?_
                      refine va_get (D := G.1) (ci := 4) (v := .int (nI nG)) (C := RX4) (T := TX4) (N := 6) hx hb hts hiX4 hown hX.1 (x1 hW hE) 0 rfl rfl 5 (by decide) hf99 (fun _ h9 => h9) rfl dX4_begin_109 ?_
                      refine lv_istore (lv' := [(8, .int (nI nG)), (7, .ref vr), (6, .ref r2), (0, .ref o), (1, .int a0), (2, .int a1), (3, .int a2), (4, .int a3), (5, .int a4)]) hx hb dX4_begin_112 hl (by decide) rfl (fun ls hl => ?_)
                      refine lv_aload_n hx hb dX4_begin_114 rfl (lv_at hl 3 rfl) ?_
                      refine va_get (D := G.1) (ci := 4) (v := .ref gt) (C := RX4) (T := TX4) (N := 6) hx hb hts hiX4 hown hX.1 (x1 hW hE) 0 rfl rfl 2 (by decide) hf23 (fun _ h9 => h9) rfl dX4_begin_115 ?_
                      refine lv_iload hx hb dX4_begin_118 (lv_at hl 0 rfl) ?_
                      refine x_new (G := G) (ci := 1) (fs := [.null, .null, .int 0, .int 0, .null, .int 0, .int 0, .int 0, .int 0]) (C := RX1) (T := TX1) (N := 9) hx hb hts hiX1 tyX1 tyX1_ok hown hcl21 hinX1 hiniRX1 hX.1 hW hS rfl (fun j hj => by rcases (show j = 0 ∨ j = 1 ∨ j = 2 ∨ j = 3 ∨ j = 4 ∨ j = 5 ∨ j = 6 ∨ j = 7 ∨ j = 8 by omega) with rfl | rfl | rfl | rfl | rfl | rfl | rfl | rfl | rfl <;> rfl) (Nat.le_of_ble_eq_true rfl) (Nat.le_of_ble_eq_true rfl) dX4_begin_120 (fun q19 H1 hqq19 hzq19 hW1 hS1 => ?_)
                      have hne20 : o ≠ q19 := by rw [hqq19]; exact Nat.ne_of_lt (hW.lt hE)
                      have hne20' : q19 ≠ o := Ne.symm hne20
                      have hne21 : ct ≠ q19 := by rw [hqq19]; exact Nat.ne_of_lt (hW.lt hT.1)
                      have hne21' : q19 ≠ ct := Ne.symm hne21
                      have hne22 : vt ≠ q19 := by rw [hqq19]; exact Nat.ne_of_lt (hW.lt hV.1)
                      have hne22' : q19 ≠ vt := Ne.symm hne22
                      have hne23 : gt ≠ q19 := by rw [hqq19]; exact Nat.ne_of_lt (hW.lt hGs.1)
                      have hne23' : q19 ≠ gt := Ne.symm hne23
                      have hne24 : r2 ≠ q19 := by rw [hqq19]; exact Nat.ne_of_lt (hW.lt hVa)
                      have hne24' : q19 ≠ r2 := Ne.symm hne24
                      have hne25 : vr ≠ q19 := by rw [hqq19]; exact Nat.ne_of_lt (hW.lt hVr)
                      have hne25' : q19 ≠ vr := Ne.symm hne25
                      have hnoq19 : E q19 = none := by rw [hqq19]; exact hW.new
                      have hltq19 : G.2.2 ≤ q19 := by rw [hqq19]; exact hW.1
                      have hW := hW1
                      have hS := hS1
                      generalize H1 = H at hW hS ⊢
                      obtain ⟨E26, eE26⟩ : ∃ z, z = xU E q19 (.inr (1, [.null, .null, .int 0, .int 0, .null, .int 0, .int 0, .int 0, .int 0])) := ⟨_, rfl⟩
                      have hW : xW G E26 H := by rw [eE26]; exact hW
                      have hE9 : E26 o = some (.inr (4, [.ref ct, .ref vt, .ref gt, .int (nI nC), .int (nI nV), .int (nI nG)])) := by rw [eE26]; exact (xU_ne _ _ hne20).trans hE
                      have hv_ct9 : E26 ct = some (.inl (G.2.1 2, 8, .inr (.inr (.inr (.inr tb))))) := by rw [eE26]; exact (xU_ne _ _ hne21).trans hT.1
                      have hv_vt9 : E26 vt = some (.inl (G.2.1 3, 4, .inr (.inr (.inr (.inr vb))))) := by rw [eE26]; exact (xU_ne _ _ hne22).trans hV.1
                      have hv_gt9 : E26 gt = some (.inl (G.2.1 4, 12, .inr (.inr (.inr (.inr gb))))) := by rw [eE26]; exact (xU_ne _ _ hne23).trans hGs.1
                      have hVa9 : E26 r2 = some (.inr (3, [.ref vr, .int (σ 8 v), .int (σ 9 v)])) := by rw [eE26]; exact (xU_ne _ _ hne24).trans hVa
                      have hVr9 : E26 vr = some (.inr (2, [.ref ct, .int (σ 7 v), .int (σ 6 v)])) := by rw [eE26]; exact (xU_ne _ _ hne25).trans hVr
                      have hnq199 : E26 q19 = some (.inr (1, [.null, .null, .int 0, .int 0, .null, .int 0, .int 0, .int 0, .int 0])) := by rw [eE26]; exact xU_self _ _ _
                      refine lv_dup hx hb dX4_begin_123 rfl ?_
                      refine lv_aload hx hb dX4_begin_124 (lv_at hl 2 rfl) ?_
                      refine lv_iload_n hx hb dX4_begin_126 rfl (lv_at hl 5 rfl) ?_
                      refine lv_iload_n hx hb dX4_begin_127 rfl (lv_at hl 6 rfl) ?_
                      refine lv_iload hx hb dX4_begin_128 (lv_at hl 7 rfl) ?_
                      refine lv_iload hx hb dX4_begin_130 (lv_at hl 8 rfl) ?_
                      refine va_callv (va_runI (As := [.ref r2, .int a1, .int a2, .int a3, .int a4]) (rest := [.ref q19, .int (nI nG), .ref gt]) ⟨hx, hb, hml, hown, hts⟩ (kX1_init l G _ q19 r2 a1 a2 a3 a4 vr (σ 8 v) (σ 9 v) hnq199 hVa9) (cwI 5 hts gX4_begin_X1_init rfl rfl rfl hiniRX1 hml108 himX1_init rfl (by decide +kernel) ⟨Nat.le_of_ble_eq_true rfl, Nat.le_of_ble_eq_true rfl⟩) (x_preS hX hS hW) rfl rfl hl.1 rfl (lv_room (Nat.le_of_ble_eq_true rfl)) dX4_begin_132 ⟨Nat.le_of_ble_eq_true rfl, Nat.le_of_ble_eq_true rfl⟩) hS (fun _ _ h => h) (fun _ h => h) (fun E27 t H1 locs1 ht hvm hw hB hz1 hk1 hS1 => ?_)
                      rw [ht] at hB
                      have hS := hS1
                      obtain ⟨s29, hnos29, hneS, ehE27⟩ := hw
                      have hW : xW G E27 H1 := hB
                      have hE99 : E27 o = some (.inr (4, [.ref ct, .ref vt, .ref gt, .int (nI nC), .int (nI nV), .int (nI nG)])) := by rw [ehE27]; exact (xU_ne _ _ (fun z => by have h9 := hE9; rw [z, hnos29] at h9; cases h9)).trans ((xU_ne _ _ hne20).trans hE9)
                      have hv_ct99 : E27 ct = some (.inl (G.2.1 2, 8, .inr (.inr (.inr (.inr tb))))) := by rw [ehE27]; exact (xU_ne _ _ (fun z => by have h9 := hv_ct9; rw [z, hnos29] at h9; cases h9)).trans ((xU_ne _ _ hne21).trans hv_ct9)
                      have hv_vt99 : E27 vt = some (.inl (G.2.1 3, 4, .inr (.inr (.inr (.inr vb))))) := by rw [ehE27]; exact (xU_ne _ _ (fun z => by have h9 := hv_vt9; rw [z, hnos29] at h9; cases h9)).trans ((xU_ne _ _ hne22).trans hv_vt9)
                      have hv_gt99 : E27 gt = some (.inl (G.2.1 4, 12, .inr (.inr (.inr (.inr gb))))) := by rw [ehE27]; exact (xU_ne _ _ (fun z => by have h9 := hv_gt9; rw [z, hnos29] at h9; cases h9)).trans ((xU_ne _ _ hne23).trans hv_gt9)
                      have hVa99 : E27 r2 = some (.inr (3, [.ref vr, .int (σ 8 v), .int (σ 9 v)])) := by rw [ehE27]; exact (xU_ne _ _ (fun z => by have h9 := hVa9; rw [z, hnos29] at h9; cases h9)).trans ((xU_ne _ _ hne24).trans hVa9)
                      have hVr99 : E27 vr = some (.inr (2, [.ref ct, .int (σ 7 v), .int (σ 6 v)])) := by rw [ehE27]; exact (xU_ne _ _ (fun z => by have h9 := hVr9; rw [z, hnos29] at h9; cases h9)).trans ((xU_ne _ _ hne25).trans hVr9)
                      have hgn : E27 q19 = some (.inr (1, [.ref r2, .ref vr, .int a1, .int a2, .ref s29, .int a3, .int a4, .int 0, .int 0])) := by rw [ehE27]; exact (xU_ne _ _ (Ne.symm hneS)).trans (xU_self _ _ _)
                      refine x_astq (G := G) hx hb hX.1 hW hS 4 1 hv_gt99 rfl hgn rfl (vp_in_nI hcn (by omega)) dX4_begin_135 (fun H locs hW hS => ?_)
                      rw [show (nI nG).toNatClampNeg = nG from (nI_clamp (by omega))] at hW
                      obtain ⟨E30, eE30⟩ : ∃ z, z = xU E27 gt (.inl (G.2.1 4, 12, .inr (.inr (.inr (.inr (va_up gb nG (some q19))))))) := ⟨_, rfl⟩
                      have hW : xW G E30 H := by rw [eE30]; exact hW
                      have hE999 : E30 o = some (.inr (4, [.ref ct, .ref vt, .ref gt, .int (nI nC), .int (nI nV), .int (nI nG)])) := by rw [eE30]; exact xU_of hE99 hv_gt99 (fun h => by simp at h)
                      have hv_ct999 : E30 ct = some (.inl (G.2.1 2, 8, .inr (.inr (.inr (.inr tb))))) := by rw [eE30]; exact xU_of hv_ct99 hv_gt99 (fun h => by simp at h)
                      have hv_vt999 : E30 vt = some (.inl (G.2.1 3, 4, .inr (.inr (.inr (.inr vb))))) := by rw [eE30]; exact xU_of hv_vt99 hv_gt99 (fun h => by simp at h)
                      have hVa999 : E30 r2 = some (.inr (3, [.ref vr, .int (σ 8 v), .int (σ 9 v)])) := by rw [eE30]; exact xU_of hVa99 hv_gt99 (fun h => by simp at h)
                      have hVr999 : E30 vr = some (.inr (2, [.ref ct, .int (σ 7 v), .int (σ 6 v)])) := by rw [eE30]; exact xU_of hVr99 hv_gt99 (fun h => by simp at h)
                      have hgn9 : E30 q19 = some (.inr (1, [.ref r2, .ref vr, .int a1, .int a2, .ref s29, .int a3, .int a4, .int 0, .int 0])) := by rw [eE30]; exact (xU_ne _ _ hne23').trans hgn
                      have hv_gt999 : E30 gt = some (.inl (G.2.1 4, 12, .inr (.inr (.inr (.inr (va_up gb nG (some q19))))))) := by rw [eE30]; exact xU_self _ _ _
                      refine lv_aload_n hx hb dX4_begin_136 rfl (lv_at hl 3 rfl) ?_
                      refine lv_iload hx hb dX4_begin_137 (lv_at hl 0 rfl) ?_
                      refine lv_iconst (v := 1) hx hb dX4_begin_139 (by decide) ?_
                      refine lv_iadd hx hb dX4_begin_140 ?_
                      rw [nI_1]
                      refine x_put (G := G) (ci := 4) (v := .int (nI (nG + 1))) (ty := .int) (C := RX4) (T := TX4) (N := 6) hx hb hts hiX4 tyX4 tyX4_ok nmX4 hown hX.1 hW hS hE999 rfl 5 (by decide) hf99 (fun _ h9 => h9) rfl (by decide +kernel) rfl rfl (Nat.le_of_ble_eq_true rfl) dX4_begin_141 (fun H locs hW hS => ?_)
                      obtain ⟨E31, eE31⟩ : ∃ z, z = xU E30 o (.inr (4, [.ref ct, .ref vt, .ref gt, .int (nI nC), .int (nI nV), .int (nI (nG + 1))])) := ⟨_, rfl⟩
                      have hW : xW G E31 H := by rw [eE31]; exact hW
                      have hv_ct9999 : E31 ct = some (.inl (G.2.1 2, 8, .inr (.inr (.inr (.inr tb))))) := by rw [eE31]; exact xU_of hv_ct999 hE999 (fun h => by simp at h)
                      have hv_vt9999 : E31 vt = some (.inl (G.2.1 3, 4, .inr (.inr (.inr (.inr vb))))) := by rw [eE31]; exact xU_of hv_vt999 hE999 (fun h => by simp at h)
                      have hv_gt9999 : E31 gt = some (.inl (G.2.1 4, 12, .inr (.inr (.inr (.inr (va_up gb nG (some q19))))))) := by rw [eE31]; exact xU_of hv_gt999 hE999 (fun h => by simp at h)
                      have hVa9999 : E31 r2 = some (.inr (3, [.ref vr, .int (σ 8 v), .int (σ 9 v)])) := by rw [eE31]; exact xU_of hVa999 hE999 (fun h => by simp at h)
                      have hVr9999 : E31 vr = some (.inr (2, [.ref ct, .int (σ 7 v), .int (σ 6 v)])) := by rw [eE31]; exact xU_of hVr999 hE999 (fun h => by simp at h)
                      have hgn99 : E31 q19 = some (.inr (1, [.ref r2, .ref vr, .int a1, .int a2, .ref s29, .int a3, .int a4, .int 0, .int 0])) := by rw [eE31]; exact (xU_ne _ _ hne20').trans hgn9
                      have hE9999 : E31 o = some (.inr (4, [.ref ct, .ref vt, .ref gt, .int (nI nC), .int (nI nV), .int (nI (nG + 1))])) := by rw [eE31]; exact xU_self _ _ _
                      refine lv_iload hx hb dX4_begin_144 (lv_at hl 0 rfl) ?_
                      exact vx_ret (W.widen (k := 5) (n := 88) (Nat.le_of_ble_eq_true rfl) (Nat.le_of_ble_eq_true rfl) (W.iret (v := nI nG) hx hb hr (fun t ht hw => ⟨⟨_, E31, rfl, ⟨(show tX4_begin σ nC nV nG (a0.toNatClampNeg) a0 a1 a2 a3 a4 = 0 from by rw [hVv]; unfold tX4_begin; rw [if_pos ht0, if_pos hk7, if_pos hk11, if_neg c_12, if_pos c_13, if_pos c_14, if_pos c_15, if_neg (Bool.eq_false_iff.mp c_16), if_neg c_17, if_pos c_18]), v, hav, hvl, rfl, hcn, q19, s29, xCls_begin (q := q19) (s := s29) hCls0 hcn hvl hvb hVr hnoq19 (xU_noneE eE26 hnos29).1 hneS a1 a2 a3 a4 (by rw [eE31, eE30, ehE27, eE26]; simp only [xU_xU])⟩, (show xW G E31 t.heap from by rw [ht]; exact hW)⟩, hS.F ht⟩) hS.2.2 dX4_begin_146))
                    · exact x_throw hx hb hl9 hown (cls := "java/lang/IllegalStateException") (text := "banned, 12 games, or no move") (ik := 42) (is := 106) (ic := 46) hts hX hS hW (by decide +kernel) (by decide +kernel) (by decide +kernel) (by decide +kernel) (fun w h => List.mem_cons_of_mem _ (List.mem_append_left _ (List.mem_append_right _ h))) (by decide +kernel) (by decide +kernel) (hl.1.trans hml.symm) dX4_begin_98 dX4_begin_101 dX4_begin_102 dX4_begin_104 dX4_begin_107 hno (Nat.le_of_ble_eq_true rfl) (Nat.le_of_ble_eq_true rfl) (Nat.le_of_ble_eq_true rfl) (Nat.le_of_ble_eq_true rfl) hlocks (Or.inr (Or.inl ⟨(show tX4_begin σ nC nV nG (a0.toNatClampNeg) a0 a1 a2 a3 a4 = 2 from by rw [hVv]; unfold tX4_begin; rw [if_pos ht0, if_pos hk7, if_pos hk11, if_neg c_12, if_pos c_13, if_pos c_14, if_pos c_15, if_neg (Bool.eq_false_iff.mp c_16), if_neg c_17, if_neg (Bool.eq_false_iff.mp c_18)]), rfl⟩)) (Nat.le_of_ble_eq_true rfl) (Nat.le_of_ble_eq_true rfl)
              · exact x_throw hx hb hl9 hown (cls := "java/lang/IllegalArgumentException") (text := "no such game can be") (ik := 31) (is := 93) (ic := 35) hts hX hS hW (by decide +kernel) (by decide +kernel) (by decide +kernel) (by decide +kernel) (fun w h => List.mem_cons_of_mem _ (List.mem_append_left _ (List.mem_append_left _ (List.mem_append_right _ h)))) (by decide +kernel) (by decide +kernel) (hl.1.trans hml.symm) dX4_begin_55 dX4_begin_58 dX4_begin_59 dX4_begin_61 dX4_begin_64 hno (Nat.le_of_ble_eq_true rfl) (Nat.le_of_ble_eq_true rfl) (Nat.le_of_ble_eq_true rfl) (Nat.le_of_ble_eq_true rfl) hlocks (Or.inl ⟨(show tX4_begin σ nC nV nG (a0.toNatClampNeg) a0 a1 a2 a3 a4 = 1 from by rw [hVv]; unfold tX4_begin; rw [if_pos ht0, if_pos hk7, if_pos hk11, if_neg c_12, if_pos c_13, if_pos c_14, if_neg c_15]), rfl⟩) (Nat.le_of_ble_eq_true rfl) (Nat.le_of_ble_eq_true rfl)

theorem x_allows_open {σ : xSg} {nC : Nat} {S h p1 p2 md sta a b : Int32} (q : fX1_allows σ nC S h p1 p2 md sta a b = true) : sta = 0 := by
  unfold fX1_allows at q
  by_cases z : sta = 0
  · exact z
  · rw [if_neg z] at q; cases q
theorem x_settle_open {σ : xSg} {nC : Nat} {S h p1 p2 sta en : Int32} {d : Nat} {sq : Nat → Int64} (hd : d < 60) (q : (fX1_settle σ nC S h p1 p2 (nI (d + 1)) sta en sq).1 = 0) : d + 1 < 60 := by
  rcases Nat.lt_or_ge (d + 1) 60 with z | z
  · exact z
  · exfalso
    have hd59 : d = 59 := by omega
    subst hd59
    revert q
    unfold fX1_settle
    repeat' split
    all_goals first | (intro q; exact absurd (show (3 : Int32) = 0 from q) (by decide)) | (intro q; exact absurd (show (1 : Int32) = 0 from q) (by decide)) | (intro q; exact absurd (show (2 : Int32) = 0 from q) (by decide)) | (intro q; rename_i z1; exact absurd z1 (by decide))
theorem x_goKeep {E : xE} {g s : Nat} {l1 : List Value} {c : ClassId} {l2 : Nat → Int64} {g1 s1 : va_E} (h1 : E g = some (.inr (1, l1))) (h2 : E s = some (.inl (c, 61, .inr (.inl l2)))) : ∀ (b : Nat) (f : va_E), E b = some f → (∀ l, f ≠ .inr (1, l)) → (∀ l, f ≠ .inl (c, 61, .inr (.inl l))) → xU (xU E g g1) s s1 b = some f := fun b f hb n1 n2 => by
  rw [xU_ne _ _ (fun z => by rw [z, h2] at hb; exact n2 _ (Option.some.inj hb).symm), xU_ne _ _ (fun z => by rw [z, h1] at hb; exact n1 _ (Option.some.inj hb).symm), hb]
theorem xCardsAt.keep {G : xG} {E E1 : xE} {ta : Nat} {tb : Nat → Option Nat} {nC : Nat} {σ : xSg} (h : xCardsAt G E ta tb nC σ) (k : ∀ (b : Nat) (f : va_E), E b = some f → (∀ l, f ≠ .inr (1, l)) → (∀ l, f ≠ .inl (G.2.1 1, 61, .inr (.inl l))) → E1 b = some f) : xCardsAt G E1 ta tb nC σ := by
  obtain ⟨h1, h2, h3, h4⟩ := h
  refine ⟨k _ _ h1 (by intro l z; simp at z) (by intro l z; simp at z), h2, h3, fun j hj => ?_⟩
  obtain ⟨ca, r, d1, d2, d3, d4⟩ := h4 j hj
  exact ⟨ca, r, d1, k _ _ d2 (by intro l z; simp at z) (by intro l z; simp at z), d3, d4⟩

def tX4_move (σ : xSg) (nC nG u d v : Nat) (a0 a1 a2 : Int32) : Nat := if (tIx (nI nG) a0) = 0 then (if (tX4_checkCell a1) = 0 then (if (tX4_checkCell a2) = 0 then (if (fX3_isOut (σ 8 v) (σ 9 v)) = true then (2) else (if (fX1_allows (σ) nC (σ 12 u) (σ 6 v) (σ 17 (61 * u + d)) (σ 18 (61 * u + d)) (nI d) (σ 15 u) a1 a2) = true then (0) else (2))) else tX4_checkCell a2) else tX4_checkCell a1) else tIx (nI nG) a0
set_option maxHeartbeats 4000000 in
set_option maxRecDepth 100000 in
theorem kX4_move (l : Launch) (hl9 : l.stackTraces = false) (G : xG) (E : xE) (o : Nat) (a0 : Int32) (a1 : Int32) (a2 : Int32) (ct vt gt : Nat) (tb vb gb : Nat → Option Nat) (sa : Nat → Nat) (nC nV nG : Nat) (σ : xSg) (hCls : xCls G E o ct vt gt tb vb gb sa nC nV nG σ) : vx_Met l yX4_move wsX4_move ({ frames := 7, cells := 4, slots := 24, locals := 125 }) (va_Pc [.ref o, .int a0, .int a1, .int a2] (xB G E)) (va_Qi (S := xE) (fun r E' => tX4_move σ nC nG (a0.toNatClampNeg) ((σ 16 a0.toNatClampNeg).toNatClampNeg) ((σ 11 a0.toNatClampNeg).toNatClampNeg) a0 a1 a2 = 0 ∧ ∃ (u d v : Nat) (sq : Nat → Int64), a0 = nI u ∧ u < nG ∧ v < nV ∧ xGm σ u d v ∧ d < 60 ∧ (∀ j, j ≤ d → sq j = fX1_placing (σ 17 (61 * u + j)) (σ 18 (61 * u + j)) (fX1_isSecondToMove (nI j))) ∧ r = (fX1_settle σ nC (σ 12 u) (σ 6 v) (goA (σ 17 (61 * u + d)) (σ 18 (61 * u + d)) d a1 a2) (goB (σ 17 (61 * u + d)) (σ 18 (61 * u + d)) d a1 a2) (nI (d + 1)) (σ 15 u) (σ 9 v) (vp_updL sq (d + 1) (fX1_placing (goA (σ 17 (61 * u + d)) (σ 18 (61 * u + d)) d a1 a2) (goB (σ 17 (61 * u + d)) (σ 18 (61 * u + d)) d a1 a2) (fX1_isSecondToMove (nI (d + 1)))))).1 ∧ xCls G E' o ct vt gt tb vb gb sa nC nV nG (sgMove σ u d v (goA (σ 17 (61 * u + d)) (σ 18 (61 * u + d)) d a1 a2) (goB (σ 17 (61 * u + d)) (σ 18 (61 * u + d)) d a1 a2) (fX1_settle σ nC (σ 12 u) (σ 6 v) (goA (σ 17 (61 * u + d)) (σ 18 (61 * u + d)) d a1 a2) (goB (σ 17 (61 * u + d)) (σ 18 (61 * u + d)) d a1 a2) (nI (d + 1)) (σ 15 u) (σ 9 v) (vp_updL sq (d + 1) (fX1_placing (goA (σ 17 (61 * u + d)) (σ 18 (61 * u + d)) d a1 a2) (goB (σ 17 (61 * u + d)) (σ 18 (61 * u + d)) d a1 a2) (fX1_isSecondToMove (nI (d + 1)))))).1 (fX1_settle σ nC (σ 12 u) (σ 6 v) (goA (σ 17 (61 * u + d)) (σ 18 (61 * u + d)) d a1 a2) (goB (σ 17 (61 * u + d)) (σ 18 (61 * u + d)) d a1 a2) (nI (d + 1)) (σ 15 u) (σ 9 v) (vp_updL sq (d + 1) (fX1_placing (goA (σ 17 (61 * u + d)) (σ 18 (61 * u + d)) d a1 a2) (goB (σ 17 (61 * u + d)) (σ 18 (61 * u + d)) d a1 a2) (fX1_isSecondToMove (nI (d + 1)))))).2) ∧ xFr tC E E') (fun E' t => xW G E' t.heap) (xA G)) (xX G E (fun n => xEx n (tX4_move σ nC nG (a0.toNatClampNeg) ((σ 16 a0.toNatClampNeg).toNatClampNeg) ((σ 11 a0.toNatClampNeg).toNatClampNeg) a0 a1 a2))) 4 24 (xA G) := by
  refine vx_ofW (cc := cX4_move) (maxL := 5) (ret := (some .int)) (by decide) rfl ?_
  intro p e s m args below meth c s₁ B hml hno hv
  obtain ⟨rfl, hX, hW⟩ := hv
  have hx := B.exec
  have hb := B.bytes
  have hr := B.returns
  have hts := atoms_spec (ws := wsX4_move) B.pre
  have hown : s.vm.findClass RX4 = some m.cls := findClass_of_methodNamed B.named
  have hlocks := B.notSynchronized
  have hS : va_S (xA G) s.heap s.heap [] := va_S.rf
  have hiX1 : ∀ w ∈ u_ws RX1 TX1 9, w ∈ wsX4_move := by decide +kernel
  have hf128 := hts (Cond.fieldLink RX4 128 "VariantMill$Game" "variant" "LVariantMill$Variant;") (by decide +kernel)
  have hf121 := hts (Cond.fieldLink RX4 121 "VariantMill$Game" "state" "I") (by decide +kernel)
  have hl := lv_entry ([.ref o, .int a0, .int a1, .int a2]) (n := 5) (Nat.le_of_ble_eq_true rfl)
  rw [lg_entry_eq]
  generalize (lg_sl ([.ref o, .int a0, .int a1, .int a2]) ++ List.replicate (5 - (lg_sl ([.ref o, .int a0, .int a1, .int a2])).length) Slot.unset).toArray = ls at hl ⊢
  have hl : lv_has ls 5 [(0, .ref o), (1, .int a0), (2, .int a1), (3, .int a2)] := hl
  obtain ⟨H, hH⟩ : ∃ z, z = s.heap := ⟨_, rfl⟩
  rw [← hH] at hW
  have hS : va_S (xA G) s.heap H [] := by rw [hH]; exact hS
  rw [← hH]
  have hCls0 := hCls
  obtain ⟨hE, h0, h5, h10, hT, hV, hGs⟩ := hCls
  refine lv_aload_n hx hb dX4_move_0 rfl (lv_at hl 0 rfl) ?_
  refine lv_iload_n hx hb dX4_move_1 rfl (lv_at hl 1 rfl) ?_
  refine vx_callr (vx_runV (As := [.int a0]) (rest := []) ⟨hx, hb, hml, hown, hts⟩ (kX4_gameAt l hl9 G E o a0 ct vt gt nC nV nG gb hE hGs.1 hGs.2.1 hGs.2.2.1 hGs.some) (cwV 1 hts gX4_move_X4_gameAt rfl rfl rfl (by decide +kernel) ⟨Nat.le_of_ble_eq_true rfl, Nat.le_of_ble_eq_true rfl⟩) (x_preV hX hS hW hE rfl) rfl rfl hl.1 rfl (lv_room (Nat.le_of_ble_eq_true rfl)) dX4_move_2 ⟨Nat.le_of_ble_eq_true rfl, Nat.le_of_ble_eq_true rfl⟩) hS (fun _ _ h => h) (fun _ h => h) (fun _ _ h => h) (fun Ex ce q9 ux t H1 locs1 ht hvm hpx hB hz1 hk1 hS1 hce hcv hcl => ?_) (fun E1 r2 t H1 locs1 ht hvm hw hB hz1 hk1 hS1 => ?_)
  · obtain ⟨hpx, hB⟩ := hB
    rw [ht] at hB
    exact vx_widen (k := 4) (n := 24) (Nat.le_of_ble_eq_true rfl) (Nat.le_of_ble_eq_true rfl) (vx_out (fun x hx9 => (hno x hx9).elim) hlocks hce hcv hcl (fun t9 ht9 hv9 => ⟨(), trivial, ⟨(by rw [(show tX4_move σ nC nG (a0.toNatClampNeg) ((σ 16 a0.toNatClampNeg).toNatClampNeg) ((σ 11 a0.toNatClampNeg).toNatClampNeg) a0 a1 a2 = tIx (nI nG) a0 from by unfold tX4_move; rw [if_neg (xEx_ne hpx)])]; exact hpx), by rw [ht9]; exact hB⟩, hS1.F ht9⟩) hS1.2.2 (Nat.le_refl _) (Nat.le_refl _))
  · rw [ht] at hB
    have hS := hS1
    obtain ⟨⟨u, hau, hu, hgb, hEe⟩, hB⟩ := hB
    rw [hEe] at hB
    have hW : xW G E H1 := hB
    obtain ⟨ga, hga, va, gr, v, d, sq, hG1, h16, h60, h11, hvl, hvb, hGr, hSn, hsq, hop⟩ := hGs.2.2.2.1 u hu
    obtain rfl : r2 = ga := Option.some.inj (hgb.symm.trans hga)
    obtain ⟨va2, vr, hva, hVa, hVr⟩ := hV.2.2.2.1 v hvl
    obtain rfl : va = va2 := Option.some.inj (hvb.symm.trans hva)
    have ht0 : tIx (nI nG) a0 = 0 := by rw [hau]; exact tIx_ok hu (by have := hGs.2.1; omega)
    have hGm : xGm σ u d v := ⟨by have := hGs.2.1; omega, h16, h60, h11, by have := hV.2.1; omega⟩
    have hUu : a0.toNatClampNeg = u := by rw [hau]; exact nI_clamp (by have := hGs.2.1; omega)
    have hDd : (σ 16 u).toNatClampNeg = d := by rw [h16]; exact nI_clamp (by omega)
    have hVv : (σ 11 u).toNatClampNeg = v := by rw [h11]; exact nI_clamp (by have := hV.2.1; omega)
    refine lv_astore (lv' := [(4, .ref r2), (0, .ref o), (1, .int a0), (2, .int a1), (3, .int a2)]) hx hb dX4_move_5 hl (by decide) rfl (fun ls hl => ?_)
    refine lv_iload_n hx hb dX4_move_7 rfl (lv_at hl 3 rfl) ?_
    refine vx_callv (vx_runS (As := [.int a1]) (rest := []) ⟨hx, hb, hml, hown, hts⟩ (kX4_checkCell l hl9 G E a1) (va_cwS 1 hts gX4_move_X4_checkCell rfl rfl rfl (by decide +kernel) ⟨Nat.le_of_ble_eq_true rfl, Nat.le_of_ble_eq_true rfl⟩) (x_preS hX hS hW) rfl rfl hl.1 rfl (lv_room (Nat.le_of_ble_eq_true rfl)) dX4_move_8 ⟨Nat.le_of_ble_eq_true rfl, Nat.le_of_ble_eq_true rfl⟩) hS (fun _ _ h => h) (fun _ h => h) (fun _ _ h => h) (fun Ex ce q9 ux t H1 locs1 ht hvm hpx hB hz1 hk1 hS1 hce hcv hcl => ?_) (fun E4 t H1 locs1 ht hvm hw hB hz1 hk1 hS1 => ?_)
    · obtain ⟨hpx, hB⟩ := hB
      rw [ht] at hB
      exact vx_widen (k := 4) (n := 24) (Nat.le_of_ble_eq_true rfl) (Nat.le_of_ble_eq_true rfl) (vx_out (fun x hx9 => (hno x hx9).elim) hlocks hce hcv hcl (fun t9 ht9 hv9 => ⟨(), trivial, ⟨(by rw [(show tX4_move σ nC nG (a0.toNatClampNeg) ((σ 16 a0.toNatClampNeg).toNatClampNeg) ((σ 11 a0.toNatClampNeg).toNatClampNeg) a0 a1 a2 = tX4_checkCell a1 from by rw [hUu, hDd, hVv]; unfold tX4_move; rw [if_pos ht0, if_neg (xEx_ne hpx)])]; exact hpx), by rw [ht9]; exact hB⟩, hS1.F ht9⟩) hS1.2.2 (Nat.le_refl _) (Nat.le_refl _))
    · rw [ht] at hB
      have hS := hS1
      obtain ⟨hk7, hEe⟩ := hw
      rw [hEe] at hB
      have hW : xW G E H1 := hB
      refine lv_iload_n hx hb dX4_move_11 rfl (lv_at hl 4 rfl) ?_
      refine vx_callv (vx_runS (As := [.int a2]) (rest := []) ⟨hx, hb, hml, hown, hts⟩ (kX4_checkCell l hl9 G E a2) (va_cwS 1 hts gX4_move_X4_checkCell rfl rfl rfl (by decide +kernel) ⟨Nat.le_of_ble_eq_true rfl, Nat.le_of_ble_eq_true rfl⟩) (x_preS hX hS hW) rfl rfl hl.1 rfl (lv_room (Nat.le_of_ble_eq_true rfl)) dX4_move_12 ⟨Nat.le_of_ble_eq_true rfl, Nat.le_of_ble_eq_true rfl⟩) hS (fun _ _ h => h) (fun _ h => h) (fun _ _ h => h) (fun Ex ce q9 ux t H1 locs1 ht hvm hpx hB hz1 hk1 hS1 hce hcv hcl => ?_) (fun E8 t H1 locs1 ht hvm hw hB hz1 hk1 hS1 => ?_)
      · obtain ⟨hpx, hB⟩ := hB
        rw [ht] at hB
        exact vx_widen (k := 4) (n := 24) (Nat.le_of_ble_eq_true rfl) (Nat.le_of_ble_eq_true rfl) (vx_out (fun x hx9 => (hno x hx9).elim) hlocks hce hcv hcl (fun t9 ht9 hv9 => ⟨(), trivial, ⟨(by rw [(show tX4_move σ nC nG (a0.toNatClampNeg) ((σ 16 a0.toNatClampNeg).toNatClampNeg) ((σ 11 a0.toNatClampNeg).toNatClampNeg) a0 a1 a2 = tX4_checkCell a2 from by rw [hUu, hDd, hVv]; unfold tX4_move; rw [if_pos ht0, if_pos hk7, if_neg (xEx_ne hpx)])]; exact hpx), by rw [ht9]; exact hB⟩, hS1.F ht9⟩) hS1.2.2 (Nat.le_refl _) (Nat.le_refl _))
      · rw [ht] at hB
        have hS := hS1
        obtain ⟨hk11, hEe⟩ := hw
        rw [hEe] at hB
        have hW : xW G E H1 := hB
        refine lv_aload hx hb dX4_move_15 (lv_at hl 0 rfl) ?_
        refine va_get (D := G.1) (ci := 1) (v := .ref va) (C := RX1) (T := TX1) (N := 9) hx hb hts hiX1 hown hX.1 (x1 hW hG1) 0 rfl rfl 0 (by decide) hf128 (fun _ h9 => h9) rfl dX4_move_17 ?_
        refine x_callSe (va_runV (As := []) (rest := []) ⟨hx, hb, hml, hown, hts⟩ (kX3_isOut l G _ (σ 8 v) (σ 9 v) va vr hVa) (cwV 0 hts gX4_move_X3_isOut rfl rfl rfl (by decide +kernel) ⟨Nat.le_of_ble_eq_true rfl, Nat.le_of_ble_eq_true rfl⟩) (x_preV hX hS hW hVa rfl) rfl rfl hl.1 rfl (lv_room (Nat.le_of_ble_eq_true rfl)) dX4_move_20 ⟨Nat.le_of_ble_eq_true rfl, Nat.le_of_ble_eq_true rfl⟩) ?_
        refine x_ifz_ne (b := fX3_isOut (σ 8 v) (σ 9 v)) (tgt := 36) hx hb dX4_move_23 (by decide) (fun c_12 => ?_) (fun c_12 => ?_)
        · exact x_throw hx hb hl9 hown (cls := "java/lang/IllegalStateException") (text := "not open, void, or no card says so") (ik := 42) (is := 132) (ic := 46) hts hX hS hW (by decide +kernel) (by decide +kernel) (by decide +kernel) (by decide +kernel) (fun w h => List.mem_cons_of_mem _ (List.mem_append_left _ (List.mem_append_right _ h))) (by decide +kernel) (by decide +kernel) (hl.1.trans hml.symm) dX4_move_36 dX4_move_39 dX4_move_40 dX4_move_42 dX4_move_45 hno (Nat.le_of_ble_eq_true rfl) (Nat.le_of_ble_eq_true rfl) (Nat.le_of_ble_eq_true rfl) (Nat.le_of_ble_eq_true rfl) hlocks (Or.inr (Or.inl ⟨(show tX4_move σ nC nG (a0.toNatClampNeg) ((σ 16 a0.toNatClampNeg).toNatClampNeg) ((σ 11 a0.toNatClampNeg).toNatClampNeg) a0 a1 a2 = 2 from by rw [hUu, hDd, hVv]; unfold tX4_move; rw [if_pos ht0, if_pos hk7, if_pos hk11, if_pos c_12]), rfl⟩)) (Nat.le_of_ble_eq_true rfl) (Nat.le_of_ble_eq_true rfl)
        · refine lv_aload hx hb dX4_move_26 (lv_at hl 0 rfl) ?_
          refine lv_iload_n hx hb dX4_move_28 rfl (lv_at hl 3 rfl) ?_
          refine lv_iload_n hx hb dX4_move_29 rfl (lv_at hl 4 rfl) ?_
          refine x_callSe (va_runV (As := [.int a1, .int a2]) (rest := []) ⟨hx, hb, hml, hown, hts⟩ (kX1_allows l G _ (σ) nC (σ 12 u) (σ 6 v) (σ 17 (61 * u + d)) (σ 18 (61 * u + d)) (nI d) (σ 15 u) r2 a1 a2 va gr (sa u) (σ 13 u) (σ 14 u) hG1 ct tb hGr hT) (cwV 2 hts gX4_move_X1_allows rfl rfl rfl (by decide +kernel) ⟨Nat.le_of_ble_eq_true rfl, Nat.le_of_ble_eq_true rfl⟩) (x_preV hX hS hW hG1 rfl) rfl rfl hl.1 rfl (lv_room (Nat.le_of_ble_eq_true rfl)) dX4_move_30 ⟨Nat.le_of_ble_eq_true rfl, Nat.le_of_ble_eq_true rfl⟩) ?_
          refine x_ifz_ne (b := fX1_allows (σ) nC (σ 12 u) (σ 6 v) (σ 17 (61 * u + d)) (σ 18 (61 * u + d)) (nI d) (σ 15 u) a1 a2) (tgt := 46) hx hb dX4_move_33 (by decide) (fun c_13 => ?_) (fun c_13 => ?_)
          · have hd60 : d < 60 := hop (x_allows_open c_13)
            refine lv_aload hx hb dX4_move_46 (lv_at hl 0 rfl) ?_
            refine lv_iload_n hx hb dX4_move_48 rfl (lv_at hl 3 rfl) ?_
            refine lv_iload_n hx hb dX4_move_49 rfl (lv_at hl 4 rfl) ?_
            refine va_callv (va_runV (As := [.int a1, .int a2]) (rest := []) ⟨hx, hb, hml, hown, hts⟩ (kX1_go l G _ r2 a1 a2 va gr (sa u) (σ 13 u) (σ 14 u) (σ 17 (61 * u + d)) (σ 18 (61 * u + d)) (σ 15 u) sq d hd60 hG1 hSn) (cwV 2 hts gX4_move_X1_go rfl rfl rfl (by decide +kernel) ⟨Nat.le_of_ble_eq_true rfl, Nat.le_of_ble_eq_true rfl⟩) (x_preV hX hS hW hG1 rfl) rfl rfl hl.1 rfl (lv_room (Nat.le_of_ble_eq_true rfl)) dX4_move_50 ⟨Nat.le_of_ble_eq_true rfl, Nat.le_of_ble_eq_true rfl⟩) hS (fun _ _ h => h) (fun _ h => h) (fun E14 t H1 locs1 ht hvm hw hB hz1 hk1 hS1 => ?_)
            rw [ht] at hB
            have hS := hS1
            have ehE14 : E14 = xU (xU E r2 (.inr (1, [.ref va, .ref gr, .int (σ 13 u), .int (σ 14 u), .ref (sa u), .int (goA (σ 17 (61 * u + d)) (σ 18 (61 * u + d)) d a1 a2), .int (goB (σ 17 (61 * u + d)) (σ 18 (61 * u + d)) d a1 a2), .int (nI (d + 1)), .int (σ 15 u)]))) (sa u) (.inl (G.2.1 1, 61, .inr (.inl (vp_updL sq (d + 1) (fX1_placing (goA (σ 17 (61 * u + d)) (σ 18 (61 * u + d)) d a1 a2) (goB (σ 17 (61 * u + d)) (σ 18 (61 * u + d)) d a1 a2) (fX1_isSecondToMove (nI (d + 1)))))))) := hw
            have hW : xW G E14 H1 := hB
            have hGnS : r2 ≠ sa u := fun z => by rw [z, hSn] at hG1; cases hG1
            have hG2 : E14 r2 = some (.inr (1, [.ref va, .ref gr, .int (σ 13 u), .int (σ 14 u), .ref (sa u), .int (goA (σ 17 (61 * u + d)) (σ 18 (61 * u + d)) d a1 a2), .int (goB (σ 17 (61 * u + d)) (σ 18 (61 * u + d)) d a1 a2), .int (nI (d + 1)), .int (σ 15 u)])) := by rw [ehE14]; exact (xU_ne _ _ hGnS).trans (xU_self _ _ _)
            have hSn2 : E14 (sa u) = some (.inl (G.2.1 1, 61, .inr (.inl (vp_updL sq (d + 1) (fX1_placing (goA (σ 17 (61 * u + d)) (σ 18 (61 * u + d)) d a1 a2) (goB (σ 17 (61 * u + d)) (σ 18 (61 * u + d)) d a1 a2) (fX1_isSecondToMove (nI (d + 1)))))))) := by rw [ehE14]; exact xU_self _ _ _
            have hGr2 : E14 gr = some (.inr (2, [.ref ct, .int (σ 12 u), .int (σ 6 v)])) := by rw [ehE14]; exact x_goKeep hG1 hSn _ _ hGr (by intro l z; simp at z) (by intro l z; simp at z)
            have hVa2 : E14 va = some (.inr (3, [.ref vr, .int (σ 8 v), .int (σ 9 v)])) := by rw [ehE14]; exact x_goKeep hG1 hSn _ _ hVa (by intro l z; simp at z) (by intro l z; simp at z)
            have hT2 : xCardsAt G E14 ct tb nC σ := by rw [ehE14]; exact hT.keep (x_goKeep hG1 hSn)
            refine lv_aload hx hb dX4_move_53 (lv_at hl 0 rfl) ?_
            refine va_callv (va_runV (As := []) (rest := []) ⟨hx, hb, hml, hown, hts⟩ (kX1_settle l G _ r2 va gr (sa u) (σ 13 u) (σ 14 u) (goA (σ 17 (61 * u + d)) (σ 18 (61 * u + d)) d a1 a2) (goB (σ 17 (61 * u + d)) (σ 18 (61 * u + d)) d a1 a2) (nI (d + 1)) (σ 15 u) (vp_updL sq (d + 1) (fX1_placing (goA (σ 17 (61 * u + d)) (σ 18 (61 * u + d)) d a1 a2) (goB (σ 17 (61 * u + d)) (σ 18 (61 * u + d)) d a1 a2) (fX1_isSecondToMove (nI (d + 1))))) σ nC (σ 12 u) (σ 6 v) ct tb vr (σ 8 v) (σ 9 v) hG2 hSn2 hGr2 hT2 hVa2) (cwV 0 hts gX4_move_X1_settle rfl rfl rfl (by decide +kernel) ⟨Nat.le_of_ble_eq_true rfl, Nat.le_of_ble_eq_true rfl⟩) (x_preV hX hS hW hG2 rfl) rfl rfl hl.1 rfl (lv_room (Nat.le_of_ble_eq_true rfl)) dX4_move_55 ⟨Nat.le_of_ble_eq_true rfl, Nat.le_of_ble_eq_true rfl⟩) hS (fun _ _ h => h) (fun _ h => h) (fun E16 t H1 locs1 ht hvm hw hB hz1 hk1 hS1 => ?_)
            rw [ht] at hB
            have hS := hS1
            have ehE16 : E16 = xU (xU E14 r2 (.inr (1, [.ref va, .ref gr, .int (σ 13 u), .int (σ 14 u), .ref (sa u), .int (goA (σ 17 (61 * u + d)) (σ 18 (61 * u + d)) d a1 a2), .int (goB (σ 17 (61 * u + d)) (σ 18 (61 * u + d)) d a1 a2), .int (nI (d + 1)), .int ((fX1_settle σ nC (σ 12 u) (σ 6 v) (goA (σ 17 (61 * u + d)) (σ 18 (61 * u + d)) d a1 a2) (goB (σ 17 (61 * u + d)) (σ 18 (61 * u + d)) d a1 a2) (nI (d + 1)) (σ 15 u) (σ 9 v) (vp_updL sq (d + 1) (fX1_placing (goA (σ 17 (61 * u + d)) (σ 18 (61 * u + d)) d a1 a2) (goB (σ 17 (61 * u + d)) (σ 18 (61 * u + d)) d a1 a2) (fX1_isSecondToMove (nI (d + 1)))))).1)]))) va (.inr (3, [.ref vr, .int (σ 8 v), .int ((fX1_settle σ nC (σ 12 u) (σ 6 v) (goA (σ 17 (61 * u + d)) (σ 18 (61 * u + d)) d a1 a2) (goB (σ 17 (61 * u + d)) (σ 18 (61 * u + d)) d a1 a2) (nI (d + 1)) (σ 15 u) (σ 9 v) (vp_updL sq (d + 1) (fX1_placing (goA (σ 17 (61 * u + d)) (σ 18 (61 * u + d)) d a1 a2) (goB (σ 17 (61 * u + d)) (σ 18 (61 * u + d)) d a1 a2) (fX1_isSecondToMove (nI (d + 1)))))).2)])) := hw
            have hW : xW G E16 H1 := hB
            have hGnV : r2 ≠ va := fun z => by rw [z, hVa] at hG1; simp at hG1
            have hG3 : E16 r2 = some (.inr (1, [.ref va, .ref gr, .int (σ 13 u), .int (σ 14 u), .ref (sa u), .int (goA (σ 17 (61 * u + d)) (σ 18 (61 * u + d)) d a1 a2), .int (goB (σ 17 (61 * u + d)) (σ 18 (61 * u + d)) d a1 a2), .int (nI (d + 1)), .int ((fX1_settle σ nC (σ 12 u) (σ 6 v) (goA (σ 17 (61 * u + d)) (σ 18 (61 * u + d)) d a1 a2) (goB (σ 17 (61 * u + d)) (σ 18 (61 * u + d)) d a1 a2) (nI (d + 1)) (σ 15 u) (σ 9 v) (vp_updL sq (d + 1) (fX1_placing (goA (σ 17 (61 * u + d)) (σ 18 (61 * u + d)) d a1 a2) (goB (σ 17 (61 * u + d)) (σ 18 (61 * u + d)) d a1 a2) (fX1_isSecondToMove (nI (d + 1)))))).1)])) := by rw [ehE16]; exact (xU_ne _ _ hGnV).trans (xU_self _ _ _)
            refine lv_aload hx hb dX4_move_58 (lv_at hl 0 rfl) ?_
            refine va_get (D := G.1) (ci := 1) (v := .int ((fX1_settle σ nC (σ 12 u) (σ 6 v) (goA (σ 17 (61 * u + d)) (σ 18 (61 * u + d)) d a1 a2) (goB (σ 17 (61 * u + d)) (σ 18 (61 * u + d)) d a1 a2) (nI (d + 1)) (σ 15 u) (σ 9 v) (vp_updL sq (d + 1) (fX1_placing (goA (σ 17 (61 * u + d)) (σ 18 (61 * u + d)) d a1 a2) (goB (σ 17 (61 * u + d)) (σ 18 (61 * u + d)) d a1 a2) (fX1_isSecondToMove (nI (d + 1)))))).1)) (C := RX1) (T := TX1) (N := 9) hx hb hts hiX1 hown hX.1 (x1 hW hG3) 0 rfl rfl 8 (by decide) hf121 (fun _ h9 => h9) rfl dX4_move_60 ?_
            exact vx_ret (W.widen (k := 4) (n := 24) (Nat.le_of_ble_eq_true rfl) (Nat.le_of_ble_eq_true rfl) (W.iret (v := (fX1_settle σ nC (σ 12 u) (σ 6 v) (goA (σ 17 (61 * u + d)) (σ 18 (61 * u + d)) d a1 a2) (goB (σ 17 (61 * u + d)) (σ 18 (61 * u + d)) d a1 a2) (nI (d + 1)) (σ 15 u) (σ 9 v) (vp_updL sq (d + 1) (fX1_placing (goA (σ 17 (61 * u + d)) (σ 18 (61 * u + d)) d a1 a2) (goB (σ 17 (61 * u + d)) (σ 18 (61 * u + d)) d a1 a2) (fX1_isSecondToMove (nI (d + 1)))))).1) hx hb hr (fun t ht hw => ⟨⟨_, E16, rfl, ⟨(show tX4_move σ nC nG (a0.toNatClampNeg) ((σ 16 a0.toNatClampNeg).toNatClampNeg) ((σ 11 a0.toNatClampNeg).toNatClampNeg) a0 a1 a2 = 0 from by rw [hUu, hDd, hVv]; unfold tX4_move; rw [if_pos ht0, if_pos hk7, if_pos hk11, if_neg (Bool.eq_false_iff.mp c_12), if_pos c_13]), u, d, v, sq, hau, hu, hvl, hGm, hd60, hsq, rfl, xCls_move hCls0 hu hgb hG1 hd60 h11 hvl hvb hGr hSn hsq hVa _ _ _ _ (x_settle_open hd60) (by rw [ehE16, ehE14])⟩, (show xW G E16 t.heap from by rw [ht]; exact hW)⟩, hS.F ht⟩) hS.2.2 dX4_move_63))
          · exact x_throw hx hb hl9 hown (cls := "java/lang/IllegalStateException") (text := "not open, void, or no card says so") (ik := 42) (is := 132) (ic := 46) hts hX hS hW (by decide +kernel) (by decide +kernel) (by decide +kernel) (by decide +kernel) (fun w h => List.mem_cons_of_mem _ (List.mem_append_left _ (List.mem_append_right _ h))) (by decide +kernel) (by decide +kernel) (hl.1.trans hml.symm) dX4_move_36 dX4_move_39 dX4_move_40 dX4_move_42 dX4_move_45 hno (Nat.le_of_ble_eq_true rfl) (Nat.le_of_ble_eq_true rfl) (Nat.le_of_ble_eq_true rfl) (Nat.le_of_ble_eq_true rfl) hlocks (Or.inr (Or.inl ⟨(show tX4_move σ nC nG (a0.toNatClampNeg) ((σ 16 a0.toNatClampNeg).toNatClampNeg) ((σ 11 a0.toNatClampNeg).toNatClampNeg) a0 a1 a2 = 2 from by rw [hUu, hDd, hVv]; unfold tX4_move; rw [if_pos ht0, if_pos hk7, if_pos hk11, if_neg (Bool.eq_false_iff.mp c_12), if_neg (Bool.eq_false_iff.mp c_13)]), rfl⟩)) (Nat.le_of_ble_eq_true rfl) (Nat.le_of_ble_eq_true rfl)

def fcanBy (sta : Int32) (b : Bool) : Bool := if sta = 0 then (if b = true then true else false) else false

def tX4_canByAll (nG : Nat) (a0 a1 a2 : Int32) : Nat := tX4_can nG a0 a1 a2
set_option maxHeartbeats 4000000 in
set_option maxRecDepth 100000 in
theorem kX4_canByAll (l : Launch) (hl9 : l.stackTraces = false) (G : xG) (E : xE) (o : Nat) (a0 : Int32) (a1 : Int32) (a2 : Int32) (ct vt gt : Nat) (tb vb gb : Nat → Option Nat) (sa : Nat → Nat) (nC nV nG : Nat) (σ : xSg) (hCls : xCls G E o ct vt gt tb vb gb sa nC nV nG σ) : vx_Met l yX4_canByAll wsX4_canByAll ({ frames := 7, cells := 3, slots := 18, locals := 112 }) (va_Pc [.ref o, .int a0, .int a1, .int a2] (xB G E)) (va_Qi (S := xE) (fun r E' => tX4_canByAll nG a0 a1 a2 = 0 ∧ E' = E ∧ ∃ u d v : Nat, a0 = nI u ∧ u < nG ∧ v < nV ∧ xGm σ u d v ∧ (σ 15 u = 0 → d < 60) ∧ r = zI (fcanBy (σ 15 u) (fX4_isAmongAllMoves σ nC (σ 12 u) (σ 6 v) (σ 17 (61 * u + d)) (σ 18 (61 * u + d)) (nI d) a1 a2))) (fun E' t => xW G E' t.heap) (xA G)) (xX G E (fun n => xEx n (tX4_canByAll nG a0 a1 a2))) 3 18 (xA G) := by
  refine vx_ofW (cc := cX4_canByAll) (maxL := 5) (ret := (some .boolean)) (by decide) rfl ?_
  intro p e s m args below meth c s₁ B hml hno hv
  obtain ⟨rfl, hX, hW⟩ := hv
  have hx := B.exec
  have hb := B.bytes
  have hr := B.returns
  have hts := atoms_spec (ws := wsX4_canByAll) B.pre
  have hown : s.vm.findClass RX4 = some m.cls := findClass_of_methodNamed B.named
  have hlocks := B.notSynchronized
  have hS : va_S (xA G) s.heap s.heap [] := va_S.rf
  have hiX1 : ∀ w ∈ u_ws RX1 TX1 9, w ∈ wsX4_canByAll := by decide +kernel
  have hf121 := hts (Cond.fieldLink RX4 121 "VariantMill$Game" "state" "I") (by decide +kernel)
  have hl := lv_entry ([.ref o, .int a0, .int a1, .int a2]) (n := 5) (Nat.le_of_ble_eq_true rfl)
  rw [lg_entry_eq]
  generalize (lg_sl ([.ref o, .int a0, .int a1, .int a2]) ++ List.replicate (5 - (lg_sl ([.ref o, .int a0, .int a1, .int a2])).length) Slot.unset).toArray = ls at hl ⊢
  have hl : lv_has ls 5 [(0, .ref o), (1, .int a0), (2, .int a1), (3, .int a2)] := hl
  obtain ⟨H, hH⟩ : ∃ z, z = s.heap := ⟨_, rfl⟩
  rw [← hH] at hW
  have hS : va_S (xA G) s.heap H [] := by rw [hH]; exact hS
  rw [← hH]
  obtain ⟨hE, h0, h5, h10, hT, hV, hGs⟩ := hCls
  refine lv_aload_n hx hb dX4_canByAll_0 rfl (lv_at hl 0 rfl) ?_
  refine lv_iload_n hx hb dX4_canByAll_1 rfl (lv_at hl 1 rfl) ?_
  refine vx_callr (vx_runV (As := [.int a0]) (rest := []) ⟨hx, hb, hml, hown, hts⟩ (kX4_gameAt l hl9 G E o a0 ct vt gt nC nV nG gb hE hGs.1 hGs.2.1 hGs.2.2.1 hGs.some) (cwV 1 hts gX4_canByAll_X4_gameAt rfl rfl rfl (by decide +kernel) ⟨Nat.le_of_ble_eq_true rfl, Nat.le_of_ble_eq_true rfl⟩) (x_preV hX hS hW hE rfl) rfl rfl hl.1 rfl (lv_room (Nat.le_of_ble_eq_true rfl)) dX4_canByAll_2 ⟨Nat.le_of_ble_eq_true rfl, Nat.le_of_ble_eq_true rfl⟩) hS (fun _ _ h => h) (fun _ h => h) (fun _ _ h => h) (fun Ex ce q9 ux t H1 locs1 ht hvm hpx hB hz1 hk1 hS1 hce hcv hcl => ?_) (fun E1 r2 t H1 locs1 ht hvm hw hB hz1 hk1 hS1 => ?_)
  · obtain ⟨hpx, hB⟩ := hB
    rw [ht] at hB
    exact vx_widen (k := 3) (n := 18) (Nat.le_of_ble_eq_true rfl) (Nat.le_of_ble_eq_true rfl) (vx_out (fun x hx9 => (hno x hx9).elim) hlocks hce hcv hcl (fun t9 ht9 hv9 => ⟨(), trivial, ⟨(by rw [(show tX4_canByAll nG a0 a1 a2 = tIx (nI nG) a0 from by unfold tX4_canByAll tX4_can; rw [if_neg (xEx_ne hpx)])]; exact hpx), by rw [ht9]; exact hB⟩, hS1.F ht9⟩) hS1.2.2 (Nat.le_refl _) (Nat.le_refl _))
  · rw [ht] at hB
    have hS := hS1
    obtain ⟨⟨u, hau, hu, hgb, hEe⟩, hB⟩ := hB
    rw [hEe] at hB
    have hW : xW G E H1 := hB
    obtain ⟨ga, hga, va, gr, v, d, sq, hG1, h16, h60, h11, hvl, hvb, hGr, hSn, hsq, hop⟩ := hGs.2.2.2.1 u hu
    obtain rfl : r2 = ga := Option.some.inj (hgb.symm.trans hga)
    obtain ⟨va2, vr, hva, hVa, hVr⟩ := hV.2.2.2.1 v hvl
    obtain rfl : va = va2 := Option.some.inj (hvb.symm.trans hva)
    have ht0 : tIx (nI nG) a0 = 0 := by rw [hau]; exact tIx_ok hu (by have := hGs.2.1; omega)
    have hGm : xGm σ u d v := ⟨by have := hGs.2.1; omega, h16, h60, h11, by have := hV.2.1; omega⟩
    refine lv_astore (lv' := [(4, .ref r2), (0, .ref o), (1, .int a0), (2, .int a1), (3, .int a2)]) hx hb dX4_canByAll_5 hl (by decide) rfl (fun ls hl => ?_)
    refine lv_iload_n hx hb dX4_canByAll_7 rfl (lv_at hl 3 rfl) ?_
    refine vx_callv (vx_runS (As := [.int a1]) (rest := []) ⟨hx, hb, hml, hown, hts⟩ (kX4_checkCell l hl9 G E a1) (va_cwS 1 hts gX4_canByAll_X4_checkCell rfl rfl rfl (by decide +kernel) ⟨Nat.le_of_ble_eq_true rfl, Nat.le_of_ble_eq_true rfl⟩) (x_preS hX hS hW) rfl rfl hl.1 rfl (lv_room (Nat.le_of_ble_eq_true rfl)) dX4_canByAll_8 ⟨Nat.le_of_ble_eq_true rfl, Nat.le_of_ble_eq_true rfl⟩) hS (fun _ _ h => h) (fun _ h => h) (fun _ _ h => h) (fun Ex ce q9 ux t H1 locs1 ht hvm hpx hB hz1 hk1 hS1 hce hcv hcl => ?_) (fun E4 t H1 locs1 ht hvm hw hB hz1 hk1 hS1 => ?_)
    · obtain ⟨hpx, hB⟩ := hB
      rw [ht] at hB
      exact vx_widen (k := 3) (n := 18) (Nat.le_of_ble_eq_true rfl) (Nat.le_of_ble_eq_true rfl) (vx_out (fun x hx9 => (hno x hx9).elim) hlocks hce hcv hcl (fun t9 ht9 hv9 => ⟨(), trivial, ⟨(by rw [(show tX4_canByAll nG a0 a1 a2 = tX4_checkCell a1 from by unfold tX4_canByAll tX4_can; rw [if_pos ht0, if_neg (xEx_ne hpx)])]; exact hpx), by rw [ht9]; exact hB⟩, hS1.F ht9⟩) hS1.2.2 (Nat.le_refl _) (Nat.le_refl _))
    · rw [ht] at hB
      have hS := hS1
      obtain ⟨hk7, hEe⟩ := hw
      rw [hEe] at hB
      have hW : xW G E H1 := hB
      refine lv_iload_n hx hb dX4_canByAll_11 rfl (lv_at hl 4 rfl) ?_
      refine vx_callv (vx_runS (As := [.int a2]) (rest := []) ⟨hx, hb, hml, hown, hts⟩ (kX4_checkCell l hl9 G E a2) (va_cwS 1 hts gX4_canByAll_X4_checkCell rfl rfl rfl (by decide +kernel) ⟨Nat.le_of_ble_eq_true rfl, Nat.le_of_ble_eq_true rfl⟩) (x_preS hX hS hW) rfl rfl hl.1 rfl (lv_room (Nat.le_of_ble_eq_true rfl)) dX4_canByAll_12 ⟨Nat.le_of_ble_eq_true rfl, Nat.le_of_ble_eq_true rfl⟩) hS (fun _ _ h => h) (fun _ h => h) (fun _ _ h => h) (fun Ex ce q9 ux t H1 locs1 ht hvm hpx hB hz1 hk1 hS1 hce hcv hcl => ?_) (fun E8 t H1 locs1 ht hvm hw hB hz1 hk1 hS1 => ?_)
      · obtain ⟨hpx, hB⟩ := hB
        rw [ht] at hB
        exact vx_widen (k := 3) (n := 18) (Nat.le_of_ble_eq_true rfl) (Nat.le_of_ble_eq_true rfl) (vx_out (fun x hx9 => (hno x hx9).elim) hlocks hce hcv hcl (fun t9 ht9 hv9 => ⟨(), trivial, ⟨(by rw [(show tX4_canByAll nG a0 a1 a2 = tX4_checkCell a2 from by unfold tX4_canByAll tX4_can; rw [if_pos ht0, if_pos hk7, if_neg (xEx_ne hpx)])]; exact hpx), by rw [ht9]; exact hB⟩, hS1.F ht9⟩) hS1.2.2 (Nat.le_refl _) (Nat.le_refl _))
      · rw [ht] at hB
        have hS := hS1
        obtain ⟨hk11, hEe⟩ := hw
        rw [hEe] at hB
        have hW : xW G E H1 := hB
        refine lv_aload hx hb dX4_canByAll_15 (lv_at hl 0 rfl) ?_
        refine va_get (D := G.1) (ci := 1) (v := .int (σ 15 u)) (C := RX1) (T := TX1) (N := 9) hx hb hts hiX1 hown hX.1 (x1 hW hG1) 0 rfl rfl 8 (by decide) hf121 (fun _ h9 => h9) rfl dX4_canByAll_17 ?_
        refine lv_if_ne (tgt := 37) hx hb dX4_canByAll_20 (by decide) (fun c_12 => ?_) (fun c_12 => ?_)
        · refine lv_iconst (v := 0) hx hb dX4_canByAll_37 (by decide) ?_
          exact vx_ret (W.widen (k := 3) (n := 18) (Nat.le_of_ble_eq_true rfl) (Nat.le_of_ble_eq_true rfl) (W.zret (v := 0) hx hb hr rfl (fun t ht hw => ⟨⟨_, E, rfl, ⟨(show tX4_canByAll nG a0 a1 a2 = 0 from by unfold tX4_canByAll tX4_can; rw [if_pos ht0, if_pos hk7, if_pos hk11]), rfl, u, d, v, hau, hu, hvl, hGm, hop, (congrArg zI (show false = fcanBy (σ 15 u) (fX4_isAmongAllMoves σ nC (σ 12 u) (σ 6 v) (σ 17 (61 * u + d)) (σ 18 (61 * u + d)) (nI d) a1 a2) from by unfold fcanBy; rw [if_neg c_12]))⟩, (show xW G E t.heap from by rw [ht]; exact hW)⟩, hS.F ht⟩) hS.2.2 dX4_canByAll_38))
        · refine lv_aload hx hb dX4_canByAll_23 (lv_at hl 0 rfl) ?_
          refine lv_iload_n hx hb dX4_canByAll_25 rfl (lv_at hl 3 rfl) ?_
          refine lv_iload_n hx hb dX4_canByAll_26 rfl (lv_at hl 4 rfl) ?_
          refine x_callSe (va_runS (As := [.ref r2, .int a1, .int a2]) (rest := []) ⟨hx, hb, hml, hown, hts⟩ (kX4_isAmongAllMoves l G _ (σ) nC (σ 12 u) (σ 6 v) (σ 17 (61 * u + d)) (σ 18 (61 * u + d)) (nI d) r2 a1 a2 va gr (sa u) (σ 13 u) (σ 14 u) (σ 15 u) hG1 ct tb hGr hT) (va_cwS 3 hts gX4_canByAll_X4_isAmongAllMoves rfl rfl rfl (by decide +kernel) ⟨Nat.le_of_ble_eq_true rfl, Nat.le_of_ble_eq_true rfl⟩) (x_preS hX hS hW) rfl rfl hl.1 rfl (lv_room (Nat.le_of_ble_eq_true rfl)) dX4_canByAll_27 ⟨Nat.le_of_ble_eq_true rfl, Nat.le_of_ble_eq_true rfl⟩) ?_
          refine x_ifz_eq (b := fX4_isAmongAllMoves (σ) nC (σ 12 u) (σ 6 v) (σ 17 (61 * u + d)) (σ 18 (61 * u + d)) (nI d) a1 a2) (tgt := 37) hx hb dX4_canByAll_30 (by decide) (fun c_13 => ?_) (fun c_13 => ?_)
          · refine lv_iconst (v := 0) hx hb dX4_canByAll_37 (by decide) ?_
            exact vx_ret (W.widen (k := 3) (n := 18) (Nat.le_of_ble_eq_true rfl) (Nat.le_of_ble_eq_true rfl) (W.zret (v := 0) hx hb hr rfl (fun t ht hw => ⟨⟨_, E, rfl, ⟨(show tX4_canByAll nG a0 a1 a2 = 0 from by unfold tX4_canByAll tX4_can; rw [if_pos ht0, if_pos hk7, if_pos hk11]), rfl, u, d, v, hau, hu, hvl, hGm, hop, (congrArg zI (show false = fcanBy (σ 15 u) (fX4_isAmongAllMoves σ nC (σ 12 u) (σ 6 v) (σ 17 (61 * u + d)) (σ 18 (61 * u + d)) (nI d) a1 a2) from by unfold fcanBy; rw [if_pos c_12, if_neg (Bool.eq_false_iff.mp c_13)]))⟩, (show xW G E t.heap from by rw [ht]; exact hW)⟩, hS.F ht⟩) hS.2.2 dX4_canByAll_38))
          · refine lv_iconst (v := 1) hx hb dX4_canByAll_33 (by decide) ?_
            refine lv_goto (tgt := 38) hx hb dX4_canByAll_34 (by decide) ?_
            exact vx_ret (W.widen (k := 3) (n := 18) (Nat.le_of_ble_eq_true rfl) (Nat.le_of_ble_eq_true rfl) (W.zret (v := 1) hx hb hr rfl (fun t ht hw => ⟨⟨_, E, rfl, ⟨(show tX4_canByAll nG a0 a1 a2 = 0 from by unfold tX4_canByAll tX4_can; rw [if_pos ht0, if_pos hk7, if_pos hk11]), rfl, u, d, v, hau, hu, hvl, hGm, hop, (congrArg zI (show true = fcanBy (σ 15 u) (fX4_isAmongAllMoves σ nC (σ 12 u) (σ 6 v) (σ 17 (61 * u + d)) (σ 18 (61 * u + d)) (nI d) a1 a2) from by unfold fcanBy; rw [if_pos c_12, if_pos c_13]))⟩, (show xW G E t.heap from by rw [ht]; exact hW)⟩, hS.F ht⟩) hS.2.2 dX4_canByAll_38))

def tX4_value (nG : Nat) (a0 a1 : Int32) : Nat := if (tIx (nI nG) a0) = 0 then (if (tX4_checkDepth a1) = 0 then (0) else tX4_checkDepth a1) else tIx (nI nG) a0
set_option maxHeartbeats 4000000 in
set_option maxRecDepth 100000 in
theorem kX4_value (l : Launch) (hl9 : l.stackTraces = false) (G : xG) (E : xE) (o : Nat) (a0 : Int32) (a1 : Int32) (ct vt gt : Nat) (tb vb gb : Nat → Option Nat) (sa : Nat → Nat) (nC nV nG : Nat) (σ : xSg) (hCls : xCls G E o ct vt gt tb vb gb sa nC nV nG σ) : vx_Met l yX4_value wsX4_value ({ frames := 7, cells := 2, slots := 12, locals := 198 }) (va_Pc [.ref o, .int a0, .int a1] (xB G E)) (va_Qi (S := xE) (fun r E' => tX4_value nG a0 a1 = 0 ∧ E' = E ∧ ∃ u d v : Nat, a0 = nI u ∧ u < nG ∧ v < nV ∧ xGm σ u d v ∧ (σ 15 u = 0 → d < 60) ∧ r = vX4_searchWithCuts σ nC (σ 12 u) (σ 6 v) (a1.toNatClampNeg) (fX1_ofMover (σ 17 (61 * u + d)) (σ 18 (61 * u + d)) (nI d)) (fX1_ofWaiting (σ 17 (61 * u + d)) (σ 18 (61 * u + d)) (nI d)) (fX1_isSecondToMove (nI d)) (-100) 100) (fun E' t => xW G E' t.heap) (xA G)) (xX G E (fun n => xEx n (tX4_value nG a0 a1))) 2 12 (xA G) := by
  refine vx_ofW (cc := cX4_value) (maxL := 4) (ret := (some .int)) (by decide) rfl ?_
  intro p e s m args below meth c s₁ B hml hno hv
  obtain ⟨rfl, hX, hW⟩ := hv
  have hx := B.exec
  have hb := B.bytes
  have hr := B.returns
  have hts := atoms_spec (ws := wsX4_value) B.pre
  have hown : s.vm.findClass RX4 = some m.cls := findClass_of_methodNamed B.named
  have hlocks := B.notSynchronized
  have hS : va_S (xA G) s.heap s.heap [] := va_S.rf
  have hiX1 : ∀ w ∈ u_ws RX1 TX1 9, w ∈ wsX4_value := by decide +kernel
  have hf153 := hts (Cond.fieldLink RX4 153 "VariantMill$Game" "rules" "LVariantMill$Rules;") (by decide +kernel)
  have hl := lv_entry ([.ref o, .int a0, .int a1]) (n := 4) (Nat.le_of_ble_eq_true rfl)
  rw [lg_entry_eq]
  generalize (lg_sl ([.ref o, .int a0, .int a1]) ++ List.replicate (4 - (lg_sl ([.ref o, .int a0, .int a1])).length) Slot.unset).toArray = ls at hl ⊢
  have hl : lv_has ls 4 [(0, .ref o), (1, .int a0), (2, .int a1)] := hl
  obtain ⟨H, hH⟩ : ∃ z, z = s.heap := ⟨_, rfl⟩
  rw [← hH] at hW
  have hS : va_S (xA G) s.heap H [] := by rw [hH]; exact hS
  rw [← hH]
  obtain ⟨hE, h0, h5, h10, hT, hV, hGs⟩ := hCls
  refine lv_aload_n hx hb dX4_value_0 rfl (lv_at hl 0 rfl) ?_
  refine lv_iload_n hx hb dX4_value_1 rfl (lv_at hl 1 rfl) ?_
  refine vx_callr (vx_runV (As := [.int a0]) (rest := []) ⟨hx, hb, hml, hown, hts⟩ (kX4_gameAt l hl9 G E o a0 ct vt gt nC nV nG gb hE hGs.1 hGs.2.1 hGs.2.2.1 hGs.some) (cwV 1 hts gX4_value_X4_gameAt rfl rfl rfl (by decide +kernel) ⟨Nat.le_of_ble_eq_true rfl, Nat.le_of_ble_eq_true rfl⟩) (x_preV hX hS hW hE rfl) rfl rfl hl.1 rfl (lv_room (Nat.le_of_ble_eq_true rfl)) dX4_value_2 ⟨Nat.le_of_ble_eq_true rfl, Nat.le_of_ble_eq_true rfl⟩) hS (fun _ _ h => h) (fun _ h => h) (fun _ _ h => h) (fun Ex ce q9 ux t H1 locs1 ht hvm hpx hB hz1 hk1 hS1 hce hcv hcl => ?_) (fun E1 r2 t H1 locs1 ht hvm hw hB hz1 hk1 hS1 => ?_)
  · obtain ⟨hpx, hB⟩ := hB
    rw [ht] at hB
    exact vx_widen (k := 2) (n := 12) (Nat.le_of_ble_eq_true rfl) (Nat.le_of_ble_eq_true rfl) (vx_out (fun x hx9 => (hno x hx9).elim) hlocks hce hcv hcl (fun t9 ht9 hv9 => ⟨(), trivial, ⟨(by rw [(show tX4_value nG a0 a1 = tIx (nI nG) a0 from by unfold tX4_value; rw [if_neg (xEx_ne hpx)])]; exact hpx), by rw [ht9]; exact hB⟩, hS1.F ht9⟩) hS1.2.2 (Nat.le_refl _) (Nat.le_refl _))
  · rw [ht] at hB
    have hS := hS1
    obtain ⟨⟨u, hau, hu, hgb, hEe⟩, hB⟩ := hB
    rw [hEe] at hB
    have hW : xW G E H1 := hB
    obtain ⟨ga, hga, va, gr, v, d, sq, hG1, h16, h60, h11, hvl, hvb, hGr, hSn, hsq, hop⟩ := hGs.2.2.2.1 u hu
    obtain rfl : r2 = ga := Option.some.inj (hgb.symm.trans hga)
    obtain ⟨va2, vr, hva, hVa, hVr⟩ := hV.2.2.2.1 v hvl
    obtain rfl : va = va2 := Option.some.inj (hvb.symm.trans hva)
    have ht0 : tIx (nI nG) a0 = 0 := by rw [hau]; exact tIx_ok hu (by have := hGs.2.1; omega)
    have hGm : xGm σ u d v := ⟨by have := hGs.2.1; omega, h16, h60, h11, by have := hV.2.1; omega⟩
    refine lv_astore_n (lv' := [(3, .ref r2), (0, .ref o), (1, .int a0), (2, .int a1)]) hx hb dX4_value_5 rfl hl (by decide) rfl (fun ls hl => ?_)
    refine lv_iload_n hx hb dX4_value_6 rfl (lv_at hl 3 rfl) ?_
    refine vx_callv (vx_runS (As := [.int a1]) (rest := []) ⟨hx, hb, hml, hown, hts⟩ (kX4_checkDepth l hl9 G E a1) (va_cwS 1 hts gX4_value_X4_checkDepth rfl rfl rfl (by decide +kernel) ⟨Nat.le_of_ble_eq_true rfl, Nat.le_of_ble_eq_true rfl⟩) (x_preS hX hS hW) rfl rfl hl.1 rfl (lv_room (Nat.le_of_ble_eq_true rfl)) dX4_value_7 ⟨Nat.le_of_ble_eq_true rfl, Nat.le_of_ble_eq_true rfl⟩) hS (fun _ _ h => h) (fun _ h => h) (fun _ _ h => h) (fun Ex ce q9 ux t H1 locs1 ht hvm hpx hB hz1 hk1 hS1 hce hcv hcl => ?_) (fun E4 t H1 locs1 ht hvm hw hB hz1 hk1 hS1 => ?_)
    · obtain ⟨hpx, hB⟩ := hB
      rw [ht] at hB
      exact vx_widen (k := 2) (n := 12) (Nat.le_of_ble_eq_true rfl) (Nat.le_of_ble_eq_true rfl) (vx_out (fun x hx9 => (hno x hx9).elim) hlocks hce hcv hcl (fun t9 ht9 hv9 => ⟨(), trivial, ⟨(by rw [(show tX4_value nG a0 a1 = tX4_checkDepth a1 from by unfold tX4_value; rw [if_pos ht0, if_neg (xEx_ne hpx)])]; exact hpx), by rw [ht9]; exact hB⟩, hS1.F ht9⟩) hS1.2.2 (Nat.le_refl _) (Nat.le_refl _))
    · rw [ht] at hB
      have hS := hS1
      obtain ⟨hk7, hEe⟩ := hw
      rw [hEe] at hB
      have hW : xW G E H1 := hB
      refine lv_aload_n hx hb dX4_value_10 rfl (lv_at hl 0 rfl) ?_
      refine va_get (D := G.1) (ci := 1) (v := .ref gr) (C := RX1) (T := TX1) (N := 9) hx hb hts hiX1 hown hX.1 (x1 hW hG1) 0 rfl rfl 1 (by decide) hf153 (fun _ h9 => h9) rfl dX4_value_11 ?_
      refine lv_aload_n hx hb dX4_value_14 rfl (lv_at hl 0 rfl) ?_
      refine x_callSe (va_runV (As := []) (rest := [.ref gr]) ⟨hx, hb, hml, hown, hts⟩ (kX1_ofMover l G _ (σ 17 (61 * u + d)) (σ 18 (61 * u + d)) (nI d) r2 va gr (sa u) (σ 13 u) (σ 14 u) (σ 15 u) hG1) (cwV 0 hts gX4_value_X1_ofMover rfl rfl rfl (by decide +kernel) ⟨Nat.le_of_ble_eq_true rfl, Nat.le_of_ble_eq_true rfl⟩) (x_preV hX hS hW hG1 rfl) rfl rfl hl.1 rfl (lv_room (Nat.le_of_ble_eq_true rfl)) dX4_value_15 ⟨Nat.le_of_ble_eq_true rfl, Nat.le_of_ble_eq_true rfl⟩) ?_
      refine lv_aload_n hx hb dX4_value_18 rfl (lv_at hl 0 rfl) ?_
      refine x_callSe (va_runV (As := []) (rest := [.int (fX1_ofMover (σ 17 (61 * u + d)) (σ 18 (61 * u + d)) (nI d)), .ref gr]) ⟨hx, hb, hml, hown, hts⟩ (kX1_ofWaiting l G _ (σ 17 (61 * u + d)) (σ 18 (61 * u + d)) (nI d) r2 va gr (sa u) (σ 13 u) (σ 14 u) (σ 15 u) hG1) (cwV 0 hts gX4_value_X1_ofWaiting rfl rfl rfl (by decide +kernel) ⟨Nat.le_of_ble_eq_true rfl, Nat.le_of_ble_eq_true rfl⟩) (x_preV hX hS hW hG1 rfl) rfl rfl hl.1 rfl (lv_room (Nat.le_of_ble_eq_true rfl)) dX4_value_19 ⟨Nat.le_of_ble_eq_true rfl, Nat.le_of_ble_eq_true rfl⟩) ?_
      refine lv_aload_n hx hb dX4_value_22 rfl (lv_at hl 0 rfl) ?_
      refine x_callSe (va_runV (As := []) (rest := [.int (fX1_ofWaiting (σ 17 (61 * u + d)) (σ 18 (61 * u + d)) (nI d)), .int (fX1_ofMover (σ 17 (61 * u + d)) (σ 18 (61 * u + d)) (nI d)), .ref gr]) ⟨hx, hb, hml, hown, hts⟩ (kX1_isSecondToMove l G _ (nI d) r2 va gr (sa u) (σ 13 u) (σ 14 u) (σ 17 (61 * u + d)) (σ 18 (61 * u + d)) (σ 15 u) hG1) (cwV 0 hts gX4_value_X1_isSecondToMove rfl rfl rfl (by decide +kernel) ⟨Nat.le_of_ble_eq_true rfl, Nat.le_of_ble_eq_true rfl⟩) (x_preV hX hS hW hG1 rfl) rfl rfl hl.1 rfl (lv_room (Nat.le_of_ble_eq_true rfl)) dX4_value_23 ⟨Nat.le_of_ble_eq_true rfl, Nat.le_of_ble_eq_true rfl⟩) ?_
      refine lv_iload_n hx hb dX4_value_26 rfl (lv_at hl 3 rfl) ?_
      refine lv_bipush (v := (-100)) hx hb dX4_value_27 (by decide) ?_
      refine lv_bipush (v := 100) hx hb dX4_value_29 (by decide) ?_
      rcases x_depth hk7 with hD | hD | hD
      · have hM := kX4_searchWithCuts_0v l G E σ nC (σ 12 u) (σ 6 v) gr ct tb hGr hT (fX1_ofMover (σ 17 (61 * u + d)) (σ 18 (61 * u + d)) (nI d)) (fX1_ofWaiting (σ 17 (61 * u + d)) (σ 18 (61 * u + d)) (nI d)) (fX1_isSecondToMove (nI d)) (-100) 100
        rw [← hD] at hM
        refine x_callSe (va_runS (As := [.ref gr, .int (fX1_ofMover (σ 17 (61 * u + d)) (σ 18 (61 * u + d)) (nI d)), .int (fX1_ofWaiting (σ 17 (61 * u + d)) (σ 18 (61 * u + d)) (nI d)), .int (zI (fX1_isSecondToMove (nI d))), .int a1, .int (-100), .int 100]) (rest := []) ⟨hx, hb, hml, hown, hts⟩ hM (va_cwS 7 hts gX4_value_X4_searchWithCuts rfl rfl rfl (by decide +kernel) ⟨Nat.le_of_ble_eq_true rfl, Nat.le_of_ble_eq_true rfl⟩) (x_preS hX hS hW) rfl rfl hl.1 rfl (lv_room (Nat.le_of_ble_eq_true rfl)) dX4_value_31 ⟨Nat.le_of_ble_eq_true rfl, Nat.le_of_ble_eq_true rfl⟩) ?_
        exact vx_ret (W.widen (k := 2) (n := 12) (Nat.le_of_ble_eq_true rfl) (Nat.le_of_ble_eq_true rfl) (W.iret (v := vX4_searchWithCuts σ nC (σ 12 u) (σ 6 v) 0 (fX1_ofMover (σ 17 (61 * u + d)) (σ 18 (61 * u + d)) (nI d)) (fX1_ofWaiting (σ 17 (61 * u + d)) (σ 18 (61 * u + d)) (nI d)) (fX1_isSecondToMove (nI d)) (-100) 100) hx hb hr (fun t ht hw => ⟨⟨_, E, rfl, ⟨(show tX4_value nG a0 a1 = 0 from by unfold tX4_value; rw [if_pos ht0, if_pos hk7]), rfl, u, d, v, hau, hu, hvl, hGm, hop, (by rw [hD]; rfl)⟩, (show xW G E t.heap from by rw [ht]; exact hW)⟩, hS.F ht⟩) hS.2.2 dX4_value_34))
      · have hM := kX4_searchWithCuts_1 l G E σ nC (σ 12 u) (σ 6 v) gr ct tb hGr hT (fX1_ofMover (σ 17 (61 * u + d)) (σ 18 (61 * u + d)) (nI d)) (fX1_ofWaiting (σ 17 (61 * u + d)) (σ 18 (61 * u + d)) (nI d)) (fX1_isSecondToMove (nI d)) (-100) 100
        rw [← hD] at hM
        refine x_callSe (va_runS (As := [.ref gr, .int (fX1_ofMover (σ 17 (61 * u + d)) (σ 18 (61 * u + d)) (nI d)), .int (fX1_ofWaiting (σ 17 (61 * u + d)) (σ 18 (61 * u + d)) (nI d)), .int (zI (fX1_isSecondToMove (nI d))), .int a1, .int (-100), .int 100]) (rest := []) ⟨hx, hb, hml, hown, hts⟩ hM (va_cwS 7 hts gX4_value_X4_searchWithCuts rfl rfl rfl (by decide +kernel) ⟨Nat.le_of_ble_eq_true rfl, Nat.le_of_ble_eq_true rfl⟩) (x_preS hX hS hW) rfl rfl hl.1 rfl (lv_room (Nat.le_of_ble_eq_true rfl)) dX4_value_31 ⟨Nat.le_of_ble_eq_true rfl, Nat.le_of_ble_eq_true rfl⟩) ?_
        exact vx_ret (W.widen (k := 2) (n := 12) (Nat.le_of_ble_eq_true rfl) (Nat.le_of_ble_eq_true rfl) (W.iret (v := vX4_searchWithCuts σ nC (σ 12 u) (σ 6 v) 1 (fX1_ofMover (σ 17 (61 * u + d)) (σ 18 (61 * u + d)) (nI d)) (fX1_ofWaiting (σ 17 (61 * u + d)) (σ 18 (61 * u + d)) (nI d)) (fX1_isSecondToMove (nI d)) (-100) 100) hx hb hr (fun t ht hw => ⟨⟨_, E, rfl, ⟨(show tX4_value nG a0 a1 = 0 from by unfold tX4_value; rw [if_pos ht0, if_pos hk7]), rfl, u, d, v, hau, hu, hvl, hGm, hop, (by rw [hD]; rfl)⟩, (show xW G E t.heap from by rw [ht]; exact hW)⟩, hS.F ht⟩) hS.2.2 dX4_value_34))
      · have hM := kX4_searchWithCuts_2 l G E σ nC (σ 12 u) (σ 6 v) gr ct tb hGr hT (fX1_ofMover (σ 17 (61 * u + d)) (σ 18 (61 * u + d)) (nI d)) (fX1_ofWaiting (σ 17 (61 * u + d)) (σ 18 (61 * u + d)) (nI d)) (fX1_isSecondToMove (nI d)) (-100) 100
        rw [← hD] at hM
        refine x_callSe (va_runS (As := [.ref gr, .int (fX1_ofMover (σ 17 (61 * u + d)) (σ 18 (61 * u + d)) (nI d)), .int (fX1_ofWaiting (σ 17 (61 * u + d)) (σ 18 (61 * u + d)) (nI d)), .int (zI (fX1_isSecondToMove (nI d))), .int a1, .int (-100), .int 100]) (rest := []) ⟨hx, hb, hml, hown, hts⟩ hM (va_cwS 7 hts gX4_value_X4_searchWithCuts rfl rfl rfl (by decide +kernel) ⟨Nat.le_of_ble_eq_true rfl, Nat.le_of_ble_eq_true rfl⟩) (x_preS hX hS hW) rfl rfl hl.1 rfl (lv_room (Nat.le_of_ble_eq_true rfl)) dX4_value_31 ⟨Nat.le_of_ble_eq_true rfl, Nat.le_of_ble_eq_true rfl⟩) ?_
        exact vx_ret (W.widen (k := 2) (n := 12) (Nat.le_of_ble_eq_true rfl) (Nat.le_of_ble_eq_true rfl) (W.iret (v := vX4_searchWithCuts σ nC (σ 12 u) (σ 6 v) 2 (fX1_ofMover (σ 17 (61 * u + d)) (σ 18 (61 * u + d)) (nI d)) (fX1_ofWaiting (σ 17 (61 * u + d)) (σ 18 (61 * u + d)) (nI d)) (fX1_isSecondToMove (nI d)) (-100) 100) hx hb hr (fun t ht hw => ⟨⟨_, E, rfl, ⟨(show tX4_value nG a0 a1 = 0 from by unfold tX4_value; rw [if_pos ht0, if_pos hk7]), rfl, u, d, v, hau, hu, hvl, hGm, hop, (by rw [hD]; rfl)⟩, (show xW G E t.heap from by rw [ht]; exact hW)⟩, hS.F ht⟩) hS.2.2 dX4_value_34))

def tX4_valueByAll (nG : Nat) (a0 a1 : Int32) : Nat := if (tIx (nI nG) a0) = 0 then (if (tX4_checkDepth a1) = 0 then (0) else tX4_checkDepth a1) else tIx (nI nG) a0
set_option maxHeartbeats 4000000 in
set_option maxRecDepth 100000 in
theorem kX4_valueByAll (l : Launch) (hl9 : l.stackTraces = false) (G : xG) (E : xE) (o : Nat) (a0 : Int32) (a1 : Int32) (ct vt gt : Nat) (tb vb gb : Nat → Option Nat) (sa : Nat → Nat) (nC nV nG : Nat) (σ : xSg) (hCls : xCls G E o ct vt gt tb vb gb sa nC nV nG σ) : vx_Met l yX4_valueByAll wsX4_valueByAll ({ frames := 7, cells := 2, slots := 12, locals := 189 }) (va_Pc [.ref o, .int a0, .int a1] (xB G E)) (va_Qi (S := xE) (fun r E' => tX4_valueByAll nG a0 a1 = 0 ∧ E' = E ∧ ∃ u d v : Nat, a0 = nI u ∧ u < nG ∧ v < nV ∧ xGm σ u d v ∧ (σ 15 u = 0 → d < 60) ∧ r = vX4_searchAll σ nC (σ 12 u) (σ 6 v) (a1.toNatClampNeg) (fX1_ofMover (σ 17 (61 * u + d)) (σ 18 (61 * u + d)) (nI d)) (fX1_ofWaiting (σ 17 (61 * u + d)) (σ 18 (61 * u + d)) (nI d)) (fX1_isSecondToMove (nI d))) (fun E' t => xW G E' t.heap) (xA G)) (xX G E (fun n => xEx n (tX4_valueByAll nG a0 a1))) 2 12 (xA G) := by
  refine vx_ofW (cc := cX4_valueByAll) (maxL := 4) (ret := (some .int)) (by decide) rfl ?_
  intro p e s m args below meth c s₁ B hml hno hv
  obtain ⟨rfl, hX, hW⟩ := hv
  have hx := B.exec
  have hb := B.bytes
  have hr := B.returns
  have hts := atoms_spec (ws := wsX4_valueByAll) B.pre
  have hown : s.vm.findClass RX4 = some m.cls := findClass_of_methodNamed B.named
  have hlocks := B.notSynchronized
  have hS : va_S (xA G) s.heap s.heap [] := va_S.rf
  have hiX1 : ∀ w ∈ u_ws RX1 TX1 9, w ∈ wsX4_valueByAll := by decide +kernel
  have hf153 := hts (Cond.fieldLink RX4 153 "VariantMill$Game" "rules" "LVariantMill$Rules;") (by decide +kernel)
  have hl := lv_entry ([.ref o, .int a0, .int a1]) (n := 4) (Nat.le_of_ble_eq_true rfl)
  rw [lg_entry_eq]
  generalize (lg_sl ([.ref o, .int a0, .int a1]) ++ List.replicate (4 - (lg_sl ([.ref o, .int a0, .int a1])).length) Slot.unset).toArray = ls at hl ⊢
  have hl : lv_has ls 4 [(0, .ref o), (1, .int a0), (2, .int a1)] := hl
  obtain ⟨H, hH⟩ : ∃ z, z = s.heap := ⟨_, rfl⟩
  rw [← hH] at hW
  have hS : va_S (xA G) s.heap H [] := by rw [hH]; exact hS
  rw [← hH]
  obtain ⟨hE, h0, h5, h10, hT, hV, hGs⟩ := hCls
  refine lv_aload_n hx hb dX4_valueByAll_0 rfl (lv_at hl 0 rfl) ?_
  refine lv_iload_n hx hb dX4_valueByAll_1 rfl (lv_at hl 1 rfl) ?_
  refine vx_callr (vx_runV (As := [.int a0]) (rest := []) ⟨hx, hb, hml, hown, hts⟩ (kX4_gameAt l hl9 G E o a0 ct vt gt nC nV nG gb hE hGs.1 hGs.2.1 hGs.2.2.1 hGs.some) (cwV 1 hts gX4_valueByAll_X4_gameAt rfl rfl rfl (by decide +kernel) ⟨Nat.le_of_ble_eq_true rfl, Nat.le_of_ble_eq_true rfl⟩) (x_preV hX hS hW hE rfl) rfl rfl hl.1 rfl (lv_room (Nat.le_of_ble_eq_true rfl)) dX4_valueByAll_2 ⟨Nat.le_of_ble_eq_true rfl, Nat.le_of_ble_eq_true rfl⟩) hS (fun _ _ h => h) (fun _ h => h) (fun _ _ h => h) (fun Ex ce q9 ux t H1 locs1 ht hvm hpx hB hz1 hk1 hS1 hce hcv hcl => ?_) (fun E1 r2 t H1 locs1 ht hvm hw hB hz1 hk1 hS1 => ?_)
  · obtain ⟨hpx, hB⟩ := hB
    rw [ht] at hB
    exact vx_widen (k := 2) (n := 12) (Nat.le_of_ble_eq_true rfl) (Nat.le_of_ble_eq_true rfl) (vx_out (fun x hx9 => (hno x hx9).elim) hlocks hce hcv hcl (fun t9 ht9 hv9 => ⟨(), trivial, ⟨(by rw [(show tX4_valueByAll nG a0 a1 = tIx (nI nG) a0 from by unfold tX4_valueByAll; rw [if_neg (xEx_ne hpx)])]; exact hpx), by rw [ht9]; exact hB⟩, hS1.F ht9⟩) hS1.2.2 (Nat.le_refl _) (Nat.le_refl _))
  · rw [ht] at hB
    have hS := hS1
    obtain ⟨⟨u, hau, hu, hgb, hEe⟩, hB⟩ := hB
    rw [hEe] at hB
    have hW : xW G E H1 := hB
    obtain ⟨ga, hga, va, gr, v, d, sq, hG1, h16, h60, h11, hvl, hvb, hGr, hSn, hsq, hop⟩ := hGs.2.2.2.1 u hu
    obtain rfl : r2 = ga := Option.some.inj (hgb.symm.trans hga)
    obtain ⟨va2, vr, hva, hVa, hVr⟩ := hV.2.2.2.1 v hvl
    obtain rfl : va = va2 := Option.some.inj (hvb.symm.trans hva)
    have ht0 : tIx (nI nG) a0 = 0 := by rw [hau]; exact tIx_ok hu (by have := hGs.2.1; omega)
    have hGm : xGm σ u d v := ⟨by have := hGs.2.1; omega, h16, h60, h11, by have := hV.2.1; omega⟩
    refine lv_astore_n (lv' := [(3, .ref r2), (0, .ref o), (1, .int a0), (2, .int a1)]) hx hb dX4_valueByAll_5 rfl hl (by decide) rfl (fun ls hl => ?_)
    refine lv_iload_n hx hb dX4_valueByAll_6 rfl (lv_at hl 3 rfl) ?_
    refine vx_callv (vx_runS (As := [.int a1]) (rest := []) ⟨hx, hb, hml, hown, hts⟩ (kX4_checkDepth l hl9 G E a1) (va_cwS 1 hts gX4_valueByAll_X4_checkDepth rfl rfl rfl (by decide +kernel) ⟨Nat.le_of_ble_eq_true rfl, Nat.le_of_ble_eq_true rfl⟩) (x_preS hX hS hW) rfl rfl hl.1 rfl (lv_room (Nat.le_of_ble_eq_true rfl)) dX4_valueByAll_7 ⟨Nat.le_of_ble_eq_true rfl, Nat.le_of_ble_eq_true rfl⟩) hS (fun _ _ h => h) (fun _ h => h) (fun _ _ h => h) (fun Ex ce q9 ux t H1 locs1 ht hvm hpx hB hz1 hk1 hS1 hce hcv hcl => ?_) (fun E4 t H1 locs1 ht hvm hw hB hz1 hk1 hS1 => ?_)
    · obtain ⟨hpx, hB⟩ := hB
      rw [ht] at hB
      exact vx_widen (k := 2) (n := 12) (Nat.le_of_ble_eq_true rfl) (Nat.le_of_ble_eq_true rfl) (vx_out (fun x hx9 => (hno x hx9).elim) hlocks hce hcv hcl (fun t9 ht9 hv9 => ⟨(), trivial, ⟨(by rw [(show tX4_valueByAll nG a0 a1 = tX4_checkDepth a1 from by unfold tX4_valueByAll; rw [if_pos ht0, if_neg (xEx_ne hpx)])]; exact hpx), by rw [ht9]; exact hB⟩, hS1.F ht9⟩) hS1.2.2 (Nat.le_refl _) (Nat.le_refl _))
    · rw [ht] at hB
      have hS := hS1
      obtain ⟨hk7, hEe⟩ := hw
      rw [hEe] at hB
      have hW : xW G E H1 := hB
      refine lv_aload_n hx hb dX4_valueByAll_10 rfl (lv_at hl 0 rfl) ?_
      refine va_get (D := G.1) (ci := 1) (v := .ref gr) (C := RX1) (T := TX1) (N := 9) hx hb hts hiX1 hown hX.1 (x1 hW hG1) 0 rfl rfl 1 (by decide) hf153 (fun _ h9 => h9) rfl dX4_valueByAll_11 ?_
      refine lv_aload_n hx hb dX4_valueByAll_14 rfl (lv_at hl 0 rfl) ?_
      refine x_callSe (va_runV (As := []) (rest := [.ref gr]) ⟨hx, hb, hml, hown, hts⟩ (kX1_ofMover l G _ (σ 17 (61 * u + d)) (σ 18 (61 * u + d)) (nI d) r2 va gr (sa u) (σ 13 u) (σ 14 u) (σ 15 u) hG1) (cwV 0 hts gX4_valueByAll_X1_ofMover rfl rfl rfl (by decide +kernel) ⟨Nat.le_of_ble_eq_true rfl, Nat.le_of_ble_eq_true rfl⟩) (x_preV hX hS hW hG1 rfl) rfl rfl hl.1 rfl (lv_room (Nat.le_of_ble_eq_true rfl)) dX4_valueByAll_15 ⟨Nat.le_of_ble_eq_true rfl, Nat.le_of_ble_eq_true rfl⟩) ?_
      refine lv_aload_n hx hb dX4_valueByAll_18 rfl (lv_at hl 0 rfl) ?_
      refine x_callSe (va_runV (As := []) (rest := [.int (fX1_ofMover (σ 17 (61 * u + d)) (σ 18 (61 * u + d)) (nI d)), .ref gr]) ⟨hx, hb, hml, hown, hts⟩ (kX1_ofWaiting l G _ (σ 17 (61 * u + d)) (σ 18 (61 * u + d)) (nI d) r2 va gr (sa u) (σ 13 u) (σ 14 u) (σ 15 u) hG1) (cwV 0 hts gX4_valueByAll_X1_ofWaiting rfl rfl rfl (by decide +kernel) ⟨Nat.le_of_ble_eq_true rfl, Nat.le_of_ble_eq_true rfl⟩) (x_preV hX hS hW hG1 rfl) rfl rfl hl.1 rfl (lv_room (Nat.le_of_ble_eq_true rfl)) dX4_valueByAll_19 ⟨Nat.le_of_ble_eq_true rfl, Nat.le_of_ble_eq_true rfl⟩) ?_
      refine lv_aload_n hx hb dX4_valueByAll_22 rfl (lv_at hl 0 rfl) ?_
      refine x_callSe (va_runV (As := []) (rest := [.int (fX1_ofWaiting (σ 17 (61 * u + d)) (σ 18 (61 * u + d)) (nI d)), .int (fX1_ofMover (σ 17 (61 * u + d)) (σ 18 (61 * u + d)) (nI d)), .ref gr]) ⟨hx, hb, hml, hown, hts⟩ (kX1_isSecondToMove l G _ (nI d) r2 va gr (sa u) (σ 13 u) (σ 14 u) (σ 17 (61 * u + d)) (σ 18 (61 * u + d)) (σ 15 u) hG1) (cwV 0 hts gX4_valueByAll_X1_isSecondToMove rfl rfl rfl (by decide +kernel) ⟨Nat.le_of_ble_eq_true rfl, Nat.le_of_ble_eq_true rfl⟩) (x_preV hX hS hW hG1 rfl) rfl rfl hl.1 rfl (lv_room (Nat.le_of_ble_eq_true rfl)) dX4_valueByAll_23 ⟨Nat.le_of_ble_eq_true rfl, Nat.le_of_ble_eq_true rfl⟩) ?_
      refine lv_iload_n hx hb dX4_valueByAll_26 rfl (lv_at hl 3 rfl) ?_
      rcases x_depth hk7 with hD | hD | hD
      · have hM := kX4_searchAll_0v l G E σ nC (σ 12 u) (σ 6 v) gr ct tb hGr hT (fX1_ofMover (σ 17 (61 * u + d)) (σ 18 (61 * u + d)) (nI d)) (fX1_ofWaiting (σ 17 (61 * u + d)) (σ 18 (61 * u + d)) (nI d)) (fX1_isSecondToMove (nI d))
        rw [← hD] at hM
        refine x_callSe (va_runS (As := [.ref gr, .int (fX1_ofMover (σ 17 (61 * u + d)) (σ 18 (61 * u + d)) (nI d)), .int (fX1_ofWaiting (σ 17 (61 * u + d)) (σ 18 (61 * u + d)) (nI d)), .int (zI (fX1_isSecondToMove (nI d))), .int a1]) (rest := []) ⟨hx, hb, hml, hown, hts⟩ hM (va_cwS 5 hts gX4_valueByAll_X4_searchAll rfl rfl rfl (by decide +kernel) ⟨Nat.le_of_ble_eq_true rfl, Nat.le_of_ble_eq_true rfl⟩) (x_preS hX hS hW) rfl rfl hl.1 rfl (lv_room (Nat.le_of_ble_eq_true rfl)) dX4_valueByAll_27 ⟨Nat.le_of_ble_eq_true rfl, Nat.le_of_ble_eq_true rfl⟩) ?_
        exact vx_ret (W.widen (k := 2) (n := 12) (Nat.le_of_ble_eq_true rfl) (Nat.le_of_ble_eq_true rfl) (W.iret (v := vX4_searchAll σ nC (σ 12 u) (σ 6 v) 0 (fX1_ofMover (σ 17 (61 * u + d)) (σ 18 (61 * u + d)) (nI d)) (fX1_ofWaiting (σ 17 (61 * u + d)) (σ 18 (61 * u + d)) (nI d)) (fX1_isSecondToMove (nI d))) hx hb hr (fun t ht hw => ⟨⟨_, E, rfl, ⟨(show tX4_valueByAll nG a0 a1 = 0 from by unfold tX4_valueByAll; rw [if_pos ht0, if_pos hk7]), rfl, u, d, v, hau, hu, hvl, hGm, hop, (by rw [hD]; rfl)⟩, (show xW G E t.heap from by rw [ht]; exact hW)⟩, hS.F ht⟩) hS.2.2 dX4_valueByAll_30))
      · have hM := kX4_searchAll_1 l G E σ nC (σ 12 u) (σ 6 v) gr ct tb hGr hT (fX1_ofMover (σ 17 (61 * u + d)) (σ 18 (61 * u + d)) (nI d)) (fX1_ofWaiting (σ 17 (61 * u + d)) (σ 18 (61 * u + d)) (nI d)) (fX1_isSecondToMove (nI d))
        rw [← hD] at hM
        refine x_callSe (va_runS (As := [.ref gr, .int (fX1_ofMover (σ 17 (61 * u + d)) (σ 18 (61 * u + d)) (nI d)), .int (fX1_ofWaiting (σ 17 (61 * u + d)) (σ 18 (61 * u + d)) (nI d)), .int (zI (fX1_isSecondToMove (nI d))), .int a1]) (rest := []) ⟨hx, hb, hml, hown, hts⟩ hM (va_cwS 5 hts gX4_valueByAll_X4_searchAll rfl rfl rfl (by decide +kernel) ⟨Nat.le_of_ble_eq_true rfl, Nat.le_of_ble_eq_true rfl⟩) (x_preS hX hS hW) rfl rfl hl.1 rfl (lv_room (Nat.le_of_ble_eq_true rfl)) dX4_valueByAll_27 ⟨Nat.le_of_ble_eq_true rfl, Nat.le_of_ble_eq_true rfl⟩) ?_
        exact vx_ret (W.widen (k := 2) (n := 12) (Nat.le_of_ble_eq_true rfl) (Nat.le_of_ble_eq_true rfl) (W.iret (v := vX4_searchAll σ nC (σ 12 u) (σ 6 v) 1 (fX1_ofMover (σ 17 (61 * u + d)) (σ 18 (61 * u + d)) (nI d)) (fX1_ofWaiting (σ 17 (61 * u + d)) (σ 18 (61 * u + d)) (nI d)) (fX1_isSecondToMove (nI d))) hx hb hr (fun t ht hw => ⟨⟨_, E, rfl, ⟨(show tX4_valueByAll nG a0 a1 = 0 from by unfold tX4_valueByAll; rw [if_pos ht0, if_pos hk7]), rfl, u, d, v, hau, hu, hvl, hGm, hop, (by rw [hD]; rfl)⟩, (show xW G E t.heap from by rw [ht]; exact hW)⟩, hS.F ht⟩) hS.2.2 dX4_valueByAll_30))
      · have hM := kX4_searchAll_2 l G E σ nC (σ 12 u) (σ 6 v) gr ct tb hGr hT (fX1_ofMover (σ 17 (61 * u + d)) (σ 18 (61 * u + d)) (nI d)) (fX1_ofWaiting (σ 17 (61 * u + d)) (σ 18 (61 * u + d)) (nI d)) (fX1_isSecondToMove (nI d))
        rw [← hD] at hM
        refine x_callSe (va_runS (As := [.ref gr, .int (fX1_ofMover (σ 17 (61 * u + d)) (σ 18 (61 * u + d)) (nI d)), .int (fX1_ofWaiting (σ 17 (61 * u + d)) (σ 18 (61 * u + d)) (nI d)), .int (zI (fX1_isSecondToMove (nI d))), .int a1]) (rest := []) ⟨hx, hb, hml, hown, hts⟩ hM (va_cwS 5 hts gX4_valueByAll_X4_searchAll rfl rfl rfl (by decide +kernel) ⟨Nat.le_of_ble_eq_true rfl, Nat.le_of_ble_eq_true rfl⟩) (x_preS hX hS hW) rfl rfl hl.1 rfl (lv_room (Nat.le_of_ble_eq_true rfl)) dX4_valueByAll_27 ⟨Nat.le_of_ble_eq_true rfl, Nat.le_of_ble_eq_true rfl⟩) ?_
        exact vx_ret (W.widen (k := 2) (n := 12) (Nat.le_of_ble_eq_true rfl) (Nat.le_of_ble_eq_true rfl) (W.iret (v := vX4_searchAll σ nC (σ 12 u) (σ 6 v) 2 (fX1_ofMover (σ 17 (61 * u + d)) (σ 18 (61 * u + d)) (nI d)) (fX1_ofWaiting (σ 17 (61 * u + d)) (σ 18 (61 * u + d)) (nI d)) (fX1_isSecondToMove (nI d))) hx hb hr (fun t ht hw => ⟨⟨_, E, rfl, ⟨(show tX4_valueByAll nG a0 a1 = 0 from by unfold tX4_valueByAll; rw [if_pos ht0, if_pos hk7]), rfl, u, d, v, hau, hu, hvl, hGm, hop, (by rw [hD]; rfl)⟩, (show xW G E t.heap from by rw [ht]; exact hW)⟩, hS.F ht⟩) hS.2.2 dX4_valueByAll_30))
