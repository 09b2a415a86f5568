def gX4_points (σ : xSg) (nG v : Nat) (a0 : Int32) : Nat → Nat → Int32 → Int32
  | 0, _, _ => 0
  | n + 1, k, v4 => if 12 ≤ nI k then v4 else if k < nG then (if σ 11 k = nI v then gX4_points σ nG v a0 n (k + 1) (v4 + fX1_pointsFor (σ 13 k) (σ 14 k) (σ 15 k) a0) else gX4_points σ nG v a0 n (k + 1) v4) else gX4_points σ nG v a0 n (k + 1) v4

def tX4_points (nV : Nat) (a0 a1 : Int32) : Nat := if (tX4_checkPlayer a0) = 0 then (if (tIx (nI nV) a1) = 0 then 0 else tIx (nI nV) a1) else tX4_checkPlayer a0
set_option maxHeartbeats 4000000 in
set_option maxRecDepth 100000 in
theorem kX4_points (l : Launch) (hl9 : l.stackTraces = false) (G : xG) (E : xE) (o : Nat) (a0 : Int32) (a1 : Int32) (ct vt gt : Nat) (tb vb gb : Nat → Option Nat) (sa : Nat → Nat) (nC nV nG : Nat) (σ : xSg) (hCls : xCls G E o ct vt gt tb vb gb sa nC nV nG σ) : vx_Met l yX4_points wsX4_points ({ frames := 7, cells := 2, slots := 12, locals := 112 }) (va_Pc [.ref o, .int a0, .int a1] (xB G E)) (va_Qi (S := xE) (fun r E' => tX4_points nV a0 a1 = 0 ∧ E' = E ∧ ∃ v : Nat, a1 = nI v ∧ v < nV ∧ r = (if fX3_isOut (σ 8 v) (σ 9 v) = true then 0 else gX4_points σ nG v a0 13 0 0)) (fun E' t => xW G E' t.heap) (xA G)) (xX G E (fun n => xEx n (tX4_points nV a0 a1))) 2 12 (xA G) := by
  refine vx_ofW (cc := cX4_points) (maxL := 7) (ret := (some .int)) (by decide) rfl ?_
  intro p e s m args below meth c s₁ B hml hno hv
  obtain ⟨rfl, hX, hW⟩ := hv
  have hx := B.exec
  have hb := B.bytes
  have hr := B.returns
  have hts := atoms_spec (ws := wsX4_points) B.pre
  have hown : s.vm.findClass RX4 = some m.cls := findClass_of_methodNamed B.named
  have hlocks := B.notSynchronized
  have hS : va_S (xA G) s.heap s.heap [] := va_S.rf
  have hiX4 : ∀ w ∈ u_ws RX4 TX4 6, w ∈ wsX4_points := by decide +kernel
  have hf23 := hts (Cond.fieldLink RX4 23 "VariantMill" "games" "[LVariantMill$Game;") (by decide +kernel)
  have hiX1 : ∀ w ∈ u_ws RX1 TX1 9, w ∈ wsX4_points := by decide +kernel
  have hf128 := hts (Cond.fieldLink RX4 128 "VariantMill$Game" "variant" "LVariantMill$Variant;") (by decide +kernel)
  have hl := lv_entry ([.ref o, .int a0, .int a1]) (n := 7) (Nat.le_of_ble_eq_true rfl)
  rw [lg_entry_eq]
  generalize (lg_sl ([.ref o, .int a0, .int a1]) ++ List.replicate (7 - (lg_sl ([.ref o, .int a0, .int a1])).length) Slot.unset).toArray = ls at hl ⊢
  have hl : lv_has ls 7 [(0, .ref o), (1, .int a0), (2, .int a1)] := hl
  obtain ⟨H, hH⟩ : ∃ z, z = s.heap := ⟨_, rfl⟩
  rw [← hH] at hW
  have hS : va_S (xA G) s.heap H [] := by rw [hH]; exact hS
  rw [← hH]
  obtain ⟨hE, h0, h5, h10, hT, hV, hGs⟩ := hCls
  refine lv_iload_n hx hb dX4_points_0 rfl (lv_at hl 1 rfl) ?_
  refine vx_callv (vx_runS (As := [.int a0]) (rest := []) ⟨hx, hb, hml, hown, hts⟩ (kX4_checkPlayer l hl9 G E a0) (va_cwS 1 hts gX4_points_X4_checkPlayer rfl rfl rfl (by decide +kernel) ⟨Nat.le_of_ble_eq_true rfl, Nat.le_of_ble_eq_true rfl⟩) (x_preS hX hS hW) rfl rfl hl.1 rfl (lv_room (Nat.le_of_ble_eq_true rfl)) dX4_points_1 ⟨Nat.le_of_ble_eq_true rfl, Nat.le_of_ble_eq_true rfl⟩) hS (fun _ _ h => h) (fun _ h => h) (fun _ _ h => h) (fun Ex ce q9 ux t H1 locs1 ht hvm hpx hB hz1 hk1 hS1 hce hcv hcl => ?_) (fun E1 t H1 locs1 ht hvm hw hB hz1 hk1 hS1 => ?_)
  · obtain ⟨hpx, hB⟩ := hB
    rw [ht] at hB
    exact vx_widen (k := 2) (n := 12) (Nat.le_of_ble_eq_true rfl) (Nat.le_of_ble_eq_true rfl) (vx_out (fun x hx9 => (hno x hx9).elim) hlocks hce hcv hcl (fun t9 ht9 hv9 => ⟨(), trivial, ⟨(by rw [(show tX4_points nV a0 a1 = tX4_checkPlayer a0 from by unfold tX4_points; rw [if_neg (xEx_ne hpx)])]; exact hpx), by rw [ht9]; exact hB⟩, hS1.F ht9⟩) hS1.2.2 (Nat.le_refl _) (Nat.le_refl _))
  · rw [ht] at hB
    have hS := hS1
    obtain ⟨hk4, hEe⟩ := hw
    rw [hEe] at hB
    have hW : xW G E H1 := hB
    refine lv_aload_n hx hb dX4_points_4 rfl (lv_at hl 0 rfl) ?_
    refine lv_iload_n hx hb dX4_points_5 rfl (lv_at hl 2 rfl) ?_
    refine vx_callr (vx_runV (As := [.int a1]) (rest := []) ⟨hx, hb, hml, hown, hts⟩ (kX4_variantAt l hl9 G E o a1 ct vt gt nC nV nG vb hE hV.1 hV.2.1 hV.2.2.1 hV.some) (cwV 1 hts gX4_points_X4_variantAt rfl rfl rfl (by decide +kernel) ⟨Nat.le_of_ble_eq_true rfl, Nat.le_of_ble_eq_true rfl⟩) (x_preV hX hS hW hE rfl) rfl rfl hl.1 rfl (lv_room (Nat.le_of_ble_eq_true rfl)) dX4_points_6 ⟨Nat.le_of_ble_eq_true rfl, Nat.le_of_ble_eq_true rfl⟩) hS (fun _ _ h => h) (fun _ h => h) (fun _ _ h => h) (fun Ex ce q9 ux t H1 locs1 ht hvm hpx hB hz1 hk1 hS1 hce hcv hcl => ?_) (fun E5 r6 t H1 locs1 ht hvm hw hB hz1 hk1 hS1 => ?_)
    · obtain ⟨hpx, hB⟩ := hB
      rw [ht] at hB
      exact vx_widen (k := 2) (n := 12) (Nat.le_of_ble_eq_true rfl) (Nat.le_of_ble_eq_true rfl) (vx_out (fun x hx9 => (hno x hx9).elim) hlocks hce hcv hcl (fun t9 ht9 hv9 => ⟨(), trivial, ⟨(by rw [(show tX4_points nV a0 a1 = tIx (nI nV) a1 from by unfold tX4_points; rw [if_pos hk4, if_neg (xEx_ne hpx)])]; exact hpx), by rw [ht9]; exact hB⟩, hS1.F ht9⟩) hS1.2.2 (Nat.le_refl _) (Nat.le_refl _))
    · rw [ht] at hB
      have hS := hS1
      obtain ⟨⟨v, hav, hvl, hvb, hEe⟩, hB⟩ := hB
      rw [hEe] at hB
      have hW : xW G E H1 := hB
      obtain ⟨va2, vr, hva, hVa, hVr⟩ := hV.2.2.2.1 v hvl
      obtain rfl : r6 = va2 := Option.some.inj (hvb.symm.trans hva)
      have ht0 : tIx (nI nV) a1 = 0 := by rw [hav]; exact tIx_ok hvl (by have := hV.2.1; omega)
      refine lv_astore_n (lv' := [(3, .ref r6), (0, .ref o), (1, .int a0), (2, .int a1)]) hx hb dX4_points_9 rfl hl (by decide) rfl (fun ls hl => ?_)
      refine lv_aload_n hx hb dX4_points_10 rfl (lv_at hl 0 rfl) ?_
      refine x_callSe (va_runV (As := []) (rest := []) ⟨hx, hb, hml, hown, hts⟩ (kX3_isOut l G _ (σ 8 v) (σ 9 v) r6 vr hVa) (cwV 0 hts gX4_points_X3_isOut rfl rfl rfl (by decide +kernel) ⟨Nat.le_of_ble_eq_true rfl, Nat.le_of_ble_eq_true rfl⟩) (x_preV hX hS hW hVa rfl) rfl rfl hl.1 rfl (lv_room (Nat.le_of_ble_eq_true rfl)) dX4_points_11 ⟨Nat.le_of_ble_eq_true rfl, Nat.le_of_ble_eq_true rfl⟩) ?_
      refine x_ifz_eq (b := fX3_isOut (σ 8 v) (σ 9 v)) (tgt := 19) hx hb dX4_points_14 (by decide) (fun hout => ?_) (fun hout => ?_)
      · refine lv_iconst (v := 0) hx hb dX4_points_19 (by decide) ?_
        refine lv_istore (lv' := [(4, .int 0), (3, .ref r6), (0, .ref o), (1, .int a0), (2, .int a1)]) hx hb dX4_points_20 hl (by decide) rfl (fun ls hl => ?_)
        refine lv_iconst (v := 0) hx hb dX4_points_22 (by decide) ?_
        refine lv_istore (lv' := [(5, .int 0), (4, .int 0), (3, .ref r6), (0, .ref o), (1, .int a0), (2, .int a1)]) hx hb dX4_points_23 hl (by decide) rfl (fun ls hl => ?_)
        refine x_loop (σ := Nat × Nat × Int32) 25 7 (fun x => [(3, .ref r6), (0, .ref o), (1, .int a0), (2, .int a1), (5, .int (nI x.2.1)), (4, .int x.2.2)]) (fun x => gX4_points σ nG v a0 13 0 0 = gX4_points σ nG v a0 x.1 x.2.1 x.2.2 ∧ x.2.1 ≤ 12 ∧ x.1 + x.2.1 = 13) (fun x => x.1) ?_ (13, 0, 0) ls ⟨rfl, by dsimp only <;> omega, by dsimp only <;> omega⟩ (lv_sub hl [2, 3, 4, 5, 0, 1] rfl)
        rintro ⟨n, k, v4⟩ ls ⟨hv, hk, hn⟩ hl ih
        dsimp only at hv hk hn
        rcases n with _ | n
        · omega
        · have hl : lv_has ls 7 [(3, .ref r6), (0, .ref o), (1, .int a0), (2, .int a1), (5, .int (nI k)), (4, .int v4)] := hl
          refine lv_iload hx hb dX4_points_25 (lv_at hl 4 rfl) ?_
          refine lv_aload_n hx hb dX4_points_27 rfl (lv_at hl 1 rfl) ?_
          refine va_get (D := G.1) (ci := 4) (v := .ref gt) (C := RX4) (T := TX4) (N := 6) hx hb hts hiX4 hown hX.1 (x1 hW hE) 0 rfl rfl 2 (by decide) hf23 (fun _ h9 => h9) rfl dX4_points_28 ?_
          refine va_alen (D := G.1) hx hb hX.1 (x1 hW hGs.1) 0 4 rfl rfl (v := 12) rfl dX4_points_31 ?_
          refine lv_icmp_ge (tgt := 75) hx hb dX4_points_32 (by decide) (fun c_8 => ?_) (fun c_8 => ?_)
          · refine lv_iload hx hb dX4_points_75 (lv_at hl 5 rfl) ?_
            exact vx_ret (W.widen (k := 2) (n := 12) (Nat.le_of_ble_eq_true rfl) (Nat.le_of_ble_eq_true rfl) (W.iret (v := v4) hx hb hr (fun t ht hw => ⟨⟨_, E, rfl, ⟨(show tX4_points nV a0 a1 = 0 from by unfold tX4_points; rw [if_pos hk4, if_pos ht0]), rfl, v, hav, hvl, (by rw [if_neg (Bool.eq_false_iff.mp hout), hv, gX4_points]; rw [if_pos c_8])⟩, (show xW G E t.heap from by rw [ht]; exact hW)⟩, hS.F ht⟩) hS.2.2 dX4_points_77))
          · have hk1 : k < 12 := x_nge (B := 12) c_8 (by omega)
            refine lv_aload_n hx hb dX4_points_35 rfl (lv_at hl 1 rfl) ?_
            refine va_get (D := G.1) (ci := 4) (v := .ref gt) (C := RX4) (T := TX4) (N := 6) hx hb hts hiX4 hown hX.1 (x1 hW hE) 0 rfl rfl 2 (by decide) hf23 (fun _ h9 => h9) rfl dX4_points_36 ?_
            refine lv_iload hx hb dX4_points_39 (lv_at hl 4 rfl) ?_
            rcases Nat.lt_or_ge k nG with c_9 | c_9
            · obtain ⟨gk, hgk, vk, grk, v2, dk, sqk, hGk, -, -, hk11, hv2, hvbk, -⟩ := hGs.2.2.2.1 k c_9
              refine x_qldS (t0 := 4) (k := k) (v := gk) hx hb hX.1 hW hGs.1 rfl (vp_in_nI hk1 (by omega)) (nI_clamp (by omega)) hgk dX4_points_41 ?_
              refine lv_astore (lv' := [(6, .ref gk), (3, .ref r6), (0, .ref o), (1, .int a0), (2, .int a1), (5, .int (nI k)), (4, .int v4)]) hx hb dX4_points_42 hl (by decide) rfl (fun ls hl => ?_)
              refine lv_aload hx hb dX4_points_44 (lv_at hl 0 rfl) ?_
              refine lv_ifnull hx hb dX4_points_46 ?_
              refine lv_aload hx hb dX4_points_49 (lv_at hl 0 rfl) ?_
              refine va_get (D := G.1) (ci := 1) (v := .ref vk) (C := RX1) (T := TX1) (N := 9) hx hb hts hiX1 hown hX.1 (x1 hW hGk) 0 rfl rfl 0 (by decide) hf128 (fun _ h9 => h9) rfl dX4_points_51 ?_
              refine lv_aload_n hx hb dX4_points_54 rfl (lv_at hl 1 rfl) ?_
              refine lv_acmp_ne (rx := some vk) (ry := some r6) (tgt := 69) hx hb dX4_points_55 (by decide) (fun c_10 => ?_) (fun c_10 => ?_)
              · have hne : ¬ σ 11 k = nI v := fun z => by rw [hk11] at z; have z2 := (nI_eq (by have := hV.2.1; omega) (by have := hV.2.1; omega)).mp z; rw [z2, hvb] at hvbk; exact c_10 hvbk.symm
                refine lv_iinc (v := nI (k + 1)) (lv' := [(5, .int (nI (k + 1))), (6, .ref gk), (3, .ref r6), (0, .ref o), (1, .int a0), (2, .int a1), (4, .int v4)]) hx hb dX4_points_69 hl (k := 5) rfl (nI_1 _) (by decide) rfl (fun ls hl => ?_)
                refine lv_goto (tgt := 25) hx hb dX4_points_72 (by decide) ?_
                exact ih (n, k + 1, v4) ls (Nat.lt_succ_self _) ⟨by rw [hv, gX4_points]; rw [if_neg c_8, if_pos c_9, if_neg hne], by dsimp only <;> omega, by dsimp only <;> omega⟩ (lv_sub hl [2, 3, 4, 5, 0, 6] rfl)
              · have heq : σ 11 k = nI v := by rw [hk11, hV.2.2.2.2 v2 v r6 (by rw [hvbk]; exact c_10) hvb]
                refine lv_iload hx hb dX4_points_58 (lv_at hl 6 rfl) ?_
                refine lv_aload hx hb dX4_points_60 (lv_at hl 0 rfl) ?_
                refine lv_iload_n hx hb dX4_points_62 rfl (lv_at hl 3 rfl) ?_
                refine x_callSe (va_runV (As := [.int a0]) (rest := [.int v4]) ⟨hx, hb, hml, hown, hts⟩ (kX1_pointsFor l G _ (σ 13 k) (σ 14 k) (σ 15 k) gk a0 vk grk (sa k) (σ 17 (61 * k + dk)) (σ 18 (61 * k + dk)) (nI dk) hGk) (cwV 1 hts gX4_points_X1_pointsFor rfl rfl rfl (by decide +kernel) ⟨Nat.le_of_ble_eq_true rfl, Nat.le_of_ble_eq_true rfl⟩) (x_preV hX hS hW hGk rfl) rfl rfl hl.1 rfl (lv_room (Nat.le_of_ble_eq_true rfl)) dX4_points_63 ⟨Nat.le_of_ble_eq_true rfl, Nat.le_of_ble_eq_true rfl⟩) ?_
                refine lv_iadd hx hb dX4_points_66 ?_
                refine lv_istore (lv' := [(4, .int (v4 + (fX1_pointsFor (σ 13 k) (σ 14 k) (σ 15 k) a0))), (6, .ref gk), (3, .ref r6), (0, .ref o), (1, .int a0), (2, .int a1), (5, .int (nI k))]) hx hb dX4_points_67 hl (by decide) rfl (fun ls hl => ?_)
                refine lv_iinc (v := nI (k + 1)) (lv' := [(5, .int (nI (k + 1))), (4, .int (v4 + (fX1_pointsFor (σ 13 k) (σ 14 k) (σ 15 k) a0))), (6, .ref gk), (3, .ref r6), (0, .ref o), (1, .int a0), (2, .int a1)]) hx hb dX4_points_69 hl (k := 6) rfl (nI_1 _) (by decide) rfl (fun ls hl => ?_)
                refine lv_goto (tgt := 25) hx hb dX4_points_72 (by decide) ?_
                exact ih (n, k + 1, v4 + (fX1_pointsFor (σ 13 k) (σ 14 k) (σ 15 k) a0)) ls (Nat.lt_succ_self _) ⟨by rw [hv, gX4_points]; rw [if_neg c_8, if_pos c_9, if_pos heq], by dsimp only <;> omega, by dsimp only <;> omega⟩ (lv_sub hl [3, 4, 5, 6, 0, 1] rfl)
            · refine x_qldN (t0 := 4) (k := k) hx hb hX.1 hW hGs.1 rfl (vp_in_nI hk1 (by omega)) (nI_clamp (by omega)) (hGs.2.2.1 k c_9) dX4_points_41 ?_
              refine lv_astoreN (lv' := [(6, .null), (3, .ref r6), (0, .ref o), (1, .int a0), (2, .int a1), (5, .int (nI k)), (4, .int v4)]) hx hb dX4_points_42 hl (by decide) rfl (fun ls hl => ?_)
              refine lv_aloadN hx hb dX4_points_44 (lv_at hl 0 rfl) ?_
              refine lv_ifnullN (tgt := 69) hx hb dX4_points_46 (by decide) ?_
              refine lv_iinc (v := nI (k + 1)) (lv' := [(5, .int (nI (k + 1))), (6, .null), (3, .ref r6), (0, .ref o), (1, .int a0), (2, .int a1), (4, .int v4)]) hx hb dX4_points_69 hl (k := 5) rfl (nI_1 _) (by decide) rfl (fun ls hl => ?_)
              refine lv_goto (tgt := 25) hx hb dX4_points_72 (by decide) ?_
              exact ih (n, k + 1, v4) ls (Nat.lt_succ_self _) ⟨by rw [hv, gX4_points]; rw [if_neg c_8, if_neg (Nat.not_lt.mpr c_9)], by dsimp only <;> omega, by dsimp only <;> omega⟩ (lv_sub hl [2, 3, 4, 5, 0, 6] rfl)
      · refine lv_iconst (v := 0) hx hb dX4_points_17 (by decide) ?_
        exact vx_ret (W.widen (k := 2) (n := 12) (Nat.le_of_ble_eq_true rfl) (Nat.le_of_ble_eq_true rfl) (W.iret (v := 0) hx hb hr (fun t ht hw => ⟨⟨_, E, rfl, ⟨(show tX4_points nV a0 a1 = 0 from by unfold tX4_points; rw [if_pos hk4, if_pos ht0]), rfl, v, hav, hvl, (by rw [if_pos hout])⟩, (show xW G E t.heap from by rw [ht]; exact hW)⟩, hS.F ht⟩) hS.2.2 dX4_points_18))
