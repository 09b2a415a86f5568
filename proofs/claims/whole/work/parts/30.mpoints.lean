def gX5_points (σ : xSg) (v : Nat) (a0 : Int32) : Nat → Nat → Int32 → Int32
  | 0, _, _ => 0
  | n + 1, k, v3 => if (σ 10 0) ≤ nI k then v3 else (gX5_points σ v a0 n (k + 1) (v3 + (if (σ 11 k) = (nI v) then (if (if (σ 15 k) = 1 then (if (σ 13 k) = a0 then (true) else (if (σ 15 k) = 2 then (if (σ 14 k) = a0 then (true) else (false)) else (false))) else (if (σ 15 k) = 2 then (if (σ 14 k) = a0 then (true) else (false)) else (false))) = true then ((3 : Int32)) else (if (if (σ 15 k) = 3 then (if (σ 13 k) = a0 then (true) else (if (σ 14 k) = a0 then (true) else (false))) else (false)) = true then ((1 : Int32)) else ((0 : Int32)))) else ((0 : Int32)))))

def mX5_points (σ : xSg) (nG v : Nat) (a0 a1 : Int32) : Int32 × Nat := if (if (fX5_isPlayer a0) = true then (if (fX5_isVariant (σ) a1) = true then (true) else (false)) else (false)) = true then (if (fX5_isBannedNow (σ) v) = true then (((0 : Int32), 0)) else ((gX5_points σ v a0 (nG + 1) 0 0, 0))) else (((0 : Int32), 1))
set_option maxHeartbeats 4000000 in
set_option maxRecDepth 100000 in
theorem kX5_points (l : Launch) (G : xG) (E : xE) (σ : xSg) (o : Nat) (a0 a1 : Int32) (A : Nat → Nat) (hM : xMod G E o A σ) (hA : xAi A) (nC nV nG : Nat) (hI : xMi σ nC nV nG) : Met l yX5_points wsX5_points ({ frames := 1, cells := 0, slots := 0, locals := 23 }) (va_Pc [.ref o, .int a0, .int a1] (xB G E)) (va_Qi (S := xE) (fun r E' => ∃ q : Int32 × Nat, mX5_points σ nG (a1.toNatClampNeg) a0 a1 = q ∧ r = q.1 ∧ xMd G E' o σ q.2 ∧ xFr tM E E') (fun E' t => xW G E' t.heap) (xA G)) 0 0 (xA G) := by
  refine Met.ofW (cc := cX5_points) (maxL := 7) (ret := (some .int)) (by decide) rfl ?_
  intro p e s m args below meth c s₁ B hml hv
  obtain ⟨rfl, hX, hW⟩ := hv
  have hx := B.exec
  have hb := B.bytes
  have hr := B.returns
  have hts := atoms_spec (ws := wsX5_points) B.pre
  have hown : s.vm.findClass RX5 = some m.cls := findClass_of_methodNamed B.named
  have hlocks := B.notSynchronized
  have hS : va_S (xA G) s.heap s.heap [] := va_S.rf
  have hiX5 : ∀ w ∈ u_ws RX5 TX5 20, w ∈ wsX5_points := by decide +kernel
  have hf65 := hts (Cond.fieldLink RX5 65 "VariantMillModel" "games" "I") (by decide +kernel)
  have hf46 := hts (Cond.fieldLink RX5 46 "VariantMillModel" "state" "[I") (by decide +kernel)
  have hf43 := hts (Cond.fieldLink RX5 43 "VariantMillModel" "second" "[I") (by decide +kernel)
  have hf40 := hts (Cond.fieldLink RX5 40 "VariantMillModel" "first" "[I") (by decide +kernel)
  have hf34 := hts (Cond.fieldLink RX5 34 "VariantMillModel" "variant" "[I") (by decide +kernel)
  have hl := lv_entry ([.ref o, .int a0, .int a1]) (n := 7) (Nat.le_of_ble_eq_true rfl)
  rw [lg_entry_eq]
  generalize (lg_sl ([.ref o, .int a0, .int a1]) ++ List.replicate (7 - (lg_sl ([.ref o, .int a0, .int a1])).length) Slot.unset).toArray = ls at hl ⊢
  have hl : lv_has ls 7 [(0, .ref o), (1, .int a0), (2, .int a1)] := hl
  obtain ⟨H, hH⟩ : ∃ z, z = s.heap := ⟨_, rfl⟩
  rw [← hH] at hW
  have hS : va_S (xA G) s.heap H [] := by rw [hH]; exact hS
  rw [← hH]
  have hFr : xFr tM E E := xFr_rf
  refine lv_aload_n hx hb dX5_points_0 rfl (lv_at hl 0 rfl) ?_
  refine lv_iload_n hx hb dX5_points_1 rfl (lv_at hl 1 rfl) ?_
  refine x_callSe (va_runS (As := [.int a0]) (rest := [.ref o]) ⟨hx, hb, hml, hown, hts⟩ (kX5_isPlayer l a0) (va_cwS 1 hts gX5_points_X5_isPlayer rfl rfl rfl (by decide +kernel) ⟨Nat.le_of_ble_eq_true rfl, Nat.le_of_ble_eq_true rfl⟩) x_preT rfl rfl hl.1 rfl (lv_room (Nat.le_of_ble_eq_true rfl)) dX5_points_2 ⟨Nat.le_of_ble_eq_true rfl, Nat.le_of_ble_eq_true rfl⟩) ?_
  refine x_join (ls' := ls) (rest' := [.ref o]) 21 (zI (if (fX5_isPlayer a0) = true then (if (fX5_isVariant (σ) a1) = true then (true) else (false)) else (false))) (fun v ev => ?_) (fun J => ?_)
  · subst ev
    refine va_calli (va_runV (As := [.int (zI (if (fX5_isPlayer a0) = true then (if (fX5_isVariant (σ) a1) = true then (true) else (false)) else (false)))]) (rest := []) ⟨hx, hb, hml, hown, hts⟩ (kX5_asks l G _ (σ) o (if (fX5_isPlayer a0) = true then (if (fX5_isVariant (σ) a1) = true then (true) else (false)) else (false)) A hM hA) (cwV 1 hts gX5_points_X5_asks rfl rfl rfl (by decide +kernel) ⟨Nat.le_of_ble_eq_true rfl, Nat.le_of_ble_eq_true rfl⟩) (x_preV hX hS hW hM.1 rfl) rfl rfl hl.1 rfl (lv_room (Nat.le_of_ble_eq_true rfl)) dX5_points_21 ⟨Nat.le_of_ble_eq_true rfl, Nat.le_of_ble_eq_true rfl⟩) hS (fun _ _ h => h) (fun _ h => h) (fun r4 E3 t H1 locs1 ht hvm hw hB hz1 hk1 hS1 => ?_)
    rw [ht] at hB
    have hS := hS1
    obtain ⟨hrA5, ⟨A5, hMA5, hAA5, htA5⟩, hFrA5⟩ := hw
    have hFr := hFr.trans hFrA5
    have hW : xW G E3 H1 := hB
    subst hrA5
    refine x_ifz_ne (b := (if (fX5_isPlayer a0) = true then (if (fX5_isVariant (σ) a1) = true then (true) else (false)) else (false))) (tgt := 29) hx hb dX5_points_24 (by decide) (fun c_6 => ?_) (fun c_6 => ?_)
    · have hzA5 := htA5.trans (if_pos c_6)
      obtain ⟨v, hav, hv⟩ := x_mV hI (x_if1 (x_if2 c_6))
      subst hav
      have hC := hI.1
      have hu4 : v < 4 := by have := hI.2.2.1; omega
      have hVv : (nI v).toNatClampNeg = v := nI_clamp (by omega)
      refine lv_iconst (v := 0) hx hb dX5_points_29 (by decide) ?_
      refine lv_istore_n (lv' := [(3, .int 0), (0, .ref o), (1, .int a0), (2, .int (nI v))]) hx hb dX5_points_30 rfl hl (by decide) rfl (fun ls hl => ?_)
      refine lv_iconst (v := 0) hx hb dX5_points_31 (by decide) ?_
      refine lv_istore (lv' := [(4, .int 0), (3, .int 0), (0, .ref o), (1, .int a0), (2, .int (nI v))]) hx hb dX5_points_32 hl (by decide) rfl (fun ls hl => ?_)
      have hb12 := hI.2.2.2.2.1
      refine x_loop (σ := Nat × Nat × Int32) 34 7 (fun x => [(0, .ref o), (1, .int a0), (2, .int (nI v)), (4, .int (nI x.2.1)), (3, .int x.2.2)]) (fun x => gX5_points σ v a0 (nG + 1) 0 0 = gX5_points σ v a0 x.1 x.2.1 x.2.2 ∧ x.2.1 ≤ nG ∧ x.1 + x.2.1 = nG + 1) (fun x => x.1) ?_ (nG + 1, 0, 0) ls ⟨rfl, by dsimp only <;> omega, by dsimp only <;> omega⟩ (lv_sub hl [2, 3, 4, 0, 1] rfl)
      rintro ⟨n, k, v3⟩ ls ⟨hv9, hk, hn⟩ hl ih
      dsimp only at hv9 hk hn
      rcases n with _ | n
      · omega
      · have hl : lv_has ls 7 [(0, .ref o), (1, .int a0), (2, .int (nI v)), (4, .int (nI k)), (3, .int v3)] := hl
        refine lv_iload hx hb dX5_points_34 (lv_at hl 3 rfl) ?_
        refine lv_aload_n hx hb dX5_points_36 rfl (lv_at hl 0 rfl) ?_
        refine va_get (D := G.1) (ci := 5) (v := .int (σ 10 0)) (C := RX5) (T := TX5) (N := 20) hx hb hts hiX5 hown hX.1 (x1 hW hMA5.1) 0 rfl rfl 10 (by decide) hf65 (fun _ h9 => h9) rfl dX5_points_37 ?_
        refine lv_icmp_ge (tgt := 177) hx hb dX5_points_40 (by decide) (fun c_7 => ?_) (fun c_7 => ?_)
        · have hv8 : gX5_points σ v a0 (nG + 1) 0 0 = v3 := by rw [hv9, gX5_points]; rw [if_pos c_7]
          refine lv_aload_n hx hb dX5_points_177 rfl (lv_at hl 0 rfl) ?_
          refine lv_iload_n hx hb dX5_points_178 rfl (lv_at hl 2 rfl) ?_
          refine x_callSe (va_runV (As := [.int (nI v)]) (rest := []) ⟨hx, hb, hml, hown, hts⟩ (kX5_isBannedNow l G _ (σ) o v A5 hMA5 hu4) (cwV 1 hts gX5_points_X5_isBannedNow rfl rfl rfl (by decide +kernel) ⟨Nat.le_of_ble_eq_true rfl, Nat.le_of_ble_eq_true rfl⟩) (x_preV hX hS hW hMA5.1 rfl) rfl rfl hl.1 rfl (lv_room (Nat.le_of_ble_eq_true rfl)) dX5_points_179 ⟨Nat.le_of_ble_eq_true rfl, Nat.le_of_ble_eq_true rfl⟩) ?_
          refine x_ifz_eq (b := fX5_isBannedNow (σ) v) (tgt := 189) hx hb dX5_points_182 (by decide) (fun c_8 => ?_) (fun c_8 => ?_)
          · refine lv_iload_n hx hb dX5_points_189 rfl (lv_at hl 4 rfl) ?_
            exact W.widen (k := 0) (n := 0) (Nat.le_of_ble_eq_true rfl) (Nat.le_of_ble_eq_true rfl) (W.iret (v := v3) hx hb hr (fun t ht hw => ⟨⟨_, E3, rfl, ⟨(v3, 0), (show _ = ((v3, 0) : Int32 × Nat) from by rw [hVv]; unfold mX5_points; rw [if_pos c_6, if_neg (Bool.eq_false_iff.mp c_8)]; rw [hv8]), rfl, (show xMd G E3 o σ 0 from ⟨A5, hMA5, hAA5, hzA5⟩), hFr⟩, (show xW G E3 t.heap from by rw [ht]; exact hW)⟩, hS.F ht⟩) hS.2.2 dX5_points_190)
          · refine lv_iconst (v := 0) hx hb dX5_points_185 (by decide) ?_
            refine lv_goto (tgt := 190) hx hb dX5_points_186 (by decide) ?_
            exact W.widen (k := 0) (n := 0) (Nat.le_of_ble_eq_true rfl) (Nat.le_of_ble_eq_true rfl) (W.iret (v := 0) hx hb hr (fun t ht hw => ⟨⟨_, E3, rfl, ⟨((0 : Int32), 0), (show _ = (((0 : Int32), 0) : Int32 × Nat) from by rw [hVv]; unfold mX5_points; rw [if_pos c_6, if_pos c_8]), rfl, (show xMd G E3 o σ 0 from ⟨A5, hMA5, hAA5, hzA5⟩), hFr⟩, (show xW G E3 t.heap from by rw [ht]; exact hW)⟩, hS.F ht⟩) hS.2.2 dX5_points_190)
        · have hk1 : k < nG := x_nge (B := nG) (by rw [← hI.2.2.2.1]; exact c_7) (by omega)
          refine lv_aload_n hx hb dX5_points_43 rfl (lv_at hl 0 rfl) ?_
          refine va_get (D := G.1) (ci := 5) (v := .ref (A5 15)) (C := RX5) (T := TX5) (N := 20) hx hb hts hiX5 hown hX.1 (x1 hW hMA5.1) 0 rfl rfl 15 (by decide) hf46 (fun _ h9 => h9) rfl dX5_points_44 ?_
          refine lv_iload hx hb dX5_points_47 (lv_at hl 3 rfl) ?_
          refine x_ild (k := k) hx hb hX.1 hW hMA5.2.2.2.2.2.2.2.2.2.2.2.2.2.1 (vp_in_nI (show k < 12 by omega) (by omega)) (nI_clamp (by omega)) dX5_points_49 ?_
          refine lv_iconst (v := 1) hx hb dX5_points_50 (by decide) ?_
          refine x_join (ls' := ls) (rest' := []) 92 (zI (if (σ 15 k) = 1 then (if (σ 13 k) = a0 then (true) else (if (σ 15 k) = 2 then (if (σ 14 k) = a0 then (true) else (false)) else (false))) else (if (σ 15 k) = 2 then (if (σ 14 k) = a0 then (true) else (false)) else (false)))) (fun v ev => ?_) (fun J => ?_)
          · subst ev
            refine lv_istore (lv' := [(5, .int (zI (if (σ 15 k) = 1 then (if (σ 13 k) = a0 then (true) else (if (σ 15 k) = 2 then (if (σ 14 k) = a0 then (true) else (false)) else (false))) else (if (σ 15 k) = 2 then (if (σ 14 k) = a0 then (true) else (false)) else (false))))), (0, .ref o), (1, .int a0), (2, .int (nI v)), (4, .int (nI k)), (3, .int v3)]) hx hb dX5_points_92 hl (by decide) rfl (fun ls hl => ?_)
            refine lv_aload_n hx hb dX5_points_94 rfl (lv_at hl 1 rfl) ?_
            refine va_get (D := G.1) (ci := 5) (v := .ref (A5 15)) (C := RX5) (T := TX5) (N := 20) hx hb hts hiX5 hown hX.1 (x1 hW hMA5.1) 0 rfl rfl 15 (by decide) hf46 (fun _ h9 => h9) rfl dX5_points_95 ?_
            refine lv_iload hx hb dX5_points_98 (lv_at hl 4 rfl) ?_
            refine x_ild (k := k) hx hb hX.1 hW hMA5.2.2.2.2.2.2.2.2.2.2.2.2.2.1 (vp_in_nI (show k < 12 by omega) (by omega)) (nI_clamp (by omega)) dX5_points_100 ?_
            refine lv_iconst (v := 3) hx hb dX5_points_101 (by decide) ?_
            refine x_join (ls' := ls) (rest' := []) 132 (zI (if (σ 15 k) = 3 then (if (σ 13 k) = a0 then (true) else (if (σ 14 k) = a0 then (true) else (false))) else (false))) (fun v ev => ?_) (fun J => ?_)
            · subst ev
              refine lv_istore (lv' := [(6, .int (zI (if (σ 15 k) = 3 then (if (σ 13 k) = a0 then (true) else (if (σ 14 k) = a0 then (true) else (false))) else (false)))), (5, .int (zI (if (σ 15 k) = 1 then (if (σ 13 k) = a0 then (true) else (if (σ 15 k) = 2 then (if (σ 14 k) = a0 then (true) else (false)) else (false))) else (if (σ 15 k) = 2 then (if (σ 14 k) = a0 then (true) else (false)) else (false))))), (0, .ref o), (1, .int a0), (2, .int (nI v)), (4, .int (nI k)), (3, .int v3)]) hx hb dX5_points_132 hl (by decide) rfl (fun ls hl => ?_)
              refine lv_iload_n hx hb dX5_points_134 rfl (lv_at hl 6 rfl) ?_
              refine lv_aload_n hx hb dX5_points_135 rfl (lv_at hl 2 rfl) ?_
              refine va_get (D := G.1) (ci := 5) (v := .ref (A5 11)) (C := RX5) (T := TX5) (N := 20) hx hb hts hiX5 hown hX.1 (x1 hW hMA5.1) 0 rfl rfl 11 (by decide) hf34 (fun _ h9 => h9) rfl dX5_points_136 ?_
              refine lv_iload hx hb dX5_points_139 (lv_at hl 5 rfl) ?_
              refine x_ild (k := k) hx hb hX.1 hW hMA5.2.2.2.2.2.2.2.2.2.1 (vp_in_nI (show k < 12 by omega) (by omega)) (nI_clamp (by omega)) dX5_points_141 ?_
              refine lv_iload_n hx hb dX5_points_142 rfl (lv_at hl 4 rfl) ?_
              refine x_join (ls' := ls) (rest' := [.int v3]) 169 ((if (σ 11 k) = (nI v) then (if (if (σ 15 k) = 1 then (if (σ 13 k) = a0 then (true) else (if (σ 15 k) = 2 then (if (σ 14 k) = a0 then (true) else (false)) else (false))) else (if (σ 15 k) = 2 then (if (σ 14 k) = a0 then (true) else (false)) else (false))) = true then ((3 : Int32)) else (if (if (σ 15 k) = 3 then (if (σ 13 k) = a0 then (true) else (if (σ 14 k) = a0 then (true) else (false))) else (false)) = true then ((1 : Int32)) else ((0 : Int32)))) else ((0 : Int32)))) (fun v ev => ?_) (fun J => ?_)
              · subst ev
                refine lv_iadd hx hb dX5_points_169 ?_
                refine lv_istore_n (lv' := [(3, .int (v3 + (if (σ 11 k) = (nI v) then (if (if (σ 15 k) = 1 then (if (σ 13 k) = a0 then (true) else (if (σ 15 k) = 2 then (if (σ 14 k) = a0 then (true) else (false)) else (false))) else (if (σ 15 k) = 2 then (if (σ 14 k) = a0 then (true) else (false)) else (false))) = true then ((3 : Int32)) else (if (if (σ 15 k) = 3 then (if (σ 13 k) = a0 then (true) else (if (σ 14 k) = a0 then (true) else (false))) else (false)) = true then ((1 : Int32)) else ((0 : Int32)))) else ((0 : Int32))))), (6, .int (zI (if (σ 15 k) = 3 then (if (σ 13 k) = a0 then (true) else (if (σ 14 k) = a0 then (true) else (false))) else (false)))), (5, .int (zI (if (σ 15 k) = 1 then (if (σ 13 k) = a0 then (true) else (if (σ 15 k) = 2 then (if (σ 14 k) = a0 then (true) else (false)) else (false))) else (if (σ 15 k) = 2 then (if (σ 14 k) = a0 then (true) else (false)) else (false))))), (0, .ref o), (1, .int a0), (2, .int (nI v)), (4, .int (nI k))]) hx hb dX5_points_170 rfl hl (by decide) rfl (fun ls hl => ?_)
                refine lv_iinc (v := nI (k + 1)) (lv' := [(4, .int (nI (k + 1))), (3, .int (v3 + (if (σ 11 k) = (nI v) then (if (if (σ 15 k) = 1 then (if (σ 13 k) = a0 then (true) else (if (σ 15 k) = 2 then (if (σ 14 k) = a0 then (true) else (false)) else (false))) else (if (σ 15 k) = 2 then (if (σ 14 k) = a0 then (true) else (false)) else (false))) = true then ((3 : Int32)) else (if (if (σ 15 k) = 3 then (if (σ 13 k) = a0 then (true) else (if (σ 14 k) = a0 then (true) else (false))) else (false)) = true then ((1 : Int32)) else ((0 : Int32)))) else ((0 : Int32))))), (6, .int (zI (if (σ 15 k) = 3 then (if (σ 13 k) = a0 then (true) else (if (σ 14 k) = a0 then (true) else (false))) else (false)))), (5, .int (zI (if (σ 15 k) = 1 then (if (σ 13 k) = a0 then (true) else (if (σ 15 k) = 2 then (if (σ 14 k) = a0 then (true) else (false)) else (false))) else (if (σ 15 k) = 2 then (if (σ 14 k) = a0 then (true) else (false)) else (false))))), (0, .ref o), (1, .int a0), (2, .int (nI v))]) hx hb dX5_points_171 hl (k := 6) rfl (nI_1 _) (by decide) rfl (fun ls hl => ?_)
                refine lv_goto (tgt := 34) hx hb dX5_points_174 (by decide) ?_
                exact ih (n, k + 1, v3 + (if (σ 11 k) = (nI v) then (if (if (σ 15 k) = 1 then (if (σ 13 k) = a0 then (true) else (if (σ 15 k) = 2 then (if (σ 14 k) = a0 then (true) else (false)) else (false))) else (if (σ 15 k) = 2 then (if (σ 14 k) = a0 then (true) else (false)) else (false))) = true then ((3 : Int32)) else (if (if (σ 15 k) = 3 then (if (σ 13 k) = a0 then (true) else (if (σ 14 k) = a0 then (true) else (false))) else (false)) = true then ((1 : Int32)) else ((0 : Int32)))) else ((0 : Int32)))) ls (Nat.lt_succ_self _) ⟨by rw [hv9, gX5_points]; rw [if_neg c_7], by dsimp only <;> omega, by dsimp only <;> omega⟩ (lv_sub hl [4, 5, 6, 0, 1] rfl)
              · refine lv_icmp_eq (tgt := 150) hx hb dX5_points_143 (by decide) (fun c_18 => ?_) (fun c_18 => ?_)
                · refine lv_iload hx hb dX5_points_150 (lv_at hl 1 rfl) ?_
                  refine x_ifz_eq (b := (if (σ 15 k) = 1 then (if (σ 13 k) = a0 then (true) else (if (σ 15 k) = 2 then (if (σ 14 k) = a0 then (true) else (false)) else (false))) else (if (σ 15 k) = 2 then (if (σ 14 k) = a0 then (true) else (false)) else (false)))) (tgt := 159) hx hb dX5_points_152 (by decide) (fun c_19 => ?_) (fun c_19 => ?_)
                  · refine lv_iload hx hb dX5_points_159 (lv_at hl 0 rfl) ?_
                    refine x_ifz_eq (b := (if (σ 15 k) = 3 then (if (σ 13 k) = a0 then (true) else (if (σ 14 k) = a0 then (true) else (false))) else (false))) (tgt := 168) hx hb dX5_points_161 (by decide) (fun c_20 => ?_) (fun c_20 => ?_)
                    · refine lv_iconst (v := 0) hx hb dX5_points_168 (by decide) ?_
                      exact J _ (show (0 : Int32) = if (σ 11 k) = (nI v) then (if (if (σ 15 k) = 1 then (if (σ 13 k) = a0 then (true) else (if (σ 15 k) = 2 then (if (σ 14 k) = a0 then (true) else (false)) else (false))) else (if (σ 15 k) = 2 then (if (σ 14 k) = a0 then (true) else (false)) else (false))) = true then ((3 : Int32)) else (if (if (σ 15 k) = 3 then (if (σ 13 k) = a0 then (true) else (if (σ 14 k) = a0 then (true) else (false))) else (false)) = true then ((1 : Int32)) else ((0 : Int32)))) else ((0 : Int32)) from by rw [if_pos c_18, if_neg (Bool.eq_false_iff.mp c_19), if_neg (Bool.eq_false_iff.mp c_20)])
                    · refine lv_iconst (v := 1) hx hb dX5_points_164 (by decide) ?_
                      refine lv_goto (tgt := 169) hx hb dX5_points_165 (by decide) ?_
                      exact J _ (show (1 : Int32) = if (σ 11 k) = (nI v) then (if (if (σ 15 k) = 1 then (if (σ 13 k) = a0 then (true) else (if (σ 15 k) = 2 then (if (σ 14 k) = a0 then (true) else (false)) else (false))) else (if (σ 15 k) = 2 then (if (σ 14 k) = a0 then (true) else (false)) else (false))) = true then ((3 : Int32)) else (if (if (σ 15 k) = 3 then (if (σ 13 k) = a0 then (true) else (if (σ 14 k) = a0 then (true) else (false))) else (false)) = true then ((1 : Int32)) else ((0 : Int32)))) else ((0 : Int32)) from by rw [if_pos c_18, if_neg (Bool.eq_false_iff.mp c_19), if_pos c_20])
                  · refine lv_iconst (v := 3) hx hb dX5_points_155 (by decide) ?_
                    refine lv_goto (tgt := 169) hx hb dX5_points_156 (by decide) ?_
                    exact J _ (show (3 : Int32) = if (σ 11 k) = (nI v) then (if (if (σ 15 k) = 1 then (if (σ 13 k) = a0 then (true) else (if (σ 15 k) = 2 then (if (σ 14 k) = a0 then (true) else (false)) else (false))) else (if (σ 15 k) = 2 then (if (σ 14 k) = a0 then (true) else (false)) else (false))) = true then ((3 : Int32)) else (if (if (σ 15 k) = 3 then (if (σ 13 k) = a0 then (true) else (if (σ 14 k) = a0 then (true) else (false))) else (false)) = true then ((1 : Int32)) else ((0 : Int32)))) else ((0 : Int32)) from by rw [if_pos c_18, if_pos c_19])
                · refine lv_iconst (v := 0) hx hb dX5_points_146 (by decide) ?_
                  refine lv_goto (tgt := 169) hx hb dX5_points_147 (by decide) ?_
                  exact J _ (show (0 : Int32) = if (σ 11 k) = (nI v) then (if (if (σ 15 k) = 1 then (if (σ 13 k) = a0 then (true) else (if (σ 15 k) = 2 then (if (σ 14 k) = a0 then (true) else (false)) else (false))) else (if (σ 15 k) = 2 then (if (σ 14 k) = a0 then (true) else (false)) else (false))) = true then ((3 : Int32)) else (if (if (σ 15 k) = 3 then (if (σ 13 k) = a0 then (true) else (if (σ 14 k) = a0 then (true) else (false))) else (false)) = true then ((1 : Int32)) else ((0 : Int32)))) else ((0 : Int32)) from by rw [if_neg c_18])
            · refine lv_icmp_ne (tgt := 131) hx hb dX5_points_102 (by decide) (fun c_15 => ?_) (fun c_15 => ?_)
              · refine lv_iconst (v := 0) hx hb dX5_points_131 (by decide) ?_
                exact J _ (congrArg zI (show false = if (σ 15 k) = 3 then (if (σ 13 k) = a0 then (true) else (if (σ 14 k) = a0 then (true) else (false))) else (false) from by rw [if_neg c_15]))
              · refine lv_aload_n hx hb dX5_points_105 rfl (lv_at hl 1 rfl) ?_
                refine va_get (D := G.1) (ci := 5) (v := .ref (A5 13)) (C := RX5) (T := TX5) (N := 20) hx hb hts hiX5 hown hX.1 (x1 hW hMA5.1) 0 rfl rfl 13 (by decide) hf40 (fun _ h9 => h9) rfl dX5_points_106 ?_
                refine lv_iload hx hb dX5_points_109 (lv_at hl 4 rfl) ?_
                refine x_ild (k := k) hx hb hX.1 hW hMA5.2.2.2.2.2.2.2.2.2.2.2.1 (vp_in_nI (show k < 12 by omega) (by omega)) (nI_clamp (by omega)) dX5_points_111 ?_
                refine lv_iload_n hx hb dX5_points_112 rfl (lv_at hl 2 rfl) ?_
                refine lv_icmp_eq (tgt := 127) hx hb dX5_points_113 (by decide) (fun c_16 => ?_) (fun c_16 => ?_)
                · refine lv_iconst (v := 1) hx hb dX5_points_127 (by decide) ?_
                  refine lv_goto (tgt := 132) hx hb dX5_points_128 (by decide) ?_
                  exact J _ (congrArg zI (show true = if (σ 15 k) = 3 then (if (σ 13 k) = a0 then (true) else (if (σ 14 k) = a0 then (true) else (false))) else (false) from by rw [if_pos c_15, if_pos c_16]))
                · refine lv_aload_n hx hb dX5_points_116 rfl (lv_at hl 1 rfl) ?_
                  refine va_get (D := G.1) (ci := 5) (v := .ref (A5 14)) (C := RX5) (T := TX5) (N := 20) hx hb hts hiX5 hown hX.1 (x1 hW hMA5.1) 0 rfl rfl 14 (by decide) hf43 (fun _ h9 => h9) rfl dX5_points_117 ?_
                  refine lv_iload hx hb dX5_points_120 (lv_at hl 4 rfl) ?_
                  refine x_ild (k := k) hx hb hX.1 hW hMA5.2.2.2.2.2.2.2.2.2.2.2.2.1 (vp_in_nI (show k < 12 by omega) (by omega)) (nI_clamp (by omega)) dX5_points_122 ?_
                  refine lv_iload_n hx hb dX5_points_123 rfl (lv_at hl 2 rfl) ?_
                  refine lv_icmp_ne (tgt := 131) hx hb dX5_points_124 (by decide) (fun c_17 => ?_) (fun c_17 => ?_)
                  · refine lv_iconst (v := 0) hx hb dX5_points_131 (by decide) ?_
                    exact J _ (congrArg zI (show false = if (σ 15 k) = 3 then (if (σ 13 k) = a0 then (true) else (if (σ 14 k) = a0 then (true) else (false))) else (false) from by rw [if_pos c_15, if_neg c_16, if_neg c_17]))
                  · refine lv_iconst (v := 1) hx hb dX5_points_127 (by decide) ?_
                    refine lv_goto (tgt := 132) hx hb dX5_points_128 (by decide) ?_
                    exact J _ (congrArg zI (show true = if (σ 15 k) = 3 then (if (σ 13 k) = a0 then (true) else (if (σ 14 k) = a0 then (true) else (false))) else (false) from by rw [if_pos c_15, if_neg c_16, if_pos c_17]))
          · refine lv_icmp_ne (tgt := 65) hx hb dX5_points_51 (by decide) (fun c_9 => ?_) (fun c_9 => ?_)
            · refine lv_aload_n hx hb dX5_points_65 rfl (lv_at hl 0 rfl) ?_
              refine va_get (D := G.1) (ci := 5) (v := .ref (A5 15)) (C := RX5) (T := TX5) (N := 20) hx hb hts hiX5 hown hX.1 (x1 hW hMA5.1) 0 rfl rfl 15 (by decide) hf46 (fun _ h9 => h9) rfl dX5_points_66 ?_
              refine lv_iload hx hb dX5_points_69 (lv_at hl 3 rfl) ?_
              refine x_ild (k := k) hx hb hX.1 hW hMA5.2.2.2.2.2.2.2.2.2.2.2.2.2.1 (vp_in_nI (show k < 12 by omega) (by omega)) (nI_clamp (by omega)) dX5_points_71 ?_
              refine lv_iconst (v := 2) hx hb dX5_points_72 (by decide) ?_
              refine lv_icmp_ne (tgt := 91) hx hb dX5_points_73 (by decide) (fun c_10 => ?_) (fun c_10 => ?_)
              · refine lv_iconst (v := 0) hx hb dX5_points_91 (by decide) ?_
                exact J _ (congrArg zI (show false = if (σ 15 k) = 1 then (if (σ 13 k) = a0 then (true) else (if (σ 15 k) = 2 then (if (σ 14 k) = a0 then (true) else (false)) else (false))) else (if (σ 15 k) = 2 then (if (σ 14 k) = a0 then (true) else (false)) else (false)) from by rw [if_neg c_9, if_neg c_10]))
              · refine lv_aload_n hx hb dX5_points_76 rfl (lv_at hl 0 rfl) ?_
                refine va_get (D := G.1) (ci := 5) (v := .ref (A5 14)) (C := RX5) (T := TX5) (N := 20) hx hb hts hiX5 hown hX.1 (x1 hW hMA5.1) 0 rfl rfl 14 (by decide) hf43 (fun _ h9 => h9) rfl dX5_points_77 ?_
                refine lv_iload hx hb dX5_points_80 (lv_at hl 3 rfl) ?_
                refine x_ild (k := k) hx hb hX.1 hW hMA5.2.2.2.2.2.2.2.2.2.2.2.2.1 (vp_in_nI (show k < 12 by omega) (by omega)) (nI_clamp (by omega)) dX5_points_82 ?_
                refine lv_iload_n hx hb dX5_points_83 rfl (lv_at hl 1 rfl) ?_
                refine lv_icmp_ne (tgt := 91) hx hb dX5_points_84 (by decide) (fun c_11 => ?_) (fun c_11 => ?_)
                · refine lv_iconst (v := 0) hx hb dX5_points_91 (by decide) ?_
                  exact J _ (congrArg zI (show false = if (σ 15 k) = 1 then (if (σ 13 k) = a0 then (true) else (if (σ 15 k) = 2 then (if (σ 14 k) = a0 then (true) else (false)) else (false))) else (if (σ 15 k) = 2 then (if (σ 14 k) = a0 then (true) else (false)) else (false)) from by rw [if_neg c_9, if_pos c_10, if_neg c_11]))
                · refine lv_iconst (v := 1) hx hb dX5_points_87 (by decide) ?_
                  refine lv_goto (tgt := 92) hx hb dX5_points_88 (by decide) ?_
                  exact J _ (congrArg zI (show true = if (σ 15 k) = 1 then (if (σ 13 k) = a0 then (true) else (if (σ 15 k) = 2 then (if (σ 14 k) = a0 then (true) else (false)) else (false))) else (if (σ 15 k) = 2 then (if (σ 14 k) = a0 then (true) else (false)) else (false)) from by rw [if_neg c_9, if_pos c_10, if_pos c_11]))
            · refine lv_aload_n hx hb dX5_points_54 rfl (lv_at hl 0 rfl) ?_
              refine va_get (D := G.1) (ci := 5) (v := .ref (A5 13)) (C := RX5) (T := TX5) (N := 20) hx hb hts hiX5 hown hX.1 (x1 hW hMA5.1) 0 rfl rfl 13 (by decide) hf40 (fun _ h9 => h9) rfl dX5_points_55 ?_
              refine lv_iload hx hb dX5_points_58 (lv_at hl 3 rfl) ?_
              refine x_ild (k := k) hx hb hX.1 hW hMA5.2.2.2.2.2.2.2.2.2.2.2.1 (vp_in_nI (show k < 12 by omega) (by omega)) (nI_clamp (by omega)) dX5_points_60 ?_
              refine lv_iload_n hx hb dX5_points_61 rfl (lv_at hl 1 rfl) ?_
              refine lv_icmp_eq (tgt := 87) hx hb dX5_points_62 (by decide) (fun c_12 => ?_) (fun c_12 => ?_)
              · refine lv_iconst (v := 1) hx hb dX5_points_87 (by decide) ?_
                refine lv_goto (tgt := 92) hx hb dX5_points_88 (by decide) ?_
                exact J _ (congrArg zI (show true = if (σ 15 k) = 1 then (if (σ 13 k) = a0 then (true) else (if (σ 15 k) = 2 then (if (σ 14 k) = a0 then (true) else (false)) else (false))) else (if (σ 15 k) = 2 then (if (σ 14 k) = a0 then (true) else (false)) else (false)) from by rw [if_pos c_9, if_pos c_12]))
              · refine lv_aload_n hx hb dX5_points_65 rfl (lv_at hl 0 rfl) ?_
                refine va_get (D := G.1) (ci := 5) (v := .ref (A5 15)) (C := RX5) (T := TX5) (N := 20) hx hb hts hiX5 hown hX.1 (x1 hW hMA5.1) 0 rfl rfl 15 (by decide) hf46 (fun _ h9 => h9) rfl dX5_points_66 ?_
                refine lv_iload hx hb dX5_points_69 (lv_at hl 3 rfl) ?_
                refine x_ild (k := k) hx hb hX.1 hW hMA5.2.2.2.2.2.2.2.2.2.2.2.2.2.1 (vp_in_nI (show k < 12 by omega) (by omega)) (nI_clamp (by omega)) dX5_points_71 ?_
                refine lv_iconst (v := 2) hx hb dX5_points_72 (by decide) ?_
                refine lv_icmp_ne (tgt := 91) hx hb dX5_points_73 (by decide) (fun c_13 => ?_) (fun c_13 => ?_)
                · refine lv_iconst (v := 0) hx hb dX5_points_91 (by decide) ?_
                  exact J _ (congrArg zI (show false = if (σ 15 k) = 1 then (if (σ 13 k) = a0 then (true) else (if (σ 15 k) = 2 then (if (σ 14 k) = a0 then (true) else (false)) else (false))) else (if (σ 15 k) = 2 then (if (σ 14 k) = a0 then (true) else (false)) else (false)) from by rw [if_pos c_9, if_neg c_12, if_neg c_13]))
                · refine lv_aload_n hx hb dX5_points_76 rfl (lv_at hl 0 rfl) ?_
                  refine va_get (D := G.1) (ci := 5) (v := .ref (A5 14)) (C := RX5) (T := TX5) (N := 20) hx hb hts hiX5 hown hX.1 (x1 hW hMA5.1) 0 rfl rfl 14 (by decide) hf43 (fun _ h9 => h9) rfl dX5_points_77 ?_
                  refine lv_iload hx hb dX5_points_80 (lv_at hl 3 rfl) ?_
                  refine x_ild (k := k) hx hb hX.1 hW hMA5.2.2.2.2.2.2.2.2.2.2.2.2.1 (vp_in_nI (show k < 12 by omega) (by omega)) (nI_clamp (by omega)) dX5_points_82 ?_
                  refine lv_iload_n hx hb dX5_points_83 rfl (lv_at hl 1 rfl) ?_
                  refine lv_icmp_ne (tgt := 91) hx hb dX5_points_84 (by decide) (fun c_14 => ?_) (fun c_14 => ?_)
                  · refine lv_iconst (v := 0) hx hb dX5_points_91 (by decide) ?_
                    exact J _ (congrArg zI (show false = if (σ 15 k) = 1 then (if (σ 13 k) = a0 then (true) else (if (σ 15 k) = 2 then (if (σ 14 k) = a0 then (true) else (false)) else (false))) else (if (σ 15 k) = 2 then (if (σ 14 k) = a0 then (true) else (false)) else (false)) from by rw [if_pos c_9, if_neg c_12, if_pos c_13, if_neg c_14]))
                  · refine lv_iconst (v := 1) hx hb dX5_points_87 (by decide) ?_
                    refine lv_goto (tgt := 92) hx hb dX5_points_88 (by decide) ?_
                    exact J _ (congrArg zI (show true = if (σ 15 k) = 1 then (if (σ 13 k) = a0 then (true) else (if (σ 15 k) = 2 then (if (σ 14 k) = a0 then (true) else (false)) else (false))) else (if (σ 15 k) = 2 then (if (σ 14 k) = a0 then (true) else (false)) else (false)) from by rw [if_pos c_9, if_neg c_12, if_pos c_13, if_pos c_14]))
    · have hzA5 := htA5.trans (if_neg (Bool.eq_false_iff.mp c_6))
      refine lv_iconst (v := 0) hx hb dX5_points_27 (by decide) ?_
      exact W.widen (k := 0) (n := 0) (Nat.le_of_ble_eq_true rfl) (Nat.le_of_ble_eq_true rfl) (W.iret (v := 0) hx hb hr (fun t ht hw => ⟨⟨_, E3, rfl, ⟨((0 : Int32), 1), (show _ = (((0 : Int32), 1) : Int32 × Nat) from by unfold mX5_points; rw [if_neg (Bool.eq_false_iff.mp c_6)]), rfl, (show xMd G E3 o σ 1 from ⟨A5, hMA5, hAA5, hzA5⟩), hFr⟩, (show xW G E3 t.heap from by rw [ht]; exact hW)⟩, hS.F ht⟩) hS.2.2 dX5_points_28)
  · refine x_ifz_eq (b := fX5_isPlayer a0) (tgt := 20) hx hb dX5_points_5 (by decide) (fun c_1 => ?_) (fun c_1 => ?_)
    · refine lv_iconst (v := 0) hx hb dX5_points_20 (by decide) ?_
      exact J _ (congrArg zI (show false = if (fX5_isPlayer a0) = true then (if (fX5_isVariant (σ) a1) = true then (true) else (false)) else (false) from by rw [if_neg (Bool.eq_false_iff.mp c_1)]))
    · refine lv_aload_n hx hb dX5_points_8 rfl (lv_at hl 0 rfl) ?_
      refine lv_iload_n hx hb dX5_points_9 rfl (lv_at hl 2 rfl) ?_
      refine x_callSe (va_runV (As := [.int a1]) (rest := [.ref o]) ⟨hx, hb, hml, hown, hts⟩ (kX5_isVariant l G _ (σ) o a1 A hM) (cwV 1 hts gX5_points_X5_isVariant rfl rfl rfl (by decide +kernel) ⟨Nat.le_of_ble_eq_true rfl, Nat.le_of_ble_eq_true rfl⟩) (x_preV hX hS hW hM.1 rfl) rfl rfl hl.1 rfl (lv_room (Nat.le_of_ble_eq_true rfl)) dX5_points_10 ⟨Nat.le_of_ble_eq_true rfl, Nat.le_of_ble_eq_true rfl⟩) ?_
      refine x_ifz_eq (b := fX5_isVariant (σ) a1) (tgt := 20) hx hb dX5_points_13 (by decide) (fun c_2 => ?_) (fun c_2 => ?_)
      · refine lv_iconst (v := 0) hx hb dX5_points_20 (by decide) ?_
        exact J _ (congrArg zI (show false = if (fX5_isPlayer a0) = true then (if (fX5_isVariant (σ) a1) = true then (true) else (false)) else (false) from by rw [if_pos c_1, if_neg (Bool.eq_false_iff.mp c_2)]))
      · refine lv_iconst (v := 1) hx hb dX5_points_16 (by decide) ?_
        refine lv_goto (tgt := 21) hx hb dX5_points_17 (by decide) ?_
        exact J _ (congrArg zI (show true = if (fX5_isPlayer a0) = true then (if (fX5_isVariant (σ) a1) = true then (true) else (false)) else (false) from by rw [if_pos c_1, if_pos c_2]))
