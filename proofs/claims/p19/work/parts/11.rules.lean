def gX2_endsFrom (σ : xSg) (nC : Nat) (S : Int32) (h : Int32) (a0 : Int32) (a1 : Int32) (a2 : Int32) (a3 : Bool) : Nat → Nat → Int32 → Int32
  | 0, _, _ => 0
  | n + 1, k, v5 => if 8 ≤ (nI k) then (v5 &&& (a1 ^^^ (-1))) else (if k < nC then (if (fX4_isIn S (nI k)) = true then (gX2_endsFrom σ nC S h a0 a1 a2 a3 n (k + 1) (v5 ||| (fX0_endsFrom (σ 1 k) (σ 2 k) (σ 3 k) (σ 4 k) a0 h (a1 ||| a2) a3))) else (gX2_endsFrom σ nC S h a0 a1 a2 a3 n (k + 1) v5)) else (gX2_endsFrom σ nC S h a0 a1 a2 a3 n (k + 1) v5))
def fX2_endsFrom (σ : xSg) (nC : Nat) (S : Int32) (h : Int32) (a0 : Int32) (a1 : Int32) (a2 : Int32) (a3 : Bool) : Int32 := if (fX4_isIn a1 a0) = true then (gX2_endsFrom σ nC S h a0 a1 a2 a3 9 0 0) else ((0 : Int32) &&& (a1 ^^^ (-1)))
set_option maxHeartbeats 4000000 in
set_option maxRecDepth 100000 in
theorem kX2_endsFrom (l : Launch) (G : xG) (E : xE) (σ : xSg) (nC : Nat) (S : Int32) (h : Int32) (o : Nat) (a0 : Int32) (a1 : Int32) (a2 : Int32) (a3 : Bool) (ta : Nat) (tb : Nat → Option Nat) (hE : E o = some (.inr (2, [.ref ta, .int S, .int h]))) (hT : xCardsAt G E ta tb nC σ) : Met l yX2_endsFrom wsX2_endsFrom ({ frames := 2, cells := 0, slots := 0, locals := 54 }) (va_Pc [.ref o, .int a0, .int a1, .int a2, .int (zI a3)] (xB G E)) (vp_Si (fun r => r = fX2_endsFrom σ nC S h a0 a1 a2 a3)) 0 0 (fun _ => False) := by
  refine Met.ofW (cc := cX2_endsFrom) (maxL := 8) (ret := (some .int)) (by decide) rfl ?_
  intro p e s m args below meth c s₁ B hml hv
  obtain ⟨rfl, hX, hW⟩ := hv
  have hx := B.exec
  have hb := B.bytes
  have hr := B.returns
  have hts := atoms_spec (ws := wsX2_endsFrom) B.pre
  have hown : s.vm.findClass RX2 = some m.cls := findClass_of_methodNamed B.named
  have hlocks := B.notSynchronized
  have hS : va_S (xA G) s.heap s.heap [] := va_S.rf
  have hiX2 : ∀ w ∈ u_ws RX2 TX2 3, w ∈ wsX2_endsFrom := by decide +kernel
  have hf9 := hts (Cond.fieldLink RX2 9 "VariantMill$Rules" "table" "[LVariantMill$Card;") (by decide +kernel)
  have hf15 := hts (Cond.fieldLink RX2 15 "VariantMill$Rules" "cards" "I") (by decide +kernel)
  have hiniRX4 := hts (Cond.initialized RX4) (by decide +kernel)
  have hstX4_isIn := hts (Cond.static yX4_isIn) (by decide +kernel)
  have hf19 := hts (Cond.fieldLink RX2 19 "VariantMill$Rules" "holes" "I") (by decide +kernel)
  have hl := lv_entry ([.ref o, .int a0, .int a1, .int a2, .int (zI a3)]) (n := 8) (Nat.le_of_ble_eq_true rfl)
  rw [lg_entry_eq]
  generalize (lg_sl ([.ref o, .int a0, .int a1, .int a2, .int (zI a3)]) ++ List.replicate (8 - (lg_sl ([.ref o, .int a0, .int a1, .int a2, .int (zI a3)])).length) Slot.unset).toArray = ls at hl ⊢
  have hl : lv_has ls 8 [(0, .ref o), (1, .int a0), (2, .int a1), (3, .int a2), (4, .int (zI a3))] := hl
  refine x_loopK (σ := Nat × Nat × Int32) 14 8 (fun x => [(0, .ref o), (1, .int a0), (2, .int a1), (3, .int a2), (4, .int (zI a3)), (6, .int (nI x.2.1)), (5, .int x.2.2)]) (fun x => fX2_endsFrom σ nC S h a0 a1 a2 a3 = gX2_endsFrom σ nC S h a0 a1 a2 a3 x.1 x.2.1 x.2.2 ∧ x.2.1 ≤ 8 ∧ x.1 + x.2.1 = 8 + 1) (fun x => x.1) ?_ (fun LP => ?_)
  · rintro ⟨n, k, v5⟩ ls ⟨hv, hk, hn⟩ hl ih
    dsimp only at hv hk hn
    rcases n with _ | n
    · omega
    · have hl : lv_has ls 8 [(0, .ref o), (1, .int a0), (2, .int a1), (3, .int a2), (4, .int (zI a3)), (6, .int (nI k)), (5, .int v5)] := hl
      refine lv_iload hx hb dX2_endsFrom_14 (lv_at hl 5 rfl) ?_
      refine lv_aload_n hx hb dX2_endsFrom_16 rfl (lv_at hl 0 rfl) ?_
      refine va_get (D := G.1) (ci := 2) (v := .ref ta) (C := RX2) (T := TX2) (N := 3) hx hb hts hiX2 hown hX.1 (x1 hW hE) 0 rfl rfl 0 (by decide) hf9 (fun _ h9 => h9) rfl dX2_endsFrom_17 ?_
      refine va_alen (D := G.1) hx hb hX.1 (x1 hW hT.1) 0 2 rfl rfl (v := 8) rfl dX2_endsFrom_20 ?_
      refine lv_icmp_ge (tgt := 76) hx hb dX2_endsFrom_21 (by decide) (fun c_1 => ?_) (fun c_1 => ?_)
      · refine lv_iload hx hb dX2_endsFrom_76 (lv_at hl 6 rfl) ?_
        refine lv_iload_n hx hb dX2_endsFrom_78 rfl (lv_at hl 2 rfl) ?_
        refine lv_iconst (v := (-1)) hx hb dX2_endsFrom_79 (by decide) ?_
        refine lv_ixor hx hb dX2_endsFrom_80 ?_
        refine lv_iand hx hb dX2_endsFrom_81 ?_
        exact W.iret (v := v5 &&& (a1 ^^^ (-1))) hx hb hr (fun t ht hw => ⟨_, rfl, (show (v5 &&& (a1 ^^^ (-1)) : Int32) = fX2_endsFrom σ nC S h a0 a1 a2 a3 from by rw [hv, gX2_endsFrom]; rw [if_pos c_1]), ht⟩) (fun _ h => nomatch h) dX2_endsFrom_82
      · have hk1 : k < 8 := x_nge (B := 8) c_1 (by omega)
        refine lv_aload_n hx hb dX2_endsFrom_24 rfl (lv_at hl 0 rfl) ?_
        refine va_get (D := G.1) (ci := 2) (v := .ref ta) (C := RX2) (T := TX2) (N := 3) hx hb hts hiX2 hown hX.1 (x1 hW hE) 0 rfl rfl 0 (by decide) hf9 (fun _ h9 => h9) rfl dX2_endsFrom_25 ?_
        refine lv_iload hx hb dX2_endsFrom_28 (lv_at hl 5 rfl) ?_
        rcases Nat.lt_or_ge k nC with c_2 | c_2
        · obtain ⟨ca, r, htb, hca, hre, h4⟩ := hT.2.2.2 k c_2
          refine x_qldS (t0 := 2) (k := k) (v := ca) hx hb hX.1 hW hT.1 rfl (vp_in_nI hk1 (by omega)) (nI_clamp (by omega)) htb dX2_endsFrom_30 ?_
          refine lv_astore (lv' := [(7, .ref ca), (0, .ref o), (1, .int a0), (2, .int a1), (3, .int a2), (4, .int (zI a3)), (6, .int (nI k)), (5, .int v5)]) hx hb dX2_endsFrom_31 hl (by decide) rfl (fun ls hl => ?_)
          refine lv_aload hx hb dX2_endsFrom_33 (lv_at hl 0 rfl) ?_
          refine lv_ifnull hx hb dX2_endsFrom_35 ?_
          refine lv_aload_n hx hb dX2_endsFrom_38 rfl (lv_at hl 1 rfl) ?_
          refine va_get (D := G.1) (ci := 2) (v := .int S) (C := RX2) (T := TX2) (N := 3) hx hb hts hiX2 hown hX.1 (x1 hW hE) 0 rfl rfl 1 (by decide) hf15 (fun _ h9 => h9) rfl dX2_endsFrom_39 ?_
          refine lv_iload hx hb dX2_endsFrom_42 (lv_at hl 6 rfl) ?_
          refine x_callSe (va_runSN (As := [.int S, .int (nI k)]) (rest := []) ⟨hx, hb, hml, hown, hts⟩ (kX4_isIn l S (nI k)) ⟨va_cnB 2 hts gX2_endsFrom_X4_isIn_n29 rfl rfl rfl hX.2.1.1 hiniRX4 (by decide +kernel) ⟨Nat.le_of_ble_eq_true rfl, Nat.le_of_ble_eq_true rfl⟩, hstX4_isIn, trivial⟩ x_preT rfl rfl hl.1 rfl (lv_room (Nat.le_of_ble_eq_true rfl)) dX2_endsFrom_44 ⟨Nat.le_of_ble_eq_true rfl, Nat.le_of_ble_eq_true rfl⟩) ?_
          refine x_ifz_eq (b := fX4_isIn S (nI k)) (tgt := 70) hx hb dX2_endsFrom_47 (by decide) (fun c_3 => ?_) (fun c_3 => ?_)
          · refine lv_iinc (v := nI (k + 1)) (lv' := [(6, .int (nI (k + 1))), (7, .ref ca), (0, .ref o), (1, .int a0), (2, .int a1), (3, .int a2), (4, .int (zI a3)), (5, .int v5)]) hx hb dX2_endsFrom_70 hl (k := 6) rfl (nI_1 _) (by decide) rfl (fun ls hl => ?_)
            refine lv_goto (tgt := 14) hx hb dX2_endsFrom_73 (by decide) ?_
            exact ih (n, k + 1, v5) ls (Nat.lt_succ_self _) ⟨by rw [hv, gX2_endsFrom]; rw [if_neg c_1, if_pos c_2, if_neg (Bool.eq_false_iff.mp c_3)], hk1, by dsimp only <;> omega⟩ (lv_sub hl [2, 3, 4, 5, 6, 0, 7] rfl)
          · refine lv_iload hx hb dX2_endsFrom_50 (lv_at hl 7 rfl) ?_
            refine lv_aload hx hb dX2_endsFrom_52 (lv_at hl 0 rfl) ?_
            refine lv_iload_n hx hb dX2_endsFrom_54 rfl (lv_at hl 2 rfl) ?_
            refine lv_aload_n hx hb dX2_endsFrom_55 rfl (lv_at hl 1 rfl) ?_
            refine va_get (D := G.1) (ci := 2) (v := .int h) (C := RX2) (T := TX2) (N := 3) hx hb hts hiX2 hown hX.1 (x1 hW hE) 0 rfl rfl 2 (by decide) hf19 (fun _ h9 => h9) rfl dX2_endsFrom_56 ?_
            refine lv_iload_n hx hb dX2_endsFrom_59 rfl (lv_at hl 3 rfl) ?_
            refine lv_iload_n hx hb dX2_endsFrom_60 rfl (lv_at hl 4 rfl) ?_
            refine lv_ior hx hb dX2_endsFrom_61 ?_
            refine lv_iload hx hb dX2_endsFrom_62 (lv_at hl 5 rfl) ?_
            refine x_callSe (va_runV (As := [.int a0, .int h, .int (a1 ||| a2), .int (zI a3)]) (rest := [.int v5]) ⟨hx, hb, hml, hown, hts⟩ (kX0_endsFrom l G _ (σ 1 k) (σ 2 k) (σ 3 k) (σ 4 k) ca a0 h (a1 ||| a2) a3 hca r hre h4) (cwV 4 hts gX2_endsFrom_X0_endsFrom rfl rfl rfl (by decide +kernel) ⟨Nat.le_of_ble_eq_true rfl, Nat.le_of_ble_eq_true rfl⟩) (x_preV hX hS hW hca rfl) rfl rfl hl.1 rfl (lv_room (Nat.le_of_ble_eq_true rfl)) dX2_endsFrom_64 ⟨Nat.le_of_ble_eq_true rfl, Nat.le_of_ble_eq_true rfl⟩) ?_
            refine lv_ior hx hb dX2_endsFrom_67 ?_
            refine lv_istore (lv' := [(5, .int (v5 ||| (fX0_endsFrom (σ 1 k) (σ 2 k) (σ 3 k) (σ 4 k) a0 h (a1 ||| a2) a3))), (7, .ref ca), (0, .ref o), (1, .int a0), (2, .int a1), (3, .int a2), (4, .int (zI a3)), (6, .int (nI k))]) hx hb dX2_endsFrom_68 hl (by decide) rfl (fun ls hl => ?_)
            refine lv_iinc (v := nI (k + 1)) (lv' := [(6, .int (nI (k + 1))), (5, .int (v5 ||| (fX0_endsFrom (σ 1 k) (σ 2 k) (σ 3 k) (σ 4 k) a0 h (a1 ||| a2) a3))), (7, .ref ca), (0, .ref o), (1, .int a0), (2, .int a1), (3, .int a2), (4, .int (zI a3))]) hx hb dX2_endsFrom_70 hl (k := 7) rfl (nI_1 _) (by decide) rfl (fun ls hl => ?_)
            refine lv_goto (tgt := 14) hx hb dX2_endsFrom_73 (by decide) ?_
            exact ih (n, k + 1, (v5 ||| (fX0_endsFrom (σ 1 k) (σ 2 k) (σ 3 k) (σ 4 k) a0 h (a1 ||| a2) a3))) ls (Nat.lt_succ_self _) ⟨by rw [hv, gX2_endsFrom]; rw [if_neg c_1, if_pos c_2, if_pos c_3], hk1, by dsimp only <;> omega⟩ (lv_sub hl [3, 4, 5, 6, 7, 0, 1] rfl)
        · refine x_qldN (t0 := 2) (k := k) hx hb hX.1 hW hT.1 rfl (vp_in_nI hk1 (by omega)) (nI_clamp (by omega)) (hT.2.2.1 k c_2) dX2_endsFrom_30 ?_
          refine lv_astoreN (lv' := [(7, .null), (0, .ref o), (1, .int a0), (2, .int a1), (3, .int a2), (4, .int (zI a3)), (6, .int (nI k)), (5, .int v5)]) hx hb dX2_endsFrom_31 hl (by decide) rfl (fun ls hl => ?_)
          refine lv_aloadN hx hb dX2_endsFrom_33 (lv_at hl 0 rfl) ?_
          refine lv_ifnullN (tgt := 70) hx hb dX2_endsFrom_35 (by decide) ?_
          refine lv_iinc (v := nI (k + 1)) (lv' := [(6, .int (nI (k + 1))), (7, .null), (0, .ref o), (1, .int a0), (2, .int a1), (3, .int a2), (4, .int (zI a3)), (5, .int v5)]) hx hb dX2_endsFrom_70 hl (k := 6) rfl (nI_1 _) (by decide) rfl (fun ls hl => ?_)
          refine lv_goto (tgt := 14) hx hb dX2_endsFrom_73 (by decide) ?_
          exact ih (n, k + 1, v5) ls (Nat.lt_succ_self _) ⟨by rw [hv, gX2_endsFrom]; rw [if_neg c_1, if_neg (Nat.not_lt.mpr c_2)], hk1, by dsimp only <;> omega⟩ (lv_sub hl [2, 3, 4, 5, 6, 0, 7] rfl)
  · refine lv_iconst (v := 0) hx hb dX2_endsFrom_0 (by decide) ?_
    refine lv_istore (lv' := [(5, .int 0), (0, .ref o), (1, .int a0), (2, .int a1), (3, .int a2), (4, .int (zI a3))]) hx hb dX2_endsFrom_1 hl (by decide) rfl (fun ls hl => ?_)
    refine lv_iload_n hx hb dX2_endsFrom_3 rfl (lv_at hl 3 rfl) ?_
    refine lv_iload_n hx hb dX2_endsFrom_4 rfl (lv_at hl 2 rfl) ?_
    refine x_callSe (va_runSN (As := [.int a1, .int a0]) (rest := []) ⟨hx, hb, hml, hown, hts⟩ (kX4_isIn l a1 a0) ⟨va_cnB 2 hts gX2_endsFrom_X4_isIn_n29 rfl rfl rfl hX.2.1.1 hiniRX4 (by decide +kernel) ⟨Nat.le_of_ble_eq_true rfl, Nat.le_of_ble_eq_true rfl⟩, hstX4_isIn, trivial⟩ x_preT rfl rfl hl.1 rfl (lv_room (Nat.le_of_ble_eq_true rfl)) dX2_endsFrom_5 ⟨Nat.le_of_ble_eq_true rfl, Nat.le_of_ble_eq_true rfl⟩) ?_
    refine x_ifz_eq (b := fX4_isIn a1 a0) (tgt := 76) hx hb dX2_endsFrom_8 (by decide) (fun c_4 => ?_) (fun c_4 => ?_)
    · refine lv_iload hx hb dX2_endsFrom_76 (lv_at hl 0 rfl) ?_
      refine lv_iload_n hx hb dX2_endsFrom_78 rfl (lv_at hl 3 rfl) ?_
      refine lv_iconst (v := (-1)) hx hb dX2_endsFrom_79 (by decide) ?_
      refine lv_ixor hx hb dX2_endsFrom_80 ?_
      refine lv_iand hx hb dX2_endsFrom_81 ?_
      exact W.iret (v := (0 : Int32) &&& (a1 ^^^ (-1))) hx hb hr (fun t ht hw => ⟨_, rfl, (show ((0 : Int32) &&& (a1 ^^^ (-1)) : Int32) = fX2_endsFrom σ nC S h a0 a1 a2 a3 from by unfold fX2_endsFrom; rw [if_neg (Bool.eq_false_iff.mp c_4)]), ht⟩) (fun _ h => nomatch h) dX2_endsFrom_82
    · refine lv_iconst (v := 0) hx hb dX2_endsFrom_11 (by decide) ?_
      refine lv_istore (lv' := [(6, .int 0), (5, .int 0), (0, .ref o), (1, .int a0), (2, .int a1), (3, .int a2), (4, .int (zI a3))]) hx hb dX2_endsFrom_12 hl (by decide) rfl (fun ls hl => ?_)
      exact LP (9, 0, 0) ls ⟨by unfold fX2_endsFrom; rw [if_pos c_4], by dsimp only <;> omega, by dsimp only <;> omega⟩ (lv_sub hl [2, 3, 4, 5, 6, 0, 1] rfl)

def gX2_hasMove (σ : xSg) (nC : Nat) (S : Int32) (h : Int32) (a0 : Int32) (a1 : Int32) (a2 : Bool) : Nat → Nat → Bool
  | 0, _ => false
  | n + 1, k => if 25 ≤ (nI k) then false else (if (fX2_endsFrom (σ) nC S h (nI k) a0 a1 a2) = 0 then (gX2_hasMove σ nC S h a0 a1 a2 n (k + 1)) else true)
def fX2_hasMove (σ : xSg) (nC : Nat) (S : Int32) (h : Int32) (a0 : Int32) (a1 : Int32) (a2 : Bool) : Bool := gX2_hasMove σ nC S h a0 a1 a2 26 0
set_option maxHeartbeats 4000000 in
set_option maxRecDepth 100000 in
theorem kX2_hasMove (l : Launch) (G : xG) (E : xE) (σ : xSg) (nC : Nat) (S : Int32) (h : Int32) (o : Nat) (a0 : Int32) (a1 : Int32) (a2 : Bool) (ta : Nat) (tb : Nat → Option Nat) (hE : E o = some (.inr (2, [.ref ta, .int S, .int h]))) (hT : xCardsAt G E ta tb nC σ) : Met l yX2_hasMove wsX2_hasMove ({ frames := 3, cells := 0, slots := 0, locals := 81 }) (va_Pc [.ref o, .int a0, .int a1, .int (zI a2)] (xB G E)) (vp_Si (fun r => r = zI (fX2_hasMove σ nC S h a0 a1 a2))) 0 0 (fun _ => False) := by
  refine Met.ofW (cc := cX2_hasMove) (maxL := 5) (ret := (some .boolean)) (by decide) rfl ?_
  intro p e s m args below meth c s₁ B hml hv
  obtain ⟨rfl, hX, hW⟩ := hv
  have hx := B.exec
  have hb := B.bytes
  have hr := B.returns
  have hts := atoms_spec (ws := wsX2_hasMove) B.pre
  have hown : s.vm.findClass RX2 = some m.cls := findClass_of_methodNamed B.named
  have hlocks := B.notSynchronized
  have hS : va_S (xA G) s.heap s.heap [] := va_S.rf
  have hl := lv_entry ([.ref o, .int a0, .int a1, .int (zI a2)]) (n := 5) (Nat.le_of_ble_eq_true rfl)
  rw [lg_entry_eq]
  generalize (lg_sl ([.ref o, .int a0, .int a1, .int (zI a2)]) ++ List.replicate (5 - (lg_sl ([.ref o, .int a0, .int a1, .int (zI a2)])).length) Slot.unset).toArray = ls at hl ⊢
  have hl : lv_has ls 5 [(0, .ref o), (1, .int a0), (2, .int a1), (3, .int (zI a2))] := hl
  refine x_loopK (σ := Nat × Nat) 3 5 (fun x => [(0, .ref o), (1, .int a0), (2, .int a1), (3, .int (zI a2)), (4, .int (nI x.2))]) (fun x => fX2_hasMove σ nC S h a0 a1 a2 = gX2_hasMove σ nC S h a0 a1 a2 x.1 x.2 ∧ x.2 ≤ 25 ∧ x.1 + x.2 = 25 + 1) (fun x => x.1) ?_ (fun LP => ?_)
  · rintro ⟨n, k⟩ ls ⟨hv, hk, hn⟩ hl ih
    dsimp only at hv hk hn
    rcases n with _ | n
    · omega
    · have hl : lv_has ls 5 [(0, .ref o), (1, .int a0), (2, .int a1), (3, .int (zI a2)), (4, .int (nI k))] := hl
      refine lv_iload hx hb dX2_hasMove_3 (lv_at hl 4 rfl) ?_
      refine lv_bipush (v := 25) hx hb dX2_hasMove_5 (by decide) ?_
      refine lv_icmp_ge (tgt := 30) hx hb dX2_hasMove_7 (by decide) (fun c_1 => ?_) (fun c_1 => ?_)
      · refine lv_iconst (v := 0) hx hb dX2_hasMove_30 (by decide) ?_
        exact W.zret (v := 0) hx hb hr rfl (fun t ht hw => ⟨_, rfl, (congrArg zI (show false = fX2_hasMove σ nC S h a0 a1 a2 from by rw [hv, gX2_hasMove]; rw [if_pos c_1])), ht⟩) (fun _ h => nomatch h) dX2_hasMove_31
      · have hk1 : k < 25 := x_nge (B := 25) c_1 (by omega)
        refine lv_aload_n hx hb dX2_hasMove_10 rfl (lv_at hl 0 rfl) ?_
        refine lv_iload hx hb dX2_hasMove_11 (lv_at hl 4 rfl) ?_
        refine lv_iload_n hx hb dX2_hasMove_13 rfl (lv_at hl 1 rfl) ?_
        refine lv_iload_n hx hb dX2_hasMove_14 rfl (lv_at hl 2 rfl) ?_
        refine lv_iload_n hx hb dX2_hasMove_15 rfl (lv_at hl 3 rfl) ?_
        refine x_callSe (va_runV (As := [.int (nI k), .int a0, .int a1, .int (zI a2)]) (rest := []) ⟨hx, hb, hml, hown, hts⟩ (kX2_endsFrom l G _ (σ) nC S h o (nI k) a0 a1 a2 ta tb hE hT) (cwV 4 hts gX2_hasMove_X2_endsFrom rfl rfl rfl (by decide +kernel) ⟨Nat.le_of_ble_eq_true rfl, Nat.le_of_ble_eq_true rfl⟩) (x_preV hX hS hW hE rfl) rfl rfl hl.1 rfl (lv_room (Nat.le_of_ble_eq_true rfl)) dX2_hasMove_16 ⟨Nat.le_of_ble_eq_true rfl, Nat.le_of_ble_eq_true rfl⟩) ?_
        refine lv_if_eq (tgt := 24) hx hb dX2_hasMove_19 (by decide) (fun c_2 => ?_) (fun c_2 => ?_)
        · refine lv_iinc (v := nI (k + 1)) (lv' := [(4, .int (nI (k + 1))), (0, .ref o), (1, .int a0), (2, .int a1), (3, .int (zI a2))]) hx hb dX2_hasMove_24 hl (k := 4) rfl (nI_1 _) (by decide) rfl (fun ls hl => ?_)
          refine lv_goto (tgt := 3) hx hb dX2_hasMove_27 (by decide) ?_
          exact ih (n, k + 1) ls (Nat.lt_succ_self _) ⟨by rw [hv, gX2_hasMove]; rw [if_neg c_1, if_pos c_2], hk1, by dsimp only <;> omega⟩ (lv_sub hl [1, 2, 3, 4, 0] rfl)
        · refine lv_iconst (v := 1) hx hb dX2_hasMove_22 (by decide) ?_
          exact W.zret (v := 1) hx hb hr rfl (fun t ht hw => ⟨_, rfl, (congrArg zI (show true = fX2_hasMove σ nC S h a0 a1 a2 from by rw [hv, gX2_hasMove]; rw [if_neg c_1, if_neg c_2])), ht⟩) (fun _ h => nomatch h) dX2_hasMove_23
  · refine lv_iconst (v := 0) hx hb dX2_hasMove_0 (by decide) ?_
    refine lv_istore (lv' := [(4, .int 0), (0, .ref o), (1, .int a0), (2, .int a1), (3, .int (zI a2))]) hx hb dX2_hasMove_1 hl (by decide) rfl (fun ls hl => ?_)
    exact LP (26, 0) ls ⟨by unfold fX2_hasMove; rfl, by dsimp only <;> omega, by dsimp only <;> omega⟩ (lv_sub hl [1, 2, 3, 4, 0] rfl)

def gX2_someCardLeads (σ : xSg) (nC : Nat) (S : Int32) (h : Int32) (a0 : Int32) (a1 : Int32) (a2 : Int32) (a3 : Bool) : Nat → Nat → Bool
  | 0, _ => false
  | n + 1, k => if 8 ≤ (nI k) then false else (if k < nC then (if (fX4_isIn S (nI k)) = true then (if (fX0_leads (σ 1 k) (σ 2 k) (σ 3 k) (σ 4 k) a0 a1 h a2 a3) = true then true else (gX2_someCardLeads σ nC S h a0 a1 a2 a3 n (k + 1))) else (gX2_someCardLeads σ nC S h a0 a1 a2 a3 n (k + 1))) else (gX2_someCardLeads σ nC S h a0 a1 a2 a3 n (k + 1)))
def fX2_someCardLeads (σ : xSg) (nC : Nat) (S : Int32) (h : Int32) (a0 : Int32) (a1 : Int32) (a2 : Int32) (a3 : Bool) : Bool := gX2_someCardLeads σ nC S h a0 a1 a2 a3 9 0
set_option maxHeartbeats 4000000 in
set_option maxRecDepth 100000 in
theorem kX2_someCardLeads (l : Launch) (G : xG) (E : xE) (σ : xSg) (nC : Nat) (S : Int32) (h : Int32) (o : Nat) (a0 : Int32) (a1 : Int32) (a2 : Int32) (a3 : Bool) (ta : Nat) (tb : Nat → Option Nat) (hE : E o = some (.inr (2, [.ref ta, .int S, .int h]))) (hT : xCardsAt G E ta tb nC σ) : Met l yX2_someCardLeads wsX2_someCardLeads ({ frames := 2, cells := 0, slots := 0, locals := 54 }) (va_Pc [.ref o, .int a0, .int a1, .int a2, .int (zI a3)] (xB G E)) (vp_Si (fun r => r = zI (fX2_someCardLeads σ nC S h a0 a1 a2 a3))) 0 0 (fun _ => False) := by
  refine Met.ofW (cc := cX2_someCardLeads) (maxL := 7) (ret := (some .boolean)) (by decide) rfl ?_
  intro p e s m args below meth c s₁ B hml hv
  obtain ⟨rfl, hX, hW⟩ := hv
  have hx := B.exec
  have hb := B.bytes
  have hr := B.returns
  have hts := atoms_spec (ws := wsX2_someCardLeads) B.pre
  have hown : s.vm.findClass RX2 = some m.cls := findClass_of_methodNamed B.named
  have hlocks := B.notSynchronized
  have hS : va_S (xA G) s.heap s.heap [] := va_S.rf
  have hiX2 : ∀ w ∈ u_ws RX2 TX2 3, w ∈ wsX2_someCardLeads := by decide +kernel
  have hf9 := hts (Cond.fieldLink RX2 9 "VariantMill$Rules" "table" "[LVariantMill$Card;") (by decide +kernel)
  have hf15 := hts (Cond.fieldLink RX2 15 "VariantMill$Rules" "cards" "I") (by decide +kernel)
  have hiniRX4 := hts (Cond.initialized RX4) (by decide +kernel)
  have hstX4_isIn := hts (Cond.static yX4_isIn) (by decide +kernel)
  have hf19 := hts (Cond.fieldLink RX2 19 "VariantMill$Rules" "holes" "I") (by decide +kernel)
  have hl := lv_entry ([.ref o, .int a0, .int a1, .int a2, .int (zI a3)]) (n := 7) (Nat.le_of_ble_eq_true rfl)
  rw [lg_entry_eq]
  generalize (lg_sl ([.ref o, .int a0, .int a1, .int a2, .int (zI a3)]) ++ List.replicate (7 - (lg_sl ([.ref o, .int a0, .int a1, .int a2, .int (zI a3)])).length) Slot.unset).toArray = ls at hl ⊢
  have hl : lv_has ls 7 [(0, .ref o), (1, .int a0), (2, .int a1), (3, .int a2), (4, .int (zI a3))] := hl
  refine x_loopK (σ := Nat × Nat) 3 7 (fun x => [(0, .ref o), (1, .int a0), (2, .int a1), (3, .int a2), (4, .int (zI a3)), (5, .int (nI x.2))]) (fun x => fX2_someCardLeads σ nC S h a0 a1 a2 a3 = gX2_someCardLeads σ nC S h a0 a1 a2 a3 x.1 x.2 ∧ x.2 ≤ 8 ∧ x.1 + x.2 = 8 + 1) (fun x => x.1) ?_ (fun LP => ?_)
  · rintro ⟨n, k⟩ ls ⟨hv, hk, hn⟩ hl ih
    dsimp only at hv hk hn
    rcases n with _ | n
    · omega
    · have hl : lv_has ls 7 [(0, .ref o), (1, .int a0), (2, .int a1), (3, .int a2), (4, .int (zI a3)), (5, .int (nI k))] := hl
      refine lv_iload hx hb dX2_someCardLeads_3 (lv_at hl 5 rfl) ?_
      refine lv_aload_n hx hb dX2_someCardLeads_5 rfl (lv_at hl 0 rfl) ?_
      refine va_get (D := G.1) (ci := 2) (v := .ref ta) (C := RX2) (T := TX2) (N := 3) hx hb hts hiX2 hown hX.1 (x1 hW hE) 0 rfl rfl 0 (by decide) hf9 (fun _ h9 => h9) rfl dX2_someCardLeads_6 ?_
      refine va_alen (D := G.1) hx hb hX.1 (x1 hW hT.1) 0 2 rfl rfl (v := 8) rfl dX2_someCardLeads_9 ?_
      refine lv_icmp_ge (tgt := 64) hx hb dX2_someCardLeads_10 (by decide) (fun c_1 => ?_) (fun c_1 => ?_)
      · refine lv_iconst (v := 0) hx hb dX2_someCardLeads_64 (by decide) ?_
        exact W.zret (v := 0) hx hb hr rfl (fun t ht hw => ⟨_, rfl, (congrArg zI (show false = fX2_someCardLeads σ nC S h a0 a1 a2 a3 from by rw [hv, gX2_someCardLeads]; rw [if_pos c_1])), ht⟩) (fun _ h => nomatch h) dX2_someCardLeads_65
      · have hk1 : k < 8 := x_nge (B := 8) c_1 (by omega)
        refine lv_aload_n hx hb dX2_someCardLeads_13 rfl (lv_at hl 0 rfl) ?_
        refine va_get (D := G.1) (ci := 2) (v := .ref ta) (C := RX2) (T := TX2) (N := 3) hx hb hts hiX2 hown hX.1 (x1 hW hE) 0 rfl rfl 0 (by decide) hf9 (fun _ h9 => h9) rfl dX2_someCardLeads_14 ?_
        refine lv_iload hx hb dX2_someCardLeads_17 (lv_at hl 5 rfl) ?_
        rcases Nat.lt_or_ge k nC with c_2 | c_2
        · obtain ⟨ca, r, htb, hca, hre, h4⟩ := hT.2.2.2 k c_2
          refine x_qldS (t0 := 2) (k := k) (v := ca) hx hb hX.1 hW hT.1 rfl (vp_in_nI hk1 (by omega)) (nI_clamp (by omega)) htb dX2_someCardLeads_19 ?_
          refine lv_astore (lv' := [(6, .ref ca), (0, .ref o), (1, .int a0), (2, .int a1), (3, .int a2), (4, .int (zI a3)), (5, .int (nI k))]) hx hb dX2_someCardLeads_20 hl (by decide) rfl (fun ls hl => ?_)
          refine lv_aload hx hb dX2_someCardLeads_22 (lv_at hl 0 rfl) ?_
          refine lv_ifnull hx hb dX2_someCardLeads_24 ?_
          refine lv_aload_n hx hb dX2_someCardLeads_27 rfl (lv_at hl 1 rfl) ?_
          refine va_get (D := G.1) (ci := 2) (v := .int S) (C := RX2) (T := TX2) (N := 3) hx hb hts hiX2 hown hX.1 (x1 hW hE) 0 rfl rfl 1 (by decide) hf15 (fun _ h9 => h9) rfl dX2_someCardLeads_28 ?_
          refine lv_iload hx hb dX2_someCardLeads_31 (lv_at hl 6 rfl) ?_
          refine x_callSe (va_runSN (As := [.int S, .int (nI k)]) (rest := []) ⟨hx, hb, hml, hown, hts⟩ (kX4_isIn l S (nI k)) ⟨va_cnB 2 hts gX2_someCardLeads_X4_isIn_n29 rfl rfl rfl hX.2.1.1 hiniRX4 (by decide +kernel) ⟨Nat.le_of_ble_eq_true rfl, Nat.le_of_ble_eq_true rfl⟩, hstX4_isIn, trivial⟩ x_preT rfl rfl hl.1 rfl (lv_room (Nat.le_of_ble_eq_true rfl)) dX2_someCardLeads_33 ⟨Nat.le_of_ble_eq_true rfl, Nat.le_of_ble_eq_true rfl⟩) ?_
          refine x_ifz_eq (b := fX4_isIn S (nI k)) (tgt := 58) hx hb dX2_someCardLeads_36 (by decide) (fun c_3 => ?_) (fun c_3 => ?_)
          · refine lv_iinc (v := nI (k + 1)) (lv' := [(5, .int (nI (k + 1))), (6, .ref ca), (0, .ref o), (1, .int a0), (2, .int a1), (3, .int a2), (4, .int (zI a3))]) hx hb dX2_someCardLeads_58 hl (k := 6) rfl (nI_1 _) (by decide) rfl (fun ls hl => ?_)
            refine lv_goto (tgt := 3) hx hb dX2_someCardLeads_61 (by decide) ?_
            exact ih (n, k + 1) ls (Nat.lt_succ_self _) ⟨by rw [hv, gX2_someCardLeads]; rw [if_neg c_1, if_pos c_2, if_neg (Bool.eq_false_iff.mp c_3)], hk1, by dsimp only <;> omega⟩ (lv_sub hl [2, 3, 4, 5, 6, 0] rfl)
          · refine lv_aload hx hb dX2_someCardLeads_39 (lv_at hl 0 rfl) ?_
            refine lv_iload_n hx hb dX2_someCardLeads_41 rfl (lv_at hl 2 rfl) ?_
            refine lv_iload_n hx hb dX2_someCardLeads_42 rfl (lv_at hl 3 rfl) ?_
            refine lv_aload_n hx hb dX2_someCardLeads_43 rfl (lv_at hl 1 rfl) ?_
            refine va_get (D := G.1) (ci := 2) (v := .int h) (C := RX2) (T := TX2) (N := 3) hx hb hts hiX2 hown hX.1 (x1 hW hE) 0 rfl rfl 2 (by decide) hf19 (fun _ h9 => h9) rfl dX2_someCardLeads_44 ?_
            refine lv_iload_n hx hb dX2_someCardLeads_47 rfl (lv_at hl 4 rfl) ?_
            refine lv_iload hx hb dX2_someCardLeads_48 (lv_at hl 5 rfl) ?_
            refine x_callSe (va_runV (As := [.int a0, .int a1, .int h, .int a2, .int (zI a3)]) (rest := []) ⟨hx, hb, hml, hown, hts⟩ (kX0_leads l G _ (σ 1 k) (σ 2 k) (σ 3 k) (σ 4 k) ca a0 a1 h a2 a3 hca r hre h4) (cwV 5 hts gX2_someCardLeads_X0_leads rfl rfl rfl (by decide +kernel) ⟨Nat.le_of_ble_eq_true rfl, Nat.le_of_ble_eq_true rfl⟩) (x_preV hX hS hW hca rfl) rfl rfl hl.1 rfl (lv_room (Nat.le_of_ble_eq_true rfl)) dX2_someCardLeads_50 ⟨Nat.le_of_ble_eq_true rfl, Nat.le_of_ble_eq_true rfl⟩) ?_
            refine x_ifz_eq (b := fX0_leads (σ 1 k) (σ 2 k) (σ 3 k) (σ 4 k) a0 a1 h a2 a3) (tgt := 58) hx hb dX2_someCardLeads_53 (by decide) (fun c_4 => ?_) (fun c_4 => ?_)
            · refine lv_iinc (v := nI (k + 1)) (lv' := [(5, .int (nI (k + 1))), (6, .ref ca), (0, .ref o), (1, .int a0), (2, .int a1), (3, .int a2), (4, .int (zI a3))]) hx hb dX2_someCardLeads_58 hl (k := 6) rfl (nI_1 _) (by decide) rfl (fun ls hl => ?_)
              refine lv_goto (tgt := 3) hx hb dX2_someCardLeads_61 (by decide) ?_
              exact ih (n, k + 1) ls (Nat.lt_succ_self _) ⟨by rw [hv, gX2_someCardLeads]; rw [if_neg c_1, if_pos c_2, if_pos c_3, if_neg (Bool.eq_false_iff.mp c_4)], hk1, by dsimp only <;> omega⟩ (lv_sub hl [2, 3, 4, 5, 6, 0] rfl)
            · refine lv_iconst (v := 1) hx hb dX2_someCardLeads_56 (by decide) ?_
              exact W.zret (v := 1) hx hb hr rfl (fun t ht hw => ⟨_, rfl, (congrArg zI (show true = fX2_someCardLeads σ nC S h a0 a1 a2 a3 from by rw [hv, gX2_someCardLeads]; rw [if_neg c_1, if_pos c_2, if_pos c_3, if_pos c_4])), ht⟩) (fun _ h => nomatch h) dX2_someCardLeads_57
        · refine x_qldN (t0 := 2) (k := k) hx hb hX.1 hW hT.1 rfl (vp_in_nI hk1 (by omega)) (nI_clamp (by omega)) (hT.2.2.1 k c_2) dX2_someCardLeads_19 ?_
          refine lv_astoreN (lv' := [(6, .null), (0, .ref o), (1, .int a0), (2, .int a1), (3, .int a2), (4, .int (zI a3)), (5, .int (nI k))]) hx hb dX2_someCardLeads_20 hl (by decide) rfl (fun ls hl => ?_)
          refine lv_aloadN hx hb dX2_someCardLeads_22 (lv_at hl 0 rfl) ?_
          refine lv_ifnullN (tgt := 58) hx hb dX2_someCardLeads_24 (by decide) ?_
          refine lv_iinc (v := nI (k + 1)) (lv' := [(5, .int (nI (k + 1))), (6, .null), (0, .ref o), (1, .int a0), (2, .int a1), (3, .int a2), (4, .int (zI a3))]) hx hb dX2_someCardLeads_58 hl (k := 6) rfl (nI_1 _) (by decide) rfl (fun ls hl => ?_)
          refine lv_goto (tgt := 3) hx hb dX2_someCardLeads_61 (by decide) ?_
          exact ih (n, k + 1) ls (Nat.lt_succ_self _) ⟨by rw [hv, gX2_someCardLeads]; rw [if_neg c_1, if_neg (Nat.not_lt.mpr c_2)], hk1, by dsimp only <;> omega⟩ (lv_sub hl [2, 3, 4, 5, 6, 0] rfl)
  · refine lv_iconst (v := 0) hx hb dX2_someCardLeads_0 (by decide) ?_
    refine lv_istore (lv' := [(5, .int 0), (0, .ref o), (1, .int a0), (2, .int a1), (3, .int a2), (4, .int (zI a3))]) hx hb dX2_someCardLeads_1 hl (by decide) rfl (fun ls hl => ?_)
    exact LP (9, 0) ls ⟨by unfold fX2_someCardLeads; rfl, by dsimp only <;> omega, by dsimp only <;> omega⟩ (lv_sub hl [1, 2, 3, 4, 5, 0] rfl)

def fX2_canHold (h : Int32) (a0 : Int32) : Bool := if a0 < 1 then false else (if 33554431 < a0 then false else (if 6 < (fJ6_bitCount_0f7a4 a0) then false else (if (a0 &&& h) = 0 then true else false)))
set_option maxHeartbeats 4000000 in
set_option maxRecDepth 100000 in
theorem kX2_canHold (l : Launch) (G : xG) (E : xE) (h : Int32) (o : Nat) (a0 : Int32) (ta : Nat) (S : Int32) (hE : E o = some (.inr (2, [.ref ta, .int S, .int h]))) : Met l yX2_canHold wsX2_canHold ({ frames := 1, cells := 0, slots := 0, locals := 20 }) (va_Pc [.ref o, .int a0] (xB G E)) (vp_Si (fun r => r = zI (fX2_canHold h a0))) 0 0 (fun _ => False) := by
  refine Met.ofW (cc := cX2_canHold) (maxL := 2) (ret := (some .boolean)) (by decide) rfl ?_
  intro p e s m args below meth c s₁ B hml hv
  obtain ⟨rfl, hX, hW⟩ := hv
  have hx := B.exec
  have hb := B.bytes
  have hr := B.returns
  have hts := atoms_spec (ws := wsX2_canHold) B.pre
  have hown : s.vm.findClass RX2 = some m.cls := findClass_of_methodNamed B.named
  have hlocks := B.notSynchronized
  have hS : va_S (xA G) s.heap s.heap [] := va_S.rf
  have hk22 := hts (Cond.constant RX2 22 (33554431)) (by decide +kernel)
  have hiX2 : ∀ w ∈ u_ws RX2 TX2 3, w ∈ wsX2_canHold := by decide +kernel
  have hf19 := hts (Cond.fieldLink RX2 19 "VariantMill$Rules" "holes" "I") (by decide +kernel)
  have hl := lv_entry ([.ref o, .int a0]) (n := 2) (Nat.le_of_ble_eq_true rfl)
  rw [lg_entry_eq]
  generalize (lg_sl ([.ref o, .int a0]) ++ List.replicate (2 - (lg_sl ([.ref o, .int a0])).length) Slot.unset).toArray = ls at hl ⊢
  have hl : lv_has ls 2 [(0, .ref o), (1, .int a0)] := hl
  refine lv_iload_n hx hb dX2_canHold_0 rfl (lv_at hl 1 rfl) ?_
  refine lv_iconst (v := 1) hx hb dX2_canHold_1 (by decide) ?_
  refine lv_icmp_lt (tgt := 33) hx hb dX2_canHold_2 (by decide) (fun c_1 => ?_) (fun c_1 => ?_)
  · refine lv_iconst (v := 0) hx hb dX2_canHold_33 (by decide) ?_
    exact W.zret (v := 0) hx hb hr rfl (fun t ht hw => ⟨_, rfl, (congrArg zI (show false = fX2_canHold h a0 from by unfold fX2_canHold; rw [if_pos c_1])), ht⟩) (fun _ h => nomatch h) dX2_canHold_34
  · refine lv_iload_n hx hb dX2_canHold_5 rfl (lv_at hl 1 rfl) ?_
    refine lv_ldc (v := 33554431) hx hb hown hk22 dX2_canHold_6 ?_
    refine lv_icmp_gt (tgt := 33) hx hb dX2_canHold_8 (by decide) (fun c_2 => ?_) (fun c_2 => ?_)
    · refine lv_iconst (v := 0) hx hb dX2_canHold_33 (by decide) ?_
      exact W.zret (v := 0) hx hb hr rfl (fun t ht hw => ⟨_, rfl, (congrArg zI (show false = fX2_canHold h a0 from by unfold fX2_canHold; rw [if_neg c_1, if_pos c_2])), ht⟩) (fun _ h => nomatch h) dX2_canHold_34
    · refine lv_iload_n hx hb dX2_canHold_11 rfl (lv_at hl 1 rfl) ?_
      refine x_callSe (va_runS (As := [.int a0]) (rest := []) ⟨hx, hb, hml, hown, hts⟩ (kJ6_bitCount_0f7a4 l a0) (va_cwS 1 hts gX2_canHold_J6_bitCount_0f7a4 rfl rfl rfl (by decide +kernel) ⟨Nat.le_of_ble_eq_true rfl, Nat.le_of_ble_eq_true rfl⟩) x_preT rfl rfl hl.1 rfl (lv_room (Nat.le_of_ble_eq_true rfl)) dX2_canHold_12 ⟨Nat.le_of_ble_eq_true rfl, Nat.le_of_ble_eq_true rfl⟩) ?_
      refine lv_bipush (v := 6) hx hb dX2_canHold_15 (by decide) ?_
      refine lv_icmp_gt (tgt := 33) hx hb dX2_canHold_17 (by decide) (fun c_3 => ?_) (fun c_3 => ?_)
      · refine lv_iconst (v := 0) hx hb dX2_canHold_33 (by decide) ?_
        exact W.zret (v := 0) hx hb hr rfl (fun t ht hw => ⟨_, rfl, (congrArg zI (show false = fX2_canHold h a0 from by unfold fX2_canHold; rw [if_neg c_1, if_neg c_2, if_pos c_3])), ht⟩) (fun _ h => nomatch h) dX2_canHold_34
      · refine lv_iload_n hx hb dX2_canHold_20 rfl (lv_at hl 1 rfl) ?_
        refine lv_aload_n hx hb dX2_canHold_21 rfl (lv_at hl 0 rfl) ?_
        refine va_get (D := G.1) (ci := 2) (v := .int h) (C := RX2) (T := TX2) (N := 3) hx hb hts hiX2 hown hX.1 (x1 hW hE) 0 rfl rfl 2 (by decide) hf19 (fun _ h9 => h9) rfl dX2_canHold_22 ?_
        refine lv_iand hx hb dX2_canHold_25 ?_
        refine lv_if_ne (tgt := 33) hx hb dX2_canHold_26 (by decide) (fun c_4 => ?_) (fun c_4 => ?_)
        · refine lv_iconst (v := 0) hx hb dX2_canHold_33 (by decide) ?_
          exact W.zret (v := 0) hx hb hr rfl (fun t ht hw => ⟨_, rfl, (congrArg zI (show false = fX2_canHold h a0 from by unfold fX2_canHold; rw [if_neg c_1, if_neg c_2, if_neg c_3, if_neg c_4])), ht⟩) (fun _ h => nomatch h) dX2_canHold_34
        · refine lv_iconst (v := 1) hx hb dX2_canHold_29 (by decide) ?_
          refine lv_goto (tgt := 34) hx hb dX2_canHold_30 (by decide) ?_
          exact W.zret (v := 1) hx hb hr rfl (fun t ht hw => ⟨_, rfl, (congrArg zI (show true = fX2_canHold h a0 from by unfold fX2_canHold; rw [if_neg c_1, if_neg c_2, if_neg c_3, if_pos c_4])), ht⟩) (fun _ h => nomatch h) dX2_canHold_34
