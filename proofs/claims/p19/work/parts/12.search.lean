def fX4_searchAll_0 (σ : xSg) (nC : Nat) (S : Int32) (h : Int32) (a1 : Int32) (a2 : Int32) (a3 : Bool) : Int32 := if (fX2_hasMove (σ) nC S h a1 a2 a3) = true then ((fJ6_bitCount_0f7a4 a1) - (fJ6_bitCount_0f7a4 a2)) else (-100)
set_option maxHeartbeats 4000000 in
set_option maxRecDepth 100000 in
theorem kX4_searchAll_0 (l : Launch) (G : xG) (E : xE) (σ : xSg) (nC : Nat) (S : Int32) (h : Int32) (o : Nat) (a1 : Int32) (a2 : Int32) (a3 : Bool) (ta : Nat) (tb : Nat → Option Nat) (hE : E o = some (.inr (2, [.ref ta, .int S, .int h]))) (hT : xCardsAt G E ta tb nC σ) : Met l yX4_searchAll wsX4_searchAll ({ frames := 4, cells := 0, slots := 0, locals := 105 }) (va_Pc [.ref o, .int a1, .int a2, .int (zI a3), .int 0] (xB G E)) (vp_Si (fun r => r = fX4_searchAll_0 σ nC S h a1 a2 a3)) 0 0 (fun _ => False) := by
  refine Met.ofW (cc := cX4_searchAll) (maxL := 9) (ret := (some .int)) (by decide) rfl ?_
  intro p e s m args below meth c s₁ B hml hv
  obtain ⟨rfl, hX, hW⟩ := hv
  have hx := B.exec
  have hb := B.bytes
  have hr := B.returns
  have hts := atoms_spec (ws := wsX4_searchAll) B.pre
  have hown : s.vm.findClass RX4 = some m.cls := findClass_of_methodNamed B.named
  have hlocks := B.notSynchronized
  have hS : va_S (xA G) s.heap s.heap [] := va_S.rf
  have hl := lv_entry ([.ref o, .int a1, .int a2, .int (zI a3), .int 0]) (n := 9) (Nat.le_of_ble_eq_true rfl)
  rw [lg_entry_eq]
  generalize (lg_sl ([.ref o, .int a1, .int a2, .int (zI a3), .int 0]) ++ List.replicate (9 - (lg_sl ([.ref o, .int a1, .int a2, .int (zI a3), .int 0])).length) Slot.unset).toArray = ls at hl ⊢
  have hl : lv_has ls 9 [(0, .ref o), (1, .int a1), (2, .int a2), (3, .int (zI a3)), (4, .int 0)] := hl
  refine lv_aload_n hx hb dX4_searchAll_0 rfl (lv_at hl 0 rfl) ?_
  refine lv_iload_n hx hb dX4_searchAll_1 rfl (lv_at hl 1 rfl) ?_
  refine lv_iload_n hx hb dX4_searchAll_2 rfl (lv_at hl 2 rfl) ?_
  refine lv_iload_n hx hb dX4_searchAll_3 rfl (lv_at hl 3 rfl) ?_
  refine x_callSe (va_runV (As := [.int a1, .int a2, .int (zI a3)]) (rest := []) ⟨hx, hb, hml, hown, hts⟩ (kX2_hasMove l G _ (σ) nC S h o a1 a2 a3 ta tb hE hT) (cwV 3 hts gX4_searchAll_X2_hasMove rfl rfl rfl (by decide +kernel) ⟨Nat.le_of_ble_eq_true rfl, Nat.le_of_ble_eq_true rfl⟩) (x_preV hX hS hW hE rfl) rfl rfl hl.1 rfl (lv_room (Nat.le_of_ble_eq_true rfl)) dX4_searchAll_4 ⟨Nat.le_of_ble_eq_true rfl, Nat.le_of_ble_eq_true rfl⟩) ?_
  refine x_ifz_ne (b := fX2_hasMove (σ) nC S h a1 a2 a3) (tgt := 13) hx hb dX4_searchAll_7 (by decide) (fun c_1 => ?_) (fun c_1 => ?_)
  · refine lv_iload hx hb dX4_searchAll_13 (lv_at hl 4 rfl) ?_
    refine lv_if_gt (tgt := 28) hx hb dX4_searchAll_15 (by decide) (fun c9 => absurd c9 (by decide)) (fun _ => ?_)
    refine lv_iload_n hx hb dX4_searchAll_18 rfl (lv_at hl 1 rfl) ?_
    refine x_callSe (va_runS (As := [.int a1]) (rest := []) ⟨hx, hb, hml, hown, hts⟩ (kJ6_bitCount_0f7a4 l a1) (va_cwS 1 hts gX4_searchAll_J6_bitCount_0f7a4 rfl rfl rfl (by decide +kernel) ⟨Nat.le_of_ble_eq_true rfl, Nat.le_of_ble_eq_true rfl⟩) x_preT rfl rfl hl.1 rfl (lv_room (Nat.le_of_ble_eq_true rfl)) dX4_searchAll_19 ⟨Nat.le_of_ble_eq_true rfl, Nat.le_of_ble_eq_true rfl⟩) ?_
    refine lv_iload_n hx hb dX4_searchAll_22 rfl (lv_at hl 2 rfl) ?_
    refine x_callSe (va_runS (As := [.int a2]) (rest := [.int (fJ6_bitCount_0f7a4 a1)]) ⟨hx, hb, hml, hown, hts⟩ (kJ6_bitCount_0f7a4 l a2) (va_cwS 1 hts gX4_searchAll_J6_bitCount_0f7a4 rfl rfl rfl (by decide +kernel) ⟨Nat.le_of_ble_eq_true rfl, Nat.le_of_ble_eq_true rfl⟩) x_preT rfl rfl hl.1 rfl (lv_room (Nat.le_of_ble_eq_true rfl)) dX4_searchAll_23 ⟨Nat.le_of_ble_eq_true rfl, Nat.le_of_ble_eq_true rfl⟩) ?_
    refine lv_isub hx hb dX4_searchAll_26 ?_
    exact W.iret (v := (fJ6_bitCount_0f7a4 a1) - (fJ6_bitCount_0f7a4 a2)) hx hb hr (fun t ht hw => ⟨_, rfl, (show ((fJ6_bitCount_0f7a4 a1) - (fJ6_bitCount_0f7a4 a2) : Int32) = fX4_searchAll_0 σ nC S h a1 a2 a3 from by unfold fX4_searchAll_0; rw [if_pos c_1]), ht⟩) (fun _ h => nomatch h) dX4_searchAll_27
  · refine lv_bipush (v := (-100)) hx hb dX4_searchAll_10 (by decide) ?_
    exact W.iret (v := (-100)) hx hb hr (fun t ht hw => ⟨_, rfl, (show ((-100) : Int32) = fX4_searchAll_0 σ nC S h a1 a2 a3 from by unfold fX4_searchAll_0; rw [if_neg (Bool.eq_false_iff.mp c_1)]), ht⟩) (fun _ h => nomatch h) dX4_searchAll_12

def g2X4_searchAll (σ : xSg) (nC : Nat) (S : Int32) (h : Int32) (rec : Int32 → Int32 → Bool → Int32) (a1 : Int32) (a2 : Int32) (a3 : Bool) (k : Nat) (cont : Int32 → Int32) : Nat → Nat → Int32 → Int32
  | 0, _, _ => 0
  | n2 + 1, k2, v5 => if 25 ≤ (nI k2) then (cont v5) else (if (fX4_isIn (fX2_endsFrom (σ) nC S h (nI k) a1 a2 a3) (nI k2)) = true then (g2X4_searchAll σ nC S h rec a1 a2 a3 k cont n2 (k2 + 1) (if v5 < (-(rec (a2 &&& (((1 : Int32) <<< ((nI k2) &&& 31)) ^^^ (-1))) (fX4_moved a1 (nI k) (nI k2)) (if a3 = true then (false) else (true)))) then (-(rec (a2 &&& (((1 : Int32) <<< ((nI k2) &&& 31)) ^^^ (-1))) (fX4_moved a1 (nI k) (nI k2)) (if a3 = true then (false) else (true)))) else v5)) else (g2X4_searchAll σ nC S h rec a1 a2 a3 k cont n2 (k2 + 1) v5))
def gX4_searchAll (σ : xSg) (nC : Nat) (S : Int32) (h : Int32) (rec : Int32 → Int32 → Bool → Int32) (a1 : Int32) (a2 : Int32) (a3 : Bool) : Nat → Nat → Int32 → Int32
  | 0, _, _ => 0
  | n + 1, k, v5 => if 25 ≤ (nI k) then v5 else (g2X4_searchAll σ nC S h rec a1 a2 a3 k (fun v5 => gX4_searchAll σ nC S h rec a1 a2 a3 n (k + 1) v5) 26 0 v5)
def fX4_searchAll (σ : xSg) (nC : Nat) (S : Int32) (h : Int32) (rec : Int32 → Int32 → Bool → Int32) (a1 : Int32) (a2 : Int32) (a3 : Bool) : Int32 := if (fX2_hasMove (σ) nC S h a1 a2 a3) = true then (gX4_searchAll σ nC S h rec a1 a2 a3 26 0 (-100)) else (-100)
set_option maxHeartbeats 4000000 in
set_option maxRecDepth 100000 in
theorem kX4_searchAll_s1 (l : Launch) (G : xG) (E : xE) (σ : xSg) (nC : Nat) (S : Int32) (h : Int32) (rec : Int32 → Int32 → Bool → Int32) (o : Nat) (a1 : Int32) (a2 : Int32) (a3 : Bool) (ta : Nat) (tb : Nat → Option Nat) (hE : E o = some (.inr (2, [.ref ta, .int S, .int h]))) (hT : xCardsAt G E ta tb nC σ) (hrec : ∀ (x y : Int32) (z : Bool), Met l yX4_searchAll wsX4_searchAll ({ frames := 4, cells := 0, slots := 0, locals := 105 }) (va_Pc [.ref o, .int x, .int y, .int (zI z), .int 0] (xB G E)) (vp_Si (fun r => r = rec x y z)) 0 0 (fun _ => False)) : Met l yX4_searchAll wsX4_searchAll ({ frames := 5, cells := 0, slots := 0, locals := 133 }) (va_Pc [.ref o, .int a1, .int a2, .int (zI a3), .int 1] (xB G E)) (vp_Si (fun r => r = fX4_searchAll σ nC S h rec a1 a2 a3)) 0 0 (fun _ => False) := by
  refine Met.ofW (cc := cX4_searchAll) (maxL := 9) (ret := (some .int)) (by decide) rfl ?_
  intro p e s m args below meth c s₁ B hml hv
  obtain ⟨rfl, hX, hW⟩ := hv
  have hx := B.exec
  have hb := B.bytes
  have hr := B.returns
  have hts := atoms_spec (ws := wsX4_searchAll) B.pre
  have hown : s.vm.findClass RX4 = some m.cls := findClass_of_methodNamed B.named
  have hlocks := B.notSynchronized
  have hS : va_S (xA G) s.heap s.heap [] := va_S.rf
  have hmx0 := hts (Cond.methodLink RX4 211 Lib.Math.max.name) (by decide +kernel)
  have hmx1 := hts (Cond.static Lib.Math.max.name) (by decide +kernel)
  have hmx2 := hts (Cond.initialized "java/lang/Math") (by decide +kernel)
  have hmx3 := hts (Cond.code Lib.Math.max.name Lib.Math.max.code 2 (some .int)) (by decide +kernel)
  have hl := lv_entry ([.ref o, .int a1, .int a2, .int (zI a3), .int 1]) (n := 9) (Nat.le_of_ble_eq_true rfl)
  rw [lg_entry_eq]
  generalize (lg_sl ([.ref o, .int a1, .int a2, .int (zI a3), .int 1]) ++ List.replicate (9 - (lg_sl ([.ref o, .int a1, .int a2, .int (zI a3), .int 1])).length) Slot.unset).toArray = ls at hl ⊢
  have hl : lv_has ls 9 [(0, .ref o), (1, .int a1), (2, .int a2), (3, .int (zI a3)), (4, .int 1)] := hl
  refine x_loopK (σ := Nat × Nat × Int32) 35 9 (fun x => [(0, .ref o), (1, .int a1), (2, .int a2), (3, .int (zI a3)), (4, .int 1), (6, .int (nI x.2.1)), (5, .int x.2.2)]) (fun x => fX4_searchAll σ nC S h rec a1 a2 a3 = gX4_searchAll σ nC S h rec a1 a2 a3 x.1 x.2.1 x.2.2 ∧ x.2.1 ≤ 25 ∧ x.1 + x.2.1 = 25 + 1) (fun x => x.1) ?_ (fun LP => ?_)
  · rintro ⟨n, k, v5⟩ ls ⟨hv, hk, hn⟩ hl ih
    dsimp only at hv hk hn
    rcases n with _ | n
    · omega
    · have hl : lv_has ls 9 [(0, .ref o), (1, .int a1), (2, .int a2), (3, .int (zI a3)), (4, .int 1), (6, .int (nI k)), (5, .int v5)] := hl
      refine lv_iload hx hb dX4_searchAll_35 (lv_at hl 5 rfl) ?_
      refine lv_bipush (v := 25) hx hb dX4_searchAll_37 (by decide) ?_
      refine lv_icmp_ge (tgt := 126) hx hb dX4_searchAll_39 (by decide) (fun c_1 => ?_) (fun c_1 => ?_)
      · refine lv_iload hx hb dX4_searchAll_126 (lv_at hl 6 rfl) ?_
        exact W.iret (v := v5) hx hb hr (fun t ht hw => ⟨_, rfl, (show (v5 : Int32) = fX4_searchAll σ nC S h rec a1 a2 a3 from by rw [hv, gX4_searchAll]; rw [if_pos c_1]), ht⟩) (fun _ h => nomatch h) dX4_searchAll_128
      · have hk1 : k < 25 := x_nge (B := 25) c_1 (by omega)
        refine lv_aload_n hx hb dX4_searchAll_42 rfl (lv_at hl 0 rfl) ?_
        refine lv_iload hx hb dX4_searchAll_43 (lv_at hl 5 rfl) ?_
        refine lv_iload_n hx hb dX4_searchAll_45 rfl (lv_at hl 1 rfl) ?_
        refine lv_iload_n hx hb dX4_searchAll_46 rfl (lv_at hl 2 rfl) ?_
        refine lv_iload_n hx hb dX4_searchAll_47 rfl (lv_at hl 3 rfl) ?_
        refine x_callSe (va_runV (As := [.int (nI k), .int a1, .int a2, .int (zI a3)]) (rest := []) ⟨hx, hb, hml, hown, hts⟩ (kX2_endsFrom l G _ (σ) nC S h o (nI k) a1 a2 a3 ta tb hE hT) (cwV 4 hts gX4_searchAll_X2_endsFrom rfl rfl rfl (by decide +kernel) ⟨Nat.le_of_ble_eq_true rfl, Nat.le_of_ble_eq_true rfl⟩) (x_preV hX hS hW hE rfl) rfl rfl hl.1 rfl (lv_room (Nat.le_of_ble_eq_true rfl)) dX4_searchAll_48 ⟨Nat.le_of_ble_eq_true rfl, Nat.le_of_ble_eq_true rfl⟩) ?_
        refine lv_istore (lv' := [(7, .int (fX2_endsFrom (σ) nC S h (nI k) a1 a2 a3)), (0, .ref o), (1, .int a1), (2, .int a2), (3, .int (zI a3)), (4, .int 1), (6, .int (nI k)), (5, .int v5)]) hx hb dX4_searchAll_51 hl (by decide) rfl (fun ls hl => ?_)
        refine lv_iconst (v := 0) hx hb dX4_searchAll_53 (by decide) ?_
        refine lv_istore (lv' := [(8, .int 0), (7, .int (fX2_endsFrom (σ) nC S h (nI k) a1 a2 a3)), (0, .ref o), (1, .int a1), (2, .int a2), (3, .int (zI a3)), (4, .int 1), (6, .int (nI k)), (5, .int v5)]) hx hb dX4_searchAll_54 hl (by decide) rfl (fun ls hl => ?_)
        refine x_loop (σ := Nat × Nat × Int32) 56 9 (fun x => [(7, .int (fX2_endsFrom (σ) nC S h (nI k) a1 a2 a3)), (0, .ref o), (1, .int a1), (2, .int a2), (3, .int (zI a3)), (4, .int 1), (6, .int (nI k)), (8, .int (nI x.2.1)), (5, .int x.2.2)]) (fun x => fX4_searchAll σ nC S h rec a1 a2 a3 = g2X4_searchAll σ nC S h rec a1 a2 a3 k (fun v5 => gX4_searchAll σ nC S h rec a1 a2 a3 n (k + 1) v5) x.1 x.2.1 x.2.2 ∧ x.2.1 ≤ 25 ∧ x.1 + x.2.1 = 25 + 1) (fun x => x.1) ?_ (26, 0, v5) ls ⟨by rw [hv, gX4_searchAll]; rw [if_neg c_1], by dsimp only <;> omega, by dsimp only <;> omega⟩ (lv_sub hl [1, 2, 3, 4, 5, 6, 7, 0, 8] rfl)
        rintro ⟨n2, k2, v5⟩ ls ⟨hv2, hk2, hn2⟩ hl ih2
        dsimp only at hv2 hk2 hn2
        rcases n2 with _ | n2
        · omega
        · have hl : lv_has ls 9 [(7, .int (fX2_endsFrom (σ) nC S h (nI k) a1 a2 a3)), (0, .ref o), (1, .int a1), (2, .int a2), (3, .int (zI a3)), (4, .int 1), (6, .int (nI k)), (8, .int (nI k2)), (5, .int v5)] := hl
          refine lv_iload hx hb dX4_searchAll_56 (lv_at hl 7 rfl) ?_
          refine lv_bipush (v := 25) hx hb dX4_searchAll_58 (by decide) ?_
          refine lv_icmp_ge (tgt := 120) hx hb dX4_searchAll_60 (by decide) (fun c_2 => ?_) (fun c_2 => ?_)
          · refine lv_iinc (v := nI (k + 1)) (lv' := [(6, .int (nI (k + 1))), (7, .int (fX2_endsFrom (σ) nC S h (nI k) a1 a2 a3)), (0, .ref o), (1, .int a1), (2, .int a2), (3, .int (zI a3)), (4, .int 1), (8, .int (nI k2)), (5, .int v5)]) hx hb dX4_searchAll_120 hl (k := 6) rfl (nI_1 _) (by decide) rfl (fun ls hl => ?_)
            refine lv_goto (tgt := 35) hx hb dX4_searchAll_123 (by decide) ?_
            exact ih (n, k + 1, v5) ls (Nat.lt_succ_self _) ⟨by rw [hv2, g2X4_searchAll]; rw [if_pos c_2], hk1, by dsimp only <;> omega⟩ (lv_sub hl [2, 3, 4, 5, 6, 0, 8] rfl)
          · have hk12 : k2 < 25 := x_nge (B := 25) c_2 (by omega)
            refine lv_iload hx hb dX4_searchAll_63 (lv_at hl 0 rfl) ?_
            refine lv_iload hx hb dX4_searchAll_65 (lv_at hl 7 rfl) ?_
            refine x_callSe (va_runS (As := [.int (fX2_endsFrom (σ) nC S h (nI k) a1 a2 a3), .int (nI k2)]) (rest := []) ⟨hx, hb, hml, hown, hts⟩ (kX4_isIn l (fX2_endsFrom (σ) nC S h (nI k) a1 a2 a3) (nI k2)) (va_cwS 2 hts gX4_searchAll_X4_isIn rfl rfl rfl (by decide +kernel) ⟨Nat.le_of_ble_eq_true rfl, Nat.le_of_ble_eq_true rfl⟩) x_preT rfl rfl hl.1 rfl (lv_room (Nat.le_of_ble_eq_true rfl)) dX4_searchAll_67 ⟨Nat.le_of_ble_eq_true rfl, Nat.le_of_ble_eq_true rfl⟩) ?_
            refine x_ifz_eq (b := fX4_isIn (fX2_endsFrom (σ) nC S h (nI k) a1 a2 a3) (nI k2)) (tgt := 114) hx hb dX4_searchAll_70 (by decide) (fun c_3 => ?_) (fun c_3 => ?_)
            · refine lv_iinc (v := nI (k2 + 1)) (lv' := [(8, .int (nI (k2 + 1))), (7, .int (fX2_endsFrom (σ) nC S h (nI k) a1 a2 a3)), (0, .ref o), (1, .int a1), (2, .int a2), (3, .int (zI a3)), (4, .int 1), (6, .int (nI k)), (5, .int v5)]) hx hb dX4_searchAll_114 hl (k := 7) rfl (nI_1 _) (by decide) rfl (fun ls hl => ?_)
              refine lv_goto (tgt := 56) hx hb dX4_searchAll_117 (by decide) ?_
              exact ih2 (n2, k2 + 1, v5) ls (Nat.lt_succ_self _) ⟨by rw [hv2, g2X4_searchAll]; rw [if_neg c_2, if_neg (Bool.eq_false_iff.mp c_3)], hk12, by dsimp only <;> omega⟩ (lv_sub hl [1, 2, 3, 4, 5, 6, 7, 0, 8] rfl)
            · refine lv_iload hx hb dX4_searchAll_73 (lv_at hl 8 rfl) ?_
              refine lv_aload_n hx hb dX4_searchAll_75 rfl (lv_at hl 1 rfl) ?_
              refine lv_iload_n hx hb dX4_searchAll_76 rfl (lv_at hl 3 rfl) ?_
              refine lv_iconst (v := 1) hx hb dX4_searchAll_77 (by decide) ?_
              refine lv_iload hx hb dX4_searchAll_78 (lv_at hl 7 rfl) ?_
              refine lv_ishl hx hb dX4_searchAll_80 ?_
              refine lv_iconst (v := (-1)) hx hb dX4_searchAll_81 (by decide) ?_
              refine lv_ixor hx hb dX4_searchAll_82 ?_
              refine lv_iand hx hb dX4_searchAll_83 ?_
              refine lv_iload_n hx hb dX4_searchAll_84 rfl (lv_at hl 2 rfl) ?_
              refine lv_iload hx hb dX4_searchAll_85 (lv_at hl 6 rfl) ?_
              refine lv_iload hx hb dX4_searchAll_87 (lv_at hl 7 rfl) ?_
              refine x_callSe (va_runS (As := [.int a1, .int (nI k), .int (nI k2)]) (rest := [.int (a2 &&& (((1 : Int32) <<< ((nI k2) &&& 31)) ^^^ (-1))), .ref o, .int v5]) ⟨hx, hb, hml, hown, hts⟩ (kX4_moved l a1 (nI k) (nI k2)) (va_cwS 3 hts gX4_searchAll_X4_moved rfl rfl rfl (by decide +kernel) ⟨Nat.le_of_ble_eq_true rfl, Nat.le_of_ble_eq_true rfl⟩) x_preT rfl rfl hl.1 rfl (lv_room (Nat.le_of_ble_eq_true rfl)) dX4_searchAll_89 ⟨Nat.le_of_ble_eq_true rfl, Nat.le_of_ble_eq_true rfl⟩) ?_
              refine lv_iload_n hx hb dX4_searchAll_92 rfl (lv_at hl 4 rfl) ?_
              refine x_join (ls' := ls) (rest' := [.int (fX4_moved a1 (nI k) (nI k2)), .int (a2 &&& (((1 : Int32) <<< ((nI k2) &&& 31)) ^^^ (-1))), .ref o, .int v5]) 101 (zI (if a3 = true then (false) else (true))) (fun v ev => ?_) (fun J => ?_)
              · subst ev
                refine lv_iload hx hb dX4_searchAll_101 (lv_at hl 5 rfl) ?_
                refine lv_iconst (v := 1) hx hb dX4_searchAll_103 (by decide) ?_
                refine lv_isub hx hb dX4_searchAll_104 ?_
                refine x_callSe (va_runS (As := [.ref o, .int (a2 &&& (((1 : Int32) <<< ((nI k2) &&& 31)) ^^^ (-1))), .int (fX4_moved a1 (nI k) (nI k2)), .int (zI (if a3 = true then (false) else (true))), .int ((1 : Int32) - 1)]) (rest := [.int v5]) ⟨hx, hb, hml, hown, hts⟩ (hrec (a2 &&& (((1 : Int32) <<< ((nI k2) &&& 31)) ^^^ (-1))) (fX4_moved a1 (nI k) (nI k2)) (if a3 = true then (false) else (true))) (va_cwS 5 hts gX4_searchAll_X4_searchAll rfl rfl rfl (by decide +kernel) ⟨Nat.le_of_ble_eq_true rfl, Nat.le_of_ble_eq_true rfl⟩) (x_preS hX hS hW) rfl rfl hl.1 rfl (lv_room (Nat.le_of_ble_eq_true rfl)) dX4_searchAll_105 ⟨Nat.le_of_ble_eq_true rfl, Nat.le_of_ble_eq_true rfl⟩) ?_
                refine lv_ineg hx hb dX4_searchAll_108 ?_
                refine va_mmax hx hb (hml.trans hl.1.symm) hown hmx0 hmx1 hmx2 hmx3 (Nat.le_of_ble_eq_true rfl) (Nat.le_of_ble_eq_true rfl) (Nat.le_of_ble_eq_true rfl) (Nat.le_of_ble_eq_true rfl) dX4_searchAll_109 ?_
                refine lv_istore (lv' := [(5, .int (if v5 < (-(rec (a2 &&& (((1 : Int32) <<< ((nI k2) &&& 31)) ^^^ (-1))) (fX4_moved a1 (nI k) (nI k2)) (if a3 = true then (false) else (true)))) then (-(rec (a2 &&& (((1 : Int32) <<< ((nI k2) &&& 31)) ^^^ (-1))) (fX4_moved a1 (nI k) (nI k2)) (if a3 = true then (false) else (true)))) else v5)), (7, .int (fX2_endsFrom (σ) nC S h (nI k) a1 a2 a3)), (0, .ref o), (1, .int a1), (2, .int a2), (3, .int (zI a3)), (4, .int 1), (6, .int (nI k)), (8, .int (nI k2))]) hx hb dX4_searchAll_112 hl (by decide) rfl (fun ls hl => ?_)
                refine lv_iinc (v := nI (k2 + 1)) (lv' := [(8, .int (nI (k2 + 1))), (5, .int (if v5 < (-(rec (a2 &&& (((1 : Int32) <<< ((nI k2) &&& 31)) ^^^ (-1))) (fX4_moved a1 (nI k) (nI k2)) (if a3 = true then (false) else (true)))) then (-(rec (a2 &&& (((1 : Int32) <<< ((nI k2) &&& 31)) ^^^ (-1))) (fX4_moved a1 (nI k) (nI k2)) (if a3 = true then (false) else (true)))) else v5)), (7, .int (fX2_endsFrom (σ) nC S h (nI k) a1 a2 a3)), (0, .ref o), (1, .int a1), (2, .int a2), (3, .int (zI a3)), (4, .int 1), (6, .int (nI k))]) hx hb dX4_searchAll_114 hl (k := 8) rfl (nI_1 _) (by decide) rfl (fun ls hl => ?_)
                refine lv_goto (tgt := 56) hx hb dX4_searchAll_117 (by decide) ?_
                exact ih2 (n2, k2 + 1, (if v5 < (-(rec (a2 &&& (((1 : Int32) <<< ((nI k2) &&& 31)) ^^^ (-1))) (fX4_moved a1 (nI k) (nI k2)) (if a3 = true then (false) else (true)))) then (-(rec (a2 &&& (((1 : Int32) <<< ((nI k2) &&& 31)) ^^^ (-1))) (fX4_moved a1 (nI k) (nI k2)) (if a3 = true then (false) else (true)))) else v5)) ls (Nat.lt_succ_self _) ⟨by rw [hv2, g2X4_searchAll]; rw [if_neg c_2, if_pos c_3], hk12, by dsimp only <;> omega⟩ (lv_sub hl [2, 3, 4, 5, 6, 7, 8, 0, 1] rfl)
              · refine x_ifz_ne (b := a3) (tgt := 100) hx hb dX4_searchAll_93 (by decide) (fun c_4 => ?_) (fun c_4 => ?_)
                · refine lv_iconst (v := 0) hx hb dX4_searchAll_100 (by decide) ?_
                  exact J _ (congrArg zI (show false = if a3 = true then (false) else (true) from by rw [if_pos c_4]))
                · refine lv_iconst (v := 1) hx hb dX4_searchAll_96 (by decide) ?_
                  refine lv_goto (tgt := 101) hx hb dX4_searchAll_97 (by decide) ?_
                  exact J _ (congrArg zI (show true = if a3 = true then (false) else (true) from by rw [if_neg (Bool.eq_false_iff.mp c_4)]))
  · refine lv_aload_n hx hb dX4_searchAll_0 rfl (lv_at hl 0 rfl) ?_
    refine lv_iload_n hx hb dX4_searchAll_1 rfl (lv_at hl 1 rfl) ?_
    refine lv_iload_n hx hb dX4_searchAll_2 rfl (lv_at hl 2 rfl) ?_
    refine lv_iload_n hx hb dX4_searchAll_3 rfl (lv_at hl 3 rfl) ?_
    refine x_callSe (va_runV (As := [.int a1, .int a2, .int (zI a3)]) (rest := []) ⟨hx, hb, hml, hown, hts⟩ (kX2_hasMove l G _ (σ) nC S h o a1 a2 a3 ta tb hE hT) (cwV 3 hts gX4_searchAll_X2_hasMove rfl rfl rfl (by decide +kernel) ⟨Nat.le_of_ble_eq_true rfl, Nat.le_of_ble_eq_true rfl⟩) (x_preV hX hS hW hE rfl) rfl rfl hl.1 rfl (lv_room (Nat.le_of_ble_eq_true rfl)) dX4_searchAll_4 ⟨Nat.le_of_ble_eq_true rfl, Nat.le_of_ble_eq_true rfl⟩) ?_
    refine x_ifz_ne (b := fX2_hasMove (σ) nC S h a1 a2 a3) (tgt := 13) hx hb dX4_searchAll_7 (by decide) (fun c_5 => ?_) (fun c_5 => ?_)
    · refine lv_iload hx hb dX4_searchAll_13 (lv_at hl 4 rfl) ?_
      refine lv_if_gt (tgt := 28) hx hb dX4_searchAll_15 (by decide) (fun _ => ?_) (fun c9 => absurd (by decide) c9)
      refine lv_bipush (v := (-100)) hx hb dX4_searchAll_28 (by decide) ?_
      refine lv_istore (lv' := [(5, .int (-100)), (0, .ref o), (1, .int a1), (2, .int a2), (3, .int (zI a3)), (4, .int 1)]) hx hb dX4_searchAll_30 hl (by decide) rfl (fun ls hl => ?_)
      refine lv_iconst (v := 0) hx hb dX4_searchAll_32 (by decide) ?_
      refine lv_istore (lv' := [(6, .int 0), (5, .int (-100)), (0, .ref o), (1, .int a1), (2, .int a2), (3, .int (zI a3)), (4, .int 1)]) hx hb dX4_searchAll_33 hl (by decide) rfl (fun ls hl => ?_)
      exact LP (26, 0, (-100)) ls ⟨by unfold fX4_searchAll; rw [if_pos c_5], by dsimp only <;> omega, by dsimp only <;> omega⟩ (lv_sub hl [2, 3, 4, 5, 6, 0, 1] rfl)
    · refine lv_bipush (v := (-100)) hx hb dX4_searchAll_10 (by decide) ?_
      exact W.iret (v := (-100)) hx hb hr (fun t ht hw => ⟨_, rfl, (show ((-100) : Int32) = fX4_searchAll σ nC S h rec a1 a2 a3 from by unfold fX4_searchAll; rw [if_neg (Bool.eq_false_iff.mp c_5)]), ht⟩) (fun _ h => nomatch h) dX4_searchAll_12

set_option maxHeartbeats 4000000 in
set_option maxRecDepth 100000 in
theorem kX4_searchAll_s2 (l : Launch) (G : xG) (E : xE) (σ : xSg) (nC : Nat) (S : Int32) (h : Int32) (rec : Int32 → Int32 → Bool → Int32) (o : Nat) (a1 : Int32) (a2 : Int32) (a3 : Bool) (ta : Nat) (tb : Nat → Option Nat) (hE : E o = some (.inr (2, [.ref ta, .int S, .int h]))) (hT : xCardsAt G E ta tb nC σ) (hrec : ∀ (x y : Int32) (z : Bool), Met l yX4_searchAll wsX4_searchAll ({ frames := 5, cells := 0, slots := 0, locals := 133 }) (va_Pc [.ref o, .int x, .int y, .int (zI z), .int 1] (xB G E)) (vp_Si (fun r => r = rec x y z)) 0 0 (fun _ => False)) : Met l yX4_searchAll wsX4_searchAll ({ frames := 6, cells := 0, slots := 0, locals := 161 }) (va_Pc [.ref o, .int a1, .int a2, .int (zI a3), .int 2] (xB G E)) (vp_Si (fun r => r = fX4_searchAll σ nC S h rec a1 a2 a3)) 0 0 (fun _ => False) := by
  refine Met.ofW (cc := cX4_searchAll) (maxL := 9) (ret := (some .int)) (by decide) rfl ?_
  intro p e s m args below meth c s₁ B hml hv
  obtain ⟨rfl, hX, hW⟩ := hv
  have hx := B.exec
  have hb := B.bytes
  have hr := B.returns
  have hts := atoms_spec (ws := wsX4_searchAll) B.pre
  have hown : s.vm.findClass RX4 = some m.cls := findClass_of_methodNamed B.named
  have hlocks := B.notSynchronized
  have hS : va_S (xA G) s.heap s.heap [] := va_S.rf
  have hmx0 := hts (Cond.methodLink RX4 211 Lib.Math.max.name) (by decide +kernel)
  have hmx1 := hts (Cond.static Lib.Math.max.name) (by decide +kernel)
  have hmx2 := hts (Cond.initialized "java/lang/Math") (by decide +kernel)
  have hmx3 := hts (Cond.code Lib.Math.max.name Lib.Math.max.code 2 (some .int)) (by decide +kernel)
  have hl := lv_entry ([.ref o, .int a1, .int a2, .int (zI a3), .int 2]) (n := 9) (Nat.le_of_ble_eq_true rfl)
  rw [lg_entry_eq]
  generalize (lg_sl ([.ref o, .int a1, .int a2, .int (zI a3), .int 2]) ++ List.replicate (9 - (lg_sl ([.ref o, .int a1, .int a2, .int (zI a3), .int 2])).length) Slot.unset).toArray = ls at hl ⊢
  have hl : lv_has ls 9 [(0, .ref o), (1, .int a1), (2, .int a2), (3, .int (zI a3)), (4, .int 2)] := hl
  refine x_loopK (σ := Nat × Nat × Int32) 35 9 (fun x => [(0, .ref o), (1, .int a1), (2, .int a2), (3, .int (zI a3)), (4, .int 2), (6, .int (nI x.2.1)), (5, .int x.2.2)]) (fun x => fX4_searchAll σ nC S h rec a1 a2 a3 = gX4_searchAll σ nC S h rec a1 a2 a3 x.1 x.2.1 x.2.2 ∧ x.2.1 ≤ 25 ∧ x.1 + x.2.1 = 25 + 1) (fun x => x.1) ?_ (fun LP => ?_)
  · rintro ⟨n, k, v5⟩ ls ⟨hv, hk, hn⟩ hl ih
    dsimp only at hv hk hn
    rcases n with _ | n
    · omega
    · have hl : lv_has ls 9 [(0, .ref o), (1, .int a1), (2, .int a2), (3, .int (zI a3)), (4, .int 2), (6, .int (nI k)), (5, .int v5)] := hl
      refine lv_iload hx hb dX4_searchAll_35 (lv_at hl 5 rfl) ?_
      refine lv_bipush (v := 25) hx hb dX4_searchAll_37 (by decide) ?_
      refine lv_icmp_ge (tgt := 126) hx hb dX4_searchAll_39 (by decide) (fun c_1 => ?_) (fun c_1 => ?_)
      · refine lv_iload hx hb dX4_searchAll_126 (lv_at hl 6 rfl) ?_
        exact W.iret (v := v5) hx hb hr (fun t ht hw => ⟨_, rfl, (show (v5 : Int32) = fX4_searchAll σ nC S h rec a1 a2 a3 from by rw [hv, gX4_searchAll]; rw [if_pos c_1]), ht⟩) (fun _ h => nomatch h) dX4_searchAll_128
      · have hk1 : k < 25 := x_nge (B := 25) c_1 (by omega)
        refine lv_aload_n hx hb dX4_searchAll_42 rfl (lv_at hl 0 rfl) ?_
        refine lv_iload hx hb dX4_searchAll_43 (lv_at hl 5 rfl) ?_
        refine lv_iload_n hx hb dX4_searchAll_45 rfl (lv_at hl 1 rfl) ?_
        refine lv_iload_n hx hb dX4_searchAll_46 rfl (lv_at hl 2 rfl) ?_
        refine lv_iload_n hx hb dX4_searchAll_47 rfl (lv_at hl 3 rfl) ?_
        refine x_callSe (va_runV (As := [.int (nI k), .int a1, .int a2, .int (zI a3)]) (rest := []) ⟨hx, hb, hml, hown, hts⟩ (kX2_endsFrom l G _ (σ) nC S h o (nI k) a1 a2 a3 ta tb hE hT) (cwV 4 hts gX4_searchAll_X2_endsFrom rfl rfl rfl (by decide +kernel) ⟨Nat.le_of_ble_eq_true rfl, Nat.le_of_ble_eq_true rfl⟩) (x_preV hX hS hW hE rfl) rfl rfl hl.1 rfl (lv_room (Nat.le_of_ble_eq_true rfl)) dX4_searchAll_48 ⟨Nat.le_of_ble_eq_true rfl, Nat.le_of_ble_eq_true rfl⟩) ?_
        refine lv_istore (lv' := [(7, .int (fX2_endsFrom (σ) nC S h (nI k) a1 a2 a3)), (0, .ref o), (1, .int a1), (2, .int a2), (3, .int (zI a3)), (4, .int 2), (6, .int (nI k)), (5, .int v5)]) hx hb dX4_searchAll_51 hl (by decide) rfl (fun ls hl => ?_)
        refine lv_iconst (v := 0) hx hb dX4_searchAll_53 (by decide) ?_
        refine lv_istore (lv' := [(8, .int 0), (7, .int (fX2_endsFrom (σ) nC S h (nI k) a1 a2 a3)), (0, .ref o), (1, .int a1), (2, .int a2), (3, .int (zI a3)), (4, .int 2), (6, .int (nI k)), (5, .int v5)]) hx hb dX4_searchAll_54 hl (by decide) rfl (fun ls hl => ?_)
        refine x_loop (σ := Nat × Nat × Int32) 56 9 (fun x => [(7, .int (fX2_endsFrom (σ) nC S h (nI k) a1 a2 a3)), (0, .ref o), (1, .int a1), (2, .int a2), (3, .int (zI a3)), (4, .int 2), (6, .int (nI k)), (8, .int (nI x.2.1)), (5, .int x.2.2)]) (fun x => fX4_searchAll σ nC S h rec a1 a2 a3 = g2X4_searchAll σ nC S h rec a1 a2 a3 k (fun v5 => gX4_searchAll σ nC S h rec a1 a2 a3 n (k + 1) v5) x.1 x.2.1 x.2.2 ∧ x.2.1 ≤ 25 ∧ x.1 + x.2.1 = 25 + 1) (fun x => x.1) ?_ (26, 0, v5) ls ⟨by rw [hv, gX4_searchAll]; rw [if_neg c_1], by dsimp only <;> omega, by dsimp only <;> omega⟩ (lv_sub hl [1, 2, 3, 4, 5, 6, 7, 0, 8] rfl)
        rintro ⟨n2, k2, v5⟩ ls ⟨hv2, hk2, hn2⟩ hl ih2
        dsimp only at hv2 hk2 hn2
        rcases n2 with _ | n2
        · omega
        · have hl : lv_has ls 9 [(7, .int (fX2_endsFrom (σ) nC S h (nI k) a1 a2 a3)), (0, .ref o), (1, .int a1), (2, .int a2), (3, .int (zI a3)), (4, .int 2), (6, .int (nI k)), (8, .int (nI k2)), (5, .int v5)] := hl
          refine lv_iload hx hb dX4_searchAll_56 (lv_at hl 7 rfl) ?_
          refine lv_bipush (v := 25) hx hb dX4_searchAll_58 (by decide) ?_
          refine lv_icmp_ge (tgt := 120) hx hb dX4_searchAll_60 (by decide) (fun c_2 => ?_) (fun c_2 => ?_)
          · refine lv_iinc (v := nI (k + 1)) (lv' := [(6, .int (nI (k + 1))), (7, .int (fX2_endsFrom (σ) nC S h (nI k) a1 a2 a3)), (0, .ref o), (1, .int a1), (2, .int a2), (3, .int (zI a3)), (4, .int 2), (8, .int (nI k2)), (5, .int v5)]) hx hb dX4_searchAll_120 hl (k := 6) rfl (nI_1 _) (by decide) rfl (fun ls hl => ?_)
            refine lv_goto (tgt := 35) hx hb dX4_searchAll_123 (by decide) ?_
            exact ih (n, k + 1, v5) ls (Nat.lt_succ_self _) ⟨by rw [hv2, g2X4_searchAll]; rw [if_pos c_2], hk1, by dsimp only <;> omega⟩ (lv_sub hl [2, 3, 4, 5, 6, 0, 8] rfl)
          · have hk12 : k2 < 25 := x_nge (B := 25) c_2 (by omega)
            refine lv_iload hx hb dX4_searchAll_63 (lv_at hl 0 rfl) ?_
            refine lv_iload hx hb dX4_searchAll_65 (lv_at hl 7 rfl) ?_
            refine x_callSe (va_runS (As := [.int (fX2_endsFrom (σ) nC S h (nI k) a1 a2 a3), .int (nI k2)]) (rest := []) ⟨hx, hb, hml, hown, hts⟩ (kX4_isIn l (fX2_endsFrom (σ) nC S h (nI k) a1 a2 a3) (nI k2)) (va_cwS 2 hts gX4_searchAll_X4_isIn rfl rfl rfl (by decide +kernel) ⟨Nat.le_of_ble_eq_true rfl, Nat.le_of_ble_eq_true rfl⟩) x_preT rfl rfl hl.1 rfl (lv_room (Nat.le_of_ble_eq_true rfl)) dX4_searchAll_67 ⟨Nat.le_of_ble_eq_true rfl, Nat.le_of_ble_eq_true rfl⟩) ?_
            refine x_ifz_eq (b := fX4_isIn (fX2_endsFrom (σ) nC S h (nI k) a1 a2 a3) (nI k2)) (tgt := 114) hx hb dX4_searchAll_70 (by decide) (fun c_3 => ?_) (fun c_3 => ?_)
            · refine lv_iinc (v := nI (k2 + 1)) (lv' := [(8, .int (nI (k2 + 1))), (7, .int (fX2_endsFrom (σ) nC S h (nI k) a1 a2 a3)), (0, .ref o), (1, .int a1), (2, .int a2), (3, .int (zI a3)), (4, .int 2), (6, .int (nI k)), (5, .int v5)]) hx hb dX4_searchAll_114 hl (k := 7) rfl (nI_1 _) (by decide) rfl (fun ls hl => ?_)
              refine lv_goto (tgt := 56) hx hb dX4_searchAll_117 (by decide) ?_
              exact ih2 (n2, k2 + 1, v5) ls (Nat.lt_succ_self _) ⟨by rw [hv2, g2X4_searchAll]; rw [if_neg c_2, if_neg (Bool.eq_false_iff.mp c_3)], hk12, by dsimp only <;> omega⟩ (lv_sub hl [1, 2, 3, 4, 5, 6, 7, 0, 8] rfl)
            · refine lv_iload hx hb dX4_searchAll_73 (lv_at hl 8 rfl) ?_
              refine lv_aload_n hx hb dX4_searchAll_75 rfl (lv_at hl 1 rfl) ?_
              refine lv_iload_n hx hb dX4_searchAll_76 rfl (lv_at hl 3 rfl) ?_
              refine lv_iconst (v := 1) hx hb dX4_searchAll_77 (by decide) ?_
              refine lv_iload hx hb dX4_searchAll_78 (lv_at hl 7 rfl) ?_
              refine lv_ishl hx hb dX4_searchAll_80 ?_
              refine lv_iconst (v := (-1)) hx hb dX4_searchAll_81 (by decide) ?_
              refine lv_ixor hx hb dX4_searchAll_82 ?_
              refine lv_iand hx hb dX4_searchAll_83 ?_
              refine lv_iload_n hx hb dX4_searchAll_84 rfl (lv_at hl 2 rfl) ?_
              refine lv_iload hx hb dX4_searchAll_85 (lv_at hl 6 rfl) ?_
              refine lv_iload hx hb dX4_searchAll_87 (lv_at hl 7 rfl) ?_
              refine x_callSe (va_runS (As := [.int a1, .int (nI k), .int (nI k2)]) (rest := [.int (a2 &&& (((1 : Int32) <<< ((nI k2) &&& 31)) ^^^ (-1))), .ref o, .int v5]) ⟨hx, hb, hml, hown, hts⟩ (kX4_moved l a1 (nI k) (nI k2)) (va_cwS 3 hts gX4_searchAll_X4_moved rfl rfl rfl (by decide +kernel) ⟨Nat.le_of_ble_eq_true rfl, Nat.le_of_ble_eq_true rfl⟩) x_preT rfl rfl hl.1 rfl (lv_room (Nat.le_of_ble_eq_true rfl)) dX4_searchAll_89 ⟨Nat.le_of_ble_eq_true rfl, Nat.le_of_ble_eq_true rfl⟩) ?_
              refine lv_iload_n hx hb dX4_searchAll_92 rfl (lv_at hl 4 rfl) ?_
              refine x_join (ls' := ls) (rest' := [.int (fX4_moved a1 (nI k) (nI k2)), .int (a2 &&& (((1 : Int32) <<< ((nI k2) &&& 31)) ^^^ (-1))), .ref o, .int v5]) 101 (zI (if a3 = true then (false) else (true))) (fun v ev => ?_) (fun J => ?_)
              · subst ev
                refine lv_iload hx hb dX4_searchAll_101 (lv_at hl 5 rfl) ?_
                refine lv_iconst (v := 1) hx hb dX4_searchAll_103 (by decide) ?_
                refine lv_isub hx hb dX4_searchAll_104 ?_
                refine x_callSe (va_runS (As := [.ref o, .int (a2 &&& (((1 : Int32) <<< ((nI k2) &&& 31)) ^^^ (-1))), .int (fX4_moved a1 (nI k) (nI k2)), .int (zI (if a3 = true then (false) else (true))), .int ((2 : Int32) - 1)]) (rest := [.int v5]) ⟨hx, hb, hml, hown, hts⟩ (hrec (a2 &&& (((1 : Int32) <<< ((nI k2) &&& 31)) ^^^ (-1))) (fX4_moved a1 (nI k) (nI k2)) (if a3 = true then (false) else (true))) (va_cwS 5 hts gX4_searchAll_X4_searchAll rfl rfl rfl (by decide +kernel) ⟨Nat.le_of_ble_eq_true rfl, Nat.le_of_ble_eq_true rfl⟩) (x_preS hX hS hW) rfl rfl hl.1 rfl (lv_room (Nat.le_of_ble_eq_true rfl)) dX4_searchAll_105 ⟨Nat.le_of_ble_eq_true rfl, Nat.le_of_ble_eq_true rfl⟩) ?_
                refine lv_ineg hx hb dX4_searchAll_108 ?_
                refine va_mmax hx hb (hml.trans hl.1.symm) hown hmx0 hmx1 hmx2 hmx3 (Nat.le_of_ble_eq_true rfl) (Nat.le_of_ble_eq_true rfl) (Nat.le_of_ble_eq_true rfl) (Nat.le_of_ble_eq_true rfl) dX4_searchAll_109 ?_
                refine lv_istore (lv' := [(5, .int (if v5 < (-(rec (a2 &&& (((1 : Int32) <<< ((nI k2) &&& 31)) ^^^ (-1))) (fX4_moved a1 (nI k) (nI k2)) (if a3 = true then (false) else (true)))) then (-(rec (a2 &&& (((1 : Int32) <<< ((nI k2) &&& 31)) ^^^ (-1))) (fX4_moved a1 (nI k) (nI k2)) (if a3 = true then (false) else (true)))) else v5)), (7, .int (fX2_endsFrom (σ) nC S h (nI k) a1 a2 a3)), (0, .ref o), (1, .int a1), (2, .int a2), (3, .int (zI a3)), (4, .int 2), (6, .int (nI k)), (8, .int (nI k2))]) hx hb dX4_searchAll_112 hl (by decide) rfl (fun ls hl => ?_)
                refine lv_iinc (v := nI (k2 + 1)) (lv' := [(8, .int (nI (k2 + 1))), (5, .int (if v5 < (-(rec (a2 &&& (((1 : Int32) <<< ((nI k2) &&& 31)) ^^^ (-1))) (fX4_moved a1 (nI k) (nI k2)) (if a3 = true then (false) else (true)))) then (-(rec (a2 &&& (((1 : Int32) <<< ((nI k2) &&& 31)) ^^^ (-1))) (fX4_moved a1 (nI k) (nI k2)) (if a3 = true then (false) else (true)))) else v5)), (7, .int (fX2_endsFrom (σ) nC S h (nI k) a1 a2 a3)), (0, .ref o), (1, .int a1), (2, .int a2), (3, .int (zI a3)), (4, .int 2), (6, .int (nI k))]) hx hb dX4_searchAll_114 hl (k := 8) rfl (nI_1 _) (by decide) rfl (fun ls hl => ?_)
                refine lv_goto (tgt := 56) hx hb dX4_searchAll_117 (by decide) ?_
                exact ih2 (n2, k2 + 1, (if v5 < (-(rec (a2 &&& (((1 : Int32) <<< ((nI k2) &&& 31)) ^^^ (-1))) (fX4_moved a1 (nI k) (nI k2)) (if a3 = true then (false) else (true)))) then (-(rec (a2 &&& (((1 : Int32) <<< ((nI k2) &&& 31)) ^^^ (-1))) (fX4_moved a1 (nI k) (nI k2)) (if a3 = true then (false) else (true)))) else v5)) ls (Nat.lt_succ_self _) ⟨by rw [hv2, g2X4_searchAll]; rw [if_neg c_2, if_pos c_3], hk12, by dsimp only <;> omega⟩ (lv_sub hl [2, 3, 4, 5, 6, 7, 8, 0, 1] rfl)
              · refine x_ifz_ne (b := a3) (tgt := 100) hx hb dX4_searchAll_93 (by decide) (fun c_4 => ?_) (fun c_4 => ?_)
                · refine lv_iconst (v := 0) hx hb dX4_searchAll_100 (by decide) ?_
                  exact J _ (congrArg zI (show false = if a3 = true then (false) else (true) from by rw [if_pos c_4]))
                · refine lv_iconst (v := 1) hx hb dX4_searchAll_96 (by decide) ?_
                  refine lv_goto (tgt := 101) hx hb dX4_searchAll_97 (by decide) ?_
                  exact J _ (congrArg zI (show true = if a3 = true then (false) else (true) from by rw [if_neg (Bool.eq_false_iff.mp c_4)]))
  · refine lv_aload_n hx hb dX4_searchAll_0 rfl (lv_at hl 0 rfl) ?_
    refine lv_iload_n hx hb dX4_searchAll_1 rfl (lv_at hl 1 rfl) ?_
    refine lv_iload_n hx hb dX4_searchAll_2 rfl (lv_at hl 2 rfl) ?_
    refine lv_iload_n hx hb dX4_searchAll_3 rfl (lv_at hl 3 rfl) ?_
    refine x_callSe (va_runV (As := [.int a1, .int a2, .int (zI a3)]) (rest := []) ⟨hx, hb, hml, hown, hts⟩ (kX2_hasMove l G _ (σ) nC S h o a1 a2 a3 ta tb hE hT) (cwV 3 hts gX4_searchAll_X2_hasMove rfl rfl rfl (by decide +kernel) ⟨Nat.le_of_ble_eq_true rfl, Nat.le_of_ble_eq_true rfl⟩) (x_preV hX hS hW hE rfl) rfl rfl hl.1 rfl (lv_room (Nat.le_of_ble_eq_true rfl)) dX4_searchAll_4 ⟨Nat.le_of_ble_eq_true rfl, Nat.le_of_ble_eq_true rfl⟩) ?_
    refine x_ifz_ne (b := fX2_hasMove (σ) nC S h a1 a2 a3) (tgt := 13) hx hb dX4_searchAll_7 (by decide) (fun c_5 => ?_) (fun c_5 => ?_)
    · refine lv_iload hx hb dX4_searchAll_13 (lv_at hl 4 rfl) ?_
      refine lv_if_gt (tgt := 28) hx hb dX4_searchAll_15 (by decide) (fun _ => ?_) (fun c9 => absurd (by decide) c9)
      refine lv_bipush (v := (-100)) hx hb dX4_searchAll_28 (by decide) ?_
      refine lv_istore (lv' := [(5, .int (-100)), (0, .ref o), (1, .int a1), (2, .int a2), (3, .int (zI a3)), (4, .int 2)]) hx hb dX4_searchAll_30 hl (by decide) rfl (fun ls hl => ?_)
      refine lv_iconst (v := 0) hx hb dX4_searchAll_32 (by decide) ?_
      refine lv_istore (lv' := [(6, .int 0), (5, .int (-100)), (0, .ref o), (1, .int a1), (2, .int a2), (3, .int (zI a3)), (4, .int 2)]) hx hb dX4_searchAll_33 hl (by decide) rfl (fun ls hl => ?_)
      exact LP (26, 0, (-100)) ls ⟨by unfold fX4_searchAll; rw [if_pos c_5], by dsimp only <;> omega, by dsimp only <;> omega⟩ (lv_sub hl [2, 3, 4, 5, 6, 0, 1] rfl)
    · refine lv_bipush (v := (-100)) hx hb dX4_searchAll_10 (by decide) ?_
      exact W.iret (v := (-100)) hx hb hr (fun t ht hw => ⟨_, rfl, (show ((-100) : Int32) = fX4_searchAll σ nC S h rec a1 a2 a3 from by unfold fX4_searchAll; rw [if_neg (Bool.eq_false_iff.mp c_5)]), ht⟩) (fun _ h => nomatch h) dX4_searchAll_12

def fX4_searchWithCuts_0 (σ : xSg) (nC : Nat) (S : Int32) (h : Int32) (a1 : Int32) (a2 : Int32) (a3 : Bool) (a5 : Int32) (a6 : Int32) : Int32 := if (fX2_hasMove (σ) nC S h a1 a2 a3) = true then ((fJ6_bitCount_0f7a4 a1) - (fJ6_bitCount_0f7a4 a2)) else (-100)
set_option maxHeartbeats 4000000 in
set_option maxRecDepth 100000 in
theorem kX4_searchWithCuts_0 (l : Launch) (G : xG) (E : xE) (σ : xSg) (nC : Nat) (S : Int32) (h : Int32) (o : Nat) (a1 : Int32) (a2 : Int32) (a3 : Bool) (a5 : Int32) (a6 : Int32) (ta : Nat) (tb : Nat → Option Nat) (hE : E o = some (.inr (2, [.ref ta, .int S, .int h]))) (hT : xCardsAt G E ta tb nC σ) : Met l yX4_searchWithCuts wsX4_searchWithCuts ({ frames := 4, cells := 0, slots := 0, locals := 105 }) (va_Pc [.ref o, .int a1, .int a2, .int (zI a3), .int 0, .int a5, .int a6] (xB G E)) (vp_Si (fun r => r = fX4_searchWithCuts_0 σ nC S h a1 a2 a3 a5 a6)) 0 0 (fun _ => False) := by
  refine Met.ofW (cc := cX4_searchWithCuts) (maxL := 12) (ret := (some .int)) (by decide) rfl ?_
  intro p e s m args below meth c s₁ B hml hv
  obtain ⟨rfl, hX, hW⟩ := hv
  have hx := B.exec
  have hb := B.bytes
  have hr := B.returns
  have hts := atoms_spec (ws := wsX4_searchWithCuts) B.pre
  have hown : s.vm.findClass RX4 = some m.cls := findClass_of_methodNamed B.named
  have hlocks := B.notSynchronized
  have hS : va_S (xA G) s.heap s.heap [] := va_S.rf
  have hl := lv_entry ([.ref o, .int a1, .int a2, .int (zI a3), .int 0, .int a5, .int a6]) (n := 12) (Nat.le_of_ble_eq_true rfl)
  rw [lg_entry_eq]
  generalize (lg_sl ([.ref o, .int a1, .int a2, .int (zI a3), .int 0, .int a5, .int a6]) ++ List.replicate (12 - (lg_sl ([.ref o, .int a1, .int a2, .int (zI a3), .int 0, .int a5, .int a6])).length) Slot.unset).toArray = ls at hl ⊢
  have hl : lv_has ls 12 [(0, .ref o), (1, .int a1), (2, .int a2), (3, .int (zI a3)), (4, .int 0), (5, .int a5), (6, .int a6)] := hl
  refine lv_aload_n hx hb dX4_searchWithCuts_0 rfl (lv_at hl 0 rfl) ?_
  refine lv_iload_n hx hb dX4_searchWithCuts_1 rfl (lv_at hl 1 rfl) ?_
  refine lv_iload_n hx hb dX4_searchWithCuts_2 rfl (lv_at hl 2 rfl) ?_
  refine lv_iload_n hx hb dX4_searchWithCuts_3 rfl (lv_at hl 3 rfl) ?_
  refine x_callSe (va_runV (As := [.int a1, .int a2, .int (zI a3)]) (rest := []) ⟨hx, hb, hml, hown, hts⟩ (kX2_hasMove l G _ (σ) nC S h o a1 a2 a3 ta tb hE hT) (cwV 3 hts gX4_searchWithCuts_X2_hasMove rfl rfl rfl (by decide +kernel) ⟨Nat.le_of_ble_eq_true rfl, Nat.le_of_ble_eq_true rfl⟩) (x_preV hX hS hW hE rfl) rfl rfl hl.1 rfl (lv_room (Nat.le_of_ble_eq_true rfl)) dX4_searchWithCuts_4 ⟨Nat.le_of_ble_eq_true rfl, Nat.le_of_ble_eq_true rfl⟩) ?_
  refine x_ifz_ne (b := fX2_hasMove (σ) nC S h a1 a2 a3) (tgt := 13) hx hb dX4_searchWithCuts_7 (by decide) (fun c_1 => ?_) (fun c_1 => ?_)
  · refine lv_iload hx hb dX4_searchWithCuts_13 (lv_at hl 4 rfl) ?_
    refine lv_if_gt (tgt := 28) hx hb dX4_searchWithCuts_15 (by decide) (fun c9 => absurd c9 (by decide)) (fun _ => ?_)
    refine lv_iload_n hx hb dX4_searchWithCuts_18 rfl (lv_at hl 1 rfl) ?_
    refine x_callSe (va_runS (As := [.int a1]) (rest := []) ⟨hx, hb, hml, hown, hts⟩ (kJ6_bitCount_0f7a4 l a1) (va_cwS 1 hts gX4_searchWithCuts_J6_bitCount_0f7a4 rfl rfl rfl (by decide +kernel) ⟨Nat.le_of_ble_eq_true rfl, Nat.le_of_ble_eq_true rfl⟩) x_preT rfl rfl hl.1 rfl (lv_room (Nat.le_of_ble_eq_true rfl)) dX4_searchWithCuts_19 ⟨Nat.le_of_ble_eq_true rfl, Nat.le_of_ble_eq_true rfl⟩) ?_
    refine lv_iload_n hx hb dX4_searchWithCuts_22 rfl (lv_at hl 2 rfl) ?_
    refine x_callSe (va_runS (As := [.int a2]) (rest := [.int (fJ6_bitCount_0f7a4 a1)]) ⟨hx, hb, hml, hown, hts⟩ (kJ6_bitCount_0f7a4 l a2) (va_cwS 1 hts gX4_searchWithCuts_J6_bitCount_0f7a4 rfl rfl rfl (by decide +kernel) ⟨Nat.le_of_ble_eq_true rfl, Nat.le_of_ble_eq_true rfl⟩) x_preT rfl rfl hl.1 rfl (lv_room (Nat.le_of_ble_eq_true rfl)) dX4_searchWithCuts_23 ⟨Nat.le_of_ble_eq_true rfl, Nat.le_of_ble_eq_true rfl⟩) ?_
    refine lv_isub hx hb dX4_searchWithCuts_26 ?_
    exact W.iret (v := (fJ6_bitCount_0f7a4 a1) - (fJ6_bitCount_0f7a4 a2)) hx hb hr (fun t ht hw => ⟨_, rfl, (show ((fJ6_bitCount_0f7a4 a1) - (fJ6_bitCount_0f7a4 a2) : Int32) = fX4_searchWithCuts_0 σ nC S h a1 a2 a3 a5 a6 from by unfold fX4_searchWithCuts_0; rw [if_pos c_1]), ht⟩) (fun _ h => nomatch h) dX4_searchWithCuts_27
  · refine lv_bipush (v := (-100)) hx hb dX4_searchWithCuts_10 (by decide) ?_
    exact W.iret (v := (-100)) hx hb hr (fun t ht hw => ⟨_, rfl, (show ((-100) : Int32) = fX4_searchWithCuts_0 σ nC S h a1 a2 a3 a5 a6 from by unfold fX4_searchWithCuts_0; rw [if_neg (Bool.eq_false_iff.mp c_1)]), ht⟩) (fun _ h => nomatch h) dX4_searchWithCuts_12

def g2X4_searchWithCuts (σ : xSg) (nC : Nat) (S : Int32) (h : Int32) (rec : Int32 → Int32 → Bool → Int32 → Int32 → Int32) (a1 : Int32) (a2 : Int32) (a3 : Bool) (a5 : Int32) (a6 : Int32) (k : Nat) (cont : Int32 → Int32) : Nat → Nat → Int32 → Int32
  | 0, _, _ => 0
  | n2 + 1, k2, v7 => if 25 ≤ (nI k2) then (cont v7) else (if (fX4_isIn (fX2_endsFrom (σ) nC S h (nI k) a1 a2 a3) (nI k2)) = true then (if (if v7 < (-(rec (a2 &&& (((1 : Int32) <<< ((nI k2) &&& 31)) ^^^ (-1))) (fX4_moved a1 (nI k) (nI k2)) (if a3 = true then (false) else (true)) (-a6) (-(if a5 < v7 then v7 else a5)))) then (-(rec (a2 &&& (((1 : Int32) <<< ((nI k2) &&& 31)) ^^^ (-1))) (fX4_moved a1 (nI k) (nI k2)) (if a3 = true then (false) else (true)) (-a6) (-(if a5 < v7 then v7 else a5)))) else v7) < a6 then (g2X4_searchWithCuts σ nC S h rec a1 a2 a3 a5 a6 k cont n2 (k2 + 1) (if v7 < (-(rec (a2 &&& (((1 : Int32) <<< ((nI k2) &&& 31)) ^^^ (-1))) (fX4_moved a1 (nI k) (nI k2)) (if a3 = true then (false) else (true)) (-a6) (-(if a5 < v7 then v7 else a5)))) then (-(rec (a2 &&& (((1 : Int32) <<< ((nI k2) &&& 31)) ^^^ (-1))) (fX4_moved a1 (nI k) (nI k2)) (if a3 = true then (false) else (true)) (-a6) (-(if a5 < v7 then v7 else a5)))) else v7)) else (if v7 < (-(rec (a2 &&& (((1 : Int32) <<< ((nI k2) &&& 31)) ^^^ (-1))) (fX4_moved a1 (nI k) (nI k2)) (if a3 = true then (false) else (true)) (-a6) (-(if a5 < v7 then v7 else a5)))) then (-(rec (a2 &&& (((1 : Int32) <<< ((nI k2) &&& 31)) ^^^ (-1))) (fX4_moved a1 (nI k) (nI k2)) (if a3 = true then (false) else (true)) (-a6) (-(if a5 < v7 then v7 else a5)))) else v7)) else (g2X4_searchWithCuts σ nC S h rec a1 a2 a3 a5 a6 k cont n2 (k2 + 1) v7))
def gX4_searchWithCuts (σ : xSg) (nC : Nat) (S : Int32) (h : Int32) (rec : Int32 → Int32 → Bool → Int32 → Int32 → Int32) (a1 : Int32) (a2 : Int32) (a3 : Bool) (a5 : Int32) (a6 : Int32) : Nat → Nat → Int32 → Int32
  | 0, _, _ => 0
  | n + 1, k, v7 => if 25 ≤ (nI k) then v7 else (g2X4_searchWithCuts σ nC S h rec a1 a2 a3 a5 a6 k (fun v7 => gX4_searchWithCuts σ nC S h rec a1 a2 a3 a5 a6 n (k + 1) v7) 26 0 v7)
def fX4_searchWithCuts (σ : xSg) (nC : Nat) (S : Int32) (h : Int32) (rec : Int32 → Int32 → Bool → Int32 → Int32 → Int32) (a1 : Int32) (a2 : Int32) (a3 : Bool) (a5 : Int32) (a6 : Int32) : Int32 := if (fX2_hasMove (σ) nC S h a1 a2 a3) = true then (gX4_searchWithCuts σ nC S h rec a1 a2 a3 a5 a6 26 0 (-100)) else (-100)
set_option maxHeartbeats 4000000 in
set_option maxRecDepth 100000 in
theorem kX4_searchWithCuts_s1 (l : Launch) (G : xG) (E : xE) (σ : xSg) (nC : Nat) (S : Int32) (h : Int32) (rec : Int32 → Int32 → Bool → Int32 → Int32 → Int32) (o : Nat) (a1 : Int32) (a2 : Int32) (a3 : Bool) (a5 : Int32) (a6 : Int32) (ta : Nat) (tb : Nat → Option Nat) (hE : E o = some (.inr (2, [.ref ta, .int S, .int h]))) (hT : xCardsAt G E ta tb nC σ) (hrec : ∀ (x y : Int32) (z : Bool) (e0 : Int32) (e1 : Int32), Met l yX4_searchWithCuts wsX4_searchWithCuts ({ frames := 4, cells := 0, slots := 0, locals := 105 }) (va_Pc [.ref o, .int x, .int y, .int (zI z), .int 0, .int e0, .int e1] (xB G E)) (vp_Si (fun r => r = rec x y z e0 e1)) 0 0 (fun _ => False)) : Met l yX4_searchWithCuts wsX4_searchWithCuts ({ frames := 5, cells := 0, slots := 0, locals := 136 }) (va_Pc [.ref o, .int a1, .int a2, .int (zI a3), .int 1, .int a5, .int a6] (xB G E)) (vp_Si (fun r => r = fX4_searchWithCuts σ nC S h rec a1 a2 a3 a5 a6)) 0 0 (fun _ => False) := by
  refine Met.ofW (cc := cX4_searchWithCuts) (maxL := 12) (ret := (some .int)) (by decide) rfl ?_
  intro p e s m args below meth c s₁ B hml hv
  obtain ⟨rfl, hX, hW⟩ := hv
  have hx := B.exec
  have hb := B.bytes
  have hr := B.returns
  have hts := atoms_spec (ws := wsX4_searchWithCuts) B.pre
  have hown : s.vm.findClass RX4 = some m.cls := findClass_of_methodNamed B.named
  have hlocks := B.notSynchronized
  have hS : va_S (xA G) s.heap s.heap [] := va_S.rf
  have hmx0 := hts (Cond.methodLink RX4 211 Lib.Math.max.name) (by decide +kernel)
  have hmx1 := hts (Cond.static Lib.Math.max.name) (by decide +kernel)
  have hmx2 := hts (Cond.initialized "java/lang/Math") (by decide +kernel)
  have hmx3 := hts (Cond.code Lib.Math.max.name Lib.Math.max.code 2 (some .int)) (by decide +kernel)
  have hl := lv_entry ([.ref o, .int a1, .int a2, .int (zI a3), .int 1, .int a5, .int a6]) (n := 12) (Nat.le_of_ble_eq_true rfl)
  rw [lg_entry_eq]
  generalize (lg_sl ([.ref o, .int a1, .int a2, .int (zI a3), .int 1, .int a5, .int a6]) ++ List.replicate (12 - (lg_sl ([.ref o, .int a1, .int a2, .int (zI a3), .int 1, .int a5, .int a6])).length) Slot.unset).toArray = ls at hl ⊢
  have hl : lv_has ls 12 [(0, .ref o), (1, .int a1), (2, .int a2), (3, .int (zI a3)), (4, .int 1), (5, .int a5), (6, .int a6)] := hl
  refine x_loopK (σ := Nat × Nat × Int32) 35 12 (fun x => [(0, .ref o), (1, .int a1), (2, .int a2), (3, .int (zI a3)), (4, .int 1), (5, .int a5), (6, .int a6), (8, .int (nI x.2.1)), (7, .int x.2.2)]) (fun x => fX4_searchWithCuts σ nC S h rec a1 a2 a3 a5 a6 = gX4_searchWithCuts σ nC S h rec a1 a2 a3 a5 a6 x.1 x.2.1 x.2.2 ∧ x.2.1 ≤ 25 ∧ x.1 + x.2.1 = 25 + 1) (fun x => x.1) ?_ (fun LP => ?_)
  · rintro ⟨n, k, v7⟩ ls ⟨hv, hk, hn⟩ hl ih
    dsimp only at hv hk hn
    rcases n with _ | n
    · omega
    · have hl : lv_has ls 12 [(0, .ref o), (1, .int a1), (2, .int a2), (3, .int (zI a3)), (4, .int 1), (5, .int a5), (6, .int a6), (8, .int (nI k)), (7, .int v7)] := hl
      refine lv_iload hx hb dX4_searchWithCuts_35 (lv_at hl 7 rfl) ?_
      refine lv_bipush (v := 25) hx hb dX4_searchWithCuts_37 (by decide) ?_
      refine lv_icmp_ge (tgt := 151) hx hb dX4_searchWithCuts_39 (by decide) (fun c_1 => ?_) (fun c_1 => ?_)
      · refine lv_iload hx hb dX4_searchWithCuts_151 (lv_at hl 8 rfl) ?_
        exact W.iret (v := v7) hx hb hr (fun t ht hw => ⟨_, rfl, (show (v7 : Int32) = fX4_searchWithCuts σ nC S h rec a1 a2 a3 a5 a6 from by rw [hv, gX4_searchWithCuts]; rw [if_pos c_1]), ht⟩) (fun _ h => nomatch h) dX4_searchWithCuts_153
      · have hk1 : k < 25 := x_nge (B := 25) c_1 (by omega)
        refine lv_aload_n hx hb dX4_searchWithCuts_42 rfl (lv_at hl 0 rfl) ?_
        refine lv_iload hx hb dX4_searchWithCuts_43 (lv_at hl 7 rfl) ?_
        refine lv_iload_n hx hb dX4_searchWithCuts_45 rfl (lv_at hl 1 rfl) ?_
        refine lv_iload_n hx hb dX4_searchWithCuts_46 rfl (lv_at hl 2 rfl) ?_
        refine lv_iload_n hx hb dX4_searchWithCuts_47 rfl (lv_at hl 3 rfl) ?_
        refine x_callSe (va_runV (As := [.int (nI k), .int a1, .int a2, .int (zI a3)]) (rest := []) ⟨hx, hb, hml, hown, hts⟩ (kX2_endsFrom l G _ (σ) nC S h o (nI k) a1 a2 a3 ta tb hE hT) (cwV 4 hts gX4_searchWithCuts_X2_endsFrom rfl rfl rfl (by decide +kernel) ⟨Nat.le_of_ble_eq_true rfl, Nat.le_of_ble_eq_true rfl⟩) (x_preV hX hS hW hE rfl) rfl rfl hl.1 rfl (lv_room (Nat.le_of_ble_eq_true rfl)) dX4_searchWithCuts_48 ⟨Nat.le_of_ble_eq_true rfl, Nat.le_of_ble_eq_true rfl⟩) ?_
        refine lv_istore (lv' := [(9, .int (fX2_endsFrom (σ) nC S h (nI k) a1 a2 a3)), (0, .ref o), (1, .int a1), (2, .int a2), (3, .int (zI a3)), (4, .int 1), (5, .int a5), (6, .int a6), (8, .int (nI k)), (7, .int v7)]) hx hb dX4_searchWithCuts_51 hl (by decide) rfl (fun ls hl => ?_)
        refine lv_iconst (v := 0) hx hb dX4_searchWithCuts_53 (by decide) ?_
        refine lv_istore (lv' := [(10, .int 0), (9, .int (fX2_endsFrom (σ) nC S h (nI k) a1 a2 a3)), (0, .ref o), (1, .int a1), (2, .int a2), (3, .int (zI a3)), (4, .int 1), (5, .int a5), (6, .int a6), (8, .int (nI k)), (7, .int v7)]) hx hb dX4_searchWithCuts_54 hl (by decide) rfl (fun ls hl => ?_)
        refine x_loop (σ := Nat × Nat × Int32) 56 12 (fun x => [(9, .int (fX2_endsFrom (σ) nC S h (nI k) a1 a2 a3)), (0, .ref o), (1, .int a1), (2, .int a2), (3, .int (zI a3)), (4, .int 1), (5, .int a5), (6, .int a6), (8, .int (nI k)), (10, .int (nI x.2.1)), (7, .int x.2.2)]) (fun x => fX4_searchWithCuts σ nC S h rec a1 a2 a3 a5 a6 = g2X4_searchWithCuts σ nC S h rec a1 a2 a3 a5 a6 k (fun v7 => gX4_searchWithCuts σ nC S h rec a1 a2 a3 a5 a6 n (k + 1) v7) x.1 x.2.1 x.2.2 ∧ x.2.1 ≤ 25 ∧ x.1 + x.2.1 = 25 + 1) (fun x => x.1) ?_ (26, 0, v7) ls ⟨by rw [hv, gX4_searchWithCuts]; rw [if_neg c_1], by dsimp only <;> omega, by dsimp only <;> omega⟩ (lv_sub hl [1, 2, 3, 4, 5, 6, 7, 8, 9, 0, 10] rfl)
        rintro ⟨n2, k2, v7⟩ ls ⟨hv2, hk2, hn2⟩ hl ih2
        dsimp only at hv2 hk2 hn2
        rcases n2 with _ | n2
        · omega
        · have hl : lv_has ls 12 [(9, .int (fX2_endsFrom (σ) nC S h (nI k) a1 a2 a3)), (0, .ref o), (1, .int a1), (2, .int a2), (3, .int (zI a3)), (4, .int 1), (5, .int a5), (6, .int a6), (8, .int (nI k)), (10, .int (nI k2)), (7, .int v7)] := hl
          refine lv_iload hx hb dX4_searchWithCuts_56 (lv_at hl 9 rfl) ?_
          refine lv_bipush (v := 25) hx hb dX4_searchWithCuts_58 (by decide) ?_
          refine lv_icmp_ge (tgt := 145) hx hb dX4_searchWithCuts_60 (by decide) (fun c_2 => ?_) (fun c_2 => ?_)
          · refine lv_iinc (v := nI (k + 1)) (lv' := [(8, .int (nI (k + 1))), (9, .int (fX2_endsFrom (σ) nC S h (nI k) a1 a2 a3)), (0, .ref o), (1, .int a1), (2, .int a2), (3, .int (zI a3)), (4, .int 1), (5, .int a5), (6, .int a6), (10, .int (nI k2)), (7, .int v7)]) hx hb dX4_searchWithCuts_145 hl (k := 8) rfl (nI_1 _) (by decide) rfl (fun ls hl => ?_)
            refine lv_goto (tgt := 35) hx hb dX4_searchWithCuts_148 (by decide) ?_
            exact ih (n, k + 1, v7) ls (Nat.lt_succ_self _) ⟨by rw [hv2, g2X4_searchWithCuts]; rw [if_pos c_2], hk1, by dsimp only <;> omega⟩ (lv_sub hl [2, 3, 4, 5, 6, 7, 8, 0, 10] rfl)
          · have hk12 : k2 < 25 := x_nge (B := 25) c_2 (by omega)
            refine lv_iload hx hb dX4_searchWithCuts_63 (lv_at hl 0 rfl) ?_
            refine lv_iload hx hb dX4_searchWithCuts_65 (lv_at hl 9 rfl) ?_
            refine x_callSe (va_runS (As := [.int (fX2_endsFrom (σ) nC S h (nI k) a1 a2 a3), .int (nI k2)]) (rest := []) ⟨hx, hb, hml, hown, hts⟩ (kX4_isIn l (fX2_endsFrom (σ) nC S h (nI k) a1 a2 a3) (nI k2)) (va_cwS 2 hts gX4_searchWithCuts_X4_isIn rfl rfl rfl (by decide +kernel) ⟨Nat.le_of_ble_eq_true rfl, Nat.le_of_ble_eq_true rfl⟩) x_preT rfl rfl hl.1 rfl (lv_room (Nat.le_of_ble_eq_true rfl)) dX4_searchWithCuts_67 ⟨Nat.le_of_ble_eq_true rfl, Nat.le_of_ble_eq_true rfl⟩) ?_
            refine x_ifz_eq (b := fX4_isIn (fX2_endsFrom (σ) nC S h (nI k) a1 a2 a3) (nI k2)) (tgt := 139) hx hb dX4_searchWithCuts_70 (by decide) (fun c_3 => ?_) (fun c_3 => ?_)
            · refine lv_iinc (v := nI (k2 + 1)) (lv' := [(10, .int (nI (k2 + 1))), (9, .int (fX2_endsFrom (σ) nC S h (nI k) a1 a2 a3)), (0, .ref o), (1, .int a1), (2, .int a2), (3, .int (zI a3)), (4, .int 1), (5, .int a5), (6, .int a6), (8, .int (nI k)), (7, .int v7)]) hx hb dX4_searchWithCuts_139 hl (k := 9) rfl (nI_1 _) (by decide) rfl (fun ls hl => ?_)
              refine lv_goto (tgt := 56) hx hb dX4_searchWithCuts_142 (by decide) ?_
              exact ih2 (n2, k2 + 1, v7) ls (Nat.lt_succ_self _) ⟨by rw [hv2, g2X4_searchWithCuts]; rw [if_neg c_2, if_neg (Bool.eq_false_iff.mp c_3)], hk12, by dsimp only <;> omega⟩ (lv_sub hl [1, 2, 3, 4, 5, 6, 7, 8, 9, 0, 10] rfl)
            · refine lv_aload_n hx hb dX4_searchWithCuts_73 rfl (lv_at hl 1 rfl) ?_
              refine lv_iload_n hx hb dX4_searchWithCuts_74 rfl (lv_at hl 3 rfl) ?_
              refine lv_iconst (v := 1) hx hb dX4_searchWithCuts_75 (by decide) ?_
              refine lv_iload hx hb dX4_searchWithCuts_76 (lv_at hl 9 rfl) ?_
              refine lv_ishl hx hb dX4_searchWithCuts_78 ?_
              refine lv_iconst (v := (-1)) hx hb dX4_searchWithCuts_79 (by decide) ?_
              refine lv_ixor hx hb dX4_searchWithCuts_80 ?_
              refine lv_iand hx hb dX4_searchWithCuts_81 ?_
              refine lv_iload_n hx hb dX4_searchWithCuts_82 rfl (lv_at hl 2 rfl) ?_
              refine lv_iload hx hb dX4_searchWithCuts_83 (lv_at hl 8 rfl) ?_
              refine lv_iload hx hb dX4_searchWithCuts_85 (lv_at hl 9 rfl) ?_
              refine x_callSe (va_runS (As := [.int a1, .int (nI k), .int (nI k2)]) (rest := [.int (a2 &&& (((1 : Int32) <<< ((nI k2) &&& 31)) ^^^ (-1))), .ref o]) ⟨hx, hb, hml, hown, hts⟩ (kX4_moved l a1 (nI k) (nI k2)) (va_cwS 3 hts gX4_searchWithCuts_X4_moved rfl rfl rfl (by decide +kernel) ⟨Nat.le_of_ble_eq_true rfl, Nat.le_of_ble_eq_true rfl⟩) x_preT rfl rfl hl.1 rfl (lv_room (Nat.le_of_ble_eq_true rfl)) dX4_searchWithCuts_87 ⟨Nat.le_of_ble_eq_true rfl, Nat.le_of_ble_eq_true rfl⟩) ?_
              refine lv_iload_n hx hb dX4_searchWithCuts_90 rfl (lv_at hl 4 rfl) ?_
              refine x_join (ls' := ls) (rest' := [.int (fX4_moved a1 (nI k) (nI k2)), .int (a2 &&& (((1 : Int32) <<< ((nI k2) &&& 31)) ^^^ (-1))), .ref o]) 99 (zI (if a3 = true then (false) else (true))) (fun v ev => ?_) (fun J => ?_)
              · subst ev
                refine lv_iload hx hb dX4_searchWithCuts_99 (lv_at hl 5 rfl) ?_
                refine lv_iconst (v := 1) hx hb dX4_searchWithCuts_101 (by decide) ?_
                refine lv_isub hx hb dX4_searchWithCuts_102 ?_
                refine lv_iload hx hb dX4_searchWithCuts_103 (lv_at hl 7 rfl) ?_
                refine lv_ineg hx hb dX4_searchWithCuts_105 ?_
                refine lv_iload hx hb dX4_searchWithCuts_106 (lv_at hl 6 rfl) ?_
                refine lv_iload hx hb dX4_searchWithCuts_108 (lv_at hl 10 rfl) ?_
                refine va_mmax hx hb (hml.trans hl.1.symm) hown hmx0 hmx1 hmx2 hmx3 (Nat.le_of_ble_eq_true rfl) (Nat.le_of_ble_eq_true rfl) (Nat.le_of_ble_eq_true rfl) (Nat.le_of_ble_eq_true rfl) dX4_searchWithCuts_110 ?_
                refine lv_ineg hx hb dX4_searchWithCuts_113 ?_
                refine x_callSe (va_runS (As := [.ref o, .int (a2 &&& (((1 : Int32) <<< ((nI k2) &&& 31)) ^^^ (-1))), .int (fX4_moved a1 (nI k) (nI k2)), .int (zI (if a3 = true then (false) else (true))), .int ((1 : Int32) - 1), .int (-a6), .int (-(if a5 < v7 then v7 else a5))]) (rest := []) ⟨hx, hb, hml, hown, hts⟩ (hrec (a2 &&& (((1 : Int32) <<< ((nI k2) &&& 31)) ^^^ (-1))) (fX4_moved a1 (nI k) (nI k2)) (if a3 = true then (false) else (true)) (-a6) (-(if a5 < v7 then v7 else a5))) (va_cwS 7 hts gX4_searchWithCuts_X4_searchWithCuts rfl rfl rfl (by decide +kernel) ⟨Nat.le_of_ble_eq_true rfl, Nat.le_of_ble_eq_true rfl⟩) (x_preS hX hS hW) rfl rfl hl.1 rfl (lv_room (Nat.le_of_ble_eq_true rfl)) dX4_searchWithCuts_114 ⟨Nat.le_of_ble_eq_true rfl, Nat.le_of_ble_eq_true rfl⟩) ?_
                refine lv_ineg hx hb dX4_searchWithCuts_117 ?_
                refine lv_istore (lv' := [(11, .int (-(rec (a2 &&& (((1 : Int32) <<< ((nI k2) &&& 31)) ^^^ (-1))) (fX4_moved a1 (nI k) (nI k2)) (if a3 = true then (false) else (true)) (-a6) (-(if a5 < v7 then v7 else a5))))), (9, .int (fX2_endsFrom (σ) nC S h (nI k) a1 a2 a3)), (0, .ref o), (1, .int a1), (2, .int a2), (3, .int (zI a3)), (4, .int 1), (5, .int a5), (6, .int a6), (8, .int (nI k)), (10, .int (nI k2)), (7, .int v7)]) hx hb dX4_searchWithCuts_118 hl (by decide) rfl (fun ls hl => ?_)
                refine lv_iload hx hb dX4_searchWithCuts_120 (lv_at hl 11 rfl) ?_
                refine lv_iload hx hb dX4_searchWithCuts_122 (lv_at hl 0 rfl) ?_
                refine va_mmax hx hb (hml.trans hl.1.symm) hown hmx0 hmx1 hmx2 hmx3 (Nat.le_of_ble_eq_true rfl) (Nat.le_of_ble_eq_true rfl) (Nat.le_of_ble_eq_true rfl) (Nat.le_of_ble_eq_true rfl) dX4_searchWithCuts_124 ?_
                refine lv_istore (lv' := [(7, .int (if v7 < (-(rec (a2 &&& (((1 : Int32) <<< ((nI k2) &&& 31)) ^^^ (-1))) (fX4_moved a1 (nI k) (nI k2)) (if a3 = true then (false) else (true)) (-a6) (-(if a5 < v7 then v7 else a5)))) then (-(rec (a2 &&& (((1 : Int32) <<< ((nI k2) &&& 31)) ^^^ (-1))) (fX4_moved a1 (nI k) (nI k2)) (if a3 = true then (false) else (true)) (-a6) (-(if a5 < v7 then v7 else a5)))) else v7)), (11, .int (-(rec (a2 &&& (((1 : Int32) <<< ((nI k2) &&& 31)) ^^^ (-1))) (fX4_moved a1 (nI k) (nI k2)) (if a3 = true then (false) else (true)) (-a6) (-(if a5 < v7 then v7 else a5))))), (9, .int (fX2_endsFrom (σ) nC S h (nI k) a1 a2 a3)), (0, .ref o), (1, .int a1), (2, .int a2), (3, .int (zI a3)), (4, .int 1), (5, .int a5), (6, .int a6), (8, .int (nI k)), (10, .int (nI k2))]) hx hb dX4_searchWithCuts_127 hl (by decide) rfl (fun ls hl => ?_)
                refine lv_iload hx hb dX4_searchWithCuts_129 (lv_at hl 0 rfl) ?_
                refine lv_iload hx hb dX4_searchWithCuts_131 (lv_at hl 9 rfl) ?_
                refine lv_icmp_lt (tgt := 139) hx hb dX4_searchWithCuts_133 (by decide) (fun c_5 => ?_) (fun c_5 => ?_)
                · refine lv_iinc (v := nI (k2 + 1)) (lv' := [(10, .int (nI (k2 + 1))), (7, .int (if v7 < (-(rec (a2 &&& (((1 : Int32) <<< ((nI k2) &&& 31)) ^^^ (-1))) (fX4_moved a1 (nI k) (nI k2)) (if a3 = true then (false) else (true)) (-a6) (-(if a5 < v7 then v7 else a5)))) then (-(rec (a2 &&& (((1 : Int32) <<< ((nI k2) &&& 31)) ^^^ (-1))) (fX4_moved a1 (nI k) (nI k2)) (if a3 = true then (false) else (true)) (-a6) (-(if a5 < v7 then v7 else a5)))) else v7)), (11, .int (-(rec (a2 &&& (((1 : Int32) <<< ((nI k2) &&& 31)) ^^^ (-1))) (fX4_moved a1 (nI k) (nI k2)) (if a3 = true then (false) else (true)) (-a6) (-(if a5 < v7 then v7 else a5))))), (9, .int (fX2_endsFrom (σ) nC S h (nI k) a1 a2 a3)), (0, .ref o), (1, .int a1), (2, .int a2), (3, .int (zI a3)), (4, .int 1), (5, .int a5), (6, .int a6), (8, .int (nI k))]) hx hb dX4_searchWithCuts_139 hl (k := 11) rfl (nI_1 _) (by decide) rfl (fun ls hl => ?_)
                  refine lv_goto (tgt := 56) hx hb dX4_searchWithCuts_142 (by decide) ?_
                  exact ih2 (n2, k2 + 1, (if v7 < (-(rec (a2 &&& (((1 : Int32) <<< ((nI k2) &&& 31)) ^^^ (-1))) (fX4_moved a1 (nI k) (nI k2)) (if a3 = true then (false) else (true)) (-a6) (-(if a5 < v7 then v7 else a5)))) then (-(rec (a2 &&& (((1 : Int32) <<< ((nI k2) &&& 31)) ^^^ (-1))) (fX4_moved a1 (nI k) (nI k2)) (if a3 = true then (false) else (true)) (-a6) (-(if a5 < v7 then v7 else a5)))) else v7)) ls (Nat.lt_succ_self _) ⟨by rw [hv2, g2X4_searchWithCuts]; rw [if_neg c_2, if_pos c_3, if_pos c_5], hk12, by dsimp only <;> omega⟩ (lv_sub hl [3, 4, 5, 6, 7, 8, 9, 10, 11, 0, 1] rfl)
                · refine lv_iload hx hb dX4_searchWithCuts_136 (lv_at hl 0 rfl) ?_
                  exact W.iret (v := if v7 < (-(rec (a2 &&& (((1 : Int32) <<< ((nI k2) &&& 31)) ^^^ (-1))) (fX4_moved a1 (nI k) (nI k2)) (if a3 = true then (false) else (true)) (-a6) (-(if a5 < v7 then v7 else a5)))) then (-(rec (a2 &&& (((1 : Int32) <<< ((nI k2) &&& 31)) ^^^ (-1))) (fX4_moved a1 (nI k) (nI k2)) (if a3 = true then (false) else (true)) (-a6) (-(if a5 < v7 then v7 else a5)))) else v7) hx hb hr (fun t ht hw => ⟨_, rfl, (show (if v7 < (-(rec (a2 &&& (((1 : Int32) <<< ((nI k2) &&& 31)) ^^^ (-1))) (fX4_moved a1 (nI k) (nI k2)) (if a3 = true then (false) else (true)) (-a6) (-(if a5 < v7 then v7 else a5)))) then (-(rec (a2 &&& (((1 : Int32) <<< ((nI k2) &&& 31)) ^^^ (-1))) (fX4_moved a1 (nI k) (nI k2)) (if a3 = true then (false) else (true)) (-a6) (-(if a5 < v7 then v7 else a5)))) else v7 : Int32) = fX4_searchWithCuts σ nC S h rec a1 a2 a3 a5 a6 from by rw [hv2, g2X4_searchWithCuts]; rw [if_neg c_2, if_pos c_3, if_neg c_5]), ht⟩) (fun _ h => nomatch h) dX4_searchWithCuts_138
              · refine x_ifz_ne (b := a3) (tgt := 98) hx hb dX4_searchWithCuts_91 (by decide) (fun c_4 => ?_) (fun c_4 => ?_)
                · refine lv_iconst (v := 0) hx hb dX4_searchWithCuts_98 (by decide) ?_
                  exact J _ (congrArg zI (show false = if a3 = true then (false) else (true) from by rw [if_pos c_4]))
                · refine lv_iconst (v := 1) hx hb dX4_searchWithCuts_94 (by decide) ?_
                  refine lv_goto (tgt := 99) hx hb dX4_searchWithCuts_95 (by decide) ?_
                  exact J _ (congrArg zI (show true = if a3 = true then (false) else (true) from by rw [if_neg (Bool.eq_false_iff.mp c_4)]))
  · refine lv_aload_n hx hb dX4_searchWithCuts_0 rfl (lv_at hl 0 rfl) ?_
    refine lv_iload_n hx hb dX4_searchWithCuts_1 rfl (lv_at hl 1 rfl) ?_
    refine lv_iload_n hx hb dX4_searchWithCuts_2 rfl (lv_at hl 2 rfl) ?_
    refine lv_iload_n hx hb dX4_searchWithCuts_3 rfl (lv_at hl 3 rfl) ?_
    refine x_callSe (va_runV (As := [.int a1, .int a2, .int (zI a3)]) (rest := []) ⟨hx, hb, hml, hown, hts⟩ (kX2_hasMove l G _ (σ) nC S h o a1 a2 a3 ta tb hE hT) (cwV 3 hts gX4_searchWithCuts_X2_hasMove rfl rfl rfl (by decide +kernel) ⟨Nat.le_of_ble_eq_true rfl, Nat.le_of_ble_eq_true rfl⟩) (x_preV hX hS hW hE rfl) rfl rfl hl.1 rfl (lv_room (Nat.le_of_ble_eq_true rfl)) dX4_searchWithCuts_4 ⟨Nat.le_of_ble_eq_true rfl, Nat.le_of_ble_eq_true rfl⟩) ?_
    refine x_ifz_ne (b := fX2_hasMove (σ) nC S h a1 a2 a3) (tgt := 13) hx hb dX4_searchWithCuts_7 (by decide) (fun c_6 => ?_) (fun c_6 => ?_)
    · refine lv_iload hx hb dX4_searchWithCuts_13 (lv_at hl 4 rfl) ?_
      refine lv_if_gt (tgt := 28) hx hb dX4_searchWithCuts_15 (by decide) (fun _ => ?_) (fun c9 => absurd (by decide) c9)
      refine lv_bipush (v := (-100)) hx hb dX4_searchWithCuts_28 (by decide) ?_
      refine lv_istore (lv' := [(7, .int (-100)), (0, .ref o), (1, .int a1), (2, .int a2), (3, .int (zI a3)), (4, .int 1), (5, .int a5), (6, .int a6)]) hx hb dX4_searchWithCuts_30 hl (by decide) rfl (fun ls hl => ?_)
      refine lv_iconst (v := 0) hx hb dX4_searchWithCuts_32 (by decide) ?_
      refine lv_istore (lv' := [(8, .int 0), (7, .int (-100)), (0, .ref o), (1, .int a1), (2, .int a2), (3, .int (zI a3)), (4, .int 1), (5, .int a5), (6, .int a6)]) hx hb dX4_searchWithCuts_33 hl (by decide) rfl (fun ls hl => ?_)
      exact LP (26, 0, (-100)) ls ⟨by unfold fX4_searchWithCuts; rw [if_pos c_6], by dsimp only <;> omega, by dsimp only <;> omega⟩ (lv_sub hl [2, 3, 4, 5, 6, 7, 8, 0, 1] rfl)
    · refine lv_bipush (v := (-100)) hx hb dX4_searchWithCuts_10 (by decide) ?_
      exact W.iret (v := (-100)) hx hb hr (fun t ht hw => ⟨_, rfl, (show ((-100) : Int32) = fX4_searchWithCuts σ nC S h rec a1 a2 a3 a5 a6 from by unfold fX4_searchWithCuts; rw [if_neg (Bool.eq_false_iff.mp c_6)]), ht⟩) (fun _ h => nomatch h) dX4_searchWithCuts_12

set_option maxHeartbeats 4000000 in
set_option maxRecDepth 100000 in
theorem kX4_searchWithCuts_s2 (l : Launch) (G : xG) (E : xE) (σ : xSg) (nC : Nat) (S : Int32) (h : Int32) (rec : Int32 → Int32 → Bool → Int32 → Int32 → Int32) (o : Nat) (a1 : Int32) (a2 : Int32) (a3 : Bool) (a5 : Int32) (a6 : Int32) (ta : Nat) (tb : Nat → Option Nat) (hE : E o = some (.inr (2, [.ref ta, .int S, .int h]))) (hT : xCardsAt G E ta tb nC σ) (hrec : ∀ (x y : Int32) (z : Bool) (e0 : Int32) (e1 : Int32), Met l yX4_searchWithCuts wsX4_searchWithCuts ({ frames := 5, cells := 0, slots := 0, locals := 136 }) (va_Pc [.ref o, .int x, .int y, .int (zI z), .int 1, .int e0, .int e1] (xB G E)) (vp_Si (fun r => r = rec x y z e0 e1)) 0 0 (fun _ => False)) : Met l yX4_searchWithCuts wsX4_searchWithCuts ({ frames := 6, cells := 0, slots := 0, locals := 167 }) (va_Pc [.ref o, .int a1, .int a2, .int (zI a3), .int 2, .int a5, .int a6] (xB G E)) (vp_Si (fun r => r = fX4_searchWithCuts σ nC S h rec a1 a2 a3 a5 a6)) 0 0 (fun _ => False) := by
  refine Met.ofW (cc := cX4_searchWithCuts) (maxL := 12) (ret := (some .int)) (by decide) rfl ?_
  intro p e s m args below meth c s₁ B hml hv
  obtain ⟨rfl, hX, hW⟩ := hv
  have hx := B.exec
  have hb := B.bytes
  have hr := B.returns
  have hts := atoms_spec (ws := wsX4_searchWithCuts) B.pre
  have hown : s.vm.findClass RX4 = some m.cls := findClass_of_methodNamed B.named
  have hlocks := B.notSynchronized
  have hS : va_S (xA G) s.heap s.heap [] := va_S.rf
  have hmx0 := hts (Cond.methodLink RX4 211 Lib.Math.max.name) (by decide +kernel)
  have hmx1 := hts (Cond.static Lib.Math.max.name) (by decide +kernel)
  have hmx2 := hts (Cond.initialized "java/lang/Math") (by decide +kernel)
  have hmx3 := hts (Cond.code Lib.Math.max.name Lib.Math.max.code 2 (some .int)) (by decide +kernel)
  have hl := lv_entry ([.ref o, .int a1, .int a2, .int (zI a3), .int 2, .int a5, .int a6]) (n := 12) (Nat.le_of_ble_eq_true rfl)
  rw [lg_entry_eq]
  generalize (lg_sl ([.ref o, .int a1, .int a2, .int (zI a3), .int 2, .int a5, .int a6]) ++ List.replicate (12 - (lg_sl ([.ref o, .int a1, .int a2, .int (zI a3), .int 2, .int a5, .int a6])).length) Slot.unset).toArray = ls at hl ⊢
  have hl : lv_has ls 12 [(0, .ref o), (1, .int a1), (2, .int a2), (3, .int (zI a3)), (4, .int 2), (5, .int a5), (6, .int a6)] := hl
  refine x_loopK (σ := Nat × Nat × Int32) 35 12 (fun x => [(0, .ref o), (1, .int a1), (2, .int a2), (3, .int (zI a3)), (4, .int 2), (5, .int a5), (6, .int a6), (8, .int (nI x.2.1)), (7, .int x.2.2)]) (fun x => fX4_searchWithCuts σ nC S h rec a1 a2 a3 a5 a6 = gX4_searchWithCuts σ nC S h rec a1 a2 a3 a5 a6 x.1 x.2.1 x.2.2 ∧ x.2.1 ≤ 25 ∧ x.1 + x.2.1 = 25 + 1) (fun x => x.1) ?_ (fun LP => ?_)
  · rintro ⟨n, k, v7⟩ ls ⟨hv, hk, hn⟩ hl ih
    dsimp only at hv hk hn
    rcases n with _ | n
    · omega
    · have hl : lv_has ls 12 [(0, .ref o), (1, .int a1), (2, .int a2), (3, .int (zI a3)), (4, .int 2), (5, .int a5), (6, .int a6), (8, .int (nI k)), (7, .int v7)] := hl
      refine lv_iload hx hb dX4_searchWithCuts_35 (lv_at hl 7 rfl) ?_
      refine lv_bipush (v := 25) hx hb dX4_searchWithCuts_37 (by decide) ?_
      refine lv_icmp_ge (tgt := 151) hx hb dX4_searchWithCuts_39 (by decide) (fun c_1 => ?_) (fun c_1 => ?_)
      · refine lv_iload hx hb dX4_searchWithCuts_151 (lv_at hl 8 rfl) ?_
        exact W.iret (v := v7) hx hb hr (fun t ht hw => ⟨_, rfl, (show (v7 : Int32) = fX4_searchWithCuts σ nC S h rec a1 a2 a3 a5 a6 from by rw [hv, gX4_searchWithCuts]; rw [if_pos c_1]), ht⟩) (fun _ h => nomatch h) dX4_searchWithCuts_153
      · have hk1 : k < 25 := x_nge (B := 25) c_1 (by omega)
        refine lv_aload_n hx hb dX4_searchWithCuts_42 rfl (lv_at hl 0 rfl) ?_
        refine lv_iload hx hb dX4_searchWithCuts_43 (lv_at hl 7 rfl) ?_
        refine lv_iload_n hx hb dX4_searchWithCuts_45 rfl (lv_at hl 1 rfl) ?_
        refine lv_iload_n hx hb dX4_searchWithCuts_46 rfl (lv_at hl 2 rfl) ?_
        refine lv_iload_n hx hb dX4_searchWithCuts_47 rfl (lv_at hl 3 rfl) ?_
        refine x_callSe (va_runV (As := [.int (nI k), .int a1, .int a2, .int (zI a3)]) (rest := []) ⟨hx, hb, hml, hown, hts⟩ (kX2_endsFrom l G _ (σ) nC S h o (nI k) a1 a2 a3 ta tb hE hT) (cwV 4 hts gX4_searchWithCuts_X2_endsFrom rfl rfl rfl (by decide +kernel) ⟨Nat.le_of_ble_eq_true rfl, Nat.le_of_ble_eq_true rfl⟩) (x_preV hX hS hW hE rfl) rfl rfl hl.1 rfl (lv_room (Nat.le_of_ble_eq_true rfl)) dX4_searchWithCuts_48 ⟨Nat.le_of_ble_eq_true rfl, Nat.le_of_ble_eq_true rfl⟩) ?_
        refine lv_istore (lv' := [(9, .int (fX2_endsFrom (σ) nC S h (nI k) a1 a2 a3)), (0, .ref o), (1, .int a1), (2, .int a2), (3, .int (zI a3)), (4, .int 2), (5, .int a5), (6, .int a6), (8, .int (nI k)), (7, .int v7)]) hx hb dX4_searchWithCuts_51 hl (by decide) rfl (fun ls hl => ?_)
        refine lv_iconst (v := 0) hx hb dX4_searchWithCuts_53 (by decide) ?_
        refine lv_istore (lv' := [(10, .int 0), (9, .int (fX2_endsFrom (σ) nC S h (nI k) a1 a2 a3)), (0, .ref o), (1, .int a1), (2, .int a2), (3, .int (zI a3)), (4, .int 2), (5, .int a5), (6, .int a6), (8, .int (nI k)), (7, .int v7)]) hx hb dX4_searchWithCuts_54 hl (by decide) rfl (fun ls hl => ?_)
        refine x_loop (σ := Nat × Nat × Int32) 56 12 (fun x => [(9, .int (fX2_endsFrom (σ) nC S h (nI k) a1 a2 a3)), (0, .ref o), (1, .int a1), (2, .int a2), (3, .int (zI a3)), (4, .int 2), (5, .int a5), (6, .int a6), (8, .int (nI k)), (10, .int (nI x.2.1)), (7, .int x.2.2)]) (fun x => fX4_searchWithCuts σ nC S h rec a1 a2 a3 a5 a6 = g2X4_searchWithCuts σ nC S h rec a1 a2 a3 a5 a6 k (fun v7 => gX4_searchWithCuts σ nC S h rec a1 a2 a3 a5 a6 n (k + 1) v7) x.1 x.2.1 x.2.2 ∧ x.2.1 ≤ 25 ∧ x.1 + x.2.1 = 25 + 1) (fun x => x.1) ?_ (26, 0, v7) ls ⟨by rw [hv, gX4_searchWithCuts]; rw [if_neg c_1], by dsimp only <;> omega, by dsimp only <;> omega⟩ (lv_sub hl [1, 2, 3, 4, 5, 6, 7, 8, 9, 0, 10] rfl)
        rintro ⟨n2, k2, v7⟩ ls ⟨hv2, hk2, hn2⟩ hl ih2
        dsimp only at hv2 hk2 hn2
        rcases n2 with _ | n2
        · omega
        · have hl : lv_has ls 12 [(9, .int (fX2_endsFrom (σ) nC S h (nI k) a1 a2 a3)), (0, .ref o), (1, .int a1), (2, .int a2), (3, .int (zI a3)), (4, .int 2), (5, .int a5), (6, .int a6), (8, .int (nI k)), (10, .int (nI k2)), (7, .int v7)] := hl
          refine lv_iload hx hb dX4_searchWithCuts_56 (lv_at hl 9 rfl) ?_
          refine lv_bipush (v := 25) hx hb dX4_searchWithCuts_58 (by decide) ?_
          refine lv_icmp_ge (tgt := 145) hx hb dX4_searchWithCuts_60 (by decide) (fun c_2 => ?_) (fun c_2 => ?_)
          · refine lv_iinc (v := nI (k + 1)) (lv' := [(8, .int (nI (k + 1))), (9, .int (fX2_endsFrom (σ) nC S h (nI k) a1 a2 a3)), (0, .ref o), (1, .int a1), (2, .int a2), (3, .int (zI a3)), (4, .int 2), (5, .int a5), (6, .int a6), (10, .int (nI k2)), (7, .int v7)]) hx hb dX4_searchWithCuts_145 hl (k := 8) rfl (nI_1 _) (by decide) rfl (fun ls hl => ?_)
            refine lv_goto (tgt := 35) hx hb dX4_searchWithCuts_148 (by decide) ?_
            exact ih (n, k + 1, v7) ls (Nat.lt_succ_self _) ⟨by rw [hv2, g2X4_searchWithCuts]; rw [if_pos c_2], hk1, by dsimp only <;> omega⟩ (lv_sub hl [2, 3, 4, 5, 6, 7, 8, 0, 10] rfl)
          · have hk12 : k2 < 25 := x_nge (B := 25) c_2 (by omega)
            refine lv_iload hx hb dX4_searchWithCuts_63 (lv_at hl 0 rfl) ?_
            refine lv_iload hx hb dX4_searchWithCuts_65 (lv_at hl 9 rfl) ?_
            refine x_callSe (va_runS (As := [.int (fX2_endsFrom (σ) nC S h (nI k) a1 a2 a3), .int (nI k2)]) (rest := []) ⟨hx, hb, hml, hown, hts⟩ (kX4_isIn l (fX2_endsFrom (σ) nC S h (nI k) a1 a2 a3) (nI k2)) (va_cwS 2 hts gX4_searchWithCuts_X4_isIn rfl rfl rfl (by decide +kernel) ⟨Nat.le_of_ble_eq_true rfl, Nat.le_of_ble_eq_true rfl⟩) x_preT rfl rfl hl.1 rfl (lv_room (Nat.le_of_ble_eq_true rfl)) dX4_searchWithCuts_67 ⟨Nat.le_of_ble_eq_true rfl, Nat.le_of_ble_eq_true rfl⟩) ?_
            refine x_ifz_eq (b := fX4_isIn (fX2_endsFrom (σ) nC S h (nI k) a1 a2 a3) (nI k2)) (tgt := 139) hx hb dX4_searchWithCuts_70 (by decide) (fun c_3 => ?_) (fun c_3 => ?_)
            · refine lv_iinc (v := nI (k2 + 1)) (lv' := [(10, .int (nI (k2 + 1))), (9, .int (fX2_endsFrom (σ) nC S h (nI k) a1 a2 a3)), (0, .ref o), (1, .int a1), (2, .int a2), (3, .int (zI a3)), (4, .int 2), (5, .int a5), (6, .int a6), (8, .int (nI k)), (7, .int v7)]) hx hb dX4_searchWithCuts_139 hl (k := 9) rfl (nI_1 _) (by decide) rfl (fun ls hl => ?_)
              refine lv_goto (tgt := 56) hx hb dX4_searchWithCuts_142 (by decide) ?_
              exact ih2 (n2, k2 + 1, v7) ls (Nat.lt_succ_self _) ⟨by rw [hv2, g2X4_searchWithCuts]; rw [if_neg c_2, if_neg (Bool.eq_false_iff.mp c_3)], hk12, by dsimp only <;> omega⟩ (lv_sub hl [1, 2, 3, 4, 5, 6, 7, 8, 9, 0, 10] rfl)
            · refine lv_aload_n hx hb dX4_searchWithCuts_73 rfl (lv_at hl 1 rfl) ?_
              refine lv_iload_n hx hb dX4_searchWithCuts_74 rfl (lv_at hl 3 rfl) ?_
              refine lv_iconst (v := 1) hx hb dX4_searchWithCuts_75 (by decide) ?_
              refine lv_iload hx hb dX4_searchWithCuts_76 (lv_at hl 9 rfl) ?_
              refine lv_ishl hx hb dX4_searchWithCuts_78 ?_
              refine lv_iconst (v := (-1)) hx hb dX4_searchWithCuts_79 (by decide) ?_
              refine lv_ixor hx hb dX4_searchWithCuts_80 ?_
              refine lv_iand hx hb dX4_searchWithCuts_81 ?_
              refine lv_iload_n hx hb dX4_searchWithCuts_82 rfl (lv_at hl 2 rfl) ?_
              refine lv_iload hx hb dX4_searchWithCuts_83 (lv_at hl 8 rfl) ?_
              refine lv_iload hx hb dX4_searchWithCuts_85 (lv_at hl 9 rfl) ?_
              refine x_callSe (va_runS (As := [.int a1, .int (nI k), .int (nI k2)]) (rest := [.int (a2 &&& (((1 : Int32) <<< ((nI k2) &&& 31)) ^^^ (-1))), .ref o]) ⟨hx, hb, hml, hown, hts⟩ (kX4_moved l a1 (nI k) (nI k2)) (va_cwS 3 hts gX4_searchWithCuts_X4_moved rfl rfl rfl (by decide +kernel) ⟨Nat.le_of_ble_eq_true rfl, Nat.le_of_ble_eq_true rfl⟩) x_preT rfl rfl hl.1 rfl (lv_room (Nat.le_of_ble_eq_true rfl)) dX4_searchWithCuts_87 ⟨Nat.le_of_ble_eq_true rfl, Nat.le_of_ble_eq_true rfl⟩) ?_
              refine lv_iload_n hx hb dX4_searchWithCuts_90 rfl (lv_at hl 4 rfl) ?_
              refine x_join (ls' := ls) (rest' := [.int (fX4_moved a1 (nI k) (nI k2)), .int (a2 &&& (((1 : Int32) <<< ((nI k2) &&& 31)) ^^^ (-1))), .ref o]) 99 (zI (if a3 = true then (false) else (true))) (fun v ev => ?_) (fun J => ?_)
              · subst ev
                refine lv_iload hx hb dX4_searchWithCuts_99 (lv_at hl 5 rfl) ?_
                refine lv_iconst (v := 1) hx hb dX4_searchWithCuts_101 (by decide) ?_
                refine lv_isub hx hb dX4_searchWithCuts_102 ?_
                refine lv_iload hx hb dX4_searchWithCuts_103 (lv_at hl 7 rfl) ?_
                refine lv_ineg hx hb dX4_searchWithCuts_105 ?_
                refine lv_iload hx hb dX4_searchWithCuts_106 (lv_at hl 6 rfl) ?_
                refine lv_iload hx hb dX4_searchWithCuts_108 (lv_at hl 10 rfl) ?_
                refine va_mmax hx hb (hml.trans hl.1.symm) hown hmx0 hmx1 hmx2 hmx3 (Nat.le_of_ble_eq_true rfl) (Nat.le_of_ble_eq_true rfl) (Nat.le_of_ble_eq_true rfl) (Nat.le_of_ble_eq_true rfl) dX4_searchWithCuts_110 ?_
                refine lv_ineg hx hb dX4_searchWithCuts_113 ?_
                refine x_callSe (va_runS (As := [.ref o, .int (a2 &&& (((1 : Int32) <<< ((nI k2) &&& 31)) ^^^ (-1))), .int (fX4_moved a1 (nI k) (nI k2)), .int (zI (if a3 = true then (false) else (true))), .int ((2 : Int32) - 1), .int (-a6), .int (-(if a5 < v7 then v7 else a5))]) (rest := []) ⟨hx, hb, hml, hown, hts⟩ (hrec (a2 &&& (((1 : Int32) <<< ((nI k2) &&& 31)) ^^^ (-1))) (fX4_moved a1 (nI k) (nI k2)) (if a3 = true then (false) else (true)) (-a6) (-(if a5 < v7 then v7 else a5))) (va_cwS 7 hts gX4_searchWithCuts_X4_searchWithCuts rfl rfl rfl (by decide +kernel) ⟨Nat.le_of_ble_eq_true rfl, Nat.le_of_ble_eq_true rfl⟩) (x_preS hX hS hW) rfl rfl hl.1 rfl (lv_room (Nat.le_of_ble_eq_true rfl)) dX4_searchWithCuts_114 ⟨Nat.le_of_ble_eq_true rfl, Nat.le_of_ble_eq_true rfl⟩) ?_
                refine lv_ineg hx hb dX4_searchWithCuts_117 ?_
                refine lv_istore (lv' := [(11, .int (-(rec (a2 &&& (((1 : Int32) <<< ((nI k2) &&& 31)) ^^^ (-1))) (fX4_moved a1 (nI k) (nI k2)) (if a3 = true then (false) else (true)) (-a6) (-(if a5 < v7 then v7 else a5))))), (9, .int (fX2_endsFrom (σ) nC S h (nI k) a1 a2 a3)), (0, .ref o), (1, .int a1), (2, .int a2), (3, .int (zI a3)), (4, .int 2), (5, .int a5), (6, .int a6), (8, .int (nI k)), (10, .int (nI k2)), (7, .int v7)]) hx hb dX4_searchWithCuts_118 hl (by decide) rfl (fun ls hl => ?_)
                refine lv_iload hx hb dX4_searchWithCuts_120 (lv_at hl 11 rfl) ?_
                refine lv_iload hx hb dX4_searchWithCuts_122 (lv_at hl 0 rfl) ?_
                refine va_mmax hx hb (hml.trans hl.1.symm) hown hmx0 hmx1 hmx2 hmx3 (Nat.le_of_ble_eq_true rfl) (Nat.le_of_ble_eq_true rfl) (Nat.le_of_ble_eq_true rfl) (Nat.le_of_ble_eq_true rfl) dX4_searchWithCuts_124 ?_
                refine lv_istore (lv' := [(7, .int (if v7 < (-(rec (a2 &&& (((1 : Int32) <<< ((nI k2) &&& 31)) ^^^ (-1))) (fX4_moved a1 (nI k) (nI k2)) (if a3 = true then (false) else (true)) (-a6) (-(if a5 < v7 then v7 else a5)))) then (-(rec (a2 &&& (((1 : Int32) <<< ((nI k2) &&& 31)) ^^^ (-1))) (fX4_moved a1 (nI k) (nI k2)) (if a3 = true then (false) else (true)) (-a6) (-(if a5 < v7 then v7 else a5)))) else v7)), (11, .int (-(rec (a2 &&& (((1 : Int32) <<< ((nI k2) &&& 31)) ^^^ (-1))) (fX4_moved a1 (nI k) (nI k2)) (if a3 = true then (false) else (true)) (-a6) (-(if a5 < v7 then v7 else a5))))), (9, .int (fX2_endsFrom (σ) nC S h (nI k) a1 a2 a3)), (0, .ref o), (1, .int a1), (2, .int a2), (3, .int (zI a3)), (4, .int 2), (5, .int a5), (6, .int a6), (8, .int (nI k)), (10, .int (nI k2))]) hx hb dX4_searchWithCuts_127 hl (by decide) rfl (fun ls hl => ?_)
                refine lv_iload hx hb dX4_searchWithCuts_129 (lv_at hl 0 rfl) ?_
                refine lv_iload hx hb dX4_searchWithCuts_131 (lv_at hl 9 rfl) ?_
                refine lv_icmp_lt (tgt := 139) hx hb dX4_searchWithCuts_133 (by decide) (fun c_5 => ?_) (fun c_5 => ?_)
                · refine lv_iinc (v := nI (k2 + 1)) (lv' := [(10, .int (nI (k2 + 1))), (7, .int (if v7 < (-(rec (a2 &&& (((1 : Int32) <<< ((nI k2) &&& 31)) ^^^ (-1))) (fX4_moved a1 (nI k) (nI k2)) (if a3 = true then (false) else (true)) (-a6) (-(if a5 < v7 then v7 else a5)))) then (-(rec (a2 &&& (((1 : Int32) <<< ((nI k2) &&& 31)) ^^^ (-1))) (fX4_moved a1 (nI k) (nI k2)) (if a3 = true then (false) else (true)) (-a6) (-(if a5 < v7 then v7 else a5)))) else v7)), (11, .int (-(rec (a2 &&& (((1 : Int32) <<< ((nI k2) &&& 31)) ^^^ (-1))) (fX4_moved a1 (nI k) (nI k2)) (if a3 = true then (false) else (true)) (-a6) (-(if a5 < v7 then v7 else a5))))), (9, .int (fX2_endsFrom (σ) nC S h (nI k) a1 a2 a3)), (0, .ref o), (1, .int a1), (2, .int a2), (3, .int (zI a3)), (4, .int 2), (5, .int a5), (6, .int a6), (8, .int (nI k))]) hx hb dX4_searchWithCuts_139 hl (k := 11) rfl (nI_1 _) (by decide) rfl (fun ls hl => ?_)
                  refine lv_goto (tgt := 56) hx hb dX4_searchWithCuts_142 (by decide) ?_
                  exact ih2 (n2, k2 + 1, (if v7 < (-(rec (a2 &&& (((1 : Int32) <<< ((nI k2) &&& 31)) ^^^ (-1))) (fX4_moved a1 (nI k) (nI k2)) (if a3 = true then (false) else (true)) (-a6) (-(if a5 < v7 then v7 else a5)))) then (-(rec (a2 &&& (((1 : Int32) <<< ((nI k2) &&& 31)) ^^^ (-1))) (fX4_moved a1 (nI k) (nI k2)) (if a3 = true then (false) else (true)) (-a6) (-(if a5 < v7 then v7 else a5)))) else v7)) ls (Nat.lt_succ_self _) ⟨by rw [hv2, g2X4_searchWithCuts]; rw [if_neg c_2, if_pos c_3, if_pos c_5], hk12, by dsimp only <;> omega⟩ (lv_sub hl [3, 4, 5, 6, 7, 8, 9, 10, 11, 0, 1] rfl)
                · refine lv_iload hx hb dX4_searchWithCuts_136 (lv_at hl 0 rfl) ?_
                  exact W.iret (v := if v7 < (-(rec (a2 &&& (((1 : Int32) <<< ((nI k2) &&& 31)) ^^^ (-1))) (fX4_moved a1 (nI k) (nI k2)) (if a3 = true then (false) else (true)) (-a6) (-(if a5 < v7 then v7 else a5)))) then (-(rec (a2 &&& (((1 : Int32) <<< ((nI k2) &&& 31)) ^^^ (-1))) (fX4_moved a1 (nI k) (nI k2)) (if a3 = true then (false) else (true)) (-a6) (-(if a5 < v7 then v7 else a5)))) else v7) hx hb hr (fun t ht hw => ⟨_, rfl, (show (if v7 < (-(rec (a2 &&& (((1 : Int32) <<< ((nI k2) &&& 31)) ^^^ (-1))) (fX4_moved a1 (nI k) (nI k2)) (if a3 = true then (false) else (true)) (-a6) (-(if a5 < v7 then v7 else a5)))) then (-(rec (a2 &&& (((1 : Int32) <<< ((nI k2) &&& 31)) ^^^ (-1))) (fX4_moved a1 (nI k) (nI k2)) (if a3 = true then (false) else (true)) (-a6) (-(if a5 < v7 then v7 else a5)))) else v7 : Int32) = fX4_searchWithCuts σ nC S h rec a1 a2 a3 a5 a6 from by rw [hv2, g2X4_searchWithCuts]; rw [if_neg c_2, if_pos c_3, if_neg c_5]), ht⟩) (fun _ h => nomatch h) dX4_searchWithCuts_138
              · refine x_ifz_ne (b := a3) (tgt := 98) hx hb dX4_searchWithCuts_91 (by decide) (fun c_4 => ?_) (fun c_4 => ?_)
                · refine lv_iconst (v := 0) hx hb dX4_searchWithCuts_98 (by decide) ?_
                  exact J _ (congrArg zI (show false = if a3 = true then (false) else (true) from by rw [if_pos c_4]))
                · refine lv_iconst (v := 1) hx hb dX4_searchWithCuts_94 (by decide) ?_
                  refine lv_goto (tgt := 99) hx hb dX4_searchWithCuts_95 (by decide) ?_
                  exact J _ (congrArg zI (show true = if a3 = true then (false) else (true) from by rw [if_neg (Bool.eq_false_iff.mp c_4)]))
  · refine lv_aload_n hx hb dX4_searchWithCuts_0 rfl (lv_at hl 0 rfl) ?_
    refine lv_iload_n hx hb dX4_searchWithCuts_1 rfl (lv_at hl 1 rfl) ?_
    refine lv_iload_n hx hb dX4_searchWithCuts_2 rfl (lv_at hl 2 rfl) ?_
    refine lv_iload_n hx hb dX4_searchWithCuts_3 rfl (lv_at hl 3 rfl) ?_
    refine x_callSe (va_runV (As := [.int a1, .int a2, .int (zI a3)]) (rest := []) ⟨hx, hb, hml, hown, hts⟩ (kX2_hasMove l G _ (σ) nC S h o a1 a2 a3 ta tb hE hT) (cwV 3 hts gX4_searchWithCuts_X2_hasMove rfl rfl rfl (by decide +kernel) ⟨Nat.le_of_ble_eq_true rfl, Nat.le_of_ble_eq_true rfl⟩) (x_preV hX hS hW hE rfl) rfl rfl hl.1 rfl (lv_room (Nat.le_of_ble_eq_true rfl)) dX4_searchWithCuts_4 ⟨Nat.le_of_ble_eq_true rfl, Nat.le_of_ble_eq_true rfl⟩) ?_
    refine x_ifz_ne (b := fX2_hasMove (σ) nC S h a1 a2 a3) (tgt := 13) hx hb dX4_searchWithCuts_7 (by decide) (fun c_6 => ?_) (fun c_6 => ?_)
    · refine lv_iload hx hb dX4_searchWithCuts_13 (lv_at hl 4 rfl) ?_
      refine lv_if_gt (tgt := 28) hx hb dX4_searchWithCuts_15 (by decide) (fun _ => ?_) (fun c9 => absurd (by decide) c9)
      refine lv_bipush (v := (-100)) hx hb dX4_searchWithCuts_28 (by decide) ?_
      refine lv_istore (lv' := [(7, .int (-100)), (0, .ref o), (1, .int a1), (2, .int a2), (3, .int (zI a3)), (4, .int 2), (5, .int a5), (6, .int a6)]) hx hb dX4_searchWithCuts_30 hl (by decide) rfl (fun ls hl => ?_)
      refine lv_iconst (v := 0) hx hb dX4_searchWithCuts_32 (by decide) ?_
      refine lv_istore (lv' := [(8, .int 0), (7, .int (-100)), (0, .ref o), (1, .int a1), (2, .int a2), (3, .int (zI a3)), (4, .int 2), (5, .int a5), (6, .int a6)]) hx hb dX4_searchWithCuts_33 hl (by decide) rfl (fun ls hl => ?_)
      exact LP (26, 0, (-100)) ls ⟨by unfold fX4_searchWithCuts; rw [if_pos c_6], by dsimp only <;> omega, by dsimp only <;> omega⟩ (lv_sub hl [2, 3, 4, 5, 6, 7, 8, 0, 1] rfl)
    · refine lv_bipush (v := (-100)) hx hb dX4_searchWithCuts_10 (by decide) ?_
      exact W.iret (v := (-100)) hx hb hr (fun t ht hw => ⟨_, rfl, (show ((-100) : Int32) = fX4_searchWithCuts σ nC S h rec a1 a2 a3 a5 a6 from by unfold fX4_searchWithCuts; rw [if_neg (Bool.eq_false_iff.mp c_6)]), ht⟩) (fun _ h => nomatch h) dX4_searchWithCuts_12

def vX4_searchAll (σ : xSg) (nC : Nat) (S h : Int32) : Nat → Int32 → Int32 → Bool → Int32
  | 0 => fun x y z => fX4_searchAll_0 σ nC S h x y z
  | d + 1 => fun x y z => fX4_searchAll σ nC S h (vX4_searchAll σ nC S h d) x y z
theorem kX4_searchAll_0v (l : Launch) (G : xG) (E : xE) (σ : xSg) (nC : Nat) (S h : Int32) (o : Nat) (ta : Nat) (tb : Nat → Option Nat) (hE : E o = some (.inr (2, [.ref ta, .int S, .int h]))) (hT : xCardsAt G E ta tb nC σ) (x y : Int32) (z : Bool) : Met l yX4_searchAll wsX4_searchAll ({ frames := 4, cells := 0, slots := 0, locals := 105 }) (va_Pc [.ref o, .int x, .int y, .int (zI z), .int 0] (xB G E)) (vp_Si (fun r => r = vX4_searchAll σ nC S h 0 x y z)) 0 0 (fun _ => False) := kX4_searchAll_0 l G E σ nC S h o x y z ta tb hE hT
theorem kX4_searchAll_1 (l : Launch) (G : xG) (E : xE) (σ : xSg) (nC : Nat) (S h : Int32) (o : Nat) (ta : Nat) (tb : Nat → Option Nat) (hE : E o = some (.inr (2, [.ref ta, .int S, .int h]))) (hT : xCardsAt G E ta tb nC σ) (x y : Int32) (z : Bool) : Met l yX4_searchAll wsX4_searchAll ({ frames := 5, cells := 0, slots := 0, locals := 133 }) (va_Pc [.ref o, .int x, .int y, .int (zI z), .int 1] (xB G E)) (vp_Si (fun r => r = vX4_searchAll σ nC S h 1 x y z)) 0 0 (fun _ => False) := kX4_searchAll_s1 l G E σ nC S h (vX4_searchAll σ nC S h 0) o x y z ta tb hE hT (fun x y z => kX4_searchAll_0v l G E σ nC S h o ta tb hE hT x y z)
theorem kX4_searchAll_2 (l : Launch) (G : xG) (E : xE) (σ : xSg) (nC : Nat) (S h : Int32) (o : Nat) (ta : Nat) (tb : Nat → Option Nat) (hE : E o = some (.inr (2, [.ref ta, .int S, .int h]))) (hT : xCardsAt G E ta tb nC σ) (x y : Int32) (z : Bool) : Met l yX4_searchAll wsX4_searchAll ({ frames := 6, cells := 0, slots := 0, locals := 161 }) (va_Pc [.ref o, .int x, .int y, .int (zI z), .int 2] (xB G E)) (vp_Si (fun r => r = vX4_searchAll σ nC S h 2 x y z)) 0 0 (fun _ => False) := kX4_searchAll_s2 l G E σ nC S h (vX4_searchAll σ nC S h 1) o x y z ta tb hE hT (fun x y z => kX4_searchAll_1 l G E σ nC S h o ta tb hE hT x y z)

def vX4_searchWithCuts (σ : xSg) (nC : Nat) (S h : Int32) : Nat → Int32 → Int32 → Bool → Int32 → Int32 → Int32
  | 0 => fun x y z e0 e1 => fX4_searchWithCuts_0 σ nC S h x y z e0 e1
  | d + 1 => fun x y z e0 e1 => fX4_searchWithCuts σ nC S h (vX4_searchWithCuts σ nC S h d) x y z e0 e1
theorem kX4_searchWithCuts_0v (l : Launch) (G : xG) (E : xE) (σ : xSg) (nC : Nat) (S h : Int32) (o : Nat) (ta : Nat) (tb : Nat → Option Nat) (hE : E o = some (.inr (2, [.ref ta, .int S, .int h]))) (hT : xCardsAt G E ta tb nC σ) (x y : Int32) (z : Bool) (e0 : Int32) (e1 : Int32) : Met l yX4_searchWithCuts wsX4_searchWithCuts ({ frames := 4, cells := 0, slots := 0, locals := 105 }) (va_Pc [.ref o, .int x, .int y, .int (zI z), .int 0, .int e0, .int e1] (xB G E)) (vp_Si (fun r => r = vX4_searchWithCuts σ nC S h 0 x y z e0 e1)) 0 0 (fun _ => False) := kX4_searchWithCuts_0 l G E σ nC S h o x y z e0 e1 ta tb hE hT
theorem kX4_searchWithCuts_1 (l : Launch) (G : xG) (E : xE) (σ : xSg) (nC : Nat) (S h : Int32) (o : Nat) (ta : Nat) (tb : Nat → Option Nat) (hE : E o = some (.inr (2, [.ref ta, .int S, .int h]))) (hT : xCardsAt G E ta tb nC σ) (x y : Int32) (z : Bool) (e0 : Int32) (e1 : Int32) : Met l yX4_searchWithCuts wsX4_searchWithCuts ({ frames := 5, cells := 0, slots := 0, locals := 136 }) (va_Pc [.ref o, .int x, .int y, .int (zI z), .int 1, .int e0, .int e1] (xB G E)) (vp_Si (fun r => r = vX4_searchWithCuts σ nC S h 1 x y z e0 e1)) 0 0 (fun _ => False) := kX4_searchWithCuts_s1 l G E σ nC S h (vX4_searchWithCuts σ nC S h 0) o x y z e0 e1 ta tb hE hT (fun x y z e0 e1 => kX4_searchWithCuts_0v l G E σ nC S h o ta tb hE hT x y z e0 e1)
theorem kX4_searchWithCuts_2 (l : Launch) (G : xG) (E : xE) (σ : xSg) (nC : Nat) (S h : Int32) (o : Nat) (ta : Nat) (tb : Nat → Option Nat) (hE : E o = some (.inr (2, [.ref ta, .int S, .int h]))) (hT : xCardsAt G E ta tb nC σ) (x y : Int32) (z : Bool) (e0 : Int32) (e1 : Int32) : Met l yX4_searchWithCuts wsX4_searchWithCuts ({ frames := 6, cells := 0, slots := 0, locals := 167 }) (va_Pc [.ref o, .int x, .int y, .int (zI z), .int 2, .int e0, .int e1] (xB G E)) (vp_Si (fun r => r = vX4_searchWithCuts σ nC S h 2 x y z e0 e1)) 0 0 (fun _ => False) := kX4_searchWithCuts_s2 l G E σ nC S h (vX4_searchWithCuts σ nC S h 1) o x y z e0 e1 ta tb hE hT (fun x y z e0 e1 => kX4_searchWithCuts_1 l G E σ nC S h o ta tb hE hT x y z e0 e1)
