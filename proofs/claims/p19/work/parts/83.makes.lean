set_option maxHeartbeats 4000000 in
set_option maxRecDepth 100000 in
/-- cards, variants, their cards -/
theorem kL_makes (l : Launch) (hl9 : l.stackTraces = false) (G : xG) (E : xE) (o ga nC nV nG : Nat) (σ : xSg) (hO : pOb G E o σ nC nV nG) (hI : pI σ nC nV nG) (hg : E ga = some (.inl (G.2.1 0, 3, .inl (gF nC nV nG)))) (x z : Int32) : vx_Met l yL_makes wsL_makes ({ frames := 13, cells := 320, slots := 2500, locals := 350 }) (va_Pc [.ref o, .ref ga, .int x, .int z] (xB2 G E)) (va_Qi (S := xE) (pPo G o ga E (fun σ' _ nG' => nG' = nG ∧ σ' 11 = σ 11)) (fun E' t => xW G E' t.heap) (xA G)) (xX G E (fun _ => False)) 320 2500 (xA G) := by
  refine vx_ofW (cc := cL_makes) (maxL := 10) (ret := (some .boolean)) (by decide) rfl ?_
  intro p e s m args below meth c s₁ B hml hno hv
  obtain ⟨rfl, ⟨hX, hW⟩, hNc⟩ := hv
  have hx := B.exec
  have hb := B.bytes
  have hr := B.returns
  have hts := atoms_spec (ws := wsL_makes) B.pre
  have hown : s.vm.findClass RL = some m.cls := findClass_of_methodNamed B.named
  have hlocks := B.notSynchronized
  have hS : va_S (xA G) s.heap s.heap [] := va_S.rf
  have hk95 := hts (Cond.constant RL 95 (33554432)) (by decide +kernel)
  have hl := lv_entry ([.ref o, .ref ga, .int x, .int z]) (n := 10) (Nat.le_of_ble_eq_true rfl)
  rw [lg_entry_eq]
  generalize (lg_sl ([.ref o, .ref ga, .int x, .int z]) ++ List.replicate (10 - (lg_sl ([.ref o, .ref ga, .int x, .int z])).length) Slot.unset).toArray = ls at hl ⊢
  have hl : lv_has ls 10 [(0, .ref o), (1, .ref ga), (2, .int x), (3, .int z)] := hl
  obtain ⟨H, hH⟩ : ∃ z, z = s.heap := ⟨_, rfl⟩
  rw [← hH] at hW
  have hS : va_S (xA G) s.heap H [] := by rw [hH]; exact hS
  rw [← hH]
  obtain ⟨fs, hOE⟩ := hO.at
  obtain ⟨h00, h05, h010, hC8, hV4, hG12⟩ := hO.nums
  have hp8 : 2 ^ nC ≤ 2 ^ 8 := Nat.pow_le_pow_right (by omega) hC8
  have hN1 := pN1_le nV
  have hZ9 := hI.1.2.2.1 nV (Nat.le_refl _)
  refine lv_aload_n hx hb dL_makes_0 rfl (lv_at hl 0 rfl) ?_
  refine lv_aload_n hx hb dL_makes_1 rfl (lv_at hl 1 rfl) ?_
  refine p_rdl (x := pAll (σ) nV nG) (vx_runS (As := [.ref o, .ref ga]) (rest := []) ⟨hx, hb, hml, hown, hts⟩ (kL_all l hl9 G E o ga nC nV nG (σ) hO hI hg) (va_cwS 2 hts gL_makes_L_all rfl rfl rfl (by decide +kernel) ⟨Nat.le_of_ble_eq_true rfl, Nat.le_of_ble_eq_true rfl⟩) (x_preS2 hX hNc hS hW) rfl rfl hl.1 rfl (lv_room (Nat.le_of_ble_eq_true rfl)) dL_makes_2 ⟨by show _ ≤ 320; omega, by show _ ≤ 2500; omega⟩) hS (fun H locs hW hS => ?_)
  refine lv_lstore (lv' := [(4, .long (pAll (σ) nV nG)), (0, .ref o), (1, .ref ga), (2, .int x), (3, .int z)]) hx hb dL_makes_5 hl (by decide) rfl (fun ls hl => ?_)
  refine lv_iload_n hx hb dL_makes_7 rfl (lv_at hl 3 rfl) ?_
  refine lv_bipush (v := 8) hx hb dL_makes_8 (by decide) ?_
  refine x_callSi (va_runS (As := [.int x, .int 8]) (rest := []) ⟨hx, hb, hml, hown, hts⟩ (kS l x (N := 8) (by omega) (by omega)) (va_cwS 2 hts gL_makes_L_some rfl rfl rfl (by decide +kernel) ⟨Nat.le_of_ble_eq_true rfl, Nat.le_of_ble_eq_true rfl⟩) x_preT rfl rfl hl.1 rfl (lv_room (Nat.le_of_ble_eq_true rfl)) dL_makes_10 ⟨by show _ ≤ 320; omega, by show _ ≤ 2500; omega⟩) (fun vj10 hvj10 => ?_)
  obtain ⟨j10, hj10, ej10, xj10⟩ := hvj10
  rw [ej10]
  refine lv_istore (lv' := [(6, .int (nI j10)), (4, .long (pAll (σ) nV nG)), (0, .ref o), (1, .ref ga), (2, .int x), (3, .int z)]) hx hb dL_makes_13 hl (by decide) rfl (fun ls hl => ?_)
  refine lv_iload hx hb dL_makes_15 (lv_at hl 0 rfl) ?_
  refine lv_iconst (v := 4) hx hb dL_makes_17 (by decide) ?_
  refine p_jn 27 (ls' := ls) (rest' := []) ?_ (fun J27 => ?_)
  · refine lv_iload_n hx hb dL_makes_27 rfl (lv_at hl 5 rfl) ?_
    refine lv_iconst (v := 3) hx hb dL_makes_28 (by decide) ?_
    refine lv_ishr hx hb dL_makes_29 ?_
    refine lv_iconst (v := 5) hx hb dL_makes_30 (by decide) ?_
    refine x_callSi (va_runS (As := [.int (z >>> (3 &&& 31)), .int 5]) (rest := []) ⟨hx, hb, hml, hown, hts⟩ (kS l (z >>> (3 &&& 31)) (N := 5) (by omega) (by omega)) (va_cwS 2 hts gL_makes_L_some rfl rfl rfl (by decide +kernel) ⟨Nat.le_of_ble_eq_true rfl, Nat.le_of_ble_eq_true rfl⟩) x_preT rfl rfl hl.1 rfl (lv_room (Nat.le_of_ble_eq_true rfl)) dL_makes_31 ⟨by show _ ≤ 320; omega, by show _ ≤ 2500; omega⟩) (fun vj31 hvj31 => ?_)
    obtain ⟨j31, hj31, ej31, xj31⟩ := hvj31
    rw [ej31]
    refine lv_iconst (v := 2) hx hb dL_makes_34 (by decide) ?_
    refine lv_isub hx hb dL_makes_35 ?_
    refine lv_istore (lv' := [(7, .int ((nI j31) - 2)), (6, .int (nI j10)), (4, .long (pAll (σ) nV nG)), (0, .ref o), (1, .ref ga), (2, .int x), (3, .int z)]) hx hb dL_makes_36 hl (by decide) rfl (fun ls hl => ?_)
    refine lv_iload_n hx hb dL_makes_38 rfl (lv_at hl 6 rfl) ?_
    refine lv_bipush (v := 6) hx hb dL_makes_39 (by decide) ?_
    refine lv_ishr hx hb dL_makes_41 ?_
    refine lv_iconst (v := 5) hx hb dL_makes_42 (by decide) ?_
    refine x_callSi (va_runS (As := [.int (z >>> (6 &&& 31)), .int 5]) (rest := []) ⟨hx, hb, hml, hown, hts⟩ (kS l (z >>> (6 &&& 31)) (N := 5) (by omega) (by omega)) (va_cwS 2 hts gL_makes_L_some rfl rfl rfl (by decide +kernel) ⟨Nat.le_of_ble_eq_true rfl, Nat.le_of_ble_eq_true rfl⟩) x_preT rfl rfl hl.1 rfl (lv_room (Nat.le_of_ble_eq_true rfl)) dL_makes_43 ⟨by show _ ≤ 320; omega, by show _ ≤ 2500; omega⟩) (fun vj43 hvj43 => ?_)
    obtain ⟨j43, hj43, ej43, xj43⟩ := hvj43
    rw [ej43]
    refine lv_iconst (v := 2) hx hb dL_makes_46 (by decide) ?_
    refine lv_isub hx hb dL_makes_47 ?_
    refine lv_istore (lv' := [(8, .int ((nI j43) - 2)), (7, .int ((nI j31) - 2)), (6, .int (nI j10)), (4, .long (pAll (σ) nV nG)), (0, .ref o), (1, .ref ga), (2, .int x), (3, .int z)]) hx hb dL_makes_48 hl (by decide) rfl (fun ls hl => ?_)
    refine lv_aload_n hx hb dL_makes_50 rfl (lv_at hl 4 rfl) ?_
    refine lv_iconst (v := 0) hx hb dL_makes_51 (by decide) ?_
    refine lv_iload_n hx hb dL_makes_52 rfl (lv_at hl 7 rfl) ?_
    refine lv_iconst (v := 3) hx hb dL_makes_53 (by decide) ?_
    refine x_callSi (va_runS (As := [.int z, .int 3]) (rest := [.int 0, .ref o]) ⟨hx, hb, hml, hown, hts⟩ (kS l z (N := 3) (by omega) (by omega)) (va_cwS 2 hts gL_makes_L_some rfl rfl rfl (by decide +kernel) ⟨Nat.le_of_ble_eq_true rfl, Nat.le_of_ble_eq_true rfl⟩) x_preT rfl rfl hl.1 rfl (lv_room (Nat.le_of_ble_eq_true rfl)) dL_makes_54 ⟨by show _ ≤ 320; omega, by show _ ≤ 2500; omega⟩) (fun vj54 hvj54 => ?_)
    obtain ⟨j54, hj54, ej54, xj54⟩ := hvj54
    rw [ej54]
    refine lv_iload hx hb dL_makes_57 (lv_at hl 1 rfl) ?_
    refine lv_iload hx hb dL_makes_59 (lv_at hl 0 rfl) ?_
    refine lv_iconst (v := 1) hx hb dL_makes_61 (by decide) ?_
    refine lv_iload_n hx hb dL_makes_62 rfl (lv_at hl 7 rfl) ?_
    refine lv_bipush (v := 9) hx hb dL_makes_63 (by decide) ?_
    refine lv_ishr hx hb dL_makes_65 ?_
    refine lv_iconst (v := 4) hx hb dL_makes_66 (by decide) ?_
    refine x_callSi (va_runS (As := [.int (z >>> (9 &&& 31)), .int 4]) (rest := [.int 1, .int ((nI j43) - 2), .int ((nI j31) - 2), .int (nI j54), .int 0, .ref o]) ⟨hx, hb, hml, hown, hts⟩ (kS l (z >>> (9 &&& 31)) (N := 4) (by omega) (by omega)) (va_cwS 2 hts gL_makes_L_some rfl rfl rfl (by decide +kernel) ⟨Nat.le_of_ble_eq_true rfl, Nat.le_of_ble_eq_true rfl⟩) x_preT rfl rfl hl.1 rfl (lv_room (Nat.le_of_ble_eq_true rfl)) dL_makes_67 ⟨by show _ ≤ 320; omega, by show _ ≤ 2500; omega⟩) (fun vj67 hvj67 => ?_)
    obtain ⟨j67, hj67, ej67, xj67⟩ := hvj67
    rw [ej67]
    refine lv_iadd hx hb dL_makes_70 ?_
    refine lv_iconst (v := 0) hx hb dL_makes_71 (by decide) ?_
    refine p_wr (vx_runSX (As := [.ref o, .int 0, .int (nI j54), .int ((nI j31) - 2), .int ((nI j43) - 2), .int ((1 : Int32) + (nI j67)), .int 0]) (rest := []) ⟨hx, hb, hml, hown, hts⟩ (kC_card l hl9 G E o (nI j54) ((nI j31) - 2) ((nI j43) - 2) ((1 : Int32) + (nI j67)) (0 : Int32) nC nV nG σ hO) (vx_cwSW 7 hts gL_makes_L_call rfl rfl rfl (by decide +kernel) ⟨Nat.le_of_ble_eq_true rfl, Nat.le_of_ble_eq_true rfl⟩) (x_preS2 hX hNc hS hW) rfl rfl hl.1 rfl (lv_room (Nat.le_of_ble_eq_true rfl)) dL_makes_72 ⟨by show _ ≤ 320; omega, by show _ ≤ 2500; omega⟩) hS (fun r72 E7 H locs hq hW hS => ?_)
    rcases hq with ⟨hT0, hr9, h8, hO1, hF1⟩ | ⟨hT, hr9, hE9⟩
    · obtain ⟨σ1, hs1⟩ : ∃ z, z = sgCard σ nC (nI j54) (nI j31 - 2) (nI j43 - 2) (if nI j54 = 0 then (1 : Int32) else ((1 : Int32) + (nI j67))) := ⟨_, rfl⟩
      rw [← hs1] at hO1
      rw [hr9]
      have hg1 : E7 ga = _ := hF1 _ _ hg rfl
      refine lv_istore (lv' := [(9, .int (nI nC)), (8, .int ((nI j43) - 2)), (7, .int ((nI j31) - 2)), (6, .int (nI j10)), (4, .long (pAll (σ) nV nG)), (0, .ref o), (1, .ref ga), (2, .int x), (3, .int z)]) hx hb dL_makes_75 hl (by decide) rfl (fun ls hl => ?_)
      refine lv_iload hx hb dL_makes_77 (lv_at hl 0 rfl) ?_
      refine lv_if_ge (tgt := 123) hx hb dL_makes_79 (by decide) (fun c79 => ?_) (fun c9 => False.elim (by exact c9 (nI_pos' (by omega))))
      refine lv_aload_n hx hb dL_makes_123 rfl (lv_at hl 6 rfl) ?_
      refine lv_iconst (v := 0) hx hb dL_makes_124 (by decide) ?_
      refine lv_dup2_11 hx hb dL_makes_125 rfl rfl ?_
      refine p_ild (k := 0) (v := nI nC) hx hb hX.1 hW hg1 (show vp_in (nI 0) 3 from vp_in_nI (by omega) (by omega)) rfl rfl dL_makes_126 ?_
      refine lv_iconst (v := 1) hx hb dL_makes_127 (by decide) ?_
      refine lv_iadd hx hb dL_makes_128 ?_
      refine x_iast (G := G) hx hb hX.1 hW hS hg1 (show vp_in (nI 0) 3 from vp_in_nI (by omega) (by omega)) dL_makes_129 (fun H locs hW hS => ?_)
      rw [show (0 : Int32).toNatClampNeg = 0 from rfl, gF_0 nC nV nG] at hW
      obtain ⟨E8, eE8⟩ : ∃ z, z = xU E7 ga (.inl (G.2.1 0, 3, .inl (gF (nC + 1) nV nG))) := ⟨_, rfl⟩
      rw [← eE8] at hW
      have hg2 : E8 ga = some (.inl (G.2.1 0, 3, .inl (gF (nC + 1) nV nG))) := by rw [eE8]; exact xU_self _ _ _
      have hF2 : pFr ga E E8 := pFr_put (pFr_of hF1) eE8
      have hO2 := hO1.fr (by rw [eE8]; exact xFr_put xFr_rf hg1 rfl _ : xFr tM _ E8)
      obtain ⟨fs2, hOE2⟩ := hO2.at
      have hI2 : pI σ1 (nC + 1) nV nG := by rw [hs1]; exact n_cardI hO hI hj54 hj31 hj43 hj67 hT0 h8
      refine lv_iload hx hb dL_makes_130 (lv_at hl 0 rfl) ?_
      refine lv_aload_n hx hb dL_makes_132 rfl (lv_at hl 6 rfl) ?_
      refine lv_iconst (v := 0) hx hb dL_makes_133 (by decide) ?_
      refine p_ild (k := 0) (v := nI (nC + 1)) hx hb hX.1 hW hg2 (show vp_in (nI 0) 3 from vp_in_nI (by omega) (by omega)) rfl rfl dL_makes_134 ?_
      refine lv_iconst (v := 1) hx hb dL_makes_135 (by decide) ?_
      refine lv_isub hx hb dL_makes_136 ?_
      refine lv_icmp_ne (tgt := 155) hx hb dL_makes_137 (by decide) (fun c9 => False.elim (by exact c9 (nI_pred nC).symm)) (fun c137 => ?_)
      refine lv_aload_n hx hb dL_makes_140 rfl (lv_at hl 5 rfl) ?_
      refine lv_aload_n hx hb dL_makes_141 rfl (lv_at hl 6 rfl) ?_
      refine p_rdl (x := pAll (σ1) nV nG) (vx_runS (As := [.ref o, .ref ga]) (rest := []) ⟨hx, hb, hml, hown, hts⟩ (kL_all l hl9 G E8 o ga (nC + 1) nV nG (σ1) hO2 hI2 hg2) (va_cwS 2 hts gL_makes_L_all rfl rfl rfl (by decide +kernel) ⟨Nat.le_of_ble_eq_true rfl, Nat.le_of_ble_eq_true rfl⟩) (x_preS2 hX hNc hS hW) rfl rfl hl.1 rfl (lv_room (Nat.le_of_ble_eq_true rfl)) dL_makes_142 ⟨by show _ ≤ 320; omega, by show _ ≤ 2500; omega⟩) hS (fun H locs hW hS => ?_)
      refine lv_lload hx hb dL_makes_145 (lv_at hl 4 rfl) ?_
      refine W.lcmp hx hb dL_makes_147 ?_
      refine lv_if_ne (tgt := 155) hx hb dL_makes_148 (by decide) (fun c9 => False.elim (by exact c9 (by rw [hs1, n_allC]; exact lg_cmp_self _))) (fun c148 => ?_)
      refine lv_iconst (v := 1) hx hb dL_makes_151 (by decide) ?_
      refine lv_goto (tgt := 156) hx hb dL_makes_152 (by decide) ?_
      exact vx_ret (W.widen (k := 320) (n := 2500) (by omega) (by omega) (W.zret (v := 1) hx hb hr rfl (fun t ht hw9 => ⟨⟨_, E8, rfl, ⟨rfl, ⟨σ1, nC + 1, nV, nG, hO2, hI2, hg2, hF2, rfl, by rw [hs1]; rfl⟩⟩, (show xW G E8 t.heap from by rw [ht]; exact hW)⟩, hS.F ht⟩) hS.2.2 dL_makes_156))
    · rw [hE9] at hW
      rw [hr9]
      refine lv_istore (lv' := [(9, .int (rEx (tX4_card nC (nI j54) (nI j31 - 2) (nI j43 - 2) ((1 : Int32) + (nI j67))))), (8, .int ((nI j43) - 2)), (7, .int ((nI j31) - 2)), (6, .int (nI j10)), (4, .long (pAll (σ) nV nG)), (0, .ref o), (1, .ref ga), (2, .int x), (3, .int z)]) hx hb dL_makes_75 hl (by decide) rfl (fun ls hl => ?_)
      refine lv_iload hx hb dL_makes_77 (lv_at hl 0 rfl) ?_
      refine lv_if_ge (tgt := 123) hx hb dL_makes_79 (by decide) (fun c9 => False.elim (by exact rEx_neg _ c9)) (fun c79 => ?_)
      refine lv_iload hx hb dL_makes_82 (lv_at hl 0 rfl) ?_
      refine lv_iload hx hb dL_makes_84 (lv_at hl 2 rfl) ?_
      refine lv_if_ne (tgt := 100) hx hb dL_makes_86 (by decide) (fun c86 => ?_) (fun c86 => ?_)
      · refine lv_sipush (v := (-1023)) hx hb dL_makes_100 (by decide) ?_
        refine lv_icmp_ne (tgt := 121) hx hb dL_makes_103 (by decide) (fun c9 => False.elim (by exact c9 (by rw [n_cardT hj54 hj31 hj43 hj67 hT, if_neg (fun q => c86 q.1)]; rfl))) (fun c103 => ?_)
        refine lv_aload_n hx hb dL_makes_106 rfl (lv_at hl 5 rfl) ?_
        refine lv_aload_n hx hb dL_makes_107 rfl (lv_at hl 6 rfl) ?_
        refine p_rdl (x := pAll (σ) nV nG) (vx_runS (As := [.ref o, .ref ga]) (rest := []) ⟨hx, hb, hml, hown, hts⟩ (kL_all l hl9 G E o ga nC nV nG (σ) hO hI hg) (va_cwS 2 hts gL_makes_L_all rfl rfl rfl (by decide +kernel) ⟨Nat.le_of_ble_eq_true rfl, Nat.le_of_ble_eq_true rfl⟩) (x_preS2 hX hNc hS hW) rfl rfl hl.1 rfl (lv_room (Nat.le_of_ble_eq_true rfl)) dL_makes_108 ⟨by show _ ≤ 320; omega, by show _ ≤ 2500; omega⟩) hS (fun H locs hW hS => ?_)
        refine lv_lload hx hb dL_makes_111 (lv_at hl 4 rfl) ?_
        refine W.lcmp hx hb dL_makes_113 ?_
        refine lv_if_ne (tgt := 121) hx hb dL_makes_114 (by decide) (fun c9 => False.elim (by exact c9 (lg_cmp_self _))) (fun c114 => ?_)
        refine lv_iconst (v := 1) hx hb dL_makes_117 (by decide) ?_
        refine lv_goto (tgt := 122) hx hb dL_makes_118 (by decide) ?_
        exact vx_ret (W.widen (k := 320) (n := 2500) (by omega) (by omega) (W.zret (v := 1) hx hb hr rfl (fun t ht hw9 => ⟨⟨_, E, rfl, ⟨rfl, ⟨σ, nC, nV, nG, hO, hI, hg, pFr_rf, rfl, rfl⟩⟩, (show xW G E t.heap from by rw [ht]; exact hW)⟩, hS.F ht⟩) hS.2.2 dL_makes_122))
      · refine lv_iload hx hb dL_makes_89 (lv_at hl 1 rfl) ?_
        refine lv_if_ne (tgt := 100) hx hb dL_makes_91 (by decide) (fun c91 => ?_) (fun c91 => ?_)
        · refine lv_sipush (v := (-1023)) hx hb dL_makes_100 (by decide) ?_
          refine lv_icmp_ne (tgt := 121) hx hb dL_makes_103 (by decide) (fun c9 => False.elim (by exact c9 (by rw [n_cardT hj54 hj31 hj43 hj67 hT, if_neg (fun q => c91 q.2)]; rfl))) (fun c103 => ?_)
          refine lv_aload_n hx hb dL_makes_106 rfl (lv_at hl 5 rfl) ?_
          refine lv_aload_n hx hb dL_makes_107 rfl (lv_at hl 6 rfl) ?_
          refine p_rdl (x := pAll (σ) nV nG) (vx_runS (As := [.ref o, .ref ga]) (rest := []) ⟨hx, hb, hml, hown, hts⟩ (kL_all l hl9 G E o ga nC nV nG (σ) hO hI hg) (va_cwS 2 hts gL_makes_L_all rfl rfl rfl (by decide +kernel) ⟨Nat.le_of_ble_eq_true rfl, Nat.le_of_ble_eq_true rfl⟩) (x_preS2 hX hNc hS hW) rfl rfl hl.1 rfl (lv_room (Nat.le_of_ble_eq_true rfl)) dL_makes_108 ⟨by show _ ≤ 320; omega, by show _ ≤ 2500; omega⟩) hS (fun H locs hW hS => ?_)
          refine lv_lload hx hb dL_makes_111 (lv_at hl 4 rfl) ?_
          refine W.lcmp hx hb dL_makes_113 ?_
          refine lv_if_ne (tgt := 121) hx hb dL_makes_114 (by decide) (fun c9 => False.elim (by exact c9 (lg_cmp_self _))) (fun c114 => ?_)
          refine lv_iconst (v := 1) hx hb dL_makes_117 (by decide) ?_
          refine lv_goto (tgt := 122) hx hb dL_makes_118 (by decide) ?_
          exact vx_ret (W.widen (k := 320) (n := 2500) (by omega) (by omega) (W.zret (v := 1) hx hb hr rfl (fun t ht hw9 => ⟨⟨_, E, rfl, ⟨rfl, ⟨σ, nC, nV, nG, hO, hI, hg, pFr_rf, rfl, rfl⟩⟩, (show xW G E t.heap from by rw [ht]; exact hW)⟩, hS.F ht⟩) hS.2.2 dL_makes_122))
        · refine lv_sipush (v := (-1022)) hx hb dL_makes_94 (by decide) ?_
          refine lv_goto (tgt := 103) hx hb dL_makes_97 (by decide) ?_
          refine lv_icmp_ne (tgt := 121) hx hb dL_makes_103 (by decide) (fun c9 => False.elim (by exact c9 (by rw [n_cardT hj54 hj31 hj43 hj67 hT, if_pos ⟨c86, c91⟩]; rfl))) (fun c103 => ?_)
          refine lv_aload_n hx hb dL_makes_106 rfl (lv_at hl 5 rfl) ?_
          refine lv_aload_n hx hb dL_makes_107 rfl (lv_at hl 6 rfl) ?_
          refine p_rdl (x := pAll (σ) nV nG) (vx_runS (As := [.ref o, .ref ga]) (rest := []) ⟨hx, hb, hml, hown, hts⟩ (kL_all l hl9 G E o ga nC nV nG (σ) hO hI hg) (va_cwS 2 hts gL_makes_L_all rfl rfl rfl (by decide +kernel) ⟨Nat.le_of_ble_eq_true rfl, Nat.le_of_ble_eq_true rfl⟩) (x_preS2 hX hNc hS hW) rfl rfl hl.1 rfl (lv_room (Nat.le_of_ble_eq_true rfl)) dL_makes_108 ⟨by show _ ≤ 320; omega, by show _ ≤ 2500; omega⟩) hS (fun H locs hW hS => ?_)
          refine lv_lload hx hb dL_makes_111 (lv_at hl 4 rfl) ?_
          refine W.lcmp hx hb dL_makes_113 ?_
          refine lv_if_ne (tgt := 121) hx hb dL_makes_114 (by decide) (fun c9 => False.elim (by exact c9 (lg_cmp_self _))) (fun c114 => ?_)
          refine lv_iconst (v := 1) hx hb dL_makes_117 (by decide) ?_
          refine lv_goto (tgt := 122) hx hb dL_makes_118 (by decide) ?_
          exact vx_ret (W.widen (k := 320) (n := 2500) (by omega) (by omega) (W.zret (v := 1) hx hb hr rfl (fun t ht hw9 => ⟨⟨_, E, rfl, ⟨rfl, ⟨σ, nC, nV, nG, hO, hI, hg, pFr_rf, rfl, rfl⟩⟩, (show xW G E t.heap from by rw [ht]; exact hW)⟩, hS.F ht⟩) hS.2.2 dL_makes_122))
  · refine lv_icmp_lt (tgt := 27) hx hb dL_makes_18 (by decide) (fun c18 => ?_) (fun c18 => ?_)
    · exact J27
    · refine lv_aload_n hx hb dL_makes_21 rfl (lv_at hl 3 rfl) ?_
      refine lv_iconst (v := 0) hx hb dL_makes_22 (by decide) ?_
      refine p_ild (k := 0) (v := nI nC) hx hb hX.1 hW hg (show vp_in (nI 0) 3 from vp_in_nI (by omega) (by omega)) rfl rfl dL_makes_23 ?_
      refine lv_if_ne (tgt := 157) hx hb dL_makes_24 (by decide) (fun c24 => ?_) (fun c24 => ?_)
      · refine lv_iconst (v := 1) hx hb dL_makes_157 (by decide) ?_
        refine lv_iload_n hx hb dL_makes_158 rfl (lv_at hl 5 rfl) ?_
        refine lv_iconst (v := 1) hx hb dL_makes_159 (by decide) ?_
        refine lv_aload_n hx hb dL_makes_160 rfl (lv_at hl 3 rfl) ?_
        refine lv_iconst (v := 0) hx hb dL_makes_161 (by decide) ?_
        refine p_ild (k := 0) (v := nI nC) hx hb hX.1 hW hg (show vp_in (nI 0) 3 from vp_in_nI (by omega) (by omega)) rfl rfl dL_makes_162 ?_
        refine lv_ishl hx hb dL_makes_163 ?_
        refine lv_iconst (v := 1) hx hb dL_makes_164 (by decide) ?_
        refine lv_isub hx hb dL_makes_165 ?_
        rw [show (((1 : Int32) <<< ((nI nC) &&& 31)) - 1 : Int32) = nI (2 ^ nC - 1) from n_shl hC8]
        refine x_callSi (va_runS (As := [.int z, .int (nI (2 ^ nC - 1))]) (rest := [.int 1]) ⟨hx, hb, hml, hown, hts⟩ (kS l z (N := (2 ^ nC - 1)) (n_pow c24) (by omega)) (va_cwS 2 hts gL_makes_L_some rfl rfl rfl (by decide +kernel) ⟨Nat.le_of_ble_eq_true rfl, Nat.le_of_ble_eq_true rfl⟩) x_preT rfl rfl hl.1 rfl (lv_room (Nat.le_of_ble_eq_true rfl)) dL_makes_166 ⟨by show _ ≤ 320; omega, by show _ ≤ 2500; omega⟩) (fun vj166 hvj166 => ?_)
        obtain ⟨j166, hj166, ej166, xj166⟩ := hvj166
        rw [ej166]
        refine lv_iadd hx hb dL_makes_169 ?_
        rw [show ((1 : Int32) + (nI j166) : Int32) = nI (j166 + 1) from n_1add j166]
        refine lv_istore (lv' := [(7, .int (nI (j166 + 1))), (6, .int (nI j10)), (4, .long (pAll (σ) nV nG)), (0, .ref o), (1, .ref ga), (2, .int x), (3, .int z)]) hx hb dL_makes_170 hl (by decide) rfl (fun ls hl => ?_)
        refine lv_iload hx hb dL_makes_172 (lv_at hl 1 rfl) ?_
        refine lv_bipush (v := 6) hx hb dL_makes_174 (by decide) ?_
        refine lv_icmp_ge (tgt := 322) hx hb dL_makes_176 (by decide) (fun c176 => ?_) (fun c176 => ?_)
        · refine lv_iload_n hx hb dL_makes_322 rfl (lv_at hl 6 rfl) ?_
          refine lv_bipush (v := 9) hx hb dL_makes_323 (by decide) ?_
          refine lv_ishr hx hb dL_makes_325 ?_
          refine lv_aload_n hx hb dL_makes_326 rfl (lv_at hl 4 rfl) ?_
          refine lv_iconst (v := 1) hx hb dL_makes_327 (by decide) ?_
          refine p_ild (k := 1) (v := nI nV) hx hb hX.1 hW hg (show vp_in (nI 1) 3 from vp_in_nI (by omega) (by omega)) rfl rfl dL_makes_328 ?_
          refine x_join (ls' := ls) (rest' := [.int (z >>> (9 &&& 31))]) 339 (nI (pN1 nV)) (fun v ev => ?_) (fun J => ?_)
          · subst ev
            refine x_callSi (va_runS (As := [.int (z >>> (9 &&& 31)), .int (nI (pN1 nV))]) (rest := []) ⟨hx, hb, hml, hown, hts⟩ (kS l (z >>> (9 &&& 31)) (N := (pN1 nV)) (pN1_pos _) (by omega)) (va_cwS 2 hts gL_makes_L_some rfl rfl rfl (by decide +kernel) ⟨Nat.le_of_ble_eq_true rfl, Nat.le_of_ble_eq_true rfl⟩) x_preT rfl rfl hl.1 rfl (lv_room (Nat.le_of_ble_eq_true rfl)) dL_makes_339 ⟨by show _ ≤ 320; omega, by show _ ≤ 2500; omega⟩) (fun vj339 hvj339 => ?_)
            obtain ⟨j339, hj339, ej339, xj339⟩ := hvj339
            rw [ej339]
            refine lv_istore (lv' := [(8, .int (nI j339)), (7, .int (nI (j166 + 1))), (6, .int (nI j10)), (4, .long (pAll (σ) nV nG)), (0, .ref o), (1, .ref ga), (2, .int x), (3, .int z)]) hx hb dL_makes_342 hl (by decide) rfl (fun ls hl => ?_)
            refine lv_aload_n hx hb dL_makes_344 rfl (lv_at hl 4 rfl) ?_
            refine lv_iconst (v := 2) hx hb dL_makes_345 (by decide) ?_
            refine lv_iload hx hb dL_makes_346 (lv_at hl 0 rfl) ?_
            refine lv_iload hx hb dL_makes_348 (lv_at hl 1 rfl) ?_
            refine lv_iconst (v := 0) hx hb dL_makes_350 (by decide) ?_
            refine lv_iconst (v := 0) hx hb dL_makes_351 (by decide) ?_
            refine lv_iconst (v := 0) hx hb dL_makes_352 (by decide) ?_
            refine p_wr (vx_runSX (As := [.ref o, .int 2, .int (nI j339), .int (nI (j166 + 1)), .int 0, .int 0, .int 0]) (rest := []) ⟨hx, hb, hml, hown, hts⟩ (kC_setCards l hl9 G E o (nI j339) (nI (j166 + 1)) (0 : Int32) (0 : Int32) (0 : Int32) nC nV nG σ hO) (vx_cwSW 7 hts gL_makes_L_call rfl rfl rfl (by decide +kernel) ⟨Nat.le_of_ble_eq_true rfl, Nat.le_of_ble_eq_true rfl⟩) (x_preS2 hX hNc hS hW) rfl rfl hl.1 rfl (lv_room (Nat.le_of_ble_eq_true rfl)) dL_makes_353 ⟨by show _ ≤ 320; omega, by show _ ≤ 2500; omega⟩) hS (fun r353 E1 H locs hq hW hS => ?_)
            rcases hq with ⟨hT0, w1, hu1, hv1, hr9, hO1, hF1⟩ | ⟨hT, hr9, hE9⟩
            · obtain rfl : j339 = w1 := (nI_eq (by have := pN1_le nV; omega) (by omega)).mp hu1
              obtain ⟨cc, hc1, hc2, hcc⟩ := hI.2.1 j339 hv1
              rw [hr9, hcc]
              have hp8 : 2 ^ nC ≤ 2 ^ 8 := Nat.pow_le_pow_right (by omega) hC8
              obtain ⟨σ1, hs1⟩ : ∃ z, z = sgU σ 7 j339 (nI (j166 + 1)) := ⟨_, rfl⟩
              rw [← hs1] at hO1
              have hg1 : E1 ga = _ := hF1 _ _ hg rfl
              have hI1 : pI σ1 nC nV nG := by rw [hs1]; exact n_setI hO hI hv1 (by omega) (by omega)
              obtain ⟨fs1, hOE1⟩ := hO1.at
              have hFr1 := pFr_of (ga := ga) hF1
              refine lv_istore (lv' := [(9, .int (nI cc)), (8, .int (nI j339)), (7, .int (nI (j166 + 1))), (6, .int (nI j10)), (4, .long (pAll (σ) nV nG)), (0, .ref o), (1, .ref ga), (2, .int x), (3, .int z)]) hx hb dL_makes_356 hl (by decide) rfl (fun ls hl => ?_)
              refine lv_aload_n hx hb dL_makes_358 rfl (lv_at hl 5 rfl) ?_
              refine lv_aload_n hx hb dL_makes_359 rfl (lv_at hl 6 rfl) ?_
              refine p_rdl (x := pAll (σ1) nV nG) (vx_runS (As := [.ref o, .ref ga]) (rest := []) ⟨hx, hb, hml, hown, hts⟩ (kL_all l hl9 G E1 o ga nC nV nG (σ1) hO1 hI1 hg1) (va_cwS 2 hts gL_makes_L_all rfl rfl rfl (by decide +kernel) ⟨Nat.le_of_ble_eq_true rfl, Nat.le_of_ble_eq_true rfl⟩) (x_preS2 hX hNc hS hW) rfl rfl hl.1 rfl (lv_room (Nat.le_of_ble_eq_true rfl)) dL_makes_360 ⟨by show _ ≤ 320; omega, by show _ ≤ 2500; omega⟩) hS (fun H locs hW hS => ?_)
              refine lv_lload hx hb dL_makes_363 (lv_at hl 4 rfl) ?_
              refine W.lcmp hx hb dL_makes_365 ?_
              refine lv_if_ne (tgt := 429) hx hb dL_makes_366 (by decide) (fun c9 => False.elim (by exact c9 (by rw [hs1, n_allS]; exact lg_cmp_self _))) (fun c366 => ?_)
              refine lv_aload_n hx hb dL_makes_369 rfl (lv_at hl 6 rfl) ?_
              refine lv_iconst (v := 1) hx hb dL_makes_370 (by decide) ?_
              refine p_ild (k := 1) (v := nI nV) hx hb hX.1 hW hg1 (show vp_in (nI 1) 3 from vp_in_nI (by omega) (by omega)) rfl rfl dL_makes_371 ?_
              refine lv_if_ne (tgt := 386) hx hb dL_makes_372 (by decide) (fun c372 => ?_) (fun c9 => False.elim (by exact nI_ne0 (by omega) (by omega) c9))
              refine lv_iload hx hb dL_makes_386 (lv_at hl 0 rfl) ?_
              refine lv_if_le (tgt := 429) hx hb dL_makes_388 (by decide) (fun c9 => False.elim (by exact nI_nle (by omega) (by omega) c9)) (fun c388 => ?_)
              refine lv_iload hx hb dL_makes_391 (lv_at hl 0 rfl) ?_
              refine lv_sipush (v := 256) hx hb dL_makes_393 (by decide) ?_
              refine lv_icmp_ge (tgt := 429) hx hb dL_makes_396 (by decide) (fun c9 => False.elim (by exact nI_ge (b := 256) (by omega) (by omega) c9)) (fun c396 => ?_)
              refine lv_aload_n hx hb dL_makes_399 rfl (lv_at hl 5 rfl) ?_
              refine lv_iload hx hb dL_makes_400 (lv_at hl 1 rfl) ?_
              refine lv_iload hx hb dL_makes_402 (lv_at hl 0 rfl) ?_
              refine p_wr (vx_runV (As := [.int (nI j339), .int (nI cc)]) (rest := []) ⟨hx, hb, hml, hown, hts⟩ (dr_setCards l hl9 G E1 o nC nV nG σ1 hO1 (v := j339) (c := cc) (by omega) (n_isSet hC8 (by omega) (by omega))) (cwV 2 hts gL_makes_X4_setCards rfl rfl rfl (by decide +kernel) ⟨Nat.le_of_ble_eq_true rfl, Nat.le_of_ble_eq_true rfl⟩) (x_preV hX hS hW hOE1 rfl) rfl rfl hl.1 rfl (lv_room (Nat.le_of_ble_eq_true rfl)) dL_makes_404 ⟨by show _ ≤ 320; omega, by show _ ≤ 2500; omega⟩) hS (fun r404 E2 H locs hq hW hS => ?_)
              obtain ⟨-, w3, hu3, hv3, hr3, hO3, hF3⟩ := hq
              obtain rfl : j339 = w3 := (nI_eq (by omega) (by omega)).mp hu3
              rw [hr3]
              have hg3 : E2 ga = _ := hF3 _ _ hg1 rfl
              have hFr3 := hFr1.trans (pFr_of hF3)
              have hI3 := n_setI hO1 hI1 hv3 (c := cc) (by omega) (by omega)
              obtain ⟨fs3, hOE3⟩ := hO3.at
              rw [show σ1 7 j339 = nI (j166 + 1) from by rw [hs1, sgU_f, upd_s]]
              refine lv_iload hx hb dL_makes_407 (lv_at hl 2 rfl) ?_
              refine lv_icmp_ne (tgt := 429) hx hb dL_makes_409 (by decide) (fun c9 => False.elim (by exact c9 rfl)) (fun c409 => ?_)
              refine lv_aload_n hx hb dL_makes_412 rfl (lv_at hl 5 rfl) ?_
              refine lv_iload hx hb dL_makes_413 (lv_at hl 1 rfl) ?_
              refine lv_iload hx hb dL_makes_415 (lv_at hl 2 rfl) ?_
              refine p_wr (vx_runV (As := [.int (nI j339), .int (nI (j166 + 1))]) (rest := []) ⟨hx, hb, hml, hown, hts⟩ (dr_setCards l hl9 G E2 o nC nV nG (sgU σ1 7 j339 (nI cc)) hO3 (v := j339) (c := j166 + 1) (by omega) (n_isSet hC8 (by omega) (by omega))) (cwV 2 hts gL_makes_X4_setCards rfl rfl rfl (by decide +kernel) ⟨Nat.le_of_ble_eq_true rfl, Nat.le_of_ble_eq_true rfl⟩) (x_preV hX hS hW hOE3 rfl) rfl rfl hl.1 rfl (lv_room (Nat.le_of_ble_eq_true rfl)) dL_makes_417 ⟨by show _ ≤ 320; omega, by show _ ≤ 2500; omega⟩) hS (fun r417 E3 H locs hq hW hS => ?_)
              obtain ⟨-, w4, hu4, hv4, hr4, hO4, hF4⟩ := hq
              obtain rfl : j339 = w4 := (nI_eq (by omega) (by omega)).mp hu4
              rw [hr4]
              have hg4 : E3 ga = _ := hF4 _ _ hg3 rfl
              have hFr4 := hFr3.trans (pFr_of hF4)
              have hI4 := n_setI hO3 hI3 hv4 (c := j166 + 1) (by omega) (by omega)
              obtain ⟨fs4, hOE4⟩ := hO4.at
              rw [show sgU σ1 7 j339 (nI cc) 7 j339 = nI cc from by rw [sgU_f, upd_s]]
              refine lv_iload hx hb dL_makes_420 (lv_at hl 0 rfl) ?_
              refine lv_icmp_ne (tgt := 429) hx hb dL_makes_422 (by decide) (fun c9 => False.elim (by exact c9 rfl)) (fun c422 => ?_)
              refine lv_iconst (v := 1) hx hb dL_makes_425 (by decide) ?_
              refine lv_goto (tgt := 430) hx hb dL_makes_426 (by decide) ?_
              exact vx_ret (W.widen (k := 320) (n := 2500) (by omega) (by omega) (W.zret (v := 1) hx hb hr rfl (fun t ht hw9 => ⟨⟨_, E3, rfl, ⟨rfl, ⟨_, nC, nV, nG, hO4, hI4, hg4, hFr4, rfl, by rw [hs1]; rfl⟩⟩, (show xW G E3 t.heap from by rw [ht]; exact hW)⟩, hS.F ht⟩) hS.2.2 dL_makes_430))
            · rw [hE9] at hW
              obtain ⟨hT3, hnV⟩ := n_setT hC8 hV4 hj339 (show 1 ≤ j166 + 1 by omega) (show j166 + 1 < 2 ^ nC by omega) hT
              rw [hr9, hT3]
              refine lv_istore (lv' := [(9, .int (rEx 3)), (8, .int (nI j339)), (7, .int (nI (j166 + 1))), (6, .int (nI j10)), (4, .long (pAll (σ) nV nG)), (0, .ref o), (1, .ref ga), (2, .int x), (3, .int z)]) hx hb dL_makes_356 hl (by decide) rfl (fun ls hl => ?_)
              refine lv_aload_n hx hb dL_makes_358 rfl (lv_at hl 5 rfl) ?_
              refine lv_aload_n hx hb dL_makes_359 rfl (lv_at hl 6 rfl) ?_
              refine p_rdl (x := pAll (σ) nV nG) (vx_runS (As := [.ref o, .ref ga]) (rest := []) ⟨hx, hb, hml, hown, hts⟩ (kL_all l hl9 G E o ga nC nV nG (σ) hO hI hg) (va_cwS 2 hts gL_makes_L_all rfl rfl rfl (by decide +kernel) ⟨Nat.le_of_ble_eq_true rfl, Nat.le_of_ble_eq_true rfl⟩) (x_preS2 hX hNc hS hW) rfl rfl hl.1 rfl (lv_room (Nat.le_of_ble_eq_true rfl)) dL_makes_360 ⟨by show _ ≤ 320; omega, by show _ ≤ 2500; omega⟩) hS (fun H locs hW hS => ?_)
              refine lv_lload hx hb dL_makes_363 (lv_at hl 4 rfl) ?_
              refine W.lcmp hx hb dL_makes_365 ?_
              refine lv_if_ne (tgt := 429) hx hb dL_makes_366 (by decide) (fun c9 => False.elim (by exact c9 (lg_cmp_self _))) (fun c366 => ?_)
              refine lv_aload_n hx hb dL_makes_369 rfl (lv_at hl 6 rfl) ?_
              refine lv_iconst (v := 1) hx hb dL_makes_370 (by decide) ?_
              refine p_ild (k := 1) (v := nI nV) hx hb hX.1 hW hg (show vp_in (nI 1) 3 from vp_in_nI (by omega) (by omega)) rfl rfl dL_makes_371 ?_
              refine lv_if_ne (tgt := 386) hx hb dL_makes_372 (by decide) (fun c9 => False.elim (by exact c9 (by rw [hnV]; rfl))) (fun c372 => ?_)
              refine lv_iload hx hb dL_makes_375 (lv_at hl 0 rfl) ?_
              refine lv_sipush (v := (-1021)) hx hb dL_makes_377 (by decide) ?_
              refine lv_icmp_ne (tgt := 429) hx hb dL_makes_380 (by decide) (fun c9 => False.elim (by exact c9 rfl)) (fun c380 => ?_)
              refine lv_goto (tgt := 425) hx hb dL_makes_383 (by decide) ?_
              refine lv_iconst (v := 1) hx hb dL_makes_425 (by decide) ?_
              refine lv_goto (tgt := 430) hx hb dL_makes_426 (by decide) ?_
              exact vx_ret (W.widen (k := 320) (n := 2500) (by omega) (by omega) (W.zret (v := 1) hx hb hr rfl (fun t ht hw9 => ⟨⟨_, E, rfl, ⟨rfl, ⟨σ, nC, nV, nG, hO, hI, hg, pFr_rf, rfl, rfl⟩⟩, (show xW G E t.heap from by rw [ht]; exact hW)⟩, hS.F ht⟩) hS.2.2 dL_makes_430))
          · refine lv_if_ne (tgt := 336) hx hb dL_makes_329 (by decide) (fun cz => ?_) (fun cz => ?_)
            · refine lv_aload_n hx hb dL_makes_336 rfl (lv_at hl 4 rfl) ?_
              refine lv_iconst (v := 1) hx hb dL_makes_337 (by decide) ?_
              refine p_ild (k := 1) (v := nI nV) hx hb hX.1 hW hg (show vp_in (nI 1) 3 from vp_in_nI (by omega) (by omega)) rfl rfl dL_makes_338 ?_
              exact J _ (by rw [pN1, if_neg (fun z => cz (by rw [z]; rfl))])
            · refine lv_iconst (v := 1) hx hb dL_makes_332 (by decide) ?_
              refine lv_goto (tgt := 339) hx hb dL_makes_333 (by decide) ?_
              exact J _ (by rw [pN1, if_pos ((nI_eq (by omega) (by omega)).mp (cz.trans nI_0.symm))]; rfl)
        · refine lv_aload_n hx hb dL_makes_179 rfl (lv_at hl 3 rfl) ?_
          refine lv_iconst (v := 1) hx hb dL_makes_180 (by decide) ?_
          refine lv_iload_n hx hb dL_makes_181 rfl (lv_at hl 6 rfl) ?_
          refine lv_iconst (v := 4) hx hb dL_makes_182 (by decide) ?_
          refine lv_ishr hx hb dL_makes_183 ?_
          refine lv_ldc (v := 33554432) hx hb hown hk95 dL_makes_184 ?_
          refine x_callSi (va_runS (As := [.int (z >>> (4 &&& 31)), .int 33554432]) (rest := [.int 1, .ref o]) ⟨hx, hb, hml, hown, hts⟩ (kS l (z >>> (4 &&& 31)) (N := 33554432) (by omega) (by omega)) (va_cwS 2 hts gL_makes_L_some rfl rfl rfl (by decide +kernel) ⟨Nat.le_of_ble_eq_true rfl, Nat.le_of_ble_eq_true rfl⟩) x_preT rfl rfl hl.1 rfl (lv_room (Nat.le_of_ble_eq_true rfl)) dL_makes_186 ⟨by show _ ≤ 320; omega, by show _ ≤ 2500; omega⟩) (fun vj186 hvj186 => ?_)
          obtain ⟨j186, hj186, ej186, xj186⟩ := hvj186
          rw [ej186]
          refine lv_iload_n hx hb dL_makes_189 rfl (lv_at hl 5 rfl) ?_
          refine lv_iconst (v := 4) hx hb dL_makes_190 (by decide) ?_
          refine lv_ishr hx hb dL_makes_191 ?_
          refine lv_ldc (v := 33554432) hx hb hown hk95 dL_makes_192 ?_
          refine x_callSi (va_runS (As := [.int (x >>> (4 &&& 31)), .int 33554432]) (rest := [.int (nI j186), .int 1, .ref o]) ⟨hx, hb, hml, hown, hts⟩ (kS l (x >>> (4 &&& 31)) (N := 33554432) (by omega) (by omega)) (va_cwS 2 hts gL_makes_L_some rfl rfl rfl (by decide +kernel) ⟨Nat.le_of_ble_eq_true rfl, Nat.le_of_ble_eq_true rfl⟩) x_preT rfl rfl hl.1 rfl (lv_room (Nat.le_of_ble_eq_true rfl)) dL_makes_194 ⟨by show _ ≤ 320; omega, by show _ ≤ 2500; omega⟩) (fun vj194 hvj194 => ?_)
          obtain ⟨j194, hj194, ej194, xj194⟩ := hvj194
          rw [ej194]
          refine lv_iand hx hb dL_makes_197 ?_
          refine lv_iload_n hx hb dL_makes_198 rfl (lv_at hl 6 rfl) ?_
          refine lv_iconst (v := 2) hx hb dL_makes_199 (by decide) ?_
          refine lv_ishr hx hb dL_makes_200 ?_
          refine lv_ldc (v := 33554432) hx hb hown hk95 dL_makes_201 ?_
          refine x_callSi (va_runS (As := [.int (z >>> (2 &&& 31)), .int 33554432]) (rest := [.int ((nI j186) &&& (nI j194)), .int 1, .ref o]) ⟨hx, hb, hml, hown, hts⟩ (kS l (z >>> (2 &&& 31)) (N := 33554432) (by omega) (by omega)) (va_cwS 2 hts gL_makes_L_some rfl rfl rfl (by decide +kernel) ⟨Nat.le_of_ble_eq_true rfl, Nat.le_of_ble_eq_true rfl⟩) x_preT rfl rfl hl.1 rfl (lv_room (Nat.le_of_ble_eq_true rfl)) dL_makes_203 ⟨by show _ ≤ 320; omega, by show _ ≤ 2500; omega⟩) (fun vj203 hvj203 => ?_)
          obtain ⟨j203, hj203, ej203, xj203⟩ := hvj203
          rw [ej203]
          refine lv_iand hx hb dL_makes_206 ?_
          rw [show (((nI j186) &&& (nI j194)) &&& (nI j203) : Int32) = nI (j186 &&& j194 &&& j203) from n_and2 j186 j194 j203]
          refine lv_iload hx hb dL_makes_207 (lv_at hl 0 rfl) ?_
          refine lv_iconst (v := 0) hx hb dL_makes_209 (by decide) ?_
          refine lv_iconst (v := 0) hx hb dL_makes_210 (by decide) ?_
          refine lv_iconst (v := 0) hx hb dL_makes_211 (by decide) ?_
          refine p_wr (vx_runSX (As := [.ref o, .int 1, .int (nI (j186 &&& j194 &&& j203)), .int (nI (j166 + 1)), .int 0, .int 0, .int 0]) (rest := []) ⟨hx, hb, hml, hown, hts⟩ (kC_variant l hl9 G E o (nI (j186 &&& j194 &&& j203)) (nI (j166 + 1)) (0 : Int32) (0 : Int32) (0 : Int32) nC nV nG σ hO hZ9) (vx_cwSW 7 hts gL_makes_L_call rfl rfl rfl (by decide +kernel) ⟨Nat.le_of_ble_eq_true rfl, Nat.le_of_ble_eq_true rfl⟩) (x_preS2 hX hNc hS hW) rfl rfl hl.1 rfl (lv_room (Nat.le_of_ble_eq_true rfl)) dL_makes_212 ⟨by show _ ≤ 320; omega, by show _ ≤ 2500; omega⟩) hS (fun r212 E4 H locs hq hW hS => ?_)
          rcases hq with ⟨hT0, hr9, h4, hO1, hF1⟩ | ⟨hT, hr9, hE9⟩
          · obtain ⟨σ1, hs1⟩ : ∃ z, z = sgVar σ nV (nI (j186 &&& j194 &&& j203)) (nI (j166 + 1)) := ⟨_, rfl⟩
            rw [← hs1] at hO1
            rw [hr9]
            have hg1 : E4 ga = _ := hF1 _ _ hg rfl
            refine lv_istore (lv' := [(8, .int (nI nV)), (7, .int (nI (j166 + 1))), (6, .int (nI j10)), (4, .long (pAll (σ) nV nG)), (0, .ref o), (1, .ref ga), (2, .int x), (3, .int z)]) hx hb dL_makes_215 hl (by decide) rfl (fun ls hl => ?_)
            refine lv_iload hx hb dL_makes_217 (lv_at hl 0 rfl) ?_
            refine lv_if_ge (tgt := 254) hx hb dL_makes_219 (by decide) (fun c219 => ?_) (fun c9 => False.elim (by exact c9 (nI_pos' (by omega))))
            refine lv_aload_n hx hb dL_makes_254 rfl (lv_at hl 5 rfl) ?_
            refine lv_iconst (v := 1) hx hb dL_makes_255 (by decide) ?_
            refine lv_dup2_11 hx hb dL_makes_256 rfl rfl ?_
            refine p_ild (k := 1) (v := nI nV) hx hb hX.1 hW hg1 (show vp_in (nI 1) 3 from vp_in_nI (by omega) (by omega)) rfl rfl dL_makes_257 ?_
            refine lv_iconst (v := 1) hx hb dL_makes_258 (by decide) ?_
            refine lv_iadd hx hb dL_makes_259 ?_
            refine x_iast (G := G) hx hb hX.1 hW hS hg1 (show vp_in (nI 1) 3 from vp_in_nI (by omega) (by omega)) dL_makes_260 (fun H locs hW hS => ?_)
            rw [show (1 : Int32).toNatClampNeg = 1 from rfl, gF_1 nC nV nG] at hW
            obtain ⟨E5, eE5⟩ : ∃ z, z = xU E4 ga (.inl (G.2.1 0, 3, .inl (gF nC (nV + 1) nG))) := ⟨_, rfl⟩
            rw [← eE5] at hW
            have hg2 : E5 ga = some (.inl (G.2.1 0, 3, .inl (gF nC (nV + 1) nG))) := by rw [eE5]; exact xU_self _ _ _
            have hF2 : pFr ga E E5 := pFr_put (pFr_of hF1) eE5
            have hO2 := hO1.fr (by rw [eE5]; exact xFr_put xFr_rf hg1 rfl _ : xFr tM _ E5)
            obtain ⟨fs2, hOE2⟩ := hO2.at
            have hI2 : pI σ1 nC (nV + 1) nG := by rw [hs1]; exact n_varI hO hI hT0 h4 (n_and3 hj186) (by omega) (by omega)
            refine lv_iload hx hb dL_makes_261 (lv_at hl 0 rfl) ?_
            refine lv_aload_n hx hb dL_makes_263 rfl (lv_at hl 5 rfl) ?_
            refine lv_iconst (v := 1) hx hb dL_makes_264 (by decide) ?_
            refine p_ild (k := 1) (v := nI (nV + 1)) hx hb hX.1 hW hg2 (show vp_in (nI 1) 3 from vp_in_nI (by omega) (by omega)) rfl rfl dL_makes_265 ?_
            refine lv_iconst (v := 1) hx hb dL_makes_266 (by decide) ?_
            refine lv_isub hx hb dL_makes_267 ?_
            refine lv_icmp_ne (tgt := 320) hx hb dL_makes_268 (by decide) (fun c9 => False.elim (by exact c9 (nI_pred nV).symm)) (fun c268 => ?_)
            refine lv_aload_n hx hb dL_makes_271 rfl (lv_at hl 4 rfl) ?_
            refine lv_iload hx hb dL_makes_272 (lv_at hl 0 rfl) ?_
            refine p_rd (x := zI (pBan σ1 nV)) (vx_runV (As := [.int (nI nV)]) (rest := []) ⟨hx, hb, hml, hown, hts⟩ (dr_isBanned l hl9 G E5 o nC (nV + 1) nG σ1 hO2 (v := nV) (by omega)) (cwV 1 hts gL_makes_X4_isBanned rfl rfl rfl (by decide +kernel) ⟨Nat.le_of_ble_eq_true rfl, Nat.le_of_ble_eq_true rfl⟩) (x_preV hX hS hW hOE2 rfl) rfl rfl hl.1 rfl (lv_room (Nat.le_of_ble_eq_true rfl)) dL_makes_274 ⟨by show _ ≤ 320; omega, by show _ ≤ 2500; omega⟩) hS (fun H locs hW hS => ?_)
            refine x_ifz_ne (b := pBan σ1 nV) (tgt := 320) hx hb dL_makes_277 (by decide) (fun c9 => False.elim (by rw [hs1, n_varB hI] at c9; cases c9)) (fun c277 => ?_)
            refine lv_aload_n hx hb dL_makes_280 rfl (lv_at hl 4 rfl) ?_
            refine lv_iload hx hb dL_makes_281 (lv_at hl 0 rfl) ?_
            refine p_rd (x := σ1 9 nV) (vx_runV (As := [.int (nI nV)]) (rest := []) ⟨hx, hb, hml, hown, hts⟩ (dr_endless l hl9 G E5 o nC (nV + 1) nG σ1 hO2 (v := nV) (by omega)) (cwV 1 hts gL_makes_X4_endless rfl rfl rfl (by decide +kernel) ⟨Nat.le_of_ble_eq_true rfl, Nat.le_of_ble_eq_true rfl⟩) (x_preV hX hS hW hOE2 rfl) rfl rfl hl.1 rfl (lv_room (Nat.le_of_ble_eq_true rfl)) dL_makes_283 ⟨by show _ ≤ 320; omega, by show _ ≤ 2500; omega⟩) hS (fun H locs hW hS => ?_)
            refine lv_if_ne (tgt := 320) hx hb dL_makes_286 (by decide) (fun c9 => False.elim (by exact c9 (by rw [hs1]; exact n_varE hI))) (fun c286 => ?_)
            refine lv_aload_n hx hb dL_makes_289 rfl (lv_at hl 4 rfl) ?_
            refine lv_iload_n hx hb dL_makes_290 rfl (lv_at hl 7 rfl) ?_
            refine lv_iconst (v := 5) hx hb dL_makes_291 (by decide) ?_
            refine x_callSi (va_runS (As := [.int z, .int 5]) (rest := [.ref o]) ⟨hx, hb, hml, hown, hts⟩ (kS l z (N := 5) (by omega) (by omega)) (va_cwS 2 hts gL_makes_L_some rfl rfl rfl (by decide +kernel) ⟨Nat.le_of_ble_eq_true rfl, Nat.le_of_ble_eq_true rfl⟩) x_preT rfl rfl hl.1 rfl (lv_room (Nat.le_of_ble_eq_true rfl)) dL_makes_292 ⟨by show _ ≤ 320; omega, by show _ ≤ 2500; omega⟩) (fun vj292 hvj292 => ?_)
            obtain ⟨j292, hj292, ej292, xj292⟩ := hvj292
            rw [ej292]
            refine lv_iload hx hb dL_makes_295 (lv_at hl 0 rfl) ?_
            refine p_rd (x := pPts σ1 nG nV (nI j292)) (vx_runV (As := [.int (nI j292), .int (nI nV)]) (rest := []) ⟨hx, hb, hml, hown, hts⟩ (dr_points l hl9 G E5 o nC (nV + 1) nG σ1 hO2 (v := nV) (p := j292) (by omega) (by omega)) (cwV 2 hts gL_makes_X4_points rfl rfl rfl (by decide +kernel) ⟨Nat.le_of_ble_eq_true rfl, Nat.le_of_ble_eq_true rfl⟩) (x_preV hX hS hW hOE2 rfl) rfl rfl hl.1 rfl (lv_room (Nat.le_of_ble_eq_true rfl)) dL_makes_297 ⟨by show _ ≤ 320; omega, by show _ ≤ 2500; omega⟩) hS (fun H locs hW hS => ?_)
            refine lv_if_ne (tgt := 320) hx hb dL_makes_300 (by decide) (fun c9 => False.elim (by exact c9 (by rw [hs1]; exact n_varP hO hI hj292))) (fun c300 => ?_)
            refine lv_aload_n hx hb dL_makes_303 rfl (lv_at hl 4 rfl) ?_
            refine lv_iload hx hb dL_makes_304 (lv_at hl 0 rfl) ?_
            refine lv_iload hx hb dL_makes_306 (lv_at hl 1 rfl) ?_
            refine p_wr (vx_runV (As := [.int (nI nV), .int (nI (j166 + 1))]) (rest := []) ⟨hx, hb, hml, hown, hts⟩ (dr_setCards l hl9 G E5 o nC (nV + 1) nG σ1 hO2 (v := nV) (c := j166 + 1) (by omega) (n_isSet hC8 (by omega) (by omega))) (cwV 2 hts gL_makes_X4_setCards rfl rfl rfl (by decide +kernel) ⟨Nat.le_of_ble_eq_true rfl, Nat.le_of_ble_eq_true rfl⟩) (x_preV hX hS hW hOE2 rfl) rfl rfl hl.1 rfl (lv_room (Nat.le_of_ble_eq_true rfl)) dL_makes_308 ⟨by show _ ≤ 320; omega, by show _ ≤ 2500; omega⟩) hS (fun r308 E6 H locs hq hW hS => ?_)
            obtain ⟨-, w3, hu3, hv3, hr3, hO3, hF3⟩ := hq
            obtain rfl : nV = w3 := (nI_eq (by omega) (by omega)).mp hu3
            rw [hr3]
            have hg3 : E6 ga = _ := hF3 _ _ hg2 rfl
            have hFr3 := hF2.trans (pFr_of hF3)
            have hI3 := n_setI hO2 hI2 hv3 (c := j166 + 1) (by omega) (by omega)
            obtain ⟨fs3, hOE3⟩ := hO3.at
            rw [show σ1 7 nV = nI (j166 + 1) from by rw [hs1]; exact n_var7]
            refine lv_iload hx hb dL_makes_311 (lv_at hl 1 rfl) ?_
            refine lv_icmp_ne (tgt := 320) hx hb dL_makes_313 (by decide) (fun c9 => False.elim (by exact c9 rfl)) (fun c313 => ?_)
            refine lv_iconst (v := 1) hx hb dL_makes_316 (by decide) ?_
            refine lv_goto (tgt := 321) hx hb dL_makes_317 (by decide) ?_
            exact vx_ret (W.widen (k := 320) (n := 2500) (by omega) (by omega) (W.zret (v := 1) hx hb hr rfl (fun t ht hw9 => ⟨⟨_, E6, rfl, ⟨rfl, ⟨sgU σ1 7 nV (nI (j166 + 1)), nC, nV + 1, nG, hO3, hI3, hg3, hFr3, rfl, by rw [hs1]; rfl⟩⟩, (show xW G E6 t.heap from by rw [ht]; exact hW)⟩, hS.F ht⟩) hS.2.2 dL_makes_321))
          · rw [hE9] at hW
            obtain ⟨hT2, hnV⟩ := n_varT hC8 hV4 (n_and3 hj186) (show 1 ≤ j166 + 1 by omega) (show j166 + 1 < 2 ^ nC by omega) hT
            rw [hr9, hT2]
            refine lv_istore (lv' := [(8, .int (rEx 2)), (7, .int (nI (j166 + 1))), (6, .int (nI j10)), (4, .long (pAll (σ) nV nG)), (0, .ref o), (1, .ref ga), (2, .int x), (3, .int z)]) hx hb dL_makes_215 hl (by decide) rfl (fun ls hl => ?_)
            refine lv_iload hx hb dL_makes_217 (lv_at hl 0 rfl) ?_
            refine lv_if_ge (tgt := 254) hx hb dL_makes_219 (by decide) (fun c9 => False.elim (by exact rEx_neg _ c9)) (fun c219 => ?_)
            refine lv_iload hx hb dL_makes_222 (lv_at hl 0 rfl) ?_
            refine lv_sipush (v := (-1023)) hx hb dL_makes_224 (by decide) ?_
            refine lv_icmp_ne (tgt := 252) hx hb dL_makes_227 (by decide) (fun c9 => False.elim (by exact c9 rfl)) (fun c227 => ?_)
            refine lv_aload_n hx hb dL_makes_230 rfl (lv_at hl 5 rfl) ?_
            refine lv_iconst (v := 1) hx hb dL_makes_231 (by decide) ?_
            refine p_ild (k := 1) (v := nI nV) hx hb hX.1 hW hg (show vp_in (nI 1) 3 from vp_in_nI (by omega) (by omega)) rfl rfl dL_makes_232 ?_
            refine lv_iconst (v := 4) hx hb dL_makes_233 (by decide) ?_
            refine lv_icmp_ne (tgt := 252) hx hb dL_makes_234 (by decide) (fun c9 => False.elim (by exact c9 (by rw [hnV]; rfl))) (fun c234 => ?_)
            refine lv_aload_n hx hb dL_makes_237 rfl (lv_at hl 4 rfl) ?_
            refine lv_aload_n hx hb dL_makes_238 rfl (lv_at hl 5 rfl) ?_
            refine p_rdl (x := pAll (σ) nV nG) (vx_runS (As := [.ref o, .ref ga]) (rest := []) ⟨hx, hb, hml, hown, hts⟩ (kL_all l hl9 G E o ga nC nV nG (σ) hO hI hg) (va_cwS 2 hts gL_makes_L_all rfl rfl rfl (by decide +kernel) ⟨Nat.le_of_ble_eq_true rfl, Nat.le_of_ble_eq_true rfl⟩) (x_preS2 hX hNc hS hW) rfl rfl hl.1 rfl (lv_room (Nat.le_of_ble_eq_true rfl)) dL_makes_239 ⟨by show _ ≤ 320; omega, by show _ ≤ 2500; omega⟩) hS (fun H locs hW hS => ?_)
            refine lv_lload hx hb dL_makes_242 (lv_at hl 3 rfl) ?_
            refine W.lcmp hx hb dL_makes_244 ?_
            refine lv_if_ne (tgt := 252) hx hb dL_makes_245 (by decide) (fun c9 => False.elim (by exact c9 (lg_cmp_self _))) (fun c245 => ?_)
            refine lv_iconst (v := 1) hx hb dL_makes_248 (by decide) ?_
            refine lv_goto (tgt := 253) hx hb dL_makes_249 (by decide) ?_
            exact vx_ret (W.widen (k := 320) (n := 2500) (by omega) (by omega) (W.zret (v := 1) hx hb hr rfl (fun t ht hw9 => ⟨⟨_, E, rfl, ⟨rfl, ⟨σ, nC, nV, nG, hO, hI, hg, pFr_rf, rfl, rfl⟩⟩, (show xW G E t.heap from by rw [ht]; exact hW)⟩, hS.F ht⟩) hS.2.2 dL_makes_253))
      · exact J27

