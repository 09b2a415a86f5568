set_option maxHeartbeats 4000000 in
set_option maxRecDepth 100000 in
/-- what the law asks of every state holds -/
theorem kL_kept (l : Launch) (hl9 : l.stackTraces = false) (G : xG) (E : xE) (o ga nC nV nG : Nat) (σ : xSg) (hO : pOb G E o σ nC nV nG) (hI : pI σ nC nV nG) (hg : E ga = some (.inl (G.2.1 0, 3, .inl (gF nC nV nG)))) : vx_Met l yL_kept wsL_kept ({ frames := 12, cells := 287, slots := 2128, locals := 330 }) (va_Pc [.ref o, .ref ga] (xB2 G E)) (va_Qi (S := xE) (pRd 1 E) (fun E' t => xW G E' t.heap) (xA G)) (xX G E (fun _ => False)) 287 2128 (xA G) := by
  refine vx_ofW (cc := cL_kept) (maxL := 10) (ret := (some .boolean)) (by decide) rfl ?_
  intro p e s m args below meth c s₁ B hml hno hv
  obtain ⟨rfl, ⟨hX, hW⟩, hNc⟩ := hv
  have hx := B.exec
  have hb := B.bytes
  have hr := B.returns
  have hts := atoms_spec (ws := wsL_kept) B.pre
  have hown : s.vm.findClass RL = some m.cls := findClass_of_methodNamed B.named
  have hlocks := B.notSynchronized
  have hS : va_S (xA G) s.heap s.heap [] := va_S.rf
  have hk95 := hts (Cond.constant RL 95 (33554432)) (by decide +kernel)
  have hl := lv_entry ([.ref o, .ref ga]) (n := 10) (Nat.le_of_ble_eq_true rfl)
  rw [lg_entry_eq]
  generalize (lg_sl ([.ref o, .ref ga]) ++ List.replicate (10 - (lg_sl ([.ref o, .ref ga])).length) Slot.unset).toArray = ls at hl ⊢
  have hl : lv_has ls 10 [(0, .ref o), (1, .ref ga)] := hl
  obtain ⟨H, hH⟩ : ∃ z, z = s.heap := ⟨_, rfl⟩
  rw [← hH] at hW
  have hS : va_S (xA G) s.heap H [] := by rw [hH]; exact hS
  rw [← hH]
  obtain ⟨fs, hOE⟩ := hO.at
  obtain ⟨h00, h05, h010, hC8, hV4, hG12⟩ := hO.nums
  refine lv_aload_n hx hb dL_kept_0 rfl (lv_at hl 0 rfl) ?_
  refine lv_iconst (v := 4) hx hb dL_kept_1 (by decide) ?_
  refine lv_aload_n hx hb dL_kept_2 rfl (lv_at hl 1 rfl) ?_
  refine lv_iconst (v := 2) hx hb dL_kept_3 (by decide) ?_
  refine p_ild (k := 2) (v := nI nG) hx hb hX.1 hW hg (show vp_in (nI 2) 3 from vp_in_nI (by omega) (by omega)) rfl rfl dL_kept_4 ?_
  refine lv_iconst (v := 0) hx hb dL_kept_5 (by decide) ?_
  refine lv_iconst (v := 0) hx hb dL_kept_6 (by decide) ?_
  refine lv_iconst (v := 0) hx hb dL_kept_7 (by decide) ?_
  refine lv_iconst (v := 0) hx hb dL_kept_8 (by decide) ?_
  refine p_rd (x := (-1021)) (vx_runSX (As := [.ref o, .int 4, .int (nI nG), .int 0, .int 0, .int 0, .int 0]) (rest := []) ⟨hx, hb, hml, hown, hts⟩ (kR_can l hl9 G E o (nI nG) (0 : Int32) (0 : Int32) (0 : Int32) (0 : Int32) nC nV nG σ hO (x := -1021) (by rw [q_can3 hG12]; decide) (by rw [q_can3 hG12]; rfl)) (vx_cwSW 7 hts gL_kept_L_call rfl rfl rfl (by decide +kernel) ⟨Nat.le_of_ble_eq_true rfl, Nat.le_of_ble_eq_true rfl⟩) (x_preS2 hX hNc hS hW) rfl rfl hl.1 rfl (lv_room (Nat.le_of_ble_eq_true rfl)) dL_kept_9 ⟨by show _ ≤ 287; omega, by show _ ≤ 2128; omega⟩) hS (fun H locs hW hS => ?_)
  refine lv_sipush (v := (-1021)) hx hb dL_kept_12 (by decide) ?_
  refine lv_icmp_ne (tgt := 131) hx hb dL_kept_15 (by decide) (fun c9 => absurd (by decide) c9) (fun _ => ?_)
  refine lv_aload_n hx hb dL_kept_18 rfl (lv_at hl 0 rfl) ?_
  refine lv_iconst (v := 5) hx hb dL_kept_19 (by decide) ?_
  refine lv_iconst (v := (-1)) hx hb dL_kept_20 (by decide) ?_
  refine lv_iconst (v := 0) hx hb dL_kept_21 (by decide) ?_
  refine lv_iconst (v := 0) hx hb dL_kept_22 (by decide) ?_
  refine lv_iconst (v := 0) hx hb dL_kept_23 (by decide) ?_
  refine lv_iconst (v := 0) hx hb dL_kept_24 (by decide) ?_
  refine p_rd (x := (-1021)) (vx_runSX (As := [.ref o, .int 5, .int (-1), .int 0, .int 0, .int 0, .int 0]) (rest := []) ⟨hx, hb, hml, hown, hts⟩ (kR_canByAll l hl9 G E o ((-1) : Int32) (0 : Int32) (0 : Int32) (0 : Int32) (0 : Int32) nC nV nG σ hO (x := -1021) (by rw [q_cab3]; decide) (by rw [q_cab3]; rfl)) (vx_cwSW 7 hts gL_kept_L_call rfl rfl rfl (by decide +kernel) ⟨Nat.le_of_ble_eq_true rfl, Nat.le_of_ble_eq_true rfl⟩) (x_preS2 hX hNc hS hW) rfl rfl hl.1 rfl (lv_room (Nat.le_of_ble_eq_true rfl)) dL_kept_25 ⟨by show _ ≤ 287; omega, by show _ ≤ 2128; omega⟩) hS (fun H locs hW hS => ?_)
  refine lv_sipush (v := (-1021)) hx hb dL_kept_28 (by decide) ?_
  refine lv_icmp_ne (tgt := 131) hx hb dL_kept_31 (by decide) (fun c9 => absurd (by decide) c9) (fun _ => ?_)
  refine lv_aload_n hx hb dL_kept_34 rfl (lv_at hl 0 rfl) ?_
  refine lv_bipush (v := 7) hx hb dL_kept_35 (by decide) ?_
  refine lv_aload_n hx hb dL_kept_37 rfl (lv_at hl 1 rfl) ?_
  refine lv_iconst (v := 2) hx hb dL_kept_38 (by decide) ?_
  refine p_ild (k := 2) (v := nI nG) hx hb hX.1 hW hg (show vp_in (nI 2) 3 from vp_in_nI (by omega) (by omega)) rfl rfl dL_kept_39 ?_
  refine lv_iconst (v := 0) hx hb dL_kept_40 (by decide) ?_
  refine lv_iconst (v := 0) hx hb dL_kept_41 (by decide) ?_
  refine lv_iconst (v := 0) hx hb dL_kept_42 (by decide) ?_
  refine lv_iconst (v := 0) hx hb dL_kept_43 (by decide) ?_
  refine p_rd (x := (-1021)) (vx_runSX (As := [.ref o, .int 7, .int (nI nG), .int 0, .int 0, .int 0, .int 0]) (rest := []) ⟨hx, hb, hml, hown, hts⟩ (kR_state l hl9 G E o (nI nG) (0 : Int32) (0 : Int32) (0 : Int32) (0 : Int32) nC nV nG σ hO (x := -1021) (by rw [q_st3 hG12]; decide) (by rw [q_st3 hG12]; rfl)) (vx_cwSW 7 hts gL_kept_L_call rfl rfl rfl (by decide +kernel) ⟨Nat.le_of_ble_eq_true rfl, Nat.le_of_ble_eq_true rfl⟩) (x_preS2 hX hNc hS hW) rfl rfl hl.1 rfl (lv_room (Nat.le_of_ble_eq_true rfl)) dL_kept_44 ⟨by show _ ≤ 287; omega, by show _ ≤ 2128; omega⟩) hS (fun H locs hW hS => ?_)
  refine lv_sipush (v := (-1021)) hx hb dL_kept_47 (by decide) ?_
  refine lv_icmp_ne (tgt := 131) hx hb dL_kept_50 (by decide) (fun c9 => absurd (by decide) c9) (fun _ => ?_)
  refine lv_aload_n hx hb dL_kept_53 rfl (lv_at hl 0 rfl) ?_
  refine lv_bipush (v := 10) hx hb dL_kept_54 (by decide) ?_
  refine lv_aload_n hx hb dL_kept_56 rfl (lv_at hl 1 rfl) ?_
  refine lv_iconst (v := 2) hx hb dL_kept_57 (by decide) ?_
  refine p_ild (k := 2) (v := nI nG) hx hb hX.1 hW hg (show vp_in (nI 2) 3 from vp_in_nI (by omega) (by omega)) rfl rfl dL_kept_58 ?_
  refine lv_iconst (v := 0) hx hb dL_kept_59 (by decide) ?_
  refine lv_iconst (v := 0) hx hb dL_kept_60 (by decide) ?_
  refine lv_iconst (v := 0) hx hb dL_kept_61 (by decide) ?_
  refine lv_iconst (v := 0) hx hb dL_kept_62 (by decide) ?_
  refine p_rd (x := (-1021)) (vx_runSX (As := [.ref o, .int 10, .int (nI nG), .int 0, .int 0, .int 0, .int 0]) (rest := []) ⟨hx, hb, hml, hown, hts⟩ (kR_value l hl9 G E o (nI nG) (0 : Int32) (0 : Int32) (0 : Int32) (0 : Int32) nC nV nG σ hO (x := -1021) (by rw [q_val3 hG12]; decide) (by rw [q_val3 hG12]; rfl)) (vx_cwSW 7 hts gL_kept_L_call rfl rfl rfl (by decide +kernel) ⟨Nat.le_of_ble_eq_true rfl, Nat.le_of_ble_eq_true rfl⟩) (x_preS2 hX hNc hS hW) rfl rfl hl.1 rfl (lv_room (Nat.le_of_ble_eq_true rfl)) dL_kept_63 ⟨by show _ ≤ 287; omega, by show _ ≤ 2128; omega⟩) hS (fun H locs hW hS => ?_)
  refine lv_sipush (v := (-1021)) hx hb dL_kept_66 (by decide) ?_
  refine lv_icmp_ne (tgt := 131) hx hb dL_kept_69 (by decide) (fun c9 => absurd (by decide) c9) (fun _ => ?_)
  refine lv_aload_n hx hb dL_kept_72 rfl (lv_at hl 0 rfl) ?_
  refine lv_bipush (v := 13) hx hb dL_kept_73 (by decide) ?_
  refine lv_aload_n hx hb dL_kept_75 rfl (lv_at hl 1 rfl) ?_
  refine lv_iconst (v := 1) hx hb dL_kept_76 (by decide) ?_
  refine p_ild (k := 1) (v := nI nV) hx hb hX.1 hW hg (show vp_in (nI 1) 3 from vp_in_nI (by omega) (by omega)) rfl rfl dL_kept_77 ?_
  refine lv_iconst (v := 0) hx hb dL_kept_78 (by decide) ?_
  refine lv_iconst (v := 0) hx hb dL_kept_79 (by decide) ?_
  refine lv_iconst (v := 0) hx hb dL_kept_80 (by decide) ?_
  refine lv_iconst (v := 0) hx hb dL_kept_81 (by decide) ?_
  refine p_rd (x := (-1021)) (vx_runSX (As := [.ref o, .int 13, .int (nI nV), .int 0, .int 0, .int 0, .int 0]) (rest := []) ⟨hx, hb, hml, hown, hts⟩ (kR_isBanned l hl9 G E o (nI nV) (0 : Int32) (0 : Int32) (0 : Int32) (0 : Int32) nC nV nG σ hO (x := -1021) (by rw [q_ban3 hV4]; decide) (by rw [q_ban3 hV4]; rfl)) (vx_cwSW 7 hts gL_kept_L_call rfl rfl rfl (by decide +kernel) ⟨Nat.le_of_ble_eq_true rfl, Nat.le_of_ble_eq_true rfl⟩) (x_preS2 hX hNc hS hW) rfl rfl hl.1 rfl (lv_room (Nat.le_of_ble_eq_true rfl)) dL_kept_82 ⟨by show _ ≤ 287; omega, by show _ ≤ 2128; omega⟩) hS (fun H locs hW hS => ?_)
  refine lv_sipush (v := (-1021)) hx hb dL_kept_85 (by decide) ?_
  refine lv_icmp_ne (tgt := 131) hx hb dL_kept_88 (by decide) (fun c9 => absurd (by decide) c9) (fun _ => ?_)
  refine lv_aload_n hx hb dL_kept_91 rfl (lv_at hl 0 rfl) ?_
  refine lv_bipush (v := 14) hx hb dL_kept_92 (by decide) ?_
  refine lv_iconst (v := (-1)) hx hb dL_kept_94 (by decide) ?_
  refine lv_iconst (v := 0) hx hb dL_kept_95 (by decide) ?_
  refine lv_iconst (v := 0) hx hb dL_kept_96 (by decide) ?_
  refine lv_iconst (v := 0) hx hb dL_kept_97 (by decide) ?_
  refine lv_iconst (v := 0) hx hb dL_kept_98 (by decide) ?_
  refine p_rd (x := (-1021)) (vx_runSX (As := [.ref o, .int 14, .int (-1), .int 0, .int 0, .int 0, .int 0]) (rest := []) ⟨hx, hb, hml, hown, hts⟩ (kR_endless l hl9 G E o ((-1) : Int32) (0 : Int32) (0 : Int32) (0 : Int32) (0 : Int32) nC nV nG σ hO (x := -1021) (by rw [q_end3]; decide) (by rw [q_end3]; rfl)) (vx_cwSW 7 hts gL_kept_L_call rfl rfl rfl (by decide +kernel) ⟨Nat.le_of_ble_eq_true rfl, Nat.le_of_ble_eq_true rfl⟩) (x_preS2 hX hNc hS hW) rfl rfl hl.1 rfl (lv_room (Nat.le_of_ble_eq_true rfl)) dL_kept_99 ⟨by show _ ≤ 287; omega, by show _ ≤ 2128; omega⟩) hS (fun H locs hW hS => ?_)
  refine lv_sipush (v := (-1021)) hx hb dL_kept_102 (by decide) ?_
  refine lv_icmp_ne (tgt := 131) hx hb dL_kept_105 (by decide) (fun c9 => absurd (by decide) c9) (fun _ => ?_)
  refine lv_aload_n hx hb dL_kept_108 rfl (lv_at hl 0 rfl) ?_
  refine lv_bipush (v := 15) hx hb dL_kept_109 (by decide) ?_
  refine lv_iconst (v := 0) hx hb dL_kept_111 (by decide) ?_
  refine lv_aload_n hx hb dL_kept_112 rfl (lv_at hl 1 rfl) ?_
  refine lv_iconst (v := 1) hx hb dL_kept_113 (by decide) ?_
  refine p_ild (k := 1) (v := nI nV) hx hb hX.1 hW hg (show vp_in (nI 1) 3 from vp_in_nI (by omega) (by omega)) rfl rfl dL_kept_114 ?_
  refine lv_iconst (v := 0) hx hb dL_kept_115 (by decide) ?_
  refine lv_iconst (v := 0) hx hb dL_kept_116 (by decide) ?_
  refine lv_iconst (v := 0) hx hb dL_kept_117 (by decide) ?_
  refine p_rd (x := (-1021)) (vx_runSX (As := [.ref o, .int 15, .int 0, .int (nI nV), .int 0, .int 0, .int 0]) (rest := []) ⟨hx, hb, hml, hown, hts⟩ (kR_points l hl9 G E o (0 : Int32) (nI nV) (0 : Int32) (0 : Int32) (0 : Int32) nC nV nG σ hO (x := -1021) (by rw [q_pts3 hV4]; decide) (by rw [q_pts3 hV4]; rfl)) (vx_cwSW 7 hts gL_kept_L_call rfl rfl rfl (by decide +kernel) ⟨Nat.le_of_ble_eq_true rfl, Nat.le_of_ble_eq_true rfl⟩) (x_preS2 hX hNc hS hW) rfl rfl hl.1 rfl (lv_room (Nat.le_of_ble_eq_true rfl)) dL_kept_118 ⟨by show _ ≤ 287; omega, by show _ ≤ 2128; omega⟩) hS (fun H locs hW hS => ?_)
  refine lv_sipush (v := (-1021)) hx hb dL_kept_121 (by decide) ?_
  refine lv_icmp_ne (tgt := 131) hx hb dL_kept_124 (by decide) (fun c9 => absurd (by decide) c9) (fun _ => ?_)
  refine lv_iconst (v := 1) hx hb dL_kept_127 (by decide) ?_
  refine lv_goto (tgt := 132) hx hb dL_kept_128 (by decide) ?_
  refine lv_istore_n (lv' := [(2, .int 1), (0, .ref o), (1, .ref ga)]) hx hb dL_kept_132 rfl hl (by decide) rfl (fun ls hl => ?_)
  refine lv_iconst (v := 0) hx hb dL_kept_133 (by decide) ?_
  refine lv_istore_n (lv' := [(3, .int 0), (2, .int 1), (0, .ref o), (1, .ref ga)]) hx hb dL_kept_134 rfl hl (by decide) rfl (fun ls hl => ?_)
  refine lv_iconst (v := 0) hx hb dL_kept_135 (by decide) ?_
  refine lv_istore (lv' := [(4, .int 0), (3, .int 0), (2, .int 1), (0, .ref o), (1, .ref ga)]) hx hb dL_kept_136 hl (by decide) rfl (fun ls hl => ?_)
  refine p_loop 138 10 (fun k => [(2, .int 1), (0, .ref o), (1, .ref ga), (4, .int (nI k)), (3, .int (nI (cD σ k)))]) (fun k => True) nG 16 96 (227) (1768) ?_ 0 ls _ _ _ _ (by omega) trivial (by omega) (by omega) hW hS (lv_sub hl [2, 3, 4, 0, 1] rfl)
  intro k ls H locs cellsa slotsa hka hIa hca hsa hW hS hl iha
  have hl : lv_has ls 10 [(2, .int 1), (0, .ref o), (1, .ref ga), (4, .int (nI k)), (3, .int (nI (cD σ k)))] := hl
  refine lv_iload hx hb dL_kept_138 (lv_at hl 3 rfl) ?_
  refine lv_aload_n hx hb dL_kept_140 rfl (lv_at hl 2 rfl) ?_
  refine lv_iconst (v := 2) hx hb dL_kept_141 (by decide) ?_
  refine p_ild (k := 2) (v := nI nG) hx hb hX.1 hW hg (show vp_in (nI 2) 3 from vp_in_nI (by omega) (by omega)) rfl rfl dL_kept_142 ?_
  refine lv_icmp_ge (tgt := 507) hx hb dL_kept_143 (by decide) (fun c143 => ?_) (fun c143 => ?_)
  · have hkn : nG = k := Nat.le_antisymm ((nI_leI (by omega) (by omega)).mp c143) hka
    subst hkn
    refine lv_iconst (v := 0) hx hb dL_kept_507 (by decide) ?_
    refine lv_istore (lv' := [(4, .int 0), (2, .int 1), (0, .ref o), (1, .ref ga), (3, .int (nI (cD σ nG)))]) hx hb dL_kept_508 hl (by decide) rfl (fun ls hl => ?_)
    refine lv_iconst (v := 0) hx hb dL_kept_510 (by decide) ?_
    refine lv_istore (lv' := [(5, .int 0), (4, .int 0), (2, .int 1), (0, .ref o), (1, .ref ga), (3, .int (nI (cD σ nG)))]) hx hb dL_kept_511 hl (by decide) rfl (fun ls hl => ?_)
    refine p_loop 513 10 (fun v => [(2, .int 1), (0, .ref o), (1, .ref ga), (3, .int (nI (cD σ nG))), (5, .int (nI v)), (4, .int (nI (sE σ v)))]) (fun v => True) nV 15 90 (287) (2128) ?_ 0 ls _ _ _ _ (by omega) trivial (by omega) (by omega) hW hS (lv_sub hl [2, 3, 4, 5, 0, 1] rfl)
    intro v ls H locs cellsb slotsb hkb hIb hcb hsb hW hS hl ihb
    have hl : lv_has ls 10 [(2, .int 1), (0, .ref o), (1, .ref ga), (3, .int (nI (cD σ nG))), (5, .int (nI v)), (4, .int (nI (sE σ v)))] := hl
    refine lv_iload hx hb dL_kept_513 (lv_at hl 4 rfl) ?_
    refine lv_aload_n hx hb dL_kept_515 rfl (lv_at hl 2 rfl) ?_
    refine lv_iconst (v := 1) hx hb dL_kept_516 (by decide) ?_
    refine p_ild (k := 1) (v := nI nV) hx hb hX.1 hW hg (show vp_in (nI 1) 3 from vp_in_nI (by omega) (by omega)) rfl rfl dL_kept_517 ?_
    refine lv_icmp_ge (tgt := 628) hx hb dL_kept_518 (by decide) (fun c518 => ?_) (fun c518 => ?_)
    · have hvn : nV = v := Nat.le_antisymm ((nI_leI (by omega) (by omega)).mp c518) hkb
      subst hvn
      refine lv_iload_n hx hb dL_kept_628 rfl (lv_at hl 0 rfl) ?_
      refine lv_if_eq (tgt := 642) hx hb dL_kept_629 (by decide) (fun c9 => absurd c9 (by decide)) (fun _ => ?_)
      refine lv_iload hx hb dL_kept_632 (lv_at hl 5 rfl) ?_
      refine lv_iload_n hx hb dL_kept_634 rfl (lv_at hl 3 rfl) ?_
      refine lv_icmp_gt (tgt := 642) hx hb dL_kept_635 (by decide) (fun c9 => False.elim (by exact n_ends hO hI c9)) (fun c635 => ?_)
      refine lv_iconst (v := 1) hx hb dL_kept_638 (by decide) ?_
      refine lv_goto (tgt := 643) hx hb dL_kept_639 (by decide) ?_
      exact vx_ret (W.widen (k := 287) (n := 2128) (by omega) (by omega) (W.zret (v := 1) hx hb hr rfl (fun t ht hw9 => ⟨⟨_, E, rfl, ⟨rfl, rfl⟩, (show xW G E t.heap from by rw [ht]; exact hW)⟩, hS.F ht⟩) hS.2.2 dL_kept_643))
    · have hk1b : v < nV := x_nge c518 (by omega)
      refine lv_iload_n hx hb dL_kept_521 rfl (lv_at hl 0 rfl) ?_
      refine lv_if_eq (tgt := 628) hx hb dL_kept_522 (by decide) (fun c9 => absurd c9 (by decide)) (fun _ => ?_)
      refine lv_iload hx hb dL_kept_525 (lv_at hl 5 rfl) ?_
      refine lv_aload_n hx hb dL_kept_527 rfl (lv_at hl 1 rfl) ?_
      refine lv_iload hx hb dL_kept_528 (lv_at hl 4 rfl) ?_
      refine p_rd (x := σ 9 v) (vx_runV (As := [.int (nI v)]) (rest := [.int (nI (sE σ v))]) ⟨hx, hb, hml, hown, hts⟩ (dr_endless l hl9 G E o nC nV nG σ hO (v := v) (by omega)) (cwV 1 hts gL_kept_X4_endless rfl rfl rfl (by decide +kernel) ⟨Nat.le_of_ble_eq_true rfl, Nat.le_of_ble_eq_true rfl⟩) (x_preV hX hS hW hOE rfl) rfl rfl hl.1 rfl (lv_room (Nat.le_of_ble_eq_true rfl)) dL_kept_530 ⟨by show _ ≤ 287; omega, by show _ ≤ 2128; omega⟩) hS (fun H locs hW hS => ?_)
      refine lv_iadd hx hb dL_kept_533 ?_
      rw [show ((nI (sE σ v)) + (σ 9 v) : Int32) = nI (sE σ (v + 1)) from n_sE hI hk1b]
      refine lv_istore (lv' := [(4, .int (nI (sE σ (v + 1)))), (2, .int 1), (0, .ref o), (1, .ref ga), (3, .int (nI (cD σ nG))), (5, .int (nI v))]) hx hb dL_kept_534 hl (by decide) rfl (fun ls hl => ?_)
      refine lv_iconst (v := 0) hx hb dL_kept_536 (by decide) ?_
      refine lv_istore (lv' := [(6, .int 0), (4, .int (nI (sE σ (v + 1)))), (2, .int 1), (0, .ref o), (1, .ref ga), (3, .int (nI (cD σ nG))), (5, .int (nI v))]) hx hb dL_kept_537 hl (by decide) rfl (fun ls hl => ?_)
      refine lv_iconst (v := 0) hx hb dL_kept_539 (by decide) ?_
      refine lv_istore (lv' := [(7, .int 0), (6, .int 0), (4, .int (nI (sE σ (v + 1)))), (2, .int 1), (0, .ref o), (1, .ref ga), (3, .int (nI (cD σ nG))), (5, .int (nI v))]) hx hb dL_kept_540 hl (by decide) rfl (fun ls hl => ?_)
      refine p_loop 542 10 (fun q => [(4, .int (nI (sE σ (v + 1)))), (2, .int 1), (0, .ref o), (1, .ref ga), (3, .int (nI (cD σ nG))), (5, .int (nI v)), (7, .int (nI q)), (6, .int (pSm σ nG v q))]) (fun q => True) 5 2 12 (cellsb + 11) (slotsb + 66) ?_ 0 ls _ _ _ _ (by omega) trivial (by omega) (by omega) hW hS (lv_sub hl [2, 3, 4, 5, 6, 7, 0, 1] rfl)
      intro q ls H locs cellsc slotsc hkc hIc hcc hsc hW hS hl ihc
      have hl : lv_has ls 10 [(4, .int (nI (sE σ (v + 1)))), (2, .int 1), (0, .ref o), (1, .ref ga), (3, .int (nI (cD σ nG))), (5, .int (nI v)), (7, .int (nI q)), (6, .int (pSm σ nG v q))] := hl
      refine lv_iload hx hb dL_kept_542 (lv_at hl 6 rfl) ?_
      refine lv_iconst (v := 5) hx hb dL_kept_544 (by decide) ?_
      refine lv_icmp_ge (tgt := 567) hx hb dL_kept_545 (by decide) (fun c545 => ?_) (fun c545 => ?_)
      · have hqn : 5 = q := Nat.le_antisymm ((nI_leI (a := 5) (by omega) (by omega)).mp c545) hkc
        subst hqn
        refine lv_aload_n hx hb dL_kept_567 rfl (lv_at hl 2 rfl) ?_
        refine lv_iload hx hb dL_kept_568 (lv_at hl 5 rfl) ?_
        refine p_rd (x := σ 9 v) (vx_runV (As := [.int (nI v)]) (rest := []) ⟨hx, hb, hml, hown, hts⟩ (dr_endless l hl9 G E o nC nV nG σ hO (v := v) (by omega)) (cwV 1 hts gL_kept_X4_endless rfl rfl rfl (by decide +kernel) ⟨Nat.le_of_ble_eq_true rfl, Nat.le_of_ble_eq_true rfl⟩) (x_preV hX hS hW hOE rfl) rfl rfl hl.1 rfl (lv_room (Nat.le_of_ble_eq_true rfl)) dL_kept_570 ⟨by show _ ≤ 287; omega, by show _ ≤ 2128; omega⟩) hS (fun H locs hW hS => ?_)
        refine lv_if_lt (tgt := 620) hx hb dL_kept_573 (by decide) (fun c9 => False.elim (by exact n_end0 hI hk1b c9)) (fun c573 => ?_)
        refine lv_aload_n hx hb dL_kept_576 rfl (lv_at hl 2 rfl) ?_
        refine lv_iload hx hb dL_kept_577 (lv_at hl 5 rfl) ?_
        refine p_rd (x := zI (pBan σ v)) (vx_runV (As := [.int (nI v)]) (rest := []) ⟨hx, hb, hml, hown, hts⟩ (dr_isBanned l hl9 G E o nC nV nG σ hO (v := v) (by omega)) (cwV 1 hts gL_kept_X4_isBanned rfl rfl rfl (by decide +kernel) ⟨Nat.le_of_ble_eq_true rfl, Nat.le_of_ble_eq_true rfl⟩) (x_preV hX hS hW hOE rfl) rfl rfl hl.1 rfl (lv_room (Nat.le_of_ble_eq_true rfl)) dL_kept_579 ⟨by show _ ≤ 287; omega, by show _ ≤ 2128; omega⟩) hS (fun H locs hW hS => ?_)
        refine p_jn 590 (ls' := ls) (rest' := []) ?_ (fun J590 => ?_)
        · refine lv_aload_n hx hb dL_kept_590 rfl (lv_at hl 2 rfl) ?_
          refine lv_iload hx hb dL_kept_591 (lv_at hl 5 rfl) ?_
          refine p_rd (x := σ 9 v) (vx_runV (As := [.int (nI v)]) (rest := []) ⟨hx, hb, hml, hown, hts⟩ (dr_endless l hl9 G E o nC nV nG σ hO (v := v) (by omega)) (cwV 1 hts gL_kept_X4_endless rfl rfl rfl (by decide +kernel) ⟨Nat.le_of_ble_eq_true rfl, Nat.le_of_ble_eq_true rfl⟩) (x_preV hX hS hW hOE rfl) rfl rfl hl.1 rfl (lv_room (Nat.le_of_ble_eq_true rfl)) dL_kept_593 ⟨by show _ ≤ 287; omega, by show _ ≤ 2128; omega⟩) hS (fun H locs hW hS => ?_)
          refine lv_iconst (v := 2) hx hb dL_kept_596 (by decide) ?_
          refine lv_icmp_lt (tgt := 609) hx hb dL_kept_597 (by decide) (fun c597 => ?_) (fun c597 => ?_)
          · refine lv_iload hx hb dL_kept_609 (lv_at hl 7 rfl) ?_
            refine lv_bipush (v := 36) hx hb dL_kept_611 (by decide) ?_
            refine lv_icmp_gt (tgt := 620) hx hb dL_kept_613 (by decide) (fun c9 => False.elim (by exact n_sm36 hO hI hk1b c9)) (fun c613 => ?_)
            refine lv_iconst (v := 1) hx hb dL_kept_616 (by decide) ?_
            refine lv_goto (tgt := 621) hx hb dL_kept_617 (by decide) ?_
            refine lv_istore_n (lv' := [(2, .int 1), (4, .int (nI (sE σ (v + 1)))), (0, .ref o), (1, .ref ga), (3, .int (nI (cD σ nG))), (5, .int (nI v)), (7, .int (nI 5)), (6, .int (pSm σ nG v 5))]) hx hb dL_kept_621 rfl hl (by decide) rfl (fun ls hl => ?_)
            refine lv_iinc (v := nI (v + 1)) (lv' := [(5, .int (nI (v + 1))), (2, .int 1), (4, .int (nI (sE σ (v + 1)))), (0, .ref o), (1, .ref ga), (3, .int (nI (cD σ nG))), (7, .int (nI 5)), (6, .int (pSm σ nG v 5))]) hx hb dL_kept_622 hl (k := 5) rfl (nI_1 _) (by decide) rfl (fun ls hl => ?_)
            refine lv_goto (tgt := 513) hx hb dL_kept_625 (by decide) ?_
            exact ihb ls _ _ _ _ hk1b trivial (by omega) (by omega) hW hS (lv_sub hl [1, 3, 4, 5, 0, 2] rfl)
          · refine lv_aload_n hx hb dL_kept_600 rfl (lv_at hl 2 rfl) ?_
            refine lv_iload hx hb dL_kept_601 (lv_at hl 5 rfl) ?_
            refine p_rd (x := zI (pBan σ v)) (vx_runV (As := [.int (nI v)]) (rest := []) ⟨hx, hb, hml, hown, hts⟩ (dr_isBanned l hl9 G E o nC nV nG σ hO (v := v) (by omega)) (cwV 1 hts gL_kept_X4_isBanned rfl rfl rfl (by decide +kernel) ⟨Nat.le_of_ble_eq_true rfl, Nat.le_of_ble_eq_true rfl⟩) (x_preV hX hS hW hOE rfl) rfl rfl hl.1 rfl (lv_room (Nat.le_of_ble_eq_true rfl)) dL_kept_603 ⟨by show _ ≤ 287; omega, by show _ ≤ 2128; omega⟩) hS (fun H locs hW hS => ?_)
            refine x_ifz_eq (b := pBan σ v) (tgt := 620) hx hb dL_kept_606 (by decide) (fun c9 => False.elim (by rw [n_ban2 c597] at c9; cases c9)) (fun c606 => ?_)
            refine lv_iload hx hb dL_kept_609 (lv_at hl 7 rfl) ?_
            refine lv_bipush (v := 36) hx hb dL_kept_611 (by decide) ?_
            refine lv_icmp_gt (tgt := 620) hx hb dL_kept_613 (by decide) (fun c9 => False.elim (by exact n_sm36 hO hI hk1b c9)) (fun c613 => ?_)
            refine lv_iconst (v := 1) hx hb dL_kept_616 (by decide) ?_
            refine lv_goto (tgt := 621) hx hb dL_kept_617 (by decide) ?_
            refine lv_istore_n (lv' := [(2, .int 1), (4, .int (nI (sE σ (v + 1)))), (0, .ref o), (1, .ref ga), (3, .int (nI (cD σ nG))), (5, .int (nI v)), (7, .int (nI 5)), (6, .int (pSm σ nG v 5))]) hx hb dL_kept_621 rfl hl (by decide) rfl (fun ls hl => ?_)
            refine lv_iinc (v := nI (v + 1)) (lv' := [(5, .int (nI (v + 1))), (2, .int 1), (4, .int (nI (sE σ (v + 1)))), (0, .ref o), (1, .ref ga), (3, .int (nI (cD σ nG))), (7, .int (nI 5)), (6, .int (pSm σ nG v 5))]) hx hb dL_kept_622 hl (k := 5) rfl (nI_1 _) (by decide) rfl (fun ls hl => ?_)
            refine lv_goto (tgt := 513) hx hb dL_kept_625 (by decide) ?_
            exact ihb ls _ _ _ _ hk1b trivial (by omega) (by omega) hW hS (lv_sub hl [1, 3, 4, 5, 0, 2] rfl)
        · refine x_ifz_eq (b := pBan σ v) (tgt := 590) hx hb dL_kept_582 (by decide) (fun c582 => ?_) (fun c582 => ?_)
          · exact J590
          · refine lv_iload hx hb dL_kept_585 (lv_at hl 7 rfl) ?_
            refine lv_if_ne (tgt := 620) hx hb dL_kept_587 (by decide) (fun c9 => False.elim (by exact c9 (n_ban0 c582))) (fun c587 => ?_)
            exact J590
      · have hk1c : q < 5 := x_nge (B := 5) c545 (by omega)
        refine lv_iload hx hb dL_kept_548 (lv_at hl 7 rfl) ?_
        refine lv_aload_n hx hb dL_kept_550 rfl (lv_at hl 2 rfl) ?_
        refine lv_iload hx hb dL_kept_551 (lv_at hl 6 rfl) ?_
        refine lv_iload hx hb dL_kept_553 (lv_at hl 5 rfl) ?_
        refine p_rd (x := pPts σ nG v (nI q)) (vx_runV (As := [.int (nI q), .int (nI v)]) (rest := [.int (pSm σ nG v q)]) ⟨hx, hb, hml, hown, hts⟩ (dr_points l hl9 G E o nC nV nG σ hO (v := v) (p := q) (by omega) (by omega)) (cwV 2 hts gL_kept_X4_points rfl rfl rfl (by decide +kernel) ⟨Nat.le_of_ble_eq_true rfl, Nat.le_of_ble_eq_true rfl⟩) (x_preV hX hS hW hOE rfl) rfl rfl hl.1 rfl (lv_room (Nat.le_of_ble_eq_true rfl)) dL_kept_555 ⟨by show _ ≤ 287; omega, by show _ ≤ 2128; omega⟩) hS (fun H locs hW hS => ?_)
        refine lv_iadd hx hb dL_kept_558 ?_
        refine lv_istore (lv' := [(6, .int ((pSm σ nG v q) + (pPts σ nG v (nI q)))), (4, .int (nI (sE σ (v + 1)))), (2, .int 1), (0, .ref o), (1, .ref ga), (3, .int (nI (cD σ nG))), (5, .int (nI v)), (7, .int (nI q))]) hx hb dL_kept_559 hl (by decide) rfl (fun ls hl => ?_)
        refine lv_iinc (v := nI (q + 1)) (lv' := [(7, .int (nI (q + 1))), (6, .int ((pSm σ nG v q) + (pPts σ nG v (nI q)))), (4, .int (nI (sE σ (v + 1)))), (2, .int 1), (0, .ref o), (1, .ref ga), (3, .int (nI (cD σ nG))), (5, .int (nI v))]) hx hb dL_kept_561 hl (k := 7) rfl (nI_1 _) (by decide) rfl (fun ls hl => ?_)
        refine lv_goto (tgt := 542) hx hb dL_kept_564 (by decide) ?_
        exact ihc ls _ _ _ _ hk1c trivial (by omega) (by omega) hW hS (lv_sub hl [2, 3, 4, 5, 6, 7, 0, 1] rfl)
  · have hk1a : k < nG := x_nge c143 (by omega)
    obtain ⟨hst, -, ⟨a, b, ha, hb9, hpa, hpb, hca, hcb, hab, hza, hzb⟩, hm0, hm1, hm2⟩ := hI.2.2.1 k hk1a
    have hV0 := n_val0 hO hI hk1a ha hb9 hpa hpb
    refine lv_iload_n hx hb dL_kept_146 rfl (lv_at hl 0 rfl) ?_
    refine lv_if_eq (tgt := 507) hx hb dL_kept_147 (by decide) (fun c9 => absurd c9 (by decide)) (fun _ => ?_)
    refine lv_aload_n hx hb dL_kept_150 rfl (lv_at hl 1 rfl) ?_
    refine lv_iload hx hb dL_kept_151 (lv_at hl 3 rfl) ?_
    refine lv_iconst (v := 0) hx hb dL_kept_153 (by decide) ?_
    refine p_rd (x := nI a) (mc := 1) (ms := 6) (vx_runV (As := [.int (nI k), .int 0]) (rest := []) ⟨hx, hb, hml, hown, hts⟩ ((by have h9 := dr_pieces l hl9 G E o nC nV nG σ hO (k := k) (by omega) false; rw [show pPc σ k false = nI a from hpa] at h9; exact h9)) (cwV 2 hts gL_kept_X4_pieces rfl rfl rfl (by decide +kernel) ⟨Nat.le_of_ble_eq_true rfl, Nat.le_of_ble_eq_true rfl⟩) (x_preV hX hS hW hOE rfl) rfl rfl hl.1 rfl (lv_room (Nat.le_of_ble_eq_true rfl)) dL_kept_154 ⟨by show _ ≤ 287; omega, by show _ ≤ 2128; omega⟩) hS (fun H locs hW hS => ?_)
    refine lv_istore (lv' := [(5, .int (nI a)), (2, .int 1), (0, .ref o), (1, .ref ga), (4, .int (nI k)), (3, .int (nI (cD σ k)))]) hx hb dL_kept_157 hl (by decide) rfl (fun ls hl => ?_)
    refine lv_aload_n hx hb dL_kept_159 rfl (lv_at hl 2 rfl) ?_
    refine lv_iload hx hb dL_kept_160 (lv_at hl 4 rfl) ?_
    refine lv_iconst (v := 1) hx hb dL_kept_162 (by decide) ?_
    refine p_rd (x := nI b) (mc := 1) (ms := 6) (vx_runV (As := [.int (nI k), .int 1]) (rest := []) ⟨hx, hb, hml, hown, hts⟩ ((by have h9 := dr_pieces l hl9 G E o nC nV nG σ hO (k := k) (by omega) true; rw [show pPc σ k true = nI b from hpb] at h9; exact h9)) (cwV 2 hts gL_kept_X4_pieces rfl rfl rfl (by decide +kernel) ⟨Nat.le_of_ble_eq_true rfl, Nat.le_of_ble_eq_true rfl⟩) (x_preV hX hS hW hOE rfl) rfl rfl hl.1 rfl (lv_room (Nat.le_of_ble_eq_true rfl)) dL_kept_163 ⟨by show _ ≤ 287; omega, by show _ ≤ 2128; omega⟩) hS (fun H locs hW hS => ?_)
    refine lv_istore (lv' := [(6, .int (nI b)), (5, .int (nI a)), (2, .int 1), (0, .ref o), (1, .ref ga), (4, .int (nI k)), (3, .int (nI (cD σ k)))]) hx hb dL_kept_166 hl (by decide) rfl (fun ls hl => ?_)
    refine lv_aload_n hx hb dL_kept_168 rfl (lv_at hl 3 rfl) ?_
    refine lv_iload hx hb dL_kept_169 (lv_at hl 5 rfl) ?_
    refine p_rd (x := σ 15 k) (vx_runV (As := [.int (nI k)]) (rest := []) ⟨hx, hb, hml, hown, hts⟩ (dr_state l hl9 G E o nC nV nG σ hO (k := k) (by omega)) (cwV 1 hts gL_kept_X4_state rfl rfl rfl (by decide +kernel) ⟨Nat.le_of_ble_eq_true rfl, Nat.le_of_ble_eq_true rfl⟩) (x_preV hX hS hW hOE rfl) rfl rfl hl.1 rfl (lv_room (Nat.le_of_ble_eq_true rfl)) dL_kept_171 ⟨by show _ ≤ 287; omega, by show _ ≤ 2128; omega⟩) hS (fun H locs hW hS => ?_)
    refine lv_istore (lv' := [(7, .int (σ 15 k)), (6, .int (nI b)), (5, .int (nI a)), (2, .int 1), (0, .ref o), (1, .ref ga), (4, .int (nI k)), (3, .int (nI (cD σ k)))]) hx hb dL_kept_174 hl (by decide) rfl (fun ls hl => ?_)
    refine lv_iload_n hx hb dL_kept_176 rfl (lv_at hl 7 rfl) ?_
    refine lv_iload hx hb dL_kept_177 (lv_at hl 0 rfl) ?_
    refine lv_iconst (v := 3) hx hb dL_kept_179 (by decide) ?_
    refine x_join (ls' := ls) (rest' := [.int (nI (cD σ k))]) 188 (zI (if σ 15 k = 3 then true else false)) (fun v ev => ?_) (fun J => ?_)
    · subst ev
      refine lv_iadd hx hb dL_kept_188 ?_
      rw [show ((nI (cD σ k)) + (zI (if σ 15 k = 3 then true else false)) : Int32) = nI (cD σ (k + 1)) from n_cD σ k]
      refine lv_istore_n (lv' := [(3, .int (nI (cD σ (k + 1)))), (7, .int (σ 15 k)), (6, .int (nI b)), (5, .int (nI a)), (2, .int 1), (0, .ref o), (1, .ref ga), (4, .int (nI k))]) hx hb dL_kept_189 rfl hl (by decide) rfl (fun ls hl => ?_)
      refine lv_iload hx hb dL_kept_190 (lv_at hl 1 rfl) ?_
      refine lv_if_lt (tgt := 299) hx hb dL_kept_192 (by decide) (fun c9 => False.elim (by rcases hst with h9 | h9 | h9 | h9 <;> rw [h9] at c9 <;> exact absurd c9 (by decide))) (fun c192 => ?_)
      refine lv_iload hx hb dL_kept_195 (lv_at hl 1 rfl) ?_
      refine lv_iconst (v := 4) hx hb dL_kept_197 (by decide) ?_
      refine lv_icmp_ge (tgt := 299) hx hb dL_kept_198 (by decide) (fun c9 => False.elim (by rcases hst with h9 | h9 | h9 | h9 <;> rw [h9] at c9 <;> exact absurd c9 (by decide))) (fun c198 => ?_)
      refine lv_aload_n hx hb dL_kept_201 rfl (lv_at hl 5 rfl) ?_
      refine lv_iload hx hb dL_kept_202 (lv_at hl 7 rfl) ?_
      refine p_rd (x := nI (dN σ k)) (vx_runV (As := [.int (nI k)]) (rest := []) ⟨hx, hb, hml, hown, hts⟩ (dr_made l hl9 G E o nC nV nG σ hO (k := k) (by omega)) (cwV 1 hts gL_kept_X4_made rfl rfl rfl (by decide +kernel) ⟨Nat.le_of_ble_eq_true rfl, Nat.le_of_ble_eq_true rfl⟩) (x_preV hX hS hW hOE rfl) rfl rfl hl.1 rfl (lv_room (Nat.le_of_ble_eq_true rfl)) dL_kept_204 ⟨by show _ ≤ 287; omega, by show _ ≤ 2128; omega⟩) hS (fun H locs hW hS => ?_)
      refine lv_if_lt (tgt := 299) hx hb dL_kept_207 (by decide) (fun c9 => False.elim (by exact nI_pos (dN_lt hO hI hk1a) c9)) (fun c207 => ?_)
      refine lv_aload_n hx hb dL_kept_210 rfl (lv_at hl 5 rfl) ?_
      refine lv_iload hx hb dL_kept_211 (lv_at hl 7 rfl) ?_
      refine p_rd (x := nI (dN σ k)) (vx_runV (As := [.int (nI k)]) (rest := []) ⟨hx, hb, hml, hown, hts⟩ (dr_made l hl9 G E o nC nV nG σ hO (k := k) (by omega)) (cwV 1 hts gL_kept_X4_made rfl rfl rfl (by decide +kernel) ⟨Nat.le_of_ble_eq_true rfl, Nat.le_of_ble_eq_true rfl⟩) (x_preV hX hS hW hOE rfl) rfl rfl hl.1 rfl (lv_room (Nat.le_of_ble_eq_true rfl)) dL_kept_213 ⟨by show _ ≤ 287; omega, by show _ ≤ 2128; omega⟩) hS (fun H locs hW hS => ?_)
      refine lv_bipush (v := 61) hx hb dL_kept_216 (by decide) ?_
      refine lv_icmp_ge (tgt := 299) hx hb dL_kept_218 (by decide) (fun c9 => False.elim (by exact absurd c9 (nI_ge (a := dN σ k) (b := 61) (dN_61 hO hI hk1a) (by omega)))) (fun c218 => ?_)
      refine lv_iload hx hb dL_kept_221 (lv_at hl 3 rfl) ?_
      refine lv_if_lt (tgt := 299) hx hb dL_kept_223 (by decide) (fun c9 => False.elim (by exact nI_pos (by omega) c9)) (fun c223 => ?_)
      refine lv_iload hx hb dL_kept_226 (lv_at hl 3 rfl) ?_
      refine lv_ldc (v := 33554432) hx hb hown hk95 dL_kept_228 ?_
      refine lv_icmp_ge (tgt := 299) hx hb dL_kept_230 (by decide) (fun c9 => False.elim (by exact nI_ge (b := 33554432) ha (by omega) c9)) (fun c230 => ?_)
      refine lv_iload hx hb dL_kept_233 (lv_at hl 2 rfl) ?_
      refine lv_if_lt (tgt := 299) hx hb dL_kept_235 (by decide) (fun c9 => False.elim (by exact nI_pos (by omega) c9)) (fun c235 => ?_)
      refine lv_iload hx hb dL_kept_238 (lv_at hl 2 rfl) ?_
      refine lv_ldc (v := 33554432) hx hb hown hk95 dL_kept_240 ?_
      refine lv_icmp_ge (tgt := 299) hx hb dL_kept_242 (by decide) (fun c9 => False.elim (by exact nI_ge (b := 33554432) hb9 (by omega) c9)) (fun c242 => ?_)
      refine lv_iload hx hb dL_kept_245 (lv_at hl 3 rfl) ?_
      refine lv_iload hx hb dL_kept_247 (lv_at hl 2 rfl) ?_
      refine lv_iand hx hb dL_kept_249 ?_
      refine lv_if_ne (tgt := 299) hx hb dL_kept_250 (by decide) (fun c9 => False.elim (by exact c9 (by rw [nx_and, hab]; rfl))) (fun c250 => ?_)
      refine lv_iload hx hb dL_kept_253 (lv_at hl 3 rfl) ?_
      refine x_callSe (va_runS (As := [.int (nI a)]) (rest := []) ⟨hx, hb, hml, hown, hts⟩ (kL_ones l (n := a) ha) (va_cwS 1 hts gL_kept_L_ones rfl rfl rfl (by decide +kernel) ⟨Nat.le_of_ble_eq_true rfl, Nat.le_of_ble_eq_true rfl⟩) x_preT rfl rfl hl.1 rfl (lv_room (Nat.le_of_ble_eq_true rfl)) dL_kept_255 ⟨by show _ ≤ 287; omega, by show _ ≤ 2128; omega⟩) ?_
      refine lv_bipush (v := 7) hx hb dL_kept_258 (by decide) ?_
      refine lv_icmp_ge (tgt := 299) hx hb dL_kept_260 (by decide) (fun c9 => False.elim (by exact nI_ge (b := 7) (by omega) (by omega) c9)) (fun c260 => ?_)
      refine lv_iload hx hb dL_kept_263 (lv_at hl 2 rfl) ?_
      refine x_callSe (va_runS (As := [.int (nI b)]) (rest := []) ⟨hx, hb, hml, hown, hts⟩ (kL_ones l (n := b) hb9) (va_cwS 1 hts gL_kept_L_ones rfl rfl rfl (by decide +kernel) ⟨Nat.le_of_ble_eq_true rfl, Nat.le_of_ble_eq_true rfl⟩) x_preT rfl rfl hl.1 rfl (lv_room (Nat.le_of_ble_eq_true rfl)) dL_kept_265 ⟨by show _ ≤ 287; omega, by show _ ≤ 2128; omega⟩) ?_
      refine lv_bipush (v := 7) hx hb dL_kept_268 (by decide) ?_
      refine lv_icmp_ge (tgt := 299) hx hb dL_kept_270 (by decide) (fun c9 => False.elim (by exact nI_ge (b := 7) (by omega) (by omega) c9)) (fun c270 => ?_)
      refine lv_iload hx hb dL_kept_273 (lv_at hl 3 rfl) ?_
      refine p_jn 284 (ls' := ls) (rest' := []) ?_ (fun J284 => ?_)
      · refine lv_iload hx hb dL_kept_284 (lv_at hl 2 rfl) ?_
        refine p_jn 295 (ls' := ls) (rest' := []) ?_ (fun J295 => ?_)
        · refine lv_iconst (v := 1) hx hb dL_kept_295 (by decide) ?_
          refine lv_goto (tgt := 300) hx hb dL_kept_296 (by decide) ?_
          refine lv_istore_n (lv' := [(2, .int 1), (3, .int (nI (cD σ (k + 1)))), (7, .int (σ 15 k)), (6, .int (nI b)), (5, .int (nI a)), (0, .ref o), (1, .ref ga), (4, .int (nI k))]) hx hb dL_kept_300 rfl hl (by decide) rfl (fun ls hl => ?_)
          refine lv_aload_n hx hb dL_kept_301 rfl (lv_at hl 5 rfl) ?_
          refine lv_iload hx hb dL_kept_302 (lv_at hl 7 rfl) ?_
          refine p_rd (x := nI (dN σ k)) (vx_runV (As := [.int (nI k)]) (rest := []) ⟨hx, hb, hml, hown, hts⟩ (dr_made l hl9 G E o nC nV nG σ hO (k := k) (by omega)) (cwV 1 hts gL_kept_X4_made rfl rfl rfl (by decide +kernel) ⟨Nat.le_of_ble_eq_true rfl, Nat.le_of_ble_eq_true rfl⟩) (x_preV hX hS hW hOE rfl) rfl rfl hl.1 rfl (lv_room (Nat.le_of_ble_eq_true rfl)) dL_kept_304 ⟨by show _ ≤ 287; omega, by show _ ≤ 2128; omega⟩) hS (fun H locs hW hS => ?_)
          refine lv_iconst (v := 2) hx hb dL_kept_307 (by decide) ?_
          refine lv_irem hx hb dL_kept_308 (by decide) ?_
          refine lv_iconst (v := 1) hx hb dL_kept_309 (by decide) ?_
          refine x_join (ls' := ls) (rest' := []) 318 (zI (pSec σ k)) (fun v ev => ?_) (fun J => ?_)
          · subst ev
            refine lv_istore (lv' := [(8, .int (zI (pSec σ k))), (2, .int 1), (3, .int (nI (cD σ (k + 1)))), (7, .int (σ 15 k)), (6, .int (nI b)), (5, .int (nI a)), (0, .ref o), (1, .ref ga), (4, .int (nI k))]) hx hb dL_kept_318 hl (by decide) rfl (fun ls hl => ?_)
            refine lv_aload_n hx hb dL_kept_320 rfl (lv_at hl 6 rfl) ?_
            refine lv_iload hx hb dL_kept_321 (lv_at hl 8 rfl) ?_
            refine lv_iconst (v := 0) hx hb dL_kept_323 (by decide) ?_
            refine p_rdn (x := pVal σ nC k 0) (vx_runV (As := [.int (nI k), .int 0]) (rest := []) ⟨hx, hb, hml, hown, hts⟩ (dr_value l hl9 G E o nC nV nG σ hO (k := k) (n := 0) (by omega) (by omega)) (cwV 2 hts gL_kept_X4_value rfl rfl rfl (by decide +kernel) ⟨Nat.le_of_ble_eq_true rfl, Nat.le_of_ble_eq_true rfl⟩) (x_preV hX hS hW hOE rfl) rfl rfl hl.1 rfl (lv_room (Nat.le_of_ble_eq_true rfl)) dL_kept_324 ⟨by show _ ≤ 287; omega, by show _ ≤ 2128; omega⟩) hS (fun vv hvv H locs hW hS => ?_)
            refine lv_istore (lv' := [(9, .int vv), (8, .int (zI (pSec σ k))), (2, .int 1), (3, .int (nI (cD σ (k + 1)))), (7, .int (σ 15 k)), (6, .int (nI b)), (5, .int (nI a)), (0, .ref o), (1, .ref ga), (4, .int (nI k))]) hx hb dL_kept_327 hl (by decide) rfl (fun ls hl => ?_)
            refine lv_iload_n hx hb dL_kept_329 rfl (lv_at hl 2 rfl) ?_
            refine lv_if_eq (tgt := 426) hx hb dL_kept_330 (by decide) (fun c9 => absurd c9 (by decide)) (fun _ => ?_)
            refine lv_iload hx hb dL_kept_333 (lv_at hl 0 rfl) ?_
            refine lv_bipush (v := (-100)) hx hb dL_kept_335 (by decide) ?_
            refine p_jn 375 (ls' := ls) (rest' := []) ?_ (fun J375 => ?_)
            · refine lv_iload hx hb dL_kept_375 (lv_at hl 4 rfl) ?_
              refine p_jn 387 (ls' := ls) (rest' := []) ?_ (fun J387 => ?_)
              · refine lv_iload hx hb dL_kept_387 (lv_at hl 4 rfl) ?_
                refine lv_iconst (v := 1) hx hb dL_kept_389 (by decide) ?_
                refine p_jn 422 (ls' := ls) (rest' := []) ?_ (fun J422 => ?_)
                · refine lv_iconst (v := 1) hx hb dL_kept_422 (by decide) ?_
                  refine lv_goto (tgt := 427) hx hb dL_kept_423 (by decide) ?_
                  refine lv_istore_n (lv' := [(2, .int 1), (9, .int vv), (8, .int (zI (pSec σ k))), (3, .int (nI (cD σ (k + 1)))), (7, .int (σ 15 k)), (6, .int (nI b)), (5, .int (nI a)), (0, .ref o), (1, .ref ga), (4, .int (nI k))]) hx hb dL_kept_427 rfl hl (by decide) rfl (fun ls hl => ?_)
                  refine lv_iload_n hx hb dL_kept_428 rfl (lv_at hl 0 rfl) ?_
                  refine lv_if_eq (tgt := 499) hx hb dL_kept_429 (by decide) (fun c9 => absurd c9 (by decide)) (fun _ => ?_)
                  refine lv_aload_n hx hb dL_kept_432 rfl (lv_at hl 7 rfl) ?_
                  refine lv_iload hx hb dL_kept_433 (lv_at hl 9 rfl) ?_
                  refine lv_iconst (v := 0) hx hb dL_kept_435 (by decide) ?_
                  refine p_rd (x := pVab σ nC k 0) (vx_runV (As := [.int (nI k), .int 0]) (rest := []) ⟨hx, hb, hml, hown, hts⟩ (dr_valueByAll l hl9 G E o nC nV nG σ hO (k := k) (n := 0) (by omega) (by omega)) (cwV 2 hts gL_kept_X4_valueByAll rfl rfl rfl (by decide +kernel) ⟨Nat.le_of_ble_eq_true rfl, Nat.le_of_ble_eq_true rfl⟩) (x_preV hX hS hW hOE rfl) rfl rfl hl.1 rfl (lv_room (Nat.le_of_ble_eq_true rfl)) dL_kept_436 ⟨by show _ ≤ 287; omega, by show _ ≤ 2128; omega⟩) hS (fun H locs hW hS => ?_)
                  refine lv_iload hx hb dL_kept_439 (lv_at hl 1 rfl) ?_
                  refine lv_icmp_ne (tgt := 499) hx hb dL_kept_441 (by decide) (fun c9 => False.elim (by exact c9 (by rw [hvv]; exact n_vab hO hI hk1a (by omega)))) (fun c441 => ?_)
                  refine lv_iload hx hb dL_kept_444 (lv_at hl 1 rfl) ?_
                  refine lv_bipush (v := (-100)) hx hb dL_kept_446 (by decide) ?_
                  refine lv_icmp_ne (tgt := 466) hx hb dL_kept_448 (by decide) (fun c448 => ?_) (fun c448 => ?_)
                  · refine lv_aload_n hx hb dL_kept_466 rfl (lv_at hl 7 rfl) ?_
                    refine lv_iload hx hb dL_kept_467 (lv_at hl 9 rfl) ?_
                    refine lv_iconst (v := 1) hx hb dL_kept_469 (by decide) ?_
                    refine p_rd (x := pVal σ nC k 1) (vx_runV (As := [.int (nI k), .int 1]) (rest := []) ⟨hx, hb, hml, hown, hts⟩ (dr_value l hl9 G E o nC nV nG σ hO (k := k) (n := 1) (by omega) (by omega)) (cwV 2 hts gL_kept_X4_value rfl rfl rfl (by decide +kernel) ⟨Nat.le_of_ble_eq_true rfl, Nat.le_of_ble_eq_true rfl⟩) (x_preV hX hS hW hOE rfl) rfl rfl hl.1 rfl (lv_room (Nat.le_of_ble_eq_true rfl)) dL_kept_470 ⟨by show _ ≤ 287; omega, by show _ ≤ 2128; omega⟩) hS (fun H locs hW hS => ?_)
                    refine lv_iload hx hb dL_kept_473 (lv_at hl 1 rfl) ?_
                    refine lv_icmp_lt (tgt := 499) hx hb dL_kept_475 (by decide) (fun c9 => False.elim (by rw [hvv] at c9 c448; exact absurd ((n_val1 hO hI hk1a).2 c448) (Int32.not_le.mpr c9))) (fun c475 => ?_)
                    refine lv_aload_n hx hb dL_kept_478 rfl (lv_at hl 7 rfl) ?_
                    refine lv_iload hx hb dL_kept_479 (lv_at hl 9 rfl) ?_
                    refine lv_iconst (v := 1) hx hb dL_kept_481 (by decide) ?_
                    refine p_rd (x := pVab σ nC k 1) (vx_runV (As := [.int (nI k), .int 1]) (rest := []) ⟨hx, hb, hml, hown, hts⟩ (dr_valueByAll l hl9 G E o nC nV nG σ hO (k := k) (n := 1) (by omega) (by omega)) (cwV 2 hts gL_kept_X4_valueByAll rfl rfl rfl (by decide +kernel) ⟨Nat.le_of_ble_eq_true rfl, Nat.le_of_ble_eq_true rfl⟩) (x_preV hX hS hW hOE rfl) rfl rfl hl.1 rfl (lv_room (Nat.le_of_ble_eq_true rfl)) dL_kept_482 ⟨by show _ ≤ 287; omega, by show _ ≤ 2128; omega⟩) hS (fun H locs hW hS => ?_)
                    refine lv_aload_n hx hb dL_kept_485 rfl (lv_at hl 7 rfl) ?_
                    refine lv_iload hx hb dL_kept_486 (lv_at hl 9 rfl) ?_
                    refine lv_iconst (v := 1) hx hb dL_kept_488 (by decide) ?_
                    refine p_rd (x := pVal σ nC k 1) (vx_runV (As := [.int (nI k), .int 1]) (rest := [.int (pVab σ nC k 1)]) ⟨hx, hb, hml, hown, hts⟩ (dr_value l hl9 G E o nC nV nG σ hO (k := k) (n := 1) (by omega) (by omega)) (cwV 2 hts gL_kept_X4_value rfl rfl rfl (by decide +kernel) ⟨Nat.le_of_ble_eq_true rfl, Nat.le_of_ble_eq_true rfl⟩) (x_preV hX hS hW hOE rfl) rfl rfl hl.1 rfl (lv_room (Nat.le_of_ble_eq_true rfl)) dL_kept_489 ⟨by show _ ≤ 287; omega, by show _ ≤ 2128; omega⟩) hS (fun H locs hW hS => ?_)
                    refine lv_icmp_ne (tgt := 499) hx hb dL_kept_492 (by decide) (fun c9 => False.elim (by exact c9 (n_vab hO hI hk1a (by omega)))) (fun c492 => ?_)
                    refine lv_iconst (v := 1) hx hb dL_kept_495 (by decide) ?_
                    refine lv_goto (tgt := 500) hx hb dL_kept_496 (by decide) ?_
                    refine lv_istore_n (lv' := [(2, .int 1), (9, .int vv), (8, .int (zI (pSec σ k))), (3, .int (nI (cD σ (k + 1)))), (7, .int (σ 15 k)), (6, .int (nI b)), (5, .int (nI a)), (0, .ref o), (1, .ref ga), (4, .int (nI k))]) hx hb dL_kept_500 rfl hl (by decide) rfl (fun ls hl => ?_)
                    refine lv_iinc (v := nI (k + 1)) (lv' := [(4, .int (nI (k + 1))), (2, .int 1), (9, .int vv), (8, .int (zI (pSec σ k))), (3, .int (nI (cD σ (k + 1)))), (7, .int (σ 15 k)), (6, .int (nI b)), (5, .int (nI a)), (0, .ref o), (1, .ref ga)]) hx hb dL_kept_501 hl (k := 9) rfl (nI_1 _) (by decide) rfl (fun ls hl => ?_)
                    refine lv_goto (tgt := 138) hx hb dL_kept_504 (by decide) ?_
                    exact iha ls _ _ _ _ hk1a trivial (by omega) (by omega) hW hS (lv_sub hl [1, 8, 9, 0, 4] rfl)
                  · refine lv_aload_n hx hb dL_kept_451 rfl (lv_at hl 7 rfl) ?_
                    refine lv_iload hx hb dL_kept_452 (lv_at hl 9 rfl) ?_
                    refine lv_iconst (v := 1) hx hb dL_kept_454 (by decide) ?_
                    refine p_rd (x := pVal σ nC k 1) (vx_runV (As := [.int (nI k), .int 1]) (rest := []) ⟨hx, hb, hml, hown, hts⟩ (dr_value l hl9 G E o nC nV nG σ hO (k := k) (n := 1) (by omega) (by omega)) (cwV 2 hts gL_kept_X4_value rfl rfl rfl (by decide +kernel) ⟨Nat.le_of_ble_eq_true rfl, Nat.le_of_ble_eq_true rfl⟩) (x_preV hX hS hW hOE rfl) rfl rfl hl.1 rfl (lv_room (Nat.le_of_ble_eq_true rfl)) dL_kept_455 ⟨by show _ ≤ 287; omega, by show _ ≤ 2128; omega⟩) hS (fun H locs hW hS => ?_)
                    refine lv_bipush (v := (-100)) hx hb dL_kept_458 (by decide) ?_
                    refine lv_icmp_ne (tgt := 499) hx hb dL_kept_460 (by decide) (fun c9 => False.elim (by exact c9 ((n_val1 hO hI hk1a).1 (by rw [← hvv]; exact c448)))) (fun c460 => ?_)
                    refine lv_goto (tgt := 478) hx hb dL_kept_463 (by decide) ?_
                    refine lv_aload_n hx hb dL_kept_478 rfl (lv_at hl 7 rfl) ?_
                    refine lv_iload hx hb dL_kept_479 (lv_at hl 9 rfl) ?_
                    refine lv_iconst (v := 1) hx hb dL_kept_481 (by decide) ?_
                    refine p_rd (x := pVab σ nC k 1) (vx_runV (As := [.int (nI k), .int 1]) (rest := []) ⟨hx, hb, hml, hown, hts⟩ (dr_valueByAll l hl9 G E o nC nV nG σ hO (k := k) (n := 1) (by omega) (by omega)) (cwV 2 hts gL_kept_X4_valueByAll rfl rfl rfl (by decide +kernel) ⟨Nat.le_of_ble_eq_true rfl, Nat.le_of_ble_eq_true rfl⟩) (x_preV hX hS hW hOE rfl) rfl rfl hl.1 rfl (lv_room (Nat.le_of_ble_eq_true rfl)) dL_kept_482 ⟨by show _ ≤ 287; omega, by show _ ≤ 2128; omega⟩) hS (fun H locs hW hS => ?_)
                    refine lv_aload_n hx hb dL_kept_485 rfl (lv_at hl 7 rfl) ?_
                    refine lv_iload hx hb dL_kept_486 (lv_at hl 9 rfl) ?_
                    refine lv_iconst (v := 1) hx hb dL_kept_488 (by decide) ?_
                    refine p_rd (x := pVal σ nC k 1) (vx_runV (As := [.int (nI k), .int 1]) (rest := [.int (pVab σ nC k 1)]) ⟨hx, hb, hml, hown, hts⟩ (dr_value l hl9 G E o nC nV nG σ hO (k := k) (n := 1) (by omega) (by omega)) (cwV 2 hts gL_kept_X4_value rfl rfl rfl (by decide +kernel) ⟨Nat.le_of_ble_eq_true rfl, Nat.le_of_ble_eq_true rfl⟩) (x_preV hX hS hW hOE rfl) rfl rfl hl.1 rfl (lv_room (Nat.le_of_ble_eq_true rfl)) dL_kept_489 ⟨by show _ ≤ 287; omega, by show _ ≤ 2128; omega⟩) hS (fun H locs hW hS => ?_)
                    refine lv_icmp_ne (tgt := 499) hx hb dL_kept_492 (by decide) (fun c9 => False.elim (by exact c9 (n_vab hO hI hk1a (by omega)))) (fun c492 => ?_)
                    refine lv_iconst (v := 1) hx hb dL_kept_495 (by decide) ?_
                    refine lv_goto (tgt := 500) hx hb dL_kept_496 (by decide) ?_
                    refine lv_istore_n (lv' := [(2, .int 1), (9, .int vv), (8, .int (zI (pSec σ k))), (3, .int (nI (cD σ (k + 1)))), (7, .int (σ 15 k)), (6, .int (nI b)), (5, .int (nI a)), (0, .ref o), (1, .ref ga), (4, .int (nI k))]) hx hb dL_kept_500 rfl hl (by decide) rfl (fun ls hl => ?_)
                    refine lv_iinc (v := nI (k + 1)) (lv' := [(4, .int (nI (k + 1))), (2, .int 1), (9, .int vv), (8, .int (zI (pSec σ k))), (3, .int (nI (cD σ (k + 1)))), (7, .int (σ 15 k)), (6, .int (nI b)), (5, .int (nI a)), (0, .ref o), (1, .ref ga)]) hx hb dL_kept_501 hl (k := 9) rfl (nI_1 _) (by decide) rfl (fun ls hl => ?_)
                    refine lv_goto (tgt := 138) hx hb dL_kept_504 (by decide) ?_
                    exact iha ls _ _ _ _ hk1a trivial (by omega) (by omega) hW hS (lv_sub hl [1, 8, 9, 0, 4] rfl)
                · refine lv_icmp_eq (tgt := 399) hx hb dL_kept_390 (by decide) (fun c390 => ?_) (fun c390 => ?_)
                  · refine lv_iload hx hb dL_kept_399 (lv_at hl 0 rfl) ?_
                    refine lv_bipush (v := (-100)) hx hb dL_kept_401 (by decide) ?_
                    refine lv_icmp_ne (tgt := 426) hx hb dL_kept_403 (by decide) (fun c9 => False.elim (by exact c9 (by rw [hvv]; exact n_won hO hI hk1a (Or.inl c390)))) (fun c403 => ?_)
                    refine lv_iload hx hb dL_kept_406 (lv_at hl 1 rfl) ?_
                    refine lv_iload hx hb dL_kept_408 (lv_at hl 4 rfl) ?_
                    refine lv_iconst (v := 1) hx hb dL_kept_410 (by decide) ?_
                    refine x_join (ls' := ls) (rest' := [.int (zI (pSec σ k))]) 419 (zI (if σ 15 k = 1 then true else false)) (fun v ev => ?_) (fun J => ?_)
                    · subst ev
                      refine lv_icmp_ne (tgt := 426) hx hb dL_kept_419 (by decide) (fun c9 => False.elim (by exact c9 (congrArg zI (n_turn hO hI hk1a (Or.inl c390))))) (fun c419 => ?_)
                      exact J422
                    · refine lv_icmp_ne (tgt := 418) hx hb dL_kept_411 (by decide) (fun cz => ?_) (fun cz => ?_)
                      · refine lv_iconst (v := 0) hx hb dL_kept_418 (by decide) ?_
                        exact J _ (congrArg zI (show false = (if σ 15 k = 1 then true else false) from by skip; rw [if_neg cz]))
                      · refine lv_iconst (v := 1) hx hb dL_kept_414 (by decide) ?_
                        refine lv_goto (tgt := 419) hx hb dL_kept_415 (by decide) ?_
                        exact J _ (congrArg zI (show true = (if σ 15 k = 1 then true else false) from by skip; rw [if_pos cz]))
                  · refine lv_iload hx hb dL_kept_393 (lv_at hl 4 rfl) ?_
                    refine lv_iconst (v := 2) hx hb dL_kept_395 (by decide) ?_
                    refine lv_icmp_ne (tgt := 422) hx hb dL_kept_396 (by decide) (fun c396 => ?_) (fun c396 => ?_)
                    · exact J422
                    · refine lv_iload hx hb dL_kept_399 (lv_at hl 0 rfl) ?_
                      refine lv_bipush (v := (-100)) hx hb dL_kept_401 (by decide) ?_
                      refine lv_icmp_ne (tgt := 426) hx hb dL_kept_403 (by decide) (fun c9 => False.elim (by exact c9 (by rw [hvv]; exact n_won hO hI hk1a (Or.inr c396)))) (fun c403 => ?_)
                      refine lv_iload hx hb dL_kept_406 (lv_at hl 1 rfl) ?_
                      refine lv_iload hx hb dL_kept_408 (lv_at hl 4 rfl) ?_
                      refine lv_iconst (v := 1) hx hb dL_kept_410 (by decide) ?_
                      refine x_join (ls' := ls) (rest' := [.int (zI (pSec σ k))]) 419 (zI (if σ 15 k = 1 then true else false)) (fun v ev => ?_) (fun J => ?_)
                      · subst ev
                        refine lv_icmp_ne (tgt := 426) hx hb dL_kept_419 (by decide) (fun c9 => False.elim (by exact c9 (congrArg zI (n_turn hO hI hk1a (Or.inr c396))))) (fun c419 => ?_)
                        exact J422
                      · refine lv_icmp_ne (tgt := 418) hx hb dL_kept_411 (by decide) (fun cz => ?_) (fun cz => ?_)
                        · refine lv_iconst (v := 0) hx hb dL_kept_418 (by decide) ?_
                          exact J _ (congrArg zI (show false = (if σ 15 k = 1 then true else false) from by skip; rw [if_neg cz]))
                        · refine lv_iconst (v := 1) hx hb dL_kept_414 (by decide) ?_
                          refine lv_goto (tgt := 419) hx hb dL_kept_415 (by decide) ?_
                          exact J _ (congrArg zI (show true = (if σ 15 k = 1 then true else false) from by skip; rw [if_pos cz]))
              · refine lv_if_ne (tgt := 387) hx hb dL_kept_377 (by decide) (fun c377 => ?_) (fun c377 => ?_)
                · exact J387
                · refine lv_iload hx hb dL_kept_380 (lv_at hl 0 rfl) ?_
                  refine lv_bipush (v := (-100)) hx hb dL_kept_382 (by decide) ?_
                  refine lv_icmp_le (tgt := 426) hx hb dL_kept_384 (by decide) (fun c9 => False.elim (by exact n_open hO hI hk1a c377 (by rw [← hvv]; exact c9))) (fun c384 => ?_)
                  exact J387
            · refine lv_icmp_eq (tgt := 375) hx hb dL_kept_337 (by decide) (fun c337 => ?_) (fun c337 => ?_)
              · exact J375
              · refine lv_iload hx hb dL_kept_340 (lv_at hl 0 rfl) ?_
                refine lv_iload hx hb dL_kept_342 (lv_at hl 1 rfl) ?_
                refine x_ifz_eq (b := pSec σ k) (tgt := 361) hx hb dL_kept_344 (by decide) (fun c344 => ?_) (fun c344 => ?_)
                · refine lv_iload hx hb dL_kept_361 (lv_at hl 6 rfl) ?_
                  refine x_callSe (va_runS (As := [.int (nI a)]) (rest := [.int vv]) ⟨hx, hb, hml, hown, hts⟩ (kL_ones l (n := a) ha) (va_cwS 1 hts gL_kept_L_ones rfl rfl rfl (by decide +kernel) ⟨Nat.le_of_ble_eq_true rfl, Nat.le_of_ble_eq_true rfl⟩) x_preT rfl rfl hl.1 rfl (lv_room (Nat.le_of_ble_eq_true rfl)) dL_kept_363 ⟨by show _ ≤ 287; omega, by show _ ≤ 2128; omega⟩) ?_
                  refine lv_iload hx hb dL_kept_366 (lv_at hl 5 rfl) ?_
                  refine x_callSe (va_runS (As := [.int (nI b)]) (rest := [.int (nI (pS a 25 0)), .int vv]) ⟨hx, hb, hml, hown, hts⟩ (kL_ones l (n := b) hb9) (va_cwS 1 hts gL_kept_L_ones rfl rfl rfl (by decide +kernel) ⟨Nat.le_of_ble_eq_true rfl, Nat.le_of_ble_eq_true rfl⟩) x_preT rfl rfl hl.1 rfl (lv_room (Nat.le_of_ble_eq_true rfl)) dL_kept_368 ⟨by show _ ≤ 287; omega, by show _ ≤ 2128; omega⟩) ?_
                  refine lv_isub hx hb dL_kept_371 ?_
                  refine lv_icmp_ne (tgt := 426) hx hb dL_kept_372 (by decide) (fun c9 => False.elim (by exact c9 ((q_diff (hvv.trans hV0) c337).2 c344))) (fun c372 => ?_)
                  exact J375
                · refine lv_iload hx hb dL_kept_347 (lv_at hl 5 rfl) ?_
                  refine x_callSe (va_runS (As := [.int (nI b)]) (rest := [.int vv]) ⟨hx, hb, hml, hown, hts⟩ (kL_ones l (n := b) hb9) (va_cwS 1 hts gL_kept_L_ones rfl rfl rfl (by decide +kernel) ⟨Nat.le_of_ble_eq_true rfl, Nat.le_of_ble_eq_true rfl⟩) x_preT rfl rfl hl.1 rfl (lv_room (Nat.le_of_ble_eq_true rfl)) dL_kept_349 ⟨by show _ ≤ 287; omega, by show _ ≤ 2128; omega⟩) ?_
                  refine lv_iload hx hb dL_kept_352 (lv_at hl 6 rfl) ?_
                  refine x_callSe (va_runS (As := [.int (nI a)]) (rest := [.int (nI (pS b 25 0)), .int vv]) ⟨hx, hb, hml, hown, hts⟩ (kL_ones l (n := a) ha) (va_cwS 1 hts gL_kept_L_ones rfl rfl rfl (by decide +kernel) ⟨Nat.le_of_ble_eq_true rfl, Nat.le_of_ble_eq_true rfl⟩) x_preT rfl rfl hl.1 rfl (lv_room (Nat.le_of_ble_eq_true rfl)) dL_kept_354 ⟨by show _ ≤ 287; omega, by show _ ≤ 2128; omega⟩) ?_
                  refine lv_isub hx hb dL_kept_357 ?_
                  refine lv_goto (tgt := 372) hx hb dL_kept_358 (by decide) ?_
                  refine lv_icmp_ne (tgt := 426) hx hb dL_kept_372 (by decide) (fun c9 => False.elim (by exact c9 ((q_diff (hvv.trans hV0) c337).1 c344))) (fun c372 => ?_)
                  exact J375
          · refine lv_icmp_ne (tgt := 317) hx hb dL_kept_310 (by decide) (fun cz => ?_) (fun cz => ?_)
            · refine lv_iconst (v := 0) hx hb dL_kept_317 (by decide) ?_
              exact J _ (congrArg zI (show false = pSec σ k from by unfold pSec fX1_isSecondToMove; rw [if_neg cz]))
            · refine lv_iconst (v := 1) hx hb dL_kept_313 (by decide) ?_
              refine lv_goto (tgt := 318) hx hb dL_kept_314 (by decide) ?_
              exact J _ (congrArg zI (show true = pSec σ k from by unfold pSec fX1_isSecondToMove; rw [if_pos cz]))
        · refine lv_if_gt (tgt := 295) hx hb dL_kept_286 (by decide) (fun c286 => ?_) (fun c286 => ?_)
          · exact J295
          · refine lv_iload hx hb dL_kept_289 (lv_at hl 1 rfl) ?_
            refine lv_iconst (v := 1) hx hb dL_kept_291 (by decide) ?_
            refine lv_icmp_ne (tgt := 299) hx hb dL_kept_292 (by decide) (fun c9 => False.elim (by exact c9 (hzb (by rcases Nat.eq_zero_or_pos b with z | z; exact z; exact absurd (nI_lt (a := 0) (b := b) z (by omega)) c286)))) (fun c292 => ?_)
            exact J295
      · refine lv_if_gt (tgt := 284) hx hb dL_kept_275 (by decide) (fun c275 => ?_) (fun c275 => ?_)
        · exact J284
        · refine lv_iload hx hb dL_kept_278 (lv_at hl 1 rfl) ?_
          refine lv_iconst (v := 2) hx hb dL_kept_280 (by decide) ?_
          refine lv_icmp_ne (tgt := 299) hx hb dL_kept_281 (by decide) (fun c9 => False.elim (by exact c9 (hza (by rcases Nat.eq_zero_or_pos a with z | z; exact z; exact absurd (nI_lt (a := 0) (b := a) z (by omega)) c275)))) (fun c281 => ?_)
          exact J284
    · refine lv_icmp_ne (tgt := 187) hx hb dL_kept_180 (by decide) (fun cz => ?_) (fun cz => ?_)
      · refine lv_iconst (v := 0) hx hb dL_kept_187 (by decide) ?_
        exact J _ (congrArg zI (show false = (if σ 15 k = 3 then true else false) from by skip; rw [if_neg cz]))
      · refine lv_iconst (v := 1) hx hb dL_kept_183 (by decide) ?_
        refine lv_goto (tgt := 188) hx hb dL_kept_184 (by decide) ?_
        exact J _ (congrArg zI (show true = (if σ 15 k = 3 then true else false) from by skip; rw [if_pos cz]))

set_option maxHeartbeats 4000000 in
set_option maxRecDepth 100000 in
/-- what is refused changes nothing -/
theorem kL_refused (l : Launch) (hl9 : l.stackTraces = false) (G : xG) (E : xE) (o ga nC nV nG : Nat) (σ : xSg) (hO : pOb G E o σ nC nV nG) (hI : pI σ nC nV nG) (hg : E ga = some (.inl (G.2.1 0, 3, .inl (gF nC nV nG)))) : vx_Met l yL_refused wsL_refused ({ frames := 12, cells := 297, slots := 3000, locals := 330 }) (va_Pc [.ref o, .ref ga] (xB2 G E)) (va_Qi (S := xE) (pRd 1 E) (fun E' t => xW G E' t.heap) (xA G)) (xX G E (fun _ => False)) 297 3000 (xA G) := by
  refine vx_ofW (cc := cL_refused) (maxL := 4) (ret := (some .boolean)) (by decide) rfl ?_
  intro p e s m args below meth c s₁ B hml hno hv
  obtain ⟨rfl, ⟨hX, hW⟩, hNc⟩ := hv
  have hx := B.exec
  have hb := B.bytes
  have hr := B.returns
  have hts := atoms_spec (ws := wsL_refused) B.pre
  have hown : s.vm.findClass RL = some m.cls := findClass_of_methodNamed B.named
  have hlocks := B.notSynchronized
  have hS : va_S (xA G) s.heap s.heap [] := va_S.rf
  have hl := lv_entry ([.ref o, .ref ga]) (n := 4) (Nat.le_of_ble_eq_true rfl)
  rw [lg_entry_eq]
  generalize (lg_sl ([.ref o, .ref ga]) ++ List.replicate (4 - (lg_sl ([.ref o, .ref ga])).length) Slot.unset).toArray = ls at hl ⊢
  have hl : lv_has ls 4 [(0, .ref o), (1, .ref ga)] := hl
  obtain ⟨H, hH⟩ : ∃ z, z = s.heap := ⟨_, rfl⟩
  rw [← hH] at hW
  have hS : va_S (xA G) s.heap H [] := by rw [hH]; exact hS
  rw [← hH]
  obtain ⟨fs, hOE⟩ := hO.at
  obtain ⟨h00, h05, h010, hC8, hV4, hG12⟩ := hO.nums
  have hZ9 := hI.1.2.2.1 nV (Nat.le_refl _)
  refine lv_aload_n hx hb dL_refused_0 rfl (lv_at hl 0 rfl) ?_
  refine lv_aload_n hx hb dL_refused_1 rfl (lv_at hl 1 rfl) ?_
  refine p_rdl (x := pAll σ nV nG) (vx_runS (As := [.ref o, .ref ga]) (rest := []) ⟨hx, hb, hml, hown, hts⟩ (kL_all l hl9 G E o ga nC nV nG σ hO hI hg) (va_cwS 2 hts gL_refused_L_all rfl rfl rfl (by decide +kernel) ⟨Nat.le_of_ble_eq_true rfl, Nat.le_of_ble_eq_true rfl⟩) (x_preS2 hX hNc hS hW) rfl rfl hl.1 rfl (lv_room (Nat.le_of_ble_eq_true rfl)) dL_refused_2 ⟨by show _ ≤ 297; omega, by show _ ≤ 3000; omega⟩) hS (fun H locs hW hS => ?_)
  refine lv_lstore_n (lv' := [(2, .long (pAll σ nV nG)), (0, .ref o), (1, .ref ga)]) hx hb dL_refused_5 rfl hl (by decide) rfl (fun ls hl => ?_)
  refine lv_aload_n hx hb dL_refused_6 rfl (lv_at hl 1 rfl) ?_
  refine lv_iconst (v := 0) hx hb dL_refused_7 (by decide) ?_
  refine lv_iconst (v := 3) hx hb dL_refused_8 (by decide) ?_
  refine lv_iconst (v := 1) hx hb dL_refused_9 (by decide) ?_
  refine lv_iconst (v := 0) hx hb dL_refused_10 (by decide) ?_
  refine lv_iconst (v := 1) hx hb dL_refused_11 (by decide) ?_
  refine lv_iconst (v := 0) hx hb dL_refused_12 (by decide) ?_
  refine p_rd (x := (-1022)) (vx_runSX (As := [.ref o, .int 0, .int 3, .int 1, .int 0, .int 1, .int 0]) (rest := []) ⟨hx, hb, hml, hown, hts⟩ (kR_card l hl9 G E o (3 : Int32) (1 : Int32) (0 : Int32) (1 : Int32) (0 : Int32) nC nV nG σ hO (x := -1022) (by rw [q_r1]; decide) (by rw [q_r1]; rfl)) (vx_cwSW 7 hts gL_refused_L_call rfl rfl rfl (by decide +kernel) ⟨Nat.le_of_ble_eq_true rfl, Nat.le_of_ble_eq_true rfl⟩) (x_preS2 hX hNc hS hW) rfl rfl hl.1 rfl (lv_room (Nat.le_of_ble_eq_true rfl)) dL_refused_13 ⟨by show _ ≤ 297; omega, by show _ ≤ 3000; omega⟩) hS (fun H locs hW hS => ?_)
  refine lv_sipush (v := (-1022)) hx hb dL_refused_16 (by decide) ?_
  refine lv_icmp_ne (tgt := 389) hx hb dL_refused_19 (by decide) (fun c9 => absurd (by decide) c9) (fun _ => ?_)
  refine lv_aload_n hx hb dL_refused_22 rfl (lv_at hl 1 rfl) ?_
  refine lv_iconst (v := 0) hx hb dL_refused_23 (by decide) ?_
  refine lv_iconst (v := 0) hx hb dL_refused_24 (by decide) ?_
  refine lv_iconst (v := 0) hx hb dL_refused_25 (by decide) ?_
  refine lv_iconst (v := 0) hx hb dL_refused_26 (by decide) ?_
  refine lv_iconst (v := 1) hx hb dL_refused_27 (by decide) ?_
  refine lv_iconst (v := 0) hx hb dL_refused_28 (by decide) ?_
  refine p_rd (x := (-1022)) (vx_runSX (As := [.ref o, .int 0, .int 0, .int 0, .int 0, .int 1, .int 0]) (rest := []) ⟨hx, hb, hml, hown, hts⟩ (kR_card l hl9 G E o (0 : Int32) (0 : Int32) (0 : Int32) (1 : Int32) (0 : Int32) nC nV nG σ hO (x := -1022) (by rw [q_r2]; decide) (by rw [q_r2]; rfl)) (vx_cwSW 7 hts gL_refused_L_call rfl rfl rfl (by decide +kernel) ⟨Nat.le_of_ble_eq_true rfl, Nat.le_of_ble_eq_true rfl⟩) (x_preS2 hX hNc hS hW) rfl rfl hl.1 rfl (lv_room (Nat.le_of_ble_eq_true rfl)) dL_refused_29 ⟨by show _ ≤ 297; omega, by show _ ≤ 3000; omega⟩) hS (fun H locs hW hS => ?_)
  refine lv_sipush (v := (-1022)) hx hb dL_refused_32 (by decide) ?_
  refine lv_icmp_ne (tgt := 389) hx hb dL_refused_35 (by decide) (fun c9 => absurd (by decide) c9) (fun _ => ?_)
  refine lv_aload_n hx hb dL_refused_38 rfl (lv_at hl 1 rfl) ?_
  refine lv_iconst (v := 0) hx hb dL_refused_39 (by decide) ?_
  refine lv_iconst (v := 1) hx hb dL_refused_40 (by decide) ?_
  refine lv_iconst (v := 1) hx hb dL_refused_41 (by decide) ?_
  refine lv_iconst (v := 1) hx hb dL_refused_42 (by decide) ?_
  refine lv_iconst (v := 5) hx hb dL_refused_43 (by decide) ?_
  refine lv_iconst (v := 0) hx hb dL_refused_44 (by decide) ?_
  refine p_rd (x := (-1022)) (vx_runSX (As := [.ref o, .int 0, .int 1, .int 1, .int 1, .int 5, .int 0]) (rest := []) ⟨hx, hb, hml, hown, hts⟩ (kR_card l hl9 G E o (1 : Int32) (1 : Int32) (1 : Int32) (5 : Int32) (0 : Int32) nC nV nG σ hO (x := -1022) (by rw [q_r3]; decide) (by rw [q_r3]; rfl)) (vx_cwSW 7 hts gL_refused_L_call rfl rfl rfl (by decide +kernel) ⟨Nat.le_of_ble_eq_true rfl, Nat.le_of_ble_eq_true rfl⟩) (x_preS2 hX hNc hS hW) rfl rfl hl.1 rfl (lv_room (Nat.le_of_ble_eq_true rfl)) dL_refused_45 ⟨by show _ ≤ 297; omega, by show _ ≤ 3000; omega⟩) hS (fun H locs hW hS => ?_)
  refine lv_sipush (v := (-1022)) hx hb dL_refused_48 (by decide) ?_
  refine lv_icmp_ne (tgt := 389) hx hb dL_refused_51 (by decide) (fun c9 => absurd (by decide) c9) (fun _ => ?_)
  refine lv_aload_n hx hb dL_refused_54 rfl (lv_at hl 1 rfl) ?_
  refine lv_iconst (v := 1) hx hb dL_refused_55 (by decide) ?_
  refine lv_iconst (v := (-1)) hx hb dL_refused_56 (by decide) ?_
  refine lv_iconst (v := 1) hx hb dL_refused_57 (by decide) ?_
  refine lv_iconst (v := 0) hx hb dL_refused_58 (by decide) ?_
  refine lv_iconst (v := 0) hx hb dL_refused_59 (by decide) ?_
  refine lv_iconst (v := 0) hx hb dL_refused_60 (by decide) ?_
  refine p_rd (x := (-1022)) (vx_runSX (As := [.ref o, .int 1, .int (-1), .int 1, .int 0, .int 0, .int 0]) (rest := []) ⟨hx, hb, hml, hown, hts⟩ (kR_variant l hl9 G E o ((-1) : Int32) (1 : Int32) (0 : Int32) (0 : Int32) (0 : Int32) nC nV nG σ hO hZ9 (x := -1022) (by rw [q_r4]; decide) (by rw [q_r4]; rfl)) (vx_cwSW 7 hts gL_refused_L_call rfl rfl rfl (by decide +kernel) ⟨Nat.le_of_ble_eq_true rfl, Nat.le_of_ble_eq_true rfl⟩) (x_preS2 hX hNc hS hW) rfl rfl hl.1 rfl (lv_room (Nat.le_of_ble_eq_true rfl)) dL_refused_61 ⟨by show _ ≤ 297; omega, by show _ ≤ 3000; omega⟩) hS (fun H locs hW hS => ?_)
  refine lv_sipush (v := (-1022)) hx hb dL_refused_64 (by decide) ?_
  refine lv_icmp_ne (tgt := 389) hx hb dL_refused_67 (by decide) (fun c9 => absurd (by decide) c9) (fun _ => ?_)
  refine lv_aload_n hx hb dL_refused_70 rfl (lv_at hl 1 rfl) ?_
  refine lv_iconst (v := 1) hx hb dL_refused_71 (by decide) ?_
  refine lv_iconst (v := 0) hx hb dL_refused_72 (by decide) ?_
  refine lv_iconst (v := 0) hx hb dL_refused_73 (by decide) ?_
  refine lv_iconst (v := 0) hx hb dL_refused_74 (by decide) ?_
  refine lv_iconst (v := 0) hx hb dL_refused_75 (by decide) ?_
  refine lv_iconst (v := 0) hx hb dL_refused_76 (by decide) ?_
  refine p_rd (x := (-1022)) (vx_runSX (As := [.ref o, .int 1, .int 0, .int 0, .int 0, .int 0, .int 0]) (rest := []) ⟨hx, hb, hml, hown, hts⟩ (kR_variant l hl9 G E o (0 : Int32) (0 : Int32) (0 : Int32) (0 : Int32) (0 : Int32) nC nV nG σ hO hZ9 (x := -1022) (by rw [q_r5]; decide) (by rw [q_r5]; rfl)) (vx_cwSW 7 hts gL_refused_L_call rfl rfl rfl (by decide +kernel) ⟨Nat.le_of_ble_eq_true rfl, Nat.le_of_ble_eq_true rfl⟩) (x_preS2 hX hNc hS hW) rfl rfl hl.1 rfl (lv_room (Nat.le_of_ble_eq_true rfl)) dL_refused_77 ⟨by show _ ≤ 297; omega, by show _ ≤ 3000; omega⟩) hS (fun H locs hW hS => ?_)
  refine lv_sipush (v := (-1022)) hx hb dL_refused_80 (by decide) ?_
  refine lv_icmp_ne (tgt := 389) hx hb dL_refused_83 (by decide) (fun c9 => absurd (by decide) c9) (fun _ => ?_)
  refine lv_aload_n hx hb dL_refused_86 rfl (lv_at hl 1 rfl) ?_
  refine lv_iconst (v := 1) hx hb dL_refused_87 (by decide) ?_
  refine lv_iconst (v := 0) hx hb dL_refused_88 (by decide) ?_
  refine lv_iconst (v := 1) hx hb dL_refused_89 (by decide) ?_
  refine lv_aload_n hx hb dL_refused_90 rfl (lv_at hl 2 rfl) ?_
  refine lv_iconst (v := 0) hx hb dL_refused_91 (by decide) ?_
  refine p_ild (k := 0) (v := nI nC) hx hb hX.1 hW hg (show vp_in (nI 0) 3 from vp_in_nI (by omega) (by omega)) rfl rfl dL_refused_92 ?_
  refine lv_ishl hx hb dL_refused_93 ?_
  refine lv_iconst (v := 0) hx hb dL_refused_94 (by decide) ?_
  refine lv_iconst (v := 0) hx hb dL_refused_95 (by decide) ?_
  refine lv_iconst (v := 0) hx hb dL_refused_96 (by decide) ?_
  refine p_rd (x := (-1022)) (vx_runSX (As := [.ref o, .int 1, .int 0, .int ((1 : Int32) <<< ((nI nC) &&& 31)), .int 0, .int 0, .int 0]) (rest := []) ⟨hx, hb, hml, hown, hts⟩ (kR_variant l hl9 G E o (0 : Int32) ((1 : Int32) <<< ((nI nC) &&& 31)) (0 : Int32) (0 : Int32) (0 : Int32) nC nV nG σ hO hZ9 (x := -1022) (by rw [q_r6 hC8]; decide) (by rw [q_r6 hC8]; rfl)) (vx_cwSW 7 hts gL_refused_L_call rfl rfl rfl (by decide +kernel) ⟨Nat.le_of_ble_eq_true rfl, Nat.le_of_ble_eq_true rfl⟩) (x_preS2 hX hNc hS hW) rfl rfl hl.1 rfl (lv_room (Nat.le_of_ble_eq_true rfl)) dL_refused_97 ⟨by show _ ≤ 297; omega, by show _ ≤ 3000; omega⟩) hS (fun H locs hW hS => ?_)
  refine lv_sipush (v := (-1022)) hx hb dL_refused_100 (by decide) ?_
  refine lv_icmp_ne (tgt := 389) hx hb dL_refused_103 (by decide) (fun c9 => absurd (by decide) c9) (fun _ => ?_)
  refine lv_aload_n hx hb dL_refused_106 rfl (lv_at hl 1 rfl) ?_
  refine lv_iconst (v := 2) hx hb dL_refused_107 (by decide) ?_
  refine lv_aload_n hx hb dL_refused_108 rfl (lv_at hl 2 rfl) ?_
  refine lv_iconst (v := 1) hx hb dL_refused_109 (by decide) ?_
  refine p_ild (k := 1) (v := nI nV) hx hb hX.1 hW hg (show vp_in (nI 1) 3 from vp_in_nI (by omega) (by omega)) rfl rfl dL_refused_110 ?_
  refine lv_iconst (v := 1) hx hb dL_refused_111 (by decide) ?_
  refine lv_iconst (v := 0) hx hb dL_refused_112 (by decide) ?_
  refine lv_iconst (v := 0) hx hb dL_refused_113 (by decide) ?_
  refine lv_iconst (v := 0) hx hb dL_refused_114 (by decide) ?_
  refine p_rd (x := (-1021)) (vx_runSX (As := [.ref o, .int 2, .int (nI nV), .int 1, .int 0, .int 0, .int 0]) (rest := []) ⟨hx, hb, hml, hown, hts⟩ (kR_setCards l hl9 G E o (nI nV) (1 : Int32) (0 : Int32) (0 : Int32) (0 : Int32) nC nV nG σ hO (x := -1021) (by rw [q_r7 hV4]; decide) (by rw [q_r7 hV4]; rfl)) (vx_cwSW 7 hts gL_refused_L_call rfl rfl rfl (by decide +kernel) ⟨Nat.le_of_ble_eq_true rfl, Nat.le_of_ble_eq_true rfl⟩) (x_preS2 hX hNc hS hW) rfl rfl hl.1 rfl (lv_room (Nat.le_of_ble_eq_true rfl)) dL_refused_115 ⟨by show _ ≤ 297; omega, by show _ ≤ 3000; omega⟩) hS (fun H locs hW hS => ?_)
  refine lv_sipush (v := (-1021)) hx hb dL_refused_118 (by decide) ?_
  refine lv_icmp_ne (tgt := 389) hx hb dL_refused_121 (by decide) (fun c9 => absurd (by decide) c9) (fun _ => ?_)
  refine lv_aload_n hx hb dL_refused_124 rfl (lv_at hl 1 rfl) ?_
  refine lv_iconst (v := 3) hx hb dL_refused_125 (by decide) ?_
  refine lv_aload_n hx hb dL_refused_126 rfl (lv_at hl 2 rfl) ?_
  refine lv_iconst (v := 1) hx hb dL_refused_127 (by decide) ?_
  refine p_ild (k := 1) (v := nI nV) hx hb hX.1 hW hg (show vp_in (nI 1) 3 from vp_in_nI (by omega) (by omega)) rfl rfl dL_refused_128 ?_
  refine lv_iconst (v := 0) hx hb dL_refused_129 (by decide) ?_
  refine lv_iconst (v := 1) hx hb dL_refused_130 (by decide) ?_
  refine lv_iconst (v := 1) hx hb dL_refused_131 (by decide) ?_
  refine lv_iconst (v := 2) hx hb dL_refused_132 (by decide) ?_
  refine p_rd (x := (-1021)) (vx_runSX (As := [.ref o, .int 3, .int (nI nV), .int 0, .int 1, .int 1, .int 2]) (rest := []) ⟨hx, hb, hml, hown, hts⟩ (kR_begin l hl9 G E o (nI nV) (0 : Int32) (1 : Int32) (1 : Int32) (2 : Int32) nC nV nG σ hO (x := -1021) (by rw [q_r8 hV4]; decide) (by rw [q_r8 hV4]; rfl)) (vx_cwSW 7 hts gL_refused_L_call rfl rfl rfl (by decide +kernel) ⟨Nat.le_of_ble_eq_true rfl, Nat.le_of_ble_eq_true rfl⟩) (x_preS2 hX hNc hS hW) rfl rfl hl.1 rfl (lv_room (Nat.le_of_ble_eq_true rfl)) dL_refused_133 ⟨by show _ ≤ 297; omega, by show _ ≤ 3000; omega⟩) hS (fun H locs hW hS => ?_)
  refine lv_sipush (v := (-1021)) hx hb dL_refused_136 (by decide) ?_
  refine lv_icmp_ne (tgt := 389) hx hb dL_refused_139 (by decide) (fun c9 => absurd (by decide) c9) (fun _ => ?_)
  refine lv_aload_n hx hb dL_refused_142 rfl (lv_at hl 2 rfl) ?_
  refine lv_iconst (v := 1) hx hb dL_refused_143 (by decide) ?_
  refine p_ild (k := 1) (v := nI nV) hx hb hX.1 hW hg (show vp_in (nI 1) 3 from vp_in_nI (by omega) (by omega)) rfl rfl dL_refused_144 ?_
  refine lv_if_eq (tgt := 245) hx hb dL_refused_145 (by decide) (fun c145 => ?_) (fun c145 => ?_)
  · refine lv_aload_n hx hb dL_refused_245 rfl (lv_at hl 1 rfl) ?_
    refine lv_bipush (v := 6) hx hb dL_refused_246 (by decide) ?_
    refine lv_aload_n hx hb dL_refused_248 rfl (lv_at hl 2 rfl) ?_
    refine lv_iconst (v := 2) hx hb dL_refused_249 (by decide) ?_
    refine p_ild (k := 2) (v := nI nG) hx hb hX.1 hW hg (show vp_in (nI 2) 3 from vp_in_nI (by omega) (by omega)) rfl rfl dL_refused_250 ?_
    refine lv_iconst (v := 0) hx hb dL_refused_251 (by decide) ?_
    refine lv_iconst (v := 1) hx hb dL_refused_252 (by decide) ?_
    refine lv_iconst (v := 0) hx hb dL_refused_253 (by decide) ?_
    refine lv_iconst (v := 0) hx hb dL_refused_254 (by decide) ?_
    refine p_rd (x := (-1021)) (vx_runSX (As := [.ref o, .int 6, .int (nI nG), .int 0, .int 1, .int 0, .int 0]) (rest := []) ⟨hx, hb, hml, hown, hts⟩ (kR_move l hl9 G E o (nI nG) (0 : Int32) (1 : Int32) (0 : Int32) (0 : Int32) nC nV nG σ hO (x := -1021) (by rw [q_r15 hG12]; decide) (by rw [q_r15 hG12]; rfl)) (vx_cwSW 7 hts gL_refused_L_call rfl rfl rfl (by decide +kernel) ⟨Nat.le_of_ble_eq_true rfl, Nat.le_of_ble_eq_true rfl⟩) (x_preS2 hX hNc hS hW) rfl rfl hl.1 rfl (lv_room (Nat.le_of_ble_eq_true rfl)) dL_refused_255 ⟨by show _ ≤ 297; omega, by show _ ≤ 3000; omega⟩) hS (fun H locs hW hS => ?_)
    refine lv_sipush (v := (-1021)) hx hb dL_refused_258 (by decide) ?_
    refine lv_icmp_ne (tgt := 389) hx hb dL_refused_261 (by decide) (fun c9 => absurd (by decide) c9) (fun _ => ?_)
    refine lv_aload_n hx hb dL_refused_264 rfl (lv_at hl 1 rfl) ?_
    refine lv_bipush (v := 12) hx hb dL_refused_265 (by decide) ?_
    refine lv_iconst (v := 0) hx hb dL_refused_267 (by decide) ?_
    refine lv_iconst (v := (-1)) hx hb dL_refused_268 (by decide) ?_
    refine lv_iconst (v := 0) hx hb dL_refused_269 (by decide) ?_
    refine lv_iconst (v := 0) hx hb dL_refused_270 (by decide) ?_
    refine lv_iconst (v := 0) hx hb dL_refused_271 (by decide) ?_
    refine p_rd (x := (-1021)) (vx_runSX (As := [.ref o, .int 12, .int 0, .int (-1), .int 0, .int 0, .int 0]) (rest := []) ⟨hx, hb, hml, hown, hts⟩ (kR_vote l hl9 G E o (0 : Int32) ((-1) : Int32) (0 : Int32) (0 : Int32) (0 : Int32) nC nV nG σ hO (x := -1021) (by rw [q_r16]; decide) (by rw [q_r16]; rfl)) (vx_cwSW 7 hts gL_refused_L_call rfl rfl rfl (by decide +kernel) ⟨Nat.le_of_ble_eq_true rfl, Nat.le_of_ble_eq_true rfl⟩) (x_preS2 hX hNc hS hW) rfl rfl hl.1 rfl (lv_room (Nat.le_of_ble_eq_true rfl)) dL_refused_272 ⟨by show _ ≤ 297; omega, by show _ ≤ 3000; omega⟩) hS (fun H locs hW hS => ?_)
    refine lv_sipush (v := (-1021)) hx hb dL_refused_275 (by decide) ?_
    refine lv_icmp_ne (tgt := 389) hx hb dL_refused_278 (by decide) (fun c9 => absurd (by decide) c9) (fun _ => ?_)
    refine lv_aload_n hx hb dL_refused_281 rfl (lv_at hl 2 rfl) ?_
    refine lv_iconst (v := 2) hx hb dL_refused_282 (by decide) ?_
    refine p_ild (k := 2) (v := nI nG) hx hb hX.1 hW hg (show vp_in (nI 2) 3 from vp_in_nI (by omega) (by omega)) rfl rfl dL_refused_283 ?_
    refine lv_if_eq (tgt := 375) hx hb dL_refused_284 (by decide) (fun c284 => ?_) (fun c284 => ?_)
    · refine lv_aload_n hx hb dL_refused_375 rfl (lv_at hl 1 rfl) ?_
      refine lv_aload_n hx hb dL_refused_376 rfl (lv_at hl 2 rfl) ?_
      refine p_rdl (x := pAll σ nV nG) (vx_runS (As := [.ref o, .ref ga]) (rest := []) ⟨hx, hb, hml, hown, hts⟩ (kL_all l hl9 G E o ga nC nV nG σ hO hI hg) (va_cwS 2 hts gL_refused_L_all rfl rfl rfl (by decide +kernel) ⟨Nat.le_of_ble_eq_true rfl, Nat.le_of_ble_eq_true rfl⟩) (x_preS2 hX hNc hS hW) rfl rfl hl.1 rfl (lv_room (Nat.le_of_ble_eq_true rfl)) dL_refused_377 ⟨by show _ ≤ 297; omega, by show _ ≤ 3000; omega⟩) hS (fun H locs hW hS => ?_)
      refine lv_lload_n hx hb dL_refused_380 rfl (lv_at hl 0 rfl) ?_
      refine W.lcmp hx hb dL_refused_381 ?_
      refine lv_if_ne (tgt := 389) hx hb dL_refused_382 (by decide) (fun c9 => False.elim (by exact c9 (lg_cmp_self _))) (fun c382 => ?_)
      refine lv_iconst (v := 1) hx hb dL_refused_385 (by decide) ?_
      refine lv_goto (tgt := 390) hx hb dL_refused_386 (by decide) ?_
      exact vx_ret (W.widen (k := 297) (n := 3000) (by omega) (by omega) (W.zret (v := 1) hx hb hr rfl (fun t ht hw9 => ⟨⟨_, E, rfl, ⟨rfl, rfl⟩, (show xW G E t.heap from by rw [ht]; exact hW)⟩, hS.F ht⟩) hS.2.2 dL_refused_390))
    · refine lv_aload_n hx hb dL_refused_287 rfl (lv_at hl 1 rfl) ?_
      refine lv_bipush (v := 6) hx hb dL_refused_288 (by decide) ?_
      refine lv_iconst (v := 0) hx hb dL_refused_290 (by decide) ?_
      refine lv_bipush (v := 25) hx hb dL_refused_291 (by decide) ?_
      refine lv_iconst (v := 0) hx hb dL_refused_293 (by decide) ?_
      refine lv_iconst (v := 0) hx hb dL_refused_294 (by decide) ?_
      refine lv_iconst (v := 0) hx hb dL_refused_295 (by decide) ?_
      refine p_rd (x := (-1021)) (vx_runSX (As := [.ref o, .int 6, .int 0, .int 25, .int 0, .int 0, .int 0]) (rest := []) ⟨hx, hb, hml, hown, hts⟩ (kR_move l hl9 G E o (0 : Int32) (25 : Int32) (0 : Int32) (0 : Int32) (0 : Int32) nC nV nG σ hO (x := -1021) (by rw [q_r17 c284 hG12]; decide) (by rw [q_r17 c284 hG12]; rfl)) (vx_cwSW 7 hts gL_refused_L_call rfl rfl rfl (by decide +kernel) ⟨Nat.le_of_ble_eq_true rfl, Nat.le_of_ble_eq_true rfl⟩) (x_preS2 hX hNc hS hW) rfl rfl hl.1 rfl (lv_room (Nat.le_of_ble_eq_true rfl)) dL_refused_296 ⟨by show _ ≤ 297; omega, by show _ ≤ 3000; omega⟩) hS (fun H locs hW hS => ?_)
      refine lv_sipush (v := (-1021)) hx hb dL_refused_299 (by decide) ?_
      refine lv_icmp_ne (tgt := 389) hx hb dL_refused_302 (by decide) (fun c9 => absurd (by decide) c9) (fun _ => ?_)
      refine lv_aload_n hx hb dL_refused_305 rfl (lv_at hl 1 rfl) ?_
      refine lv_iconst (v := 4) hx hb dL_refused_306 (by decide) ?_
      refine lv_iconst (v := 0) hx hb dL_refused_307 (by decide) ?_
      refine lv_iconst (v := 0) hx hb dL_refused_308 (by decide) ?_
      refine lv_bipush (v := 25) hx hb dL_refused_309 (by decide) ?_
      refine lv_iconst (v := 0) hx hb dL_refused_311 (by decide) ?_
      refine lv_iconst (v := 0) hx hb dL_refused_312 (by decide) ?_
      refine p_rd (x := (-1021)) (vx_runSX (As := [.ref o, .int 4, .int 0, .int 0, .int 25, .int 0, .int 0]) (rest := []) ⟨hx, hb, hml, hown, hts⟩ (kR_can l hl9 G E o (0 : Int32) (0 : Int32) (25 : Int32) (0 : Int32) (0 : Int32) nC nV nG σ hO (x := -1021) (by rw [q_r18 c284 hG12]; decide) (by rw [q_r18 c284 hG12]; rfl)) (vx_cwSW 7 hts gL_refused_L_call rfl rfl rfl (by decide +kernel) ⟨Nat.le_of_ble_eq_true rfl, Nat.le_of_ble_eq_true rfl⟩) (x_preS2 hX hNc hS hW) rfl rfl hl.1 rfl (lv_room (Nat.le_of_ble_eq_true rfl)) dL_refused_313 ⟨by show _ ≤ 297; omega, by show _ ≤ 3000; omega⟩) hS (fun H locs hW hS => ?_)
      refine lv_sipush (v := (-1021)) hx hb dL_refused_316 (by decide) ?_
      refine lv_icmp_ne (tgt := 389) hx hb dL_refused_319 (by decide) (fun c9 => absurd (by decide) c9) (fun _ => ?_)
      refine lv_aload_n hx hb dL_refused_322 rfl (lv_at hl 1 rfl) ?_
      refine lv_bipush (v := 10) hx hb dL_refused_323 (by decide) ?_
      refine lv_iconst (v := 0) hx hb dL_refused_325 (by decide) ?_
      refine lv_iconst (v := 3) hx hb dL_refused_326 (by decide) ?_
      refine lv_iconst (v := 0) hx hb dL_refused_327 (by decide) ?_
      refine lv_iconst (v := 0) hx hb dL_refused_328 (by decide) ?_
      refine lv_iconst (v := 0) hx hb dL_refused_329 (by decide) ?_
      refine p_rd (x := (-1022)) (vx_runSX (As := [.ref o, .int 10, .int 0, .int 3, .int 0, .int 0, .int 0]) (rest := []) ⟨hx, hb, hml, hown, hts⟩ (kR_value l hl9 G E o (0 : Int32) (3 : Int32) (0 : Int32) (0 : Int32) (0 : Int32) nC nV nG σ hO (x := -1022) (by rw [q_r19 c284 hG12]; decide) (by rw [q_r19 c284 hG12]; rfl)) (vx_cwSW 7 hts gL_refused_L_call rfl rfl rfl (by decide +kernel) ⟨Nat.le_of_ble_eq_true rfl, Nat.le_of_ble_eq_true rfl⟩) (x_preS2 hX hNc hS hW) rfl rfl hl.1 rfl (lv_room (Nat.le_of_ble_eq_true rfl)) dL_refused_330 ⟨by show _ ≤ 297; omega, by show _ ≤ 3000; omega⟩) hS (fun H locs hW hS => ?_)
      refine lv_sipush (v := (-1022)) hx hb dL_refused_333 (by decide) ?_
      refine lv_icmp_ne (tgt := 389) hx hb dL_refused_336 (by decide) (fun c9 => absurd (by decide) c9) (fun _ => ?_)
      refine lv_aload_n hx hb dL_refused_339 rfl (lv_at hl 1 rfl) ?_
      refine lv_bipush (v := 11) hx hb dL_refused_340 (by decide) ?_
      refine lv_iconst (v := 0) hx hb dL_refused_342 (by decide) ?_
      refine lv_iconst (v := (-1)) hx hb dL_refused_343 (by decide) ?_
      refine lv_iconst (v := 0) hx hb dL_refused_344 (by decide) ?_
      refine lv_iconst (v := 0) hx hb dL_refused_345 (by decide) ?_
      refine lv_iconst (v := 0) hx hb dL_refused_346 (by decide) ?_
      refine p_rd (x := (-1022)) (vx_runSX (As := [.ref o, .int 11, .int 0, .int (-1), .int 0, .int 0, .int 0]) (rest := []) ⟨hx, hb, hml, hown, hts⟩ (kR_valueByAll l hl9 G E o (0 : Int32) ((-1) : Int32) (0 : Int32) (0 : Int32) (0 : Int32) nC nV nG σ hO (x := -1022) (by rw [q_r20 c284 hG12]; decide) (by rw [q_r20 c284 hG12]; rfl)) (vx_cwSW 7 hts gL_refused_L_call rfl rfl rfl (by decide +kernel) ⟨Nat.le_of_ble_eq_true rfl, Nat.le_of_ble_eq_true rfl⟩) (x_preS2 hX hNc hS hW) rfl rfl hl.1 rfl (lv_room (Nat.le_of_ble_eq_true rfl)) dL_refused_347 ⟨by show _ ≤ 297; omega, by show _ ≤ 3000; omega⟩) hS (fun H locs hW hS => ?_)
      refine lv_sipush (v := (-1022)) hx hb dL_refused_350 (by decide) ?_
      refine lv_icmp_ne (tgt := 389) hx hb dL_refused_353 (by decide) (fun c9 => absurd (by decide) c9) (fun _ => ?_)
      refine lv_aload_n hx hb dL_refused_356 rfl (lv_at hl 1 rfl) ?_
      refine lv_bipush (v := 6) hx hb dL_refused_357 (by decide) ?_
      refine lv_iconst (v := 0) hx hb dL_refused_359 (by decide) ?_
      refine lv_bipush (v := 7) hx hb dL_refused_360 (by decide) ?_
      refine lv_bipush (v := 7) hx hb dL_refused_362 (by decide) ?_
      refine lv_iconst (v := 0) hx hb dL_refused_364 (by decide) ?_
      refine lv_iconst (v := 0) hx hb dL_refused_365 (by decide) ?_
      refine p_rd (x := (-1023)) (vx_runSX (As := [.ref o, .int 6, .int 0, .int 7, .int 7, .int 0, .int 0]) (rest := []) ⟨hx, hb, hml, hown, hts⟩ (kR_move l hl9 G E o (0 : Int32) (7 : Int32) (7 : Int32) (0 : Int32) (0 : Int32) nC nV nG σ hO (x := -1023) (by rw [q_r21 c284 hG12]; decide) (by rw [q_r21 c284 hG12]; rfl)) (vx_cwSW 7 hts gL_refused_L_call rfl rfl rfl (by decide +kernel) ⟨Nat.le_of_ble_eq_true rfl, Nat.le_of_ble_eq_true rfl⟩) (x_preS2 hX hNc hS hW) rfl rfl hl.1 rfl (lv_room (Nat.le_of_ble_eq_true rfl)) dL_refused_366 ⟨by show _ ≤ 297; omega, by show _ ≤ 3000; omega⟩) hS (fun H locs hW hS => ?_)
      refine lv_sipush (v := (-1023)) hx hb dL_refused_369 (by decide) ?_
      refine lv_icmp_ne (tgt := 389) hx hb dL_refused_372 (by decide) (fun c9 => absurd (by decide) c9) (fun _ => ?_)
      refine lv_aload_n hx hb dL_refused_375 rfl (lv_at hl 1 rfl) ?_
      refine lv_aload_n hx hb dL_refused_376 rfl (lv_at hl 2 rfl) ?_
      refine p_rdl (x := pAll σ nV nG) (vx_runS (As := [.ref o, .ref ga]) (rest := []) ⟨hx, hb, hml, hown, hts⟩ (kL_all l hl9 G E o ga nC nV nG σ hO hI hg) (va_cwS 2 hts gL_refused_L_all rfl rfl rfl (by decide +kernel) ⟨Nat.le_of_ble_eq_true rfl, Nat.le_of_ble_eq_true rfl⟩) (x_preS2 hX hNc hS hW) rfl rfl hl.1 rfl (lv_room (Nat.le_of_ble_eq_true rfl)) dL_refused_377 ⟨by show _ ≤ 297; omega, by show _ ≤ 3000; omega⟩) hS (fun H locs hW hS => ?_)
      refine lv_lload_n hx hb dL_refused_380 rfl (lv_at hl 0 rfl) ?_
      refine W.lcmp hx hb dL_refused_381 ?_
      refine lv_if_ne (tgt := 389) hx hb dL_refused_382 (by decide) (fun c9 => False.elim (by exact c9 (lg_cmp_self _))) (fun c382 => ?_)
      refine lv_iconst (v := 1) hx hb dL_refused_385 (by decide) ?_
      refine lv_goto (tgt := 390) hx hb dL_refused_386 (by decide) ?_
      exact vx_ret (W.widen (k := 297) (n := 3000) (by omega) (by omega) (W.zret (v := 1) hx hb hr rfl (fun t ht hw9 => ⟨⟨_, E, rfl, ⟨rfl, rfl⟩, (show xW G E t.heap from by rw [ht]; exact hW)⟩, hS.F ht⟩) hS.2.2 dL_refused_390))
  · have hV0 : 0 < nV := Nat.pos_of_ne_zero (fun z => c145 (by rw [z]; rfl))
    refine lv_aload_n hx hb dL_refused_148 rfl (lv_at hl 1 rfl) ?_
    refine lv_iconst (v := 3) hx hb dL_refused_149 (by decide) ?_
    refine lv_iconst (v := 0) hx hb dL_refused_150 (by decide) ?_
    refine lv_iconst (v := 5) hx hb dL_refused_151 (by decide) ?_
    refine lv_iconst (v := 0) hx hb dL_refused_152 (by decide) ?_
    refine lv_iconst (v := 1) hx hb dL_refused_153 (by decide) ?_
    refine lv_iconst (v := 2) hx hb dL_refused_154 (by decide) ?_
    refine p_rd (x := (-1021)) (vx_runSX (As := [.ref o, .int 3, .int 0, .int 5, .int 0, .int 1, .int 2]) (rest := []) ⟨hx, hb, hml, hown, hts⟩ (kR_begin l hl9 G E o (0 : Int32) (5 : Int32) (0 : Int32) (1 : Int32) (2 : Int32) nC nV nG σ hO (x := -1021) (by rw [q_r9 c145 hV4]; decide) (by rw [q_r9 c145 hV4]; rfl)) (vx_cwSW 7 hts gL_refused_L_call rfl rfl rfl (by decide +kernel) ⟨Nat.le_of_ble_eq_true rfl, Nat.le_of_ble_eq_true rfl⟩) (x_preS2 hX hNc hS hW) rfl rfl hl.1 rfl (lv_room (Nat.le_of_ble_eq_true rfl)) dL_refused_155 ⟨by show _ ≤ 297; omega, by show _ ≤ 3000; omega⟩) hS (fun H locs hW hS => ?_)
    refine lv_sipush (v := (-1021)) hx hb dL_refused_158 (by decide) ?_
    refine lv_icmp_ne (tgt := 389) hx hb dL_refused_161 (by decide) (fun c9 => absurd (by decide) c9) (fun _ => ?_)
    refine lv_aload_n hx hb dL_refused_164 rfl (lv_at hl 1 rfl) ?_
    refine lv_iconst (v := 3) hx hb dL_refused_165 (by decide) ?_
    refine lv_iconst (v := 0) hx hb dL_refused_166 (by decide) ?_
    refine lv_iconst (v := 1) hx hb dL_refused_167 (by decide) ?_
    refine lv_iconst (v := 1) hx hb dL_refused_168 (by decide) ?_
    refine lv_iconst (v := 1) hx hb dL_refused_169 (by decide) ?_
    refine lv_iconst (v := 2) hx hb dL_refused_170 (by decide) ?_
    refine p_rd (x := (-1022)) (vx_runSX (As := [.ref o, .int 3, .int 0, .int 1, .int 1, .int 1, .int 2]) (rest := []) ⟨hx, hb, hml, hown, hts⟩ (kR_begin l hl9 G E o (0 : Int32) (1 : Int32) (1 : Int32) (1 : Int32) (2 : Int32) nC nV nG σ hO (x := -1022) (by rw [q_r10 c145 hV4]; decide) (by rw [q_r10 c145 hV4]; rfl)) (vx_cwSW 7 hts gL_refused_L_call rfl rfl rfl (by decide +kernel) ⟨Nat.le_of_ble_eq_true rfl, Nat.le_of_ble_eq_true rfl⟩) (x_preS2 hX hNc hS hW) rfl rfl hl.1 rfl (lv_room (Nat.le_of_ble_eq_true rfl)) dL_refused_171 ⟨by show _ ≤ 297; omega, by show _ ≤ 3000; omega⟩) hS (fun H locs hW hS => ?_)
    refine lv_sipush (v := (-1022)) hx hb dL_refused_174 (by decide) ?_
    refine lv_icmp_ne (tgt := 389) hx hb dL_refused_177 (by decide) (fun c9 => absurd (by decide) c9) (fun _ => ?_)
    refine lv_aload_n hx hb dL_refused_180 rfl (lv_at hl 1 rfl) ?_
    refine lv_iconst (v := 3) hx hb dL_refused_181 (by decide) ?_
    refine lv_iconst (v := 0) hx hb dL_refused_182 (by decide) ?_
    refine lv_iconst (v := 0) hx hb dL_refused_183 (by decide) ?_
    refine lv_iconst (v := 1) hx hb dL_refused_184 (by decide) ?_
    refine lv_iconst (v := 0) hx hb dL_refused_185 (by decide) ?_
    refine lv_iconst (v := 2) hx hb dL_refused_186 (by decide) ?_
    refine p_rd (x := (-1022)) (vx_runSX (As := [.ref o, .int 3, .int 0, .int 0, .int 1, .int 0, .int 2]) (rest := []) ⟨hx, hb, hml, hown, hts⟩ (kR_begin l hl9 G E o (0 : Int32) (0 : Int32) (1 : Int32) (0 : Int32) (2 : Int32) nC nV nG σ hO (x := -1022) (by rw [q_r11 c145 hV4]; decide) (by rw [q_r11 c145 hV4]; rfl)) (vx_cwSW 7 hts gL_refused_L_call rfl rfl rfl (by decide +kernel) ⟨Nat.le_of_ble_eq_true rfl, Nat.le_of_ble_eq_true rfl⟩) (x_preS2 hX hNc hS hW) rfl rfl hl.1 rfl (lv_room (Nat.le_of_ble_eq_true rfl)) dL_refused_187 ⟨by show _ ≤ 297; omega, by show _ ≤ 3000; omega⟩) hS (fun H locs hW hS => ?_)
    refine lv_sipush (v := (-1022)) hx hb dL_refused_190 (by decide) ?_
    refine lv_icmp_ne (tgt := 389) hx hb dL_refused_193 (by decide) (fun c9 => absurd (by decide) c9) (fun _ => ?_)
    refine lv_aload_n hx hb dL_refused_196 rfl (lv_at hl 1 rfl) ?_
    refine lv_iconst (v := 3) hx hb dL_refused_197 (by decide) ?_
    refine lv_iconst (v := 0) hx hb dL_refused_198 (by decide) ?_
    refine lv_iconst (v := 0) hx hb dL_refused_199 (by decide) ?_
    refine lv_iconst (v := 1) hx hb dL_refused_200 (by decide) ?_
    refine lv_iconst (v := 4) hx hb dL_refused_201 (by decide) ?_
    refine lv_iconst (v := 4) hx hb dL_refused_202 (by decide) ?_
    refine p_rd (x := (-1022)) (vx_runSX (As := [.ref o, .int 3, .int 0, .int 0, .int 1, .int 4, .int 4]) (rest := []) ⟨hx, hb, hml, hown, hts⟩ (kR_begin l hl9 G E o (0 : Int32) (0 : Int32) (1 : Int32) (4 : Int32) (4 : Int32) nC nV nG σ hO (x := -1022) (by rw [q_r12 c145 hV4]; decide) (by rw [q_r12 c145 hV4]; rfl)) (vx_cwSW 7 hts gL_refused_L_call rfl rfl rfl (by decide +kernel) ⟨Nat.le_of_ble_eq_true rfl, Nat.le_of_ble_eq_true rfl⟩) (x_preS2 hX hNc hS hW) rfl rfl hl.1 rfl (lv_room (Nat.le_of_ble_eq_true rfl)) dL_refused_203 ⟨by show _ ≤ 297; omega, by show _ ≤ 3000; omega⟩) hS (fun H locs hW hS => ?_)
    refine lv_sipush (v := (-1022)) hx hb dL_refused_206 (by decide) ?_
    refine lv_icmp_ne (tgt := 389) hx hb dL_refused_209 (by decide) (fun c9 => absurd (by decide) c9) (fun _ => ?_)
    refine lv_aload_n hx hb dL_refused_212 rfl (lv_at hl 1 rfl) ?_
    refine lv_iconst (v := 2) hx hb dL_refused_213 (by decide) ?_
    refine lv_iconst (v := 0) hx hb dL_refused_214 (by decide) ?_
    refine lv_iconst (v := 0) hx hb dL_refused_215 (by decide) ?_
    refine lv_iconst (v := 0) hx hb dL_refused_216 (by decide) ?_
    refine lv_iconst (v := 0) hx hb dL_refused_217 (by decide) ?_
    refine lv_iconst (v := 0) hx hb dL_refused_218 (by decide) ?_
    refine p_rd (x := (-1022)) (vx_runSX (As := [.ref o, .int 2, .int 0, .int 0, .int 0, .int 0, .int 0]) (rest := []) ⟨hx, hb, hml, hown, hts⟩ (kR_setCards l hl9 G E o (0 : Int32) (0 : Int32) (0 : Int32) (0 : Int32) (0 : Int32) nC nV nG σ hO (x := -1022) (by rw [q_r13 c145 hV4]; decide) (by rw [q_r13 c145 hV4]; rfl)) (vx_cwSW 7 hts gL_refused_L_call rfl rfl rfl (by decide +kernel) ⟨Nat.le_of_ble_eq_true rfl, Nat.le_of_ble_eq_true rfl⟩) (x_preS2 hX hNc hS hW) rfl rfl hl.1 rfl (lv_room (Nat.le_of_ble_eq_true rfl)) dL_refused_219 ⟨by show _ ≤ 297; omega, by show _ ≤ 3000; omega⟩) hS (fun H locs hW hS => ?_)
    refine lv_sipush (v := (-1022)) hx hb dL_refused_222 (by decide) ?_
    refine lv_icmp_ne (tgt := 389) hx hb dL_refused_225 (by decide) (fun c9 => absurd (by decide) c9) (fun _ => ?_)
    refine lv_aload_n hx hb dL_refused_228 rfl (lv_at hl 1 rfl) ?_
    refine lv_bipush (v := 12) hx hb dL_refused_229 (by decide) ?_
    refine lv_iconst (v := 5) hx hb dL_refused_231 (by decide) ?_
    refine lv_iconst (v := 0) hx hb dL_refused_232 (by decide) ?_
    refine lv_iconst (v := 0) hx hb dL_refused_233 (by decide) ?_
    refine lv_iconst (v := 0) hx hb dL_refused_234 (by decide) ?_
    refine lv_iconst (v := 0) hx hb dL_refused_235 (by decide) ?_
    refine p_rd (x := (-1021)) (vx_runSX (As := [.ref o, .int 12, .int 5, .int 0, .int 0, .int 0, .int 0]) (rest := []) ⟨hx, hb, hml, hown, hts⟩ (kR_vote l hl9 G E o (5 : Int32) (0 : Int32) (0 : Int32) (0 : Int32) (0 : Int32) nC nV nG σ hO (x := -1021) (by rw [q_r14]; decide) (by rw [q_r14]; rfl)) (vx_cwSW 7 hts gL_refused_L_call rfl rfl rfl (by decide +kernel) ⟨Nat.le_of_ble_eq_true rfl, Nat.le_of_ble_eq_true rfl⟩) (x_preS2 hX hNc hS hW) rfl rfl hl.1 rfl (lv_room (Nat.le_of_ble_eq_true rfl)) dL_refused_236 ⟨by show _ ≤ 297; omega, by show _ ≤ 3000; omega⟩) hS (fun H locs hW hS => ?_)
    refine lv_sipush (v := (-1021)) hx hb dL_refused_239 (by decide) ?_
    refine lv_icmp_ne (tgt := 389) hx hb dL_refused_242 (by decide) (fun c9 => absurd (by decide) c9) (fun _ => ?_)
    refine lv_aload_n hx hb dL_refused_245 rfl (lv_at hl 1 rfl) ?_
    refine lv_bipush (v := 6) hx hb dL_refused_246 (by decide) ?_
    refine lv_aload_n hx hb dL_refused_248 rfl (lv_at hl 2 rfl) ?_
    refine lv_iconst (v := 2) hx hb dL_refused_249 (by decide) ?_
    refine p_ild (k := 2) (v := nI nG) hx hb hX.1 hW hg (show vp_in (nI 2) 3 from vp_in_nI (by omega) (by omega)) rfl rfl dL_refused_250 ?_
    refine lv_iconst (v := 0) hx hb dL_refused_251 (by decide) ?_
    refine lv_iconst (v := 1) hx hb dL_refused_252 (by decide) ?_
    refine lv_iconst (v := 0) hx hb dL_refused_253 (by decide) ?_
    refine lv_iconst (v := 0) hx hb dL_refused_254 (by decide) ?_
    refine p_rd (x := (-1021)) (vx_runSX (As := [.ref o, .int 6, .int (nI nG), .int 0, .int 1, .int 0, .int 0]) (rest := []) ⟨hx, hb, hml, hown, hts⟩ (kR_move l hl9 G E o (nI nG) (0 : Int32) (1 : Int32) (0 : Int32) (0 : Int32) nC nV nG σ hO (x := -1021) (by rw [q_r15 hG12]; decide) (by rw [q_r15 hG12]; rfl)) (vx_cwSW 7 hts gL_refused_L_call rfl rfl rfl (by decide +kernel) ⟨Nat.le_of_ble_eq_true rfl, Nat.le_of_ble_eq_true rfl⟩) (x_preS2 hX hNc hS hW) rfl rfl hl.1 rfl (lv_room (Nat.le_of_ble_eq_true rfl)) dL_refused_255 ⟨by show _ ≤ 297; omega, by show _ ≤ 3000; omega⟩) hS (fun H locs hW hS => ?_)
    refine lv_sipush (v := (-1021)) hx hb dL_refused_258 (by decide) ?_
    refine lv_icmp_ne (tgt := 389) hx hb dL_refused_261 (by decide) (fun c9 => absurd (by decide) c9) (fun _ => ?_)
    refine lv_aload_n hx hb dL_refused_264 rfl (lv_at hl 1 rfl) ?_
    refine lv_bipush (v := 12) hx hb dL_refused_265 (by decide) ?_
    refine lv_iconst (v := 0) hx hb dL_refused_267 (by decide) ?_
    refine lv_iconst (v := (-1)) hx hb dL_refused_268 (by decide) ?_
    refine lv_iconst (v := 0) hx hb dL_refused_269 (by decide) ?_
    refine lv_iconst (v := 0) hx hb dL_refused_270 (by decide) ?_
    refine lv_iconst (v := 0) hx hb dL_refused_271 (by decide) ?_
    refine p_rd (x := (-1021)) (vx_runSX (As := [.ref o, .int 12, .int 0, .int (-1), .int 0, .int 0, .int 0]) (rest := []) ⟨hx, hb, hml, hown, hts⟩ (kR_vote l hl9 G E o (0 : Int32) ((-1) : Int32) (0 : Int32) (0 : Int32) (0 : Int32) nC nV nG σ hO (x := -1021) (by rw [q_r16]; decide) (by rw [q_r16]; rfl)) (vx_cwSW 7 hts gL_refused_L_call rfl rfl rfl (by decide +kernel) ⟨Nat.le_of_ble_eq_true rfl, Nat.le_of_ble_eq_true rfl⟩) (x_preS2 hX hNc hS hW) rfl rfl hl.1 rfl (lv_room (Nat.le_of_ble_eq_true rfl)) dL_refused_272 ⟨by show _ ≤ 297; omega, by show _ ≤ 3000; omega⟩) hS (fun H locs hW hS => ?_)
    refine lv_sipush (v := (-1021)) hx hb dL_refused_275 (by decide) ?_
    refine lv_icmp_ne (tgt := 389) hx hb dL_refused_278 (by decide) (fun c9 => absurd (by decide) c9) (fun _ => ?_)
    refine lv_aload_n hx hb dL_refused_281 rfl (lv_at hl 2 rfl) ?_
    refine lv_iconst (v := 2) hx hb dL_refused_282 (by decide) ?_
    refine p_ild (k := 2) (v := nI nG) hx hb hX.1 hW hg (show vp_in (nI 2) 3 from vp_in_nI (by omega) (by omega)) rfl rfl dL_refused_283 ?_
    refine lv_if_eq (tgt := 375) hx hb dL_refused_284 (by decide) (fun c284 => ?_) (fun c284 => ?_)
    · refine lv_aload_n hx hb dL_refused_375 rfl (lv_at hl 1 rfl) ?_
      refine lv_aload_n hx hb dL_refused_376 rfl (lv_at hl 2 rfl) ?_
      refine p_rdl (x := pAll σ nV nG) (vx_runS (As := [.ref o, .ref ga]) (rest := []) ⟨hx, hb, hml, hown, hts⟩ (kL_all l hl9 G E o ga nC nV nG σ hO hI hg) (va_cwS 2 hts gL_refused_L_all rfl rfl rfl (by decide +kernel) ⟨Nat.le_of_ble_eq_true rfl, Nat.le_of_ble_eq_true rfl⟩) (x_preS2 hX hNc hS hW) rfl rfl hl.1 rfl (lv_room (Nat.le_of_ble_eq_true rfl)) dL_refused_377 ⟨by show _ ≤ 297; omega, by show _ ≤ 3000; omega⟩) hS (fun H locs hW hS => ?_)
      refine lv_lload_n hx hb dL_refused_380 rfl (lv_at hl 0 rfl) ?_
      refine W.lcmp hx hb dL_refused_381 ?_
      refine lv_if_ne (tgt := 389) hx hb dL_refused_382 (by decide) (fun c9 => False.elim (by exact c9 (lg_cmp_self _))) (fun c382 => ?_)
      refine lv_iconst (v := 1) hx hb dL_refused_385 (by decide) ?_
      refine lv_goto (tgt := 390) hx hb dL_refused_386 (by decide) ?_
      exact vx_ret (W.widen (k := 297) (n := 3000) (by omega) (by omega) (W.zret (v := 1) hx hb hr rfl (fun t ht hw9 => ⟨⟨_, E, rfl, ⟨rfl, rfl⟩, (show xW G E t.heap from by rw [ht]; exact hW)⟩, hS.F ht⟩) hS.2.2 dL_refused_390))
    · refine lv_aload_n hx hb dL_refused_287 rfl (lv_at hl 1 rfl) ?_
      refine lv_bipush (v := 6) hx hb dL_refused_288 (by decide) ?_
      refine lv_iconst (v := 0) hx hb dL_refused_290 (by decide) ?_
      refine lv_bipush (v := 25) hx hb dL_refused_291 (by decide) ?_
      refine lv_iconst (v := 0) hx hb dL_refused_293 (by decide) ?_
      refine lv_iconst (v := 0) hx hb dL_refused_294 (by decide) ?_
      refine lv_iconst (v := 0) hx hb dL_refused_295 (by decide) ?_
      refine p_rd (x := (-1021)) (vx_runSX (As := [.ref o, .int 6, .int 0, .int 25, .int 0, .int 0, .int 0]) (rest := []) ⟨hx, hb, hml, hown, hts⟩ (kR_move l hl9 G E o (0 : Int32) (25 : Int32) (0 : Int32) (0 : Int32) (0 : Int32) nC nV nG σ hO (x := -1021) (by rw [q_r17 c284 hG12]; decide) (by rw [q_r17 c284 hG12]; rfl)) (vx_cwSW 7 hts gL_refused_L_call rfl rfl rfl (by decide +kernel) ⟨Nat.le_of_ble_eq_true rfl, Nat.le_of_ble_eq_true rfl⟩) (x_preS2 hX hNc hS hW) rfl rfl hl.1 rfl (lv_room (Nat.le_of_ble_eq_true rfl)) dL_refused_296 ⟨by show _ ≤ 297; omega, by show _ ≤ 3000; omega⟩) hS (fun H locs hW hS => ?_)
      refine lv_sipush (v := (-1021)) hx hb dL_refused_299 (by decide) ?_
      refine lv_icmp_ne (tgt := 389) hx hb dL_refused_302 (by decide) (fun c9 => absurd (by decide) c9) (fun _ => ?_)
      refine lv_aload_n hx hb dL_refused_305 rfl (lv_at hl 1 rfl) ?_
      refine lv_iconst (v := 4) hx hb dL_refused_306 (by decide) ?_
      refine lv_iconst (v := 0) hx hb dL_refused_307 (by decide) ?_
      refine lv_iconst (v := 0) hx hb dL_refused_308 (by decide) ?_
      refine lv_bipush (v := 25) hx hb dL_refused_309 (by decide) ?_
      refine lv_iconst (v := 0) hx hb dL_refused_311 (by decide) ?_
      refine lv_iconst (v := 0) hx hb dL_refused_312 (by decide) ?_
      refine p_rd (x := (-1021)) (vx_runSX (As := [.ref o, .int 4, .int 0, .int 0, .int 25, .int 0, .int 0]) (rest := []) ⟨hx, hb, hml, hown, hts⟩ (kR_can l hl9 G E o (0 : Int32) (0 : Int32) (25 : Int32) (0 : Int32) (0 : Int32) nC nV nG σ hO (x := -1021) (by rw [q_r18 c284 hG12]; decide) (by rw [q_r18 c284 hG12]; rfl)) (vx_cwSW 7 hts gL_refused_L_call rfl rfl rfl (by decide +kernel) ⟨Nat.le_of_ble_eq_true rfl, Nat.le_of_ble_eq_true rfl⟩) (x_preS2 hX hNc hS hW) rfl rfl hl.1 rfl (lv_room (Nat.le_of_ble_eq_true rfl)) dL_refused_313 ⟨by show _ ≤ 297; omega, by show _ ≤ 3000; omega⟩) hS (fun H locs hW hS => ?_)
      refine lv_sipush (v := (-1021)) hx hb dL_refused_316 (by decide) ?_
      refine lv_icmp_ne (tgt := 389) hx hb dL_refused_319 (by decide) (fun c9 => absurd (by decide) c9) (fun _ => ?_)
      refine lv_aload_n hx hb dL_refused_322 rfl (lv_at hl 1 rfl) ?_
      refine lv_bipush (v := 10) hx hb dL_refused_323 (by decide) ?_
      refine lv_iconst (v := 0) hx hb dL_refused_325 (by decide) ?_
      refine lv_iconst (v := 3) hx hb dL_refused_326 (by decide) ?_
      refine lv_iconst (v := 0) hx hb dL_refused_327 (by decide) ?_
      refine lv_iconst (v := 0) hx hb dL_refused_328 (by decide) ?_
      refine lv_iconst (v := 0) hx hb dL_refused_329 (by decide) ?_
      refine p_rd (x := (-1022)) (vx_runSX (As := [.ref o, .int 10, .int 0, .int 3, .int 0, .int 0, .int 0]) (rest := []) ⟨hx, hb, hml, hown, hts⟩ (kR_value l hl9 G E o (0 : Int32) (3 : Int32) (0 : Int32) (0 : Int32) (0 : Int32) nC nV nG σ hO (x := -1022) (by rw [q_r19 c284 hG12]; decide) (by rw [q_r19 c284 hG12]; rfl)) (vx_cwSW 7 hts gL_refused_L_call rfl rfl rfl (by decide +kernel) ⟨Nat.le_of_ble_eq_true rfl, Nat.le_of_ble_eq_true rfl⟩) (x_preS2 hX hNc hS hW) rfl rfl hl.1 rfl (lv_room (Nat.le_of_ble_eq_true rfl)) dL_refused_330 ⟨by show _ ≤ 297; omega, by show _ ≤ 3000; omega⟩) hS (fun H locs hW hS => ?_)
      refine lv_sipush (v := (-1022)) hx hb dL_refused_333 (by decide) ?_
      refine lv_icmp_ne (tgt := 389) hx hb dL_refused_336 (by decide) (fun c9 => absurd (by decide) c9) (fun _ => ?_)
      refine lv_aload_n hx hb dL_refused_339 rfl (lv_at hl 1 rfl) ?_
      refine lv_bipush (v := 11) hx hb dL_refused_340 (by decide) ?_
      refine lv_iconst (v := 0) hx hb dL_refused_342 (by decide) ?_
      refine lv_iconst (v := (-1)) hx hb dL_refused_343 (by decide) ?_
      refine lv_iconst (v := 0) hx hb dL_refused_344 (by decide) ?_
      refine lv_iconst (v := 0) hx hb dL_refused_345 (by decide) ?_
      refine lv_iconst (v := 0) hx hb dL_refused_346 (by decide) ?_
      refine p_rd (x := (-1022)) (vx_runSX (As := [.ref o, .int 11, .int 0, .int (-1), .int 0, .int 0, .int 0]) (rest := []) ⟨hx, hb, hml, hown, hts⟩ (kR_valueByAll l hl9 G E o (0 : Int32) ((-1) : Int32) (0 : Int32) (0 : Int32) (0 : Int32) nC nV nG σ hO (x := -1022) (by rw [q_r20 c284 hG12]; decide) (by rw [q_r20 c284 hG12]; rfl)) (vx_cwSW 7 hts gL_refused_L_call rfl rfl rfl (by decide +kernel) ⟨Nat.le_of_ble_eq_true rfl, Nat.le_of_ble_eq_true rfl⟩) (x_preS2 hX hNc hS hW) rfl rfl hl.1 rfl (lv_room (Nat.le_of_ble_eq_true rfl)) dL_refused_347 ⟨by show _ ≤ 297; omega, by show _ ≤ 3000; omega⟩) hS (fun H locs hW hS => ?_)
      refine lv_sipush (v := (-1022)) hx hb dL_refused_350 (by decide) ?_
      refine lv_icmp_ne (tgt := 389) hx hb dL_refused_353 (by decide) (fun c9 => absurd (by decide) c9) (fun _ => ?_)
      refine lv_aload_n hx hb dL_refused_356 rfl (lv_at hl 1 rfl) ?_
      refine lv_bipush (v := 6) hx hb dL_refused_357 (by decide) ?_
      refine lv_iconst (v := 0) hx hb dL_refused_359 (by decide) ?_
      refine lv_bipush (v := 7) hx hb dL_refused_360 (by decide) ?_
      refine lv_bipush (v := 7) hx hb dL_refused_362 (by decide) ?_
      refine lv_iconst (v := 0) hx hb dL_refused_364 (by decide) ?_
      refine lv_iconst (v := 0) hx hb dL_refused_365 (by decide) ?_
      refine p_rd (x := (-1023)) (vx_runSX (As := [.ref o, .int 6, .int 0, .int 7, .int 7, .int 0, .int 0]) (rest := []) ⟨hx, hb, hml, hown, hts⟩ (kR_move l hl9 G E o (0 : Int32) (7 : Int32) (7 : Int32) (0 : Int32) (0 : Int32) nC nV nG σ hO (x := -1023) (by rw [q_r21 c284 hG12]; decide) (by rw [q_r21 c284 hG12]; rfl)) (vx_cwSW 7 hts gL_refused_L_call rfl rfl rfl (by decide +kernel) ⟨Nat.le_of_ble_eq_true rfl, Nat.le_of_ble_eq_true rfl⟩) (x_preS2 hX hNc hS hW) rfl rfl hl.1 rfl (lv_room (Nat.le_of_ble_eq_true rfl)) dL_refused_366 ⟨by show _ ≤ 297; omega, by show _ ≤ 3000; omega⟩) hS (fun H locs hW hS => ?_)
      refine lv_sipush (v := (-1023)) hx hb dL_refused_369 (by decide) ?_
      refine lv_icmp_ne (tgt := 389) hx hb dL_refused_372 (by decide) (fun c9 => absurd (by decide) c9) (fun _ => ?_)
      refine lv_aload_n hx hb dL_refused_375 rfl (lv_at hl 1 rfl) ?_
      refine lv_aload_n hx hb dL_refused_376 rfl (lv_at hl 2 rfl) ?_
      refine p_rdl (x := pAll σ nV nG) (vx_runS (As := [.ref o, .ref ga]) (rest := []) ⟨hx, hb, hml, hown, hts⟩ (kL_all l hl9 G E o ga nC nV nG σ hO hI hg) (va_cwS 2 hts gL_refused_L_all rfl rfl rfl (by decide +kernel) ⟨Nat.le_of_ble_eq_true rfl, Nat.le_of_ble_eq_true rfl⟩) (x_preS2 hX hNc hS hW) rfl rfl hl.1 rfl (lv_room (Nat.le_of_ble_eq_true rfl)) dL_refused_377 ⟨by show _ ≤ 297; omega, by show _ ≤ 3000; omega⟩) hS (fun H locs hW hS => ?_)
      refine lv_lload_n hx hb dL_refused_380 rfl (lv_at hl 0 rfl) ?_
      refine W.lcmp hx hb dL_refused_381 ?_
      refine lv_if_ne (tgt := 389) hx hb dL_refused_382 (by decide) (fun c9 => False.elim (by exact c9 (lg_cmp_self _))) (fun c382 => ?_)
      refine lv_iconst (v := 1) hx hb dL_refused_385 (by decide) ?_
      refine lv_goto (tgt := 390) hx hb dL_refused_386 (by decide) ?_
      exact vx_ret (W.widen (k := 297) (n := 3000) (by omega) (by omega) (W.zret (v := 1) hx hb hr rfl (fun t ht hw9 => ⟨⟨_, E, rfl, ⟨rfl, rfl⟩, (show xW G E t.heap from by rw [ht]; exact hW)⟩, hS.F ht⟩) hS.2.2 dL_refused_390))

