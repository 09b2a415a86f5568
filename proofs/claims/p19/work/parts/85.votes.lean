set_option maxHeartbeats 4000000 in
set_option maxRecDepth 100000 in
/-- votes -/
theorem kL_votes (l : Launch) (hl9 : l.stackTraces = false) (G : xG) (E : xE) (o ga nC nV nG : Nat) (σ : xSg) (hO : pOb G E o σ nC nV nG) (hI : pI σ nC nV nG) (hg : E ga = some (.inl (G.2.1 0, 3, .inl (gF nC nV nG)))) (x : Int32) : vx_Met l yL_votes wsL_votes ({ frames := 13, cells := 310, slots := 2300, locals := 350 }) (va_Pc [.ref o, .ref ga, .int x] (xB2 G E)) (va_Qi (S := xE) (pPo G o ga E (fun σ' _ nG' => nG' = nG ∧ σ' 11 = σ 11)) (fun E' t => xW G E' t.heap) (xA G)) (xX G E (fun _ => False)) 310 2300 (xA G) := by
  refine vx_ofW (cc := cL_votes) (maxL := 10) (ret := (some .boolean)) (by decide) rfl ?_
  intro p e s m args below meth c s₁ B hml hno hv
  obtain ⟨rfl, ⟨hX, hW⟩, hNc⟩ := hv
  have hx := B.exec
  have hb := B.bytes
  have hr := B.returns
  have hts := atoms_spec (ws := wsL_votes) B.pre
  have hown : s.vm.findClass RL = some m.cls := findClass_of_methodNamed B.named
  have hlocks := B.notSynchronized
  have hS : va_S (xA G) s.heap s.heap [] := va_S.rf
  have hl := lv_entry ([.ref o, .ref ga, .int x]) (n := 10) (Nat.le_of_ble_eq_true rfl)
  rw [lg_entry_eq]
  generalize (lg_sl ([.ref o, .ref ga, .int x]) ++ List.replicate (10 - (lg_sl ([.ref o, .ref ga, .int x])).length) Slot.unset).toArray = ls at hl ⊢
  have hl : lv_has ls 10 [(0, .ref o), (1, .ref ga), (2, .int x)] := hl
  obtain ⟨H, hH⟩ : ∃ z, z = s.heap := ⟨_, rfl⟩
  rw [← hH] at hW
  have hS : va_S (xA G) s.heap H [] := by rw [hH]; exact hS
  rw [← hH]
  obtain ⟨fs, hOE⟩ := hO.at
  obtain ⟨h00, h05, h010, hC8, hV4, hG12⟩ := hO.nums
  have hp8 : 2 ^ nC ≤ 2 ^ 8 := Nat.pow_le_pow_right (by omega) hC8
  have hN1 := pN1_le nV
  refine lv_iload_n hx hb dL_votes_0 rfl (lv_at hl 2 rfl) ?_
  refine lv_iconst (v := 5) hx hb dL_votes_1 (by decide) ?_
  refine x_callSi (va_runS (As := [.int x, .int 5]) (rest := []) ⟨hx, hb, hml, hown, hts⟩ (kS l x (N := 5) (by omega) (by omega)) (va_cwS 2 hts gL_votes_L_some rfl rfl rfl (by decide +kernel) ⟨Nat.le_of_ble_eq_true rfl, Nat.le_of_ble_eq_true rfl⟩) x_preT rfl rfl hl.1 rfl (lv_room (Nat.le_of_ble_eq_true rfl)) dL_votes_2 ⟨by show _ ≤ 310; omega, by show _ ≤ 2300; omega⟩) (fun vj2 hvj2 => ?_)
  obtain ⟨j2, hj2, ej2, xj2⟩ := hvj2
  rw [ej2]
  refine lv_istore_n (lv' := [(3, .int (nI j2)), (0, .ref o), (1, .ref ga), (2, .int x)]) hx hb dL_votes_5 rfl hl (by decide) rfl (fun ls hl => ?_)
  refine lv_iload_n hx hb dL_votes_6 rfl (lv_at hl 3 rfl) ?_
  refine lv_iconst (v := 3) hx hb dL_votes_7 (by decide) ?_
  refine lv_ishr hx hb dL_votes_8 ?_
  refine lv_aload_n hx hb dL_votes_9 rfl (lv_at hl 2 rfl) ?_
  refine lv_iconst (v := 1) hx hb dL_votes_10 (by decide) ?_
  refine p_ild (k := 1) (v := nI nV) hx hb hX.1 hW hg (show vp_in (nI 1) 3 from vp_in_nI (by omega) (by omega)) rfl rfl dL_votes_11 ?_
  refine x_join (ls' := ls) (rest' := [.int (x >>> (3 &&& 31))]) 22 (nI (pN1 nV)) (fun v ev => ?_) (fun J => ?_)
  · subst ev
    refine x_callSi (va_runS (As := [.int (x >>> (3 &&& 31)), .int (nI (pN1 nV))]) (rest := []) ⟨hx, hb, hml, hown, hts⟩ (kS l (x >>> (3 &&& 31)) (N := (pN1 nV)) (pN1_pos _) (by omega)) (va_cwS 2 hts gL_votes_L_some rfl rfl rfl (by decide +kernel) ⟨Nat.le_of_ble_eq_true rfl, Nat.le_of_ble_eq_true rfl⟩) x_preT rfl rfl hl.1 rfl (lv_room (Nat.le_of_ble_eq_true rfl)) dL_votes_22 ⟨by show _ ≤ 310; omega, by show _ ≤ 2300; omega⟩) (fun vj22 hvj22 => ?_)
    obtain ⟨j22, hj22, ej22, xj22⟩ := hvj22
    rw [ej22]
    refine lv_istore (lv' := [(4, .int (nI j22)), (3, .int (nI j2)), (0, .ref o), (1, .ref ga), (2, .int x)]) hx hb dL_votes_25 hl (by decide) rfl (fun ls hl => ?_)
    refine lv_aload_n hx hb dL_votes_27 rfl (lv_at hl 2 rfl) ?_
    refine lv_aload_n hx hb dL_votes_28 rfl (lv_at hl 3 rfl) ?_
    refine p_rdl (x := pAll (σ) nV nG) (vx_runS (As := [.ref o, .ref ga]) (rest := []) ⟨hx, hb, hml, hown, hts⟩ (kL_all l hl9 G E o ga nC nV nG (σ) hO hI hg) (va_cwS 2 hts gL_votes_L_all rfl rfl rfl (by decide +kernel) ⟨Nat.le_of_ble_eq_true rfl, Nat.le_of_ble_eq_true rfl⟩) (x_preS2 hX hNc hS hW) rfl rfl hl.1 rfl (lv_room (Nat.le_of_ble_eq_true rfl)) dL_votes_29 ⟨by show _ ≤ 310; omega, by show _ ≤ 2300; omega⟩) hS (fun H locs hW hS => ?_)
    refine lv_lstore (lv' := [(5, .long (pAll (σ) nV nG)), (4, .int (nI j22)), (3, .int (nI j2)), (0, .ref o), (1, .ref ga), (2, .int x)]) hx hb dL_votes_32 hl (by decide) rfl (fun ls hl => ?_)
    refine lv_aload_n hx hb dL_votes_34 rfl (lv_at hl 3 rfl) ?_
    refine lv_bipush (v := 12) hx hb dL_votes_35 (by decide) ?_
    refine lv_iload_n hx hb dL_votes_37 rfl (lv_at hl 2 rfl) ?_
    refine lv_iload hx hb dL_votes_38 (lv_at hl 1 rfl) ?_
    refine lv_iconst (v := 0) hx hb dL_votes_40 (by decide) ?_
    refine lv_iconst (v := 0) hx hb dL_votes_41 (by decide) ?_
    refine lv_iconst (v := 0) hx hb dL_votes_42 (by decide) ?_
    refine p_wr (vx_runSX (As := [.ref o, .int 12, .int (nI j2), .int (nI j22), .int 0, .int 0, .int 0]) (rest := []) ⟨hx, hb, hml, hown, hts⟩ (kC_vote l hl9 G E o (nI j2) (nI j22) (0 : Int32) (0 : Int32) (0 : Int32) nC nV nG σ hO) (vx_cwSW 7 hts gL_votes_L_call rfl rfl rfl (by decide +kernel) ⟨Nat.le_of_ble_eq_true rfl, Nat.le_of_ble_eq_true rfl⟩) (x_preS2 hX hNc hS hW) rfl rfl hl.1 rfl (lv_room (Nat.le_of_ble_eq_true rfl)) dL_votes_43 ⟨by show _ ≤ 310; omega, by show _ ≤ 2300; omega⟩) hS (fun r43 E1 H locs hq hW hS => ?_)
    rcases hq with ⟨hT0, w1, hu1, hv1, hr9, hO1, hF1⟩ | ⟨hT, hr9, hE9⟩
    · obtain rfl : j22 = w1 := (nI_eq (by have := pN1_le nV; omega) (by omega)).mp hu1
      obtain ⟨⟨c1, hc1, hb1⟩, hb2, hbn, hww⟩ := n_vote hI hv1 hj2
      rw [hb1] at hb2 hbn
      rw [hr9, hb1]
      obtain ⟨σ1, hs1⟩ : ∃ q, q = sgU σ 8 j22 ((σ 8 j22) ^^^ ((1 : Int32) <<< ((nI j2) &&& 31))) := ⟨_, rfl⟩
      rw [← hs1] at hO1 hb2 hbn hww
      have hI1 : pI σ1 nC nV nG := by rw [hs1]; exact n_voteI hO hI hv1 hj2
      have hg1 : E1 ga = _ := hF1 _ _ hg rfl
      obtain ⟨fs1, hOE1⟩ := hO1.at
      have hFr1 := pFr_of (ga := ga) hF1
      refine lv_istore (lv' := [(7, .int (nI c1)), (5, .long (pAll (σ) nV nG)), (4, .int (nI j22)), (3, .int (nI j2)), (0, .ref o), (1, .ref ga), (2, .int x)]) hx hb dL_votes_46 hl (by decide) rfl (fun ls hl => ?_)
      refine lv_iload hx hb dL_votes_48 (lv_at hl 0 rfl) ?_
      refine lv_sipush (v := (-1021)) hx hb dL_votes_50 (by decide) ?_
      refine lv_icmp_ne (tgt := 79) hx hb dL_votes_53 (by decide) (fun c53 => ?_) (fun c9 => False.elim (by exact absurd c9 (show ¬ nI c1 = -1021 from fun q => nI_pos (n := c1) (by omega) (by rw [q]; decide))))
      refine lv_iload hx hb dL_votes_79 (lv_at hl 0 rfl) ?_
      refine lv_if_lt (tgt := 125) hx hb dL_votes_81 (by decide) (fun c9 => False.elim (by exact nI_pos (by omega) c9)) (fun c81 => ?_)
      refine lv_iload hx hb dL_votes_84 (lv_at hl 0 rfl) ?_
      refine lv_bipush (v := 6) hx hb dL_votes_86 (by decide) ?_
      refine lv_icmp_ge (tgt := 125) hx hb dL_votes_88 (by decide) (fun c9 => False.elim (by exact nI_ge (b := 6) (by omega) (by omega) c9)) (fun c88 => ?_)
      refine lv_aload_n hx hb dL_votes_91 rfl (lv_at hl 4 rfl) ?_
      refine lv_iload hx hb dL_votes_92 (lv_at hl 2 rfl) ?_
      refine p_rd (x := zI (pBan σ1 j22)) (vx_runV (As := [.int (nI j22)]) (rest := []) ⟨hx, hb, hml, hown, hts⟩ (dr_isBanned l hl9 G E1 o nC nV nG σ1 hO1 (v := j22) (by omega)) (cwV 1 hts gL_votes_X4_isBanned rfl rfl rfl (by decide +kernel) ⟨Nat.le_of_ble_eq_true rfl, Nat.le_of_ble_eq_true rfl⟩) (x_preV hX hS hW hOE1 rfl) rfl rfl hl.1 rfl (lv_room (Nat.le_of_ble_eq_true rfl)) dL_votes_94 ⟨by show _ ≤ 310; omega, by show _ ≤ 2300; omega⟩) hS (fun H locs hW hS => ?_)
      refine lv_iload hx hb dL_votes_97 (lv_at hl 0 rfl) ?_
      refine lv_iconst (v := 2) hx hb dL_votes_99 (by decide) ?_
      refine lv_icmp_gt (tgt := 113) hx hb dL_votes_100 (by decide) (fun c100 => ?_) (fun c100 => ?_)
      · refine lv_iconst (v := 1) hx hb dL_votes_113 (by decide) ?_
        refine lv_goto (tgt := 118) hx hb dL_votes_114 (by decide) ?_
        refine lv_icmp_ne (tgt := 125) hx hb dL_votes_118 (by decide) (fun c9 => False.elim (by exact c9 (by rw [hbn.mpr (Or.inl c100)]; rfl))) (fun c118 => ?_)
        refine lv_iconst (v := 1) hx hb dL_votes_121 (by decide) ?_
        refine lv_goto (tgt := 126) hx hb dL_votes_122 (by decide) ?_
        refine lv_istore (lv' := [(8, .int 1), (7, .int (nI c1)), (5, .long (pAll (σ) nV nG)), (4, .int (nI j22)), (3, .int (nI j2)), (0, .ref o), (1, .ref ga), (2, .int x)]) hx hb dL_votes_126 hl (by decide) rfl (fun ls hl => ?_)
        refine lv_aload_n hx hb dL_votes_128 rfl (lv_at hl 5 rfl) ?_
        refine lv_iload_n hx hb dL_votes_129 rfl (lv_at hl 4 rfl) ?_
        refine lv_iload hx hb dL_votes_130 (lv_at hl 3 rfl) ?_
        refine p_wr (vx_runV (As := [.int (nI j2), .int (nI j22)]) (rest := []) ⟨hx, hb, hml, hown, hts⟩ (dr_vote l hl9 G E1 o nC nV nG σ1 hO1 (v := j22) (p := j2) (by omega) (by omega)) (cwV 2 hts gL_votes_X4_vote rfl rfl rfl (by decide +kernel) ⟨Nat.le_of_ble_eq_true rfl, Nat.le_of_ble_eq_true rfl⟩) (x_preV hX hS hW hOE1 rfl) rfl rfl hl.1 rfl (lv_room (Nat.le_of_ble_eq_true rfl)) dL_votes_132 ⟨by show _ ≤ 310; omega, by show _ ≤ 2300; omega⟩) hS (fun r132 E2 H locs hq hW hS => ?_)
        obtain ⟨-, w3, hu3, hv3, hr3, hO3, hF3⟩ := hq
        obtain rfl : j22 = w3 := (nI_eq (by omega) (by omega)).mp hu3
        have hg3 : E2 ga = _ := hF3 _ _ hg1 rfl
        have hFr3 := hFr1.trans (pFr_of hF3)
        rw [hww] at hO3
        obtain ⟨fs3, hOE3⟩ := hO3.at
        rw [hr3]
        refine lv_istore (lv' := [(9, .int (fJ6_bitCount_0f7a4 ((σ1 8 j22) ^^^ ((1 : Int32) <<< ((nI j2) &&& 31))))), (8, .int 1), (7, .int (nI c1)), (5, .long (pAll (σ) nV nG)), (4, .int (nI j22)), (3, .int (nI j2)), (0, .ref o), (1, .ref ga), (2, .int x)]) hx hb dL_votes_135 hl (by decide) rfl (fun ls hl => ?_)
        refine lv_iload hx hb dL_votes_137 (lv_at hl 1 rfl) ?_
        refine lv_if_eq (tgt := 198) hx hb dL_votes_139 (by decide) (fun c9 => absurd c9 (by decide)) (fun _ => ?_)
        refine lv_iload hx hb dL_votes_142 (lv_at hl 0 rfl) ?_
        refine lv_iload hx hb dL_votes_144 (lv_at hl 2 rfl) ?_
        refine lv_iconst (v := 1) hx hb dL_votes_146 (by decide) ?_
        refine lv_iadd hx hb dL_votes_147 ?_
        refine lv_icmp_eq (tgt := 160) hx hb dL_votes_148 (by decide) (fun c148 => ?_) (fun c148 => ?_)
        · refine lv_aload_n hx hb dL_votes_160 rfl (lv_at hl 6 rfl) ?_
          refine lv_aload_n hx hb dL_votes_161 rfl (lv_at hl 7 rfl) ?_
          refine p_rdl (x := pAll (σ) nV nG) (vx_runS (As := [.ref o, .ref ga]) (rest := []) ⟨hx, hb, hml, hown, hts⟩ (kL_all l hl9 G E2 o ga nC nV nG (σ) hO3 hI hg3) (va_cwS 2 hts gL_votes_L_all rfl rfl rfl (by decide +kernel) ⟨Nat.le_of_ble_eq_true rfl, Nat.le_of_ble_eq_true rfl⟩) (x_preS2 hX hNc hS hW) rfl rfl hl.1 rfl (lv_room (Nat.le_of_ble_eq_true rfl)) dL_votes_162 ⟨by show _ ≤ 310; omega, by show _ ≤ 2300; omega⟩) hS (fun H locs hW hS => ?_)
          refine lv_lload hx hb dL_votes_165 (lv_at hl 3 rfl) ?_
          refine W.lcmp hx hb dL_votes_167 ?_
          refine lv_if_ne (tgt := 198) hx hb dL_votes_168 (by decide) (fun c9 => False.elim (by exact c9 (lg_cmp_self _))) (fun c168 => ?_)
          refine lv_iload_n hx hb dL_votes_171 rfl (lv_at hl 8 rfl) ?_
          refine lv_bipush (v := 6) hx hb dL_votes_172 (by decide) ?_
          refine lv_ishr hx hb dL_votes_174 ?_
          refine lv_iconst (v := 3) hx hb dL_votes_175 (by decide) ?_
          refine x_callSi (va_runS (As := [.int (x >>> (6 &&& 31)), .int 3]) (rest := []) ⟨hx, hb, hml, hown, hts⟩ (kS l (x >>> (6 &&& 31)) (N := 3) (by omega) (by omega)) (va_cwS 2 hts gL_votes_L_some rfl rfl rfl (by decide +kernel) ⟨Nat.le_of_ble_eq_true rfl, Nat.le_of_ble_eq_true rfl⟩) x_preT rfl rfl hl.1 rfl (lv_room (Nat.le_of_ble_eq_true rfl)) dL_votes_176 ⟨by show _ ≤ 310; omega, by show _ ≤ 2300; omega⟩) (fun vj176 hvj176 => ?_)
          obtain ⟨j176, hj176, ej176, xj176⟩ := hvj176
          rw [ej176]
          refine lv_if_eq (tgt := 194) hx hb dL_votes_179 (by decide) (fun c179 => ?_) (fun c179 => ?_)
          · refine lv_iconst (v := 1) hx hb dL_votes_194 (by decide) ?_
            refine lv_goto (tgt := 199) hx hb dL_votes_195 (by decide) ?_
            exact vx_ret (W.widen (k := 310) (n := 2300) (by omega) (by omega) (W.zret (v := 1) hx hb hr rfl (fun t ht hw9 => ⟨⟨_, E2, rfl, ⟨rfl, ⟨σ, nC, nV, nG, hO3, hI, hg3, hFr3, rfl, rfl⟩⟩, (show xW G E2 t.heap from by rw [ht]; exact hW)⟩, hS.F ht⟩) hS.2.2 dL_votes_199))
          · refine lv_aload_n hx hb dL_votes_182 rfl (lv_at hl 6 rfl) ?_
            refine lv_iload_n hx hb dL_votes_183 rfl (lv_at hl 5 rfl) ?_
            refine lv_iload hx hb dL_votes_184 (lv_at hl 4 rfl) ?_
            refine p_wr (vx_runV (As := [.int (nI j2), .int (nI j22)]) (rest := []) ⟨hx, hb, hml, hown, hts⟩ (dr_vote l hl9 G E2 o nC nV nG σ hO3 (v := j22) (p := j2) (by omega) (by omega)) (cwV 2 hts gL_votes_X4_vote rfl rfl rfl (by decide +kernel) ⟨Nat.le_of_ble_eq_true rfl, Nat.le_of_ble_eq_true rfl⟩) (x_preV hX hS hW hOE3 rfl) rfl rfl hl.1 rfl (lv_room (Nat.le_of_ble_eq_true rfl)) dL_votes_186 ⟨by show _ ≤ 310; omega, by show _ ≤ 2300; omega⟩) hS (fun r186 E3 H locs hq hW hS => ?_)
            obtain ⟨-, w4, hu4, hv4, hr4, hO4, hF4⟩ := hq
            obtain rfl : j22 = w4 := (nI_eq (by omega) (by omega)).mp hu4
            have hg4 : E3 ga = _ := hF4 _ _ hg3 rfl
            have hFr4 := hFr3.trans (pFr_of hF4)
            rw [hr4, hb1]
            rw [← hs1] at hO4
            refine lv_iload hx hb dL_votes_189 (lv_at hl 2 rfl) ?_
            refine lv_icmp_ne (tgt := 198) hx hb dL_votes_191 (by decide) (fun c9 => False.elim (by exact c9 rfl)) (fun c191 => ?_)
            refine lv_iconst (v := 1) hx hb dL_votes_194 (by decide) ?_
            refine lv_goto (tgt := 199) hx hb dL_votes_195 (by decide) ?_
            exact vx_ret (W.widen (k := 310) (n := 2300) (by omega) (by omega) (W.zret (v := 1) hx hb hr rfl (fun t ht hw9 => ⟨⟨_, E3, rfl, ⟨rfl, ⟨σ1, nC, nV, nG, hO4, hI1, hg4, hFr4, rfl, by rw [hs1]; rfl⟩⟩, (show xW G E3 t.heap from by rw [ht]; exact hW)⟩, hS.F ht⟩) hS.2.2 dL_votes_199))
        · refine lv_iload hx hb dL_votes_151 (lv_at hl 0 rfl) ?_
          refine lv_iload hx hb dL_votes_153 (lv_at hl 2 rfl) ?_
          refine lv_iconst (v := 1) hx hb dL_votes_155 (by decide) ?_
          refine lv_isub hx hb dL_votes_156 ?_
          refine lv_icmp_ne (tgt := 198) hx hb dL_votes_157 (by decide) (fun c9 => False.elim (by rcases hb2 with h | h; exact c148 h; exact c9 h)) (fun c157 => ?_)
          refine lv_aload_n hx hb dL_votes_160 rfl (lv_at hl 6 rfl) ?_
          refine lv_aload_n hx hb dL_votes_161 rfl (lv_at hl 7 rfl) ?_
          refine p_rdl (x := pAll (σ) nV nG) (vx_runS (As := [.ref o, .ref ga]) (rest := []) ⟨hx, hb, hml, hown, hts⟩ (kL_all l hl9 G E2 o ga nC nV nG (σ) hO3 hI hg3) (va_cwS 2 hts gL_votes_L_all rfl rfl rfl (by decide +kernel) ⟨Nat.le_of_ble_eq_true rfl, Nat.le_of_ble_eq_true rfl⟩) (x_preS2 hX hNc hS hW) rfl rfl hl.1 rfl (lv_room (Nat.le_of_ble_eq_true rfl)) dL_votes_162 ⟨by show _ ≤ 310; omega, by show _ ≤ 2300; omega⟩) hS (fun H locs hW hS => ?_)
          refine lv_lload hx hb dL_votes_165 (lv_at hl 3 rfl) ?_
          refine W.lcmp hx hb dL_votes_167 ?_
          refine lv_if_ne (tgt := 198) hx hb dL_votes_168 (by decide) (fun c9 => False.elim (by exact c9 (lg_cmp_self _))) (fun c168 => ?_)
          refine lv_iload_n hx hb dL_votes_171 rfl (lv_at hl 8 rfl) ?_
          refine lv_bipush (v := 6) hx hb dL_votes_172 (by decide) ?_
          refine lv_ishr hx hb dL_votes_174 ?_
          refine lv_iconst (v := 3) hx hb dL_votes_175 (by decide) ?_
          refine x_callSi (va_runS (As := [.int (x >>> (6 &&& 31)), .int 3]) (rest := []) ⟨hx, hb, hml, hown, hts⟩ (kS l (x >>> (6 &&& 31)) (N := 3) (by omega) (by omega)) (va_cwS 2 hts gL_votes_L_some rfl rfl rfl (by decide +kernel) ⟨Nat.le_of_ble_eq_true rfl, Nat.le_of_ble_eq_true rfl⟩) x_preT rfl rfl hl.1 rfl (lv_room (Nat.le_of_ble_eq_true rfl)) dL_votes_176 ⟨by show _ ≤ 310; omega, by show _ ≤ 2300; omega⟩) (fun vj176 hvj176 => ?_)
          obtain ⟨j176, hj176, ej176, xj176⟩ := hvj176
          rw [ej176]
          refine lv_if_eq (tgt := 194) hx hb dL_votes_179 (by decide) (fun c179 => ?_) (fun c179 => ?_)
          · refine lv_iconst (v := 1) hx hb dL_votes_194 (by decide) ?_
            refine lv_goto (tgt := 199) hx hb dL_votes_195 (by decide) ?_
            exact vx_ret (W.widen (k := 310) (n := 2300) (by omega) (by omega) (W.zret (v := 1) hx hb hr rfl (fun t ht hw9 => ⟨⟨_, E2, rfl, ⟨rfl, ⟨σ, nC, nV, nG, hO3, hI, hg3, hFr3, rfl, rfl⟩⟩, (show xW G E2 t.heap from by rw [ht]; exact hW)⟩, hS.F ht⟩) hS.2.2 dL_votes_199))
          · refine lv_aload_n hx hb dL_votes_182 rfl (lv_at hl 6 rfl) ?_
            refine lv_iload_n hx hb dL_votes_183 rfl (lv_at hl 5 rfl) ?_
            refine lv_iload hx hb dL_votes_184 (lv_at hl 4 rfl) ?_
            refine p_wr (vx_runV (As := [.int (nI j2), .int (nI j22)]) (rest := []) ⟨hx, hb, hml, hown, hts⟩ (dr_vote l hl9 G E2 o nC nV nG σ hO3 (v := j22) (p := j2) (by omega) (by omega)) (cwV 2 hts gL_votes_X4_vote rfl rfl rfl (by decide +kernel) ⟨Nat.le_of_ble_eq_true rfl, Nat.le_of_ble_eq_true rfl⟩) (x_preV hX hS hW hOE3 rfl) rfl rfl hl.1 rfl (lv_room (Nat.le_of_ble_eq_true rfl)) dL_votes_186 ⟨by show _ ≤ 310; omega, by show _ ≤ 2300; omega⟩) hS (fun r186 E4 H locs hq hW hS => ?_)
            obtain ⟨-, w4, hu4, hv4, hr4, hO4, hF4⟩ := hq
            obtain rfl : j22 = w4 := (nI_eq (by omega) (by omega)).mp hu4
            have hg4 : E4 ga = _ := hF4 _ _ hg3 rfl
            have hFr4 := hFr3.trans (pFr_of hF4)
            rw [hr4, hb1]
            rw [← hs1] at hO4
            refine lv_iload hx hb dL_votes_189 (lv_at hl 2 rfl) ?_
            refine lv_icmp_ne (tgt := 198) hx hb dL_votes_191 (by decide) (fun c9 => False.elim (by exact c9 rfl)) (fun c191 => ?_)
            refine lv_iconst (v := 1) hx hb dL_votes_194 (by decide) ?_
            refine lv_goto (tgt := 199) hx hb dL_votes_195 (by decide) ?_
            exact vx_ret (W.widen (k := 310) (n := 2300) (by omega) (by omega) (W.zret (v := 1) hx hb hr rfl (fun t ht hw9 => ⟨⟨_, E4, rfl, ⟨rfl, ⟨σ1, nC, nV, nG, hO4, hI1, hg4, hFr4, rfl, by rw [hs1]; rfl⟩⟩, (show xW G E4 t.heap from by rw [ht]; exact hW)⟩, hS.F ht⟩) hS.2.2 dL_votes_199))
      · refine lv_aload_n hx hb dL_votes_103 rfl (lv_at hl 4 rfl) ?_
        refine lv_iload hx hb dL_votes_104 (lv_at hl 2 rfl) ?_
        refine p_rd (x := σ1 9 j22) (vx_runV (As := [.int (nI j22)]) (rest := [.int (zI (pBan σ1 j22))]) ⟨hx, hb, hml, hown, hts⟩ (dr_endless l hl9 G E1 o nC nV nG σ1 hO1 (v := j22) (by omega)) (cwV 1 hts gL_votes_X4_endless rfl rfl rfl (by decide +kernel) ⟨Nat.le_of_ble_eq_true rfl, Nat.le_of_ble_eq_true rfl⟩) (x_preV hX hS hW hOE1 rfl) rfl rfl hl.1 rfl (lv_room (Nat.le_of_ble_eq_true rfl)) dL_votes_106 ⟨by show _ ≤ 310; omega, by show _ ≤ 2300; omega⟩) hS (fun H locs hW hS => ?_)
        refine lv_iconst (v := 1) hx hb dL_votes_109 (by decide) ?_
        refine lv_icmp_le (tgt := 117) hx hb dL_votes_110 (by decide) (fun c110 => ?_) (fun c110 => ?_)
        · refine lv_iconst (v := 0) hx hb dL_votes_117 (by decide) ?_
          refine lv_icmp_ne (tgt := 125) hx hb dL_votes_118 (by decide) (fun c9 => False.elim (by exact c9 (by rw [Bool.eq_false_iff.mpr (fun q => (hbn.mp q).elim c100 (fun z => Int32.not_le.mpr z c110))]; rfl))) (fun c118 => ?_)
          refine lv_iconst (v := 1) hx hb dL_votes_121 (by decide) ?_
          refine lv_goto (tgt := 126) hx hb dL_votes_122 (by decide) ?_
          refine lv_istore (lv' := [(8, .int 1), (7, .int (nI c1)), (5, .long (pAll (σ) nV nG)), (4, .int (nI j22)), (3, .int (nI j2)), (0, .ref o), (1, .ref ga), (2, .int x)]) hx hb dL_votes_126 hl (by decide) rfl (fun ls hl => ?_)
          refine lv_aload_n hx hb dL_votes_128 rfl (lv_at hl 5 rfl) ?_
          refine lv_iload_n hx hb dL_votes_129 rfl (lv_at hl 4 rfl) ?_
          refine lv_iload hx hb dL_votes_130 (lv_at hl 3 rfl) ?_
          refine p_wr (vx_runV (As := [.int (nI j2), .int (nI j22)]) (rest := []) ⟨hx, hb, hml, hown, hts⟩ (dr_vote l hl9 G E1 o nC nV nG σ1 hO1 (v := j22) (p := j2) (by omega) (by omega)) (cwV 2 hts gL_votes_X4_vote rfl rfl rfl (by decide +kernel) ⟨Nat.le_of_ble_eq_true rfl, Nat.le_of_ble_eq_true rfl⟩) (x_preV hX hS hW hOE1 rfl) rfl rfl hl.1 rfl (lv_room (Nat.le_of_ble_eq_true rfl)) dL_votes_132 ⟨by show _ ≤ 310; omega, by show _ ≤ 2300; omega⟩) hS (fun r132 E5 H locs hq hW hS => ?_)
          obtain ⟨-, w3, hu3, hv3, hr3, hO3, hF3⟩ := hq
          obtain rfl : j22 = w3 := (nI_eq (by omega) (by omega)).mp hu3
          have hg3 : E5 ga = _ := hF3 _ _ hg1 rfl
          have hFr3 := hFr1.trans (pFr_of hF3)
          rw [hww] at hO3
          obtain ⟨fs3, hOE3⟩ := hO3.at
          rw [hr3]
          refine lv_istore (lv' := [(9, .int (fJ6_bitCount_0f7a4 ((σ1 8 j22) ^^^ ((1 : Int32) <<< ((nI j2) &&& 31))))), (8, .int 1), (7, .int (nI c1)), (5, .long (pAll (σ) nV nG)), (4, .int (nI j22)), (3, .int (nI j2)), (0, .ref o), (1, .ref ga), (2, .int x)]) hx hb dL_votes_135 hl (by decide) rfl (fun ls hl => ?_)
          refine lv_iload hx hb dL_votes_137 (lv_at hl 1 rfl) ?_
          refine lv_if_eq (tgt := 198) hx hb dL_votes_139 (by decide) (fun c9 => absurd c9 (by decide)) (fun _ => ?_)
          refine lv_iload hx hb dL_votes_142 (lv_at hl 0 rfl) ?_
          refine lv_iload hx hb dL_votes_144 (lv_at hl 2 rfl) ?_
          refine lv_iconst (v := 1) hx hb dL_votes_146 (by decide) ?_
          refine lv_iadd hx hb dL_votes_147 ?_
          refine lv_icmp_eq (tgt := 160) hx hb dL_votes_148 (by decide) (fun c148 => ?_) (fun c148 => ?_)
          · refine lv_aload_n hx hb dL_votes_160 rfl (lv_at hl 6 rfl) ?_
            refine lv_aload_n hx hb dL_votes_161 rfl (lv_at hl 7 rfl) ?_
            refine p_rdl (x := pAll (σ) nV nG) (vx_runS (As := [.ref o, .ref ga]) (rest := []) ⟨hx, hb, hml, hown, hts⟩ (kL_all l hl9 G E5 o ga nC nV nG (σ) hO3 hI hg3) (va_cwS 2 hts gL_votes_L_all rfl rfl rfl (by decide +kernel) ⟨Nat.le_of_ble_eq_true rfl, Nat.le_of_ble_eq_true rfl⟩) (x_preS2 hX hNc hS hW) rfl rfl hl.1 rfl (lv_room (Nat.le_of_ble_eq_true rfl)) dL_votes_162 ⟨by show _ ≤ 310; omega, by show _ ≤ 2300; omega⟩) hS (fun H locs hW hS => ?_)
            refine lv_lload hx hb dL_votes_165 (lv_at hl 3 rfl) ?_
            refine W.lcmp hx hb dL_votes_167 ?_
            refine lv_if_ne (tgt := 198) hx hb dL_votes_168 (by decide) (fun c9 => False.elim (by exact c9 (lg_cmp_self _))) (fun c168 => ?_)
            refine lv_iload_n hx hb dL_votes_171 rfl (lv_at hl 8 rfl) ?_
            refine lv_bipush (v := 6) hx hb dL_votes_172 (by decide) ?_
            refine lv_ishr hx hb dL_votes_174 ?_
            refine lv_iconst (v := 3) hx hb dL_votes_175 (by decide) ?_
            refine x_callSi (va_runS (As := [.int (x >>> (6 &&& 31)), .int 3]) (rest := []) ⟨hx, hb, hml, hown, hts⟩ (kS l (x >>> (6 &&& 31)) (N := 3) (by omega) (by omega)) (va_cwS 2 hts gL_votes_L_some rfl rfl rfl (by decide +kernel) ⟨Nat.le_of_ble_eq_true rfl, Nat.le_of_ble_eq_true rfl⟩) x_preT rfl rfl hl.1 rfl (lv_room (Nat.le_of_ble_eq_true rfl)) dL_votes_176 ⟨by show _ ≤ 310; omega, by show _ ≤ 2300; omega⟩) (fun vj176 hvj176 => ?_)
            obtain ⟨j176, hj176, ej176, xj176⟩ := hvj176
            rw [ej176]
            refine lv_if_eq (tgt := 194) hx hb dL_votes_179 (by decide) (fun c179 => ?_) (fun c179 => ?_)
            · refine lv_iconst (v := 1) hx hb dL_votes_194 (by decide) ?_
              refine lv_goto (tgt := 199) hx hb dL_votes_195 (by decide) ?_
              exact vx_ret (W.widen (k := 310) (n := 2300) (by omega) (by omega) (W.zret (v := 1) hx hb hr rfl (fun t ht hw9 => ⟨⟨_, E5, rfl, ⟨rfl, ⟨σ, nC, nV, nG, hO3, hI, hg3, hFr3, rfl, rfl⟩⟩, (show xW G E5 t.heap from by rw [ht]; exact hW)⟩, hS.F ht⟩) hS.2.2 dL_votes_199))
            · refine lv_aload_n hx hb dL_votes_182 rfl (lv_at hl 6 rfl) ?_
              refine lv_iload_n hx hb dL_votes_183 rfl (lv_at hl 5 rfl) ?_
              refine lv_iload hx hb dL_votes_184 (lv_at hl 4 rfl) ?_
              refine p_wr (vx_runV (As := [.int (nI j2), .int (nI j22)]) (rest := []) ⟨hx, hb, hml, hown, hts⟩ (dr_vote l hl9 G E5 o nC nV nG σ hO3 (v := j22) (p := j2) (by omega) (by omega)) (cwV 2 hts gL_votes_X4_vote rfl rfl rfl (by decide +kernel) ⟨Nat.le_of_ble_eq_true rfl, Nat.le_of_ble_eq_true rfl⟩) (x_preV hX hS hW hOE3 rfl) rfl rfl hl.1 rfl (lv_room (Nat.le_of_ble_eq_true rfl)) dL_votes_186 ⟨by show _ ≤ 310; omega, by show _ ≤ 2300; omega⟩) hS (fun r186 E6 H locs hq hW hS => ?_)
              obtain ⟨-, w4, hu4, hv4, hr4, hO4, hF4⟩ := hq
              obtain rfl : j22 = w4 := (nI_eq (by omega) (by omega)).mp hu4
              have hg4 : E6 ga = _ := hF4 _ _ hg3 rfl
              have hFr4 := hFr3.trans (pFr_of hF4)
              rw [hr4, hb1]
              rw [← hs1] at hO4
              refine lv_iload hx hb dL_votes_189 (lv_at hl 2 rfl) ?_
              refine lv_icmp_ne (tgt := 198) hx hb dL_votes_191 (by decide) (fun c9 => False.elim (by exact c9 rfl)) (fun c191 => ?_)
              refine lv_iconst (v := 1) hx hb dL_votes_194 (by decide) ?_
              refine lv_goto (tgt := 199) hx hb dL_votes_195 (by decide) ?_
              exact vx_ret (W.widen (k := 310) (n := 2300) (by omega) (by omega) (W.zret (v := 1) hx hb hr rfl (fun t ht hw9 => ⟨⟨_, E6, rfl, ⟨rfl, ⟨σ1, nC, nV, nG, hO4, hI1, hg4, hFr4, rfl, by rw [hs1]; rfl⟩⟩, (show xW G E6 t.heap from by rw [ht]; exact hW)⟩, hS.F ht⟩) hS.2.2 dL_votes_199))
          · refine lv_iload hx hb dL_votes_151 (lv_at hl 0 rfl) ?_
            refine lv_iload hx hb dL_votes_153 (lv_at hl 2 rfl) ?_
            refine lv_iconst (v := 1) hx hb dL_votes_155 (by decide) ?_
            refine lv_isub hx hb dL_votes_156 ?_
            refine lv_icmp_ne (tgt := 198) hx hb dL_votes_157 (by decide) (fun c9 => False.elim (by rcases hb2 with h | h; exact c148 h; exact c9 h)) (fun c157 => ?_)
            refine lv_aload_n hx hb dL_votes_160 rfl (lv_at hl 6 rfl) ?_
            refine lv_aload_n hx hb dL_votes_161 rfl (lv_at hl 7 rfl) ?_
            refine p_rdl (x := pAll (σ) nV nG) (vx_runS (As := [.ref o, .ref ga]) (rest := []) ⟨hx, hb, hml, hown, hts⟩ (kL_all l hl9 G E5 o ga nC nV nG (σ) hO3 hI hg3) (va_cwS 2 hts gL_votes_L_all rfl rfl rfl (by decide +kernel) ⟨Nat.le_of_ble_eq_true rfl, Nat.le_of_ble_eq_true rfl⟩) (x_preS2 hX hNc hS hW) rfl rfl hl.1 rfl (lv_room (Nat.le_of_ble_eq_true rfl)) dL_votes_162 ⟨by show _ ≤ 310; omega, by show _ ≤ 2300; omega⟩) hS (fun H locs hW hS => ?_)
            refine lv_lload hx hb dL_votes_165 (lv_at hl 3 rfl) ?_
            refine W.lcmp hx hb dL_votes_167 ?_
            refine lv_if_ne (tgt := 198) hx hb dL_votes_168 (by decide) (fun c9 => False.elim (by exact c9 (lg_cmp_self _))) (fun c168 => ?_)
            refine lv_iload_n hx hb dL_votes_171 rfl (lv_at hl 8 rfl) ?_
            refine lv_bipush (v := 6) hx hb dL_votes_172 (by decide) ?_
            refine lv_ishr hx hb dL_votes_174 ?_
            refine lv_iconst (v := 3) hx hb dL_votes_175 (by decide) ?_
            refine x_callSi (va_runS (As := [.int (x >>> (6 &&& 31)), .int 3]) (rest := []) ⟨hx, hb, hml, hown, hts⟩ (kS l (x >>> (6 &&& 31)) (N := 3) (by omega) (by omega)) (va_cwS 2 hts gL_votes_L_some rfl rfl rfl (by decide +kernel) ⟨Nat.le_of_ble_eq_true rfl, Nat.le_of_ble_eq_true rfl⟩) x_preT rfl rfl hl.1 rfl (lv_room (Nat.le_of_ble_eq_true rfl)) dL_votes_176 ⟨by show _ ≤ 310; omega, by show _ ≤ 2300; omega⟩) (fun vj176 hvj176 => ?_)
            obtain ⟨j176, hj176, ej176, xj176⟩ := hvj176
            rw [ej176]
            refine lv_if_eq (tgt := 194) hx hb dL_votes_179 (by decide) (fun c179 => ?_) (fun c179 => ?_)
            · refine lv_iconst (v := 1) hx hb dL_votes_194 (by decide) ?_
              refine lv_goto (tgt := 199) hx hb dL_votes_195 (by decide) ?_
              exact vx_ret (W.widen (k := 310) (n := 2300) (by omega) (by omega) (W.zret (v := 1) hx hb hr rfl (fun t ht hw9 => ⟨⟨_, E5, rfl, ⟨rfl, ⟨σ, nC, nV, nG, hO3, hI, hg3, hFr3, rfl, rfl⟩⟩, (show xW G E5 t.heap from by rw [ht]; exact hW)⟩, hS.F ht⟩) hS.2.2 dL_votes_199))
            · refine lv_aload_n hx hb dL_votes_182 rfl (lv_at hl 6 rfl) ?_
              refine lv_iload_n hx hb dL_votes_183 rfl (lv_at hl 5 rfl) ?_
              refine lv_iload hx hb dL_votes_184 (lv_at hl 4 rfl) ?_
              refine p_wr (vx_runV (As := [.int (nI j2), .int (nI j22)]) (rest := []) ⟨hx, hb, hml, hown, hts⟩ (dr_vote l hl9 G E5 o nC nV nG σ hO3 (v := j22) (p := j2) (by omega) (by omega)) (cwV 2 hts gL_votes_X4_vote rfl rfl rfl (by decide +kernel) ⟨Nat.le_of_ble_eq_true rfl, Nat.le_of_ble_eq_true rfl⟩) (x_preV hX hS hW hOE3 rfl) rfl rfl hl.1 rfl (lv_room (Nat.le_of_ble_eq_true rfl)) dL_votes_186 ⟨by show _ ≤ 310; omega, by show _ ≤ 2300; omega⟩) hS (fun r186 E7 H locs hq hW hS => ?_)
              obtain ⟨-, w4, hu4, hv4, hr4, hO4, hF4⟩ := hq
              obtain rfl : j22 = w4 := (nI_eq (by omega) (by omega)).mp hu4
              have hg4 : E7 ga = _ := hF4 _ _ hg3 rfl
              have hFr4 := hFr3.trans (pFr_of hF4)
              rw [hr4, hb1]
              rw [← hs1] at hO4
              refine lv_iload hx hb dL_votes_189 (lv_at hl 2 rfl) ?_
              refine lv_icmp_ne (tgt := 198) hx hb dL_votes_191 (by decide) (fun c9 => False.elim (by exact c9 rfl)) (fun c191 => ?_)
              refine lv_iconst (v := 1) hx hb dL_votes_194 (by decide) ?_
              refine lv_goto (tgt := 199) hx hb dL_votes_195 (by decide) ?_
              exact vx_ret (W.widen (k := 310) (n := 2300) (by omega) (by omega) (W.zret (v := 1) hx hb hr rfl (fun t ht hw9 => ⟨⟨_, E7, rfl, ⟨rfl, ⟨σ1, nC, nV, nG, hO4, hI1, hg4, hFr4, rfl, by rw [hs1]; rfl⟩⟩, (show xW G E7 t.heap from by rw [ht]; exact hW)⟩, hS.F ht⟩) hS.2.2 dL_votes_199))
        · refine lv_iconst (v := 1) hx hb dL_votes_113 (by decide) ?_
          refine lv_goto (tgt := 118) hx hb dL_votes_114 (by decide) ?_
          refine lv_icmp_ne (tgt := 125) hx hb dL_votes_118 (by decide) (fun c9 => False.elim (by exact c9 (by rw [hbn.mpr (Or.inr (Int32.not_le.mp c110))]; rfl))) (fun c118 => ?_)
          refine lv_iconst (v := 1) hx hb dL_votes_121 (by decide) ?_
          refine lv_goto (tgt := 126) hx hb dL_votes_122 (by decide) ?_
          refine lv_istore (lv' := [(8, .int 1), (7, .int (nI c1)), (5, .long (pAll (σ) nV nG)), (4, .int (nI j22)), (3, .int (nI j2)), (0, .ref o), (1, .ref ga), (2, .int x)]) hx hb dL_votes_126 hl (by decide) rfl (fun ls hl => ?_)
          refine lv_aload_n hx hb dL_votes_128 rfl (lv_at hl 5 rfl) ?_
          refine lv_iload_n hx hb dL_votes_129 rfl (lv_at hl 4 rfl) ?_
          refine lv_iload hx hb dL_votes_130 (lv_at hl 3 rfl) ?_
          refine p_wr (vx_runV (As := [.int (nI j2), .int (nI j22)]) (rest := []) ⟨hx, hb, hml, hown, hts⟩ (dr_vote l hl9 G E1 o nC nV nG σ1 hO1 (v := j22) (p := j2) (by omega) (by omega)) (cwV 2 hts gL_votes_X4_vote rfl rfl rfl (by decide +kernel) ⟨Nat.le_of_ble_eq_true rfl, Nat.le_of_ble_eq_true rfl⟩) (x_preV hX hS hW hOE1 rfl) rfl rfl hl.1 rfl (lv_room (Nat.le_of_ble_eq_true rfl)) dL_votes_132 ⟨by show _ ≤ 310; omega, by show _ ≤ 2300; omega⟩) hS (fun r132 E8 H locs hq hW hS => ?_)
          obtain ⟨-, w3, hu3, hv3, hr3, hO3, hF3⟩ := hq
          obtain rfl : j22 = w3 := (nI_eq (by omega) (by omega)).mp hu3
          have hg3 : E8 ga = _ := hF3 _ _ hg1 rfl
          have hFr3 := hFr1.trans (pFr_of hF3)
          rw [hww] at hO3
          obtain ⟨fs3, hOE3⟩ := hO3.at
          rw [hr3]
          refine lv_istore (lv' := [(9, .int (fJ6_bitCount_0f7a4 ((σ1 8 j22) ^^^ ((1 : Int32) <<< ((nI j2) &&& 31))))), (8, .int 1), (7, .int (nI c1)), (5, .long (pAll (σ) nV nG)), (4, .int (nI j22)), (3, .int (nI j2)), (0, .ref o), (1, .ref ga), (2, .int x)]) hx hb dL_votes_135 hl (by decide) rfl (fun ls hl => ?_)
          refine lv_iload hx hb dL_votes_137 (lv_at hl 1 rfl) ?_
          refine lv_if_eq (tgt := 198) hx hb dL_votes_139 (by decide) (fun c9 => absurd c9 (by decide)) (fun _ => ?_)
          refine lv_iload hx hb dL_votes_142 (lv_at hl 0 rfl) ?_
          refine lv_iload hx hb dL_votes_144 (lv_at hl 2 rfl) ?_
          refine lv_iconst (v := 1) hx hb dL_votes_146 (by decide) ?_
          refine lv_iadd hx hb dL_votes_147 ?_
          refine lv_icmp_eq (tgt := 160) hx hb dL_votes_148 (by decide) (fun c148 => ?_) (fun c148 => ?_)
          · refine lv_aload_n hx hb dL_votes_160 rfl (lv_at hl 6 rfl) ?_
            refine lv_aload_n hx hb dL_votes_161 rfl (lv_at hl 7 rfl) ?_
            refine p_rdl (x := pAll (σ) nV nG) (vx_runS (As := [.ref o, .ref ga]) (rest := []) ⟨hx, hb, hml, hown, hts⟩ (kL_all l hl9 G E8 o ga nC nV nG (σ) hO3 hI hg3) (va_cwS 2 hts gL_votes_L_all rfl rfl rfl (by decide +kernel) ⟨Nat.le_of_ble_eq_true rfl, Nat.le_of_ble_eq_true rfl⟩) (x_preS2 hX hNc hS hW) rfl rfl hl.1 rfl (lv_room (Nat.le_of_ble_eq_true rfl)) dL_votes_162 ⟨by show _ ≤ 310; omega, by show _ ≤ 2300; omega⟩) hS (fun H locs hW hS => ?_)
            refine lv_lload hx hb dL_votes_165 (lv_at hl 3 rfl) ?_
            refine W.lcmp hx hb dL_votes_167 ?_
            refine lv_if_ne (tgt := 198) hx hb dL_votes_168 (by decide) (fun c9 => False.elim (by exact c9 (lg_cmp_self _))) (fun c168 => ?_)
            refine lv_iload_n hx hb dL_votes_171 rfl (lv_at hl 8 rfl) ?_
            refine lv_bipush (v := 6) hx hb dL_votes_172 (by decide) ?_
            refine lv_ishr hx hb dL_votes_174 ?_
            refine lv_iconst (v := 3) hx hb dL_votes_175 (by decide) ?_
            refine x_callSi (va_runS (As := [.int (x >>> (6 &&& 31)), .int 3]) (rest := []) ⟨hx, hb, hml, hown, hts⟩ (kS l (x >>> (6 &&& 31)) (N := 3) (by omega) (by omega)) (va_cwS 2 hts gL_votes_L_some rfl rfl rfl (by decide +kernel) ⟨Nat.le_of_ble_eq_true rfl, Nat.le_of_ble_eq_true rfl⟩) x_preT rfl rfl hl.1 rfl (lv_room (Nat.le_of_ble_eq_true rfl)) dL_votes_176 ⟨by show _ ≤ 310; omega, by show _ ≤ 2300; omega⟩) (fun vj176 hvj176 => ?_)
            obtain ⟨j176, hj176, ej176, xj176⟩ := hvj176
            rw [ej176]
            refine lv_if_eq (tgt := 194) hx hb dL_votes_179 (by decide) (fun c179 => ?_) (fun c179 => ?_)
            · refine lv_iconst (v := 1) hx hb dL_votes_194 (by decide) ?_
              refine lv_goto (tgt := 199) hx hb dL_votes_195 (by decide) ?_
              exact vx_ret (W.widen (k := 310) (n := 2300) (by omega) (by omega) (W.zret (v := 1) hx hb hr rfl (fun t ht hw9 => ⟨⟨_, E8, rfl, ⟨rfl, ⟨σ, nC, nV, nG, hO3, hI, hg3, hFr3, rfl, rfl⟩⟩, (show xW G E8 t.heap from by rw [ht]; exact hW)⟩, hS.F ht⟩) hS.2.2 dL_votes_199))
            · refine lv_aload_n hx hb dL_votes_182 rfl (lv_at hl 6 rfl) ?_
              refine lv_iload_n hx hb dL_votes_183 rfl (lv_at hl 5 rfl) ?_
              refine lv_iload hx hb dL_votes_184 (lv_at hl 4 rfl) ?_
              refine p_wr (vx_runV (As := [.int (nI j2), .int (nI j22)]) (rest := []) ⟨hx, hb, hml, hown, hts⟩ (dr_vote l hl9 G E8 o nC nV nG σ hO3 (v := j22) (p := j2) (by omega) (by omega)) (cwV 2 hts gL_votes_X4_vote rfl rfl rfl (by decide +kernel) ⟨Nat.le_of_ble_eq_true rfl, Nat.le_of_ble_eq_true rfl⟩) (x_preV hX hS hW hOE3 rfl) rfl rfl hl.1 rfl (lv_room (Nat.le_of_ble_eq_true rfl)) dL_votes_186 ⟨by show _ ≤ 310; omega, by show _ ≤ 2300; omega⟩) hS (fun r186 E9 H locs hq hW hS => ?_)
              obtain ⟨-, w4, hu4, hv4, hr4, hO4, hF4⟩ := hq
              obtain rfl : j22 = w4 := (nI_eq (by omega) (by omega)).mp hu4
              have hg4 : E9 ga = _ := hF4 _ _ hg3 rfl
              have hFr4 := hFr3.trans (pFr_of hF4)
              rw [hr4, hb1]
              rw [← hs1] at hO4
              refine lv_iload hx hb dL_votes_189 (lv_at hl 2 rfl) ?_
              refine lv_icmp_ne (tgt := 198) hx hb dL_votes_191 (by decide) (fun c9 => False.elim (by exact c9 rfl)) (fun c191 => ?_)
              refine lv_iconst (v := 1) hx hb dL_votes_194 (by decide) ?_
              refine lv_goto (tgt := 199) hx hb dL_votes_195 (by decide) ?_
              exact vx_ret (W.widen (k := 310) (n := 2300) (by omega) (by omega) (W.zret (v := 1) hx hb hr rfl (fun t ht hw9 => ⟨⟨_, E9, rfl, ⟨rfl, ⟨σ1, nC, nV, nG, hO4, hI1, hg4, hFr4, rfl, by rw [hs1]; rfl⟩⟩, (show xW G E9 t.heap from by rw [ht]; exact hW)⟩, hS.F ht⟩) hS.2.2 dL_votes_199))
          · refine lv_iload hx hb dL_votes_151 (lv_at hl 0 rfl) ?_
            refine lv_iload hx hb dL_votes_153 (lv_at hl 2 rfl) ?_
            refine lv_iconst (v := 1) hx hb dL_votes_155 (by decide) ?_
            refine lv_isub hx hb dL_votes_156 ?_
            refine lv_icmp_ne (tgt := 198) hx hb dL_votes_157 (by decide) (fun c9 => False.elim (by rcases hb2 with h | h; exact c148 h; exact c9 h)) (fun c157 => ?_)
            refine lv_aload_n hx hb dL_votes_160 rfl (lv_at hl 6 rfl) ?_
            refine lv_aload_n hx hb dL_votes_161 rfl (lv_at hl 7 rfl) ?_
            refine p_rdl (x := pAll (σ) nV nG) (vx_runS (As := [.ref o, .ref ga]) (rest := []) ⟨hx, hb, hml, hown, hts⟩ (kL_all l hl9 G E8 o ga nC nV nG (σ) hO3 hI hg3) (va_cwS 2 hts gL_votes_L_all rfl rfl rfl (by decide +kernel) ⟨Nat.le_of_ble_eq_true rfl, Nat.le_of_ble_eq_true rfl⟩) (x_preS2 hX hNc hS hW) rfl rfl hl.1 rfl (lv_room (Nat.le_of_ble_eq_true rfl)) dL_votes_162 ⟨by show _ ≤ 310; omega, by show _ ≤ 2300; omega⟩) hS (fun H locs hW hS => ?_)
            refine lv_lload hx hb dL_votes_165 (lv_at hl 3 rfl) ?_
            refine W.lcmp hx hb dL_votes_167 ?_
            refine lv_if_ne (tgt := 198) hx hb dL_votes_168 (by decide) (fun c9 => False.elim (by exact c9 (lg_cmp_self _))) (fun c168 => ?_)
            refine lv_iload_n hx hb dL_votes_171 rfl (lv_at hl 8 rfl) ?_
            refine lv_bipush (v := 6) hx hb dL_votes_172 (by decide) ?_
            refine lv_ishr hx hb dL_votes_174 ?_
            refine lv_iconst (v := 3) hx hb dL_votes_175 (by decide) ?_
            refine x_callSi (va_runS (As := [.int (x >>> (6 &&& 31)), .int 3]) (rest := []) ⟨hx, hb, hml, hown, hts⟩ (kS l (x >>> (6 &&& 31)) (N := 3) (by omega) (by omega)) (va_cwS 2 hts gL_votes_L_some rfl rfl rfl (by decide +kernel) ⟨Nat.le_of_ble_eq_true rfl, Nat.le_of_ble_eq_true rfl⟩) x_preT rfl rfl hl.1 rfl (lv_room (Nat.le_of_ble_eq_true rfl)) dL_votes_176 ⟨by show _ ≤ 310; omega, by show _ ≤ 2300; omega⟩) (fun vj176 hvj176 => ?_)
            obtain ⟨j176, hj176, ej176, xj176⟩ := hvj176
            rw [ej176]
            refine lv_if_eq (tgt := 194) hx hb dL_votes_179 (by decide) (fun c179 => ?_) (fun c179 => ?_)
            · refine lv_iconst (v := 1) hx hb dL_votes_194 (by decide) ?_
              refine lv_goto (tgt := 199) hx hb dL_votes_195 (by decide) ?_
              exact vx_ret (W.widen (k := 310) (n := 2300) (by omega) (by omega) (W.zret (v := 1) hx hb hr rfl (fun t ht hw9 => ⟨⟨_, E8, rfl, ⟨rfl, ⟨σ, nC, nV, nG, hO3, hI, hg3, hFr3, rfl, rfl⟩⟩, (show xW G E8 t.heap from by rw [ht]; exact hW)⟩, hS.F ht⟩) hS.2.2 dL_votes_199))
            · refine lv_aload_n hx hb dL_votes_182 rfl (lv_at hl 6 rfl) ?_
              refine lv_iload_n hx hb dL_votes_183 rfl (lv_at hl 5 rfl) ?_
              refine lv_iload hx hb dL_votes_184 (lv_at hl 4 rfl) ?_
              refine p_wr (vx_runV (As := [.int (nI j2), .int (nI j22)]) (rest := []) ⟨hx, hb, hml, hown, hts⟩ (dr_vote l hl9 G E8 o nC nV nG σ hO3 (v := j22) (p := j2) (by omega) (by omega)) (cwV 2 hts gL_votes_X4_vote rfl rfl rfl (by decide +kernel) ⟨Nat.le_of_ble_eq_true rfl, Nat.le_of_ble_eq_true rfl⟩) (x_preV hX hS hW hOE3 rfl) rfl rfl hl.1 rfl (lv_room (Nat.le_of_ble_eq_true rfl)) dL_votes_186 ⟨by show _ ≤ 310; omega, by show _ ≤ 2300; omega⟩) hS (fun r186 E10 H locs hq hW hS => ?_)
              obtain ⟨-, w4, hu4, hv4, hr4, hO4, hF4⟩ := hq
              obtain rfl : j22 = w4 := (nI_eq (by omega) (by omega)).mp hu4
              have hg4 : E10 ga = _ := hF4 _ _ hg3 rfl
              have hFr4 := hFr3.trans (pFr_of hF4)
              rw [hr4, hb1]
              rw [← hs1] at hO4
              refine lv_iload hx hb dL_votes_189 (lv_at hl 2 rfl) ?_
              refine lv_icmp_ne (tgt := 198) hx hb dL_votes_191 (by decide) (fun c9 => False.elim (by exact c9 rfl)) (fun c191 => ?_)
              refine lv_iconst (v := 1) hx hb dL_votes_194 (by decide) ?_
              refine lv_goto (tgt := 199) hx hb dL_votes_195 (by decide) ?_
              exact vx_ret (W.widen (k := 310) (n := 2300) (by omega) (by omega) (W.zret (v := 1) hx hb hr rfl (fun t ht hw9 => ⟨⟨_, E10, rfl, ⟨rfl, ⟨σ1, nC, nV, nG, hO4, hI1, hg4, hFr4, rfl, by rw [hs1]; rfl⟩⟩, (show xW G E10 t.heap from by rw [ht]; exact hW)⟩, hS.F ht⟩) hS.2.2 dL_votes_199))
    · rw [hE9] at hW
      obtain ⟨hT3, hnV⟩ := n_voteT hV4 hj2 hj22 hT
      rw [hr9, hT3]
      refine lv_istore (lv' := [(7, .int (rEx 3)), (5, .long (pAll (σ) nV nG)), (4, .int (nI j22)), (3, .int (nI j2)), (0, .ref o), (1, .ref ga), (2, .int x)]) hx hb dL_votes_46 hl (by decide) rfl (fun ls hl => ?_)
      refine lv_iload hx hb dL_votes_48 (lv_at hl 0 rfl) ?_
      refine lv_sipush (v := (-1021)) hx hb dL_votes_50 (by decide) ?_
      refine lv_icmp_ne (tgt := 79) hx hb dL_votes_53 (by decide) (fun c9 => False.elim (by exact c9 rfl)) (fun c53 => ?_)
      refine lv_aload_n hx hb dL_votes_56 rfl (lv_at hl 5 rfl) ?_
      refine lv_iconst (v := 1) hx hb dL_votes_57 (by decide) ?_
      refine p_ild (k := 1) (v := nI nV) hx hb hX.1 hW hg (show vp_in (nI 1) 3 from vp_in_nI (by omega) (by omega)) rfl rfl dL_votes_58 ?_
      refine lv_if_ne (tgt := 77) hx hb dL_votes_59 (by decide) (fun c9 => False.elim (by exact c9 (by rw [hnV]; rfl))) (fun c59 => ?_)
      refine lv_aload_n hx hb dL_votes_62 rfl (lv_at hl 4 rfl) ?_
      refine lv_aload_n hx hb dL_votes_63 rfl (lv_at hl 5 rfl) ?_
      refine p_rdl (x := pAll (σ) nV nG) (vx_runS (As := [.ref o, .ref ga]) (rest := []) ⟨hx, hb, hml, hown, hts⟩ (kL_all l hl9 G E o ga nC nV nG (σ) hO hI hg) (va_cwS 2 hts gL_votes_L_all rfl rfl rfl (by decide +kernel) ⟨Nat.le_of_ble_eq_true rfl, Nat.le_of_ble_eq_true rfl⟩) (x_preS2 hX hNc hS hW) rfl rfl hl.1 rfl (lv_room (Nat.le_of_ble_eq_true rfl)) dL_votes_64 ⟨by show _ ≤ 310; omega, by show _ ≤ 2300; omega⟩) hS (fun H locs hW hS => ?_)
      refine lv_lload hx hb dL_votes_67 (lv_at hl 1 rfl) ?_
      refine W.lcmp hx hb dL_votes_69 ?_
      refine lv_if_ne (tgt := 77) hx hb dL_votes_70 (by decide) (fun c9 => False.elim (by exact c9 (lg_cmp_self _))) (fun c70 => ?_)
      refine lv_iconst (v := 1) hx hb dL_votes_73 (by decide) ?_
      refine lv_goto (tgt := 78) hx hb dL_votes_74 (by decide) ?_
      exact vx_ret (W.widen (k := 310) (n := 2300) (by omega) (by omega) (W.zret (v := 1) hx hb hr rfl (fun t ht hw9 => ⟨⟨_, E, rfl, ⟨rfl, ⟨σ, nC, nV, nG, hO, hI, hg, pFr_rf, rfl, rfl⟩⟩, (show xW G E t.heap from by rw [ht]; exact hW)⟩, hS.F ht⟩) hS.2.2 dL_votes_78))
  · refine lv_if_ne (tgt := 19) hx hb dL_votes_12 (by decide) (fun cz => ?_) (fun cz => ?_)
    · refine lv_aload_n hx hb dL_votes_19 rfl (lv_at hl 2 rfl) ?_
      refine lv_iconst (v := 1) hx hb dL_votes_20 (by decide) ?_
      refine p_ild (k := 1) (v := nI nV) hx hb hX.1 hW hg (show vp_in (nI 1) 3 from vp_in_nI (by omega) (by omega)) rfl rfl dL_votes_21 ?_
      exact J _ (by rw [pN1, if_neg (fun z => cz (by rw [z]; rfl))])
    · refine lv_iconst (v := 1) hx hb dL_votes_15 (by decide) ?_
      refine lv_goto (tgt := 22) hx hb dL_votes_16 (by decide) ?_
      exact J _ (by rw [pN1, if_pos ((nI_eq (by omega) (by omega)).mp (cz.trans nI_0.symm))]; rfl)

