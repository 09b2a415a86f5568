set_option maxHeartbeats 4000000 in
set_option maxRecDepth 100000 in
/-- games -/
theorem kL_begins (l : Launch) (hl9 : l.stackTraces = false) (G : xG) (E : xE) (o ga nC nV nG : Nat) (σ : xSg) (hO : pOb G E o σ nC nV nG) (hI : pI σ nC nV nG) (hg : E ga = some (.inl (G.2.1 0, 3, .inl (gF nC nV nG)))) (x z : Int32) : vx_Met l yL_begins wsL_begins ({ frames := 13, cells := 2200, slots := 13500, locals := 350 }) (va_Pc [.ref o, .ref ga, .int x, .int z] (xB2 G E)) (va_Qi (S := xE) (pPo G o ga E (fun σ' nV' nG' => (nG' = nG ∧ σ' 11 = σ 11) ∨ (nG' = nG + 1 ∧ 0 < nV ∧ nV' = nV ∧ (∀ j, j < nG → σ' 11 j = σ 11 j) ∧ σ' 11 nG = fL_some x (nI nV)))) (fun E' t => xW G E' t.heap) (xA G)) (xX G E (fun _ => False)) 2200 13500 (xA G) := by
  refine vx_ofW (cc := cL_begins) (maxL := 13) (ret := (some .boolean)) (by decide) rfl ?_
  intro p e s m args below meth c s₁ B hml hno hv
  obtain ⟨rfl, ⟨hX, hW⟩, hNc⟩ := hv
  have hx := B.exec
  have hb := B.bytes
  have hr := B.returns
  have hts := atoms_spec (ws := wsL_begins) B.pre
  have hown : s.vm.findClass RL = some m.cls := findClass_of_methodNamed B.named
  have hlocks := B.notSynchronized
  have hS : va_S (xA G) s.heap s.heap [] := va_S.rf
  have hl := lv_entry ([.ref o, .ref ga, .int x, .int z]) (n := 13) (Nat.le_of_ble_eq_true rfl)
  rw [lg_entry_eq]
  generalize (lg_sl ([.ref o, .ref ga, .int x, .int z]) ++ List.replicate (13 - (lg_sl ([.ref o, .ref ga, .int x, .int z])).length) Slot.unset).toArray = ls at hl ⊢
  have hl : lv_has ls 13 [(0, .ref o), (1, .ref ga), (2, .int x), (3, .int z)] := hl
  obtain ⟨H, hH⟩ : ∃ z, z = s.heap := ⟨_, rfl⟩
  rw [← hH] at hW
  have hS : va_S (xA G) s.heap H [] := by rw [hH]; exact hS
  rw [← hH]
  obtain ⟨fs, hOE⟩ := hO.at
  obtain ⟨h00, h05, h010, hC8, hV4, hG12⟩ := hO.nums
  have hp8 : 2 ^ nC ≤ 2 ^ 8 := Nat.pow_le_pow_right (by omega) hC8
  have hN1 := pN1_le nV
  refine lv_aload_n hx hb dL_begins_0 rfl (lv_at hl 0 rfl) ?_
  refine lv_aload_n hx hb dL_begins_1 rfl (lv_at hl 1 rfl) ?_
  refine p_rdl (x := pAll (σ) nV nG) (vx_runS (As := [.ref o, .ref ga]) (rest := []) ⟨hx, hb, hml, hown, hts⟩ (kL_all l hl9 G E o ga nC nV nG (σ) hO hI hg) (va_cwS 2 hts gL_begins_L_all rfl rfl rfl (by decide +kernel) ⟨Nat.le_of_ble_eq_true rfl, Nat.le_of_ble_eq_true rfl⟩) (x_preS2 hX hNc hS hW) rfl rfl hl.1 rfl (lv_room (Nat.le_of_ble_eq_true rfl)) dL_begins_2 ⟨by show _ ≤ 2200; omega, by show _ ≤ 13500; omega⟩) hS (fun H locs hW hS => ?_)
  refine lv_lstore (lv' := [(4, .long (pAll (σ) nV nG)), (0, .ref o), (1, .ref ga), (2, .int x), (3, .int z)]) hx hb dL_begins_5 hl (by decide) rfl (fun ls hl => ?_)
  refine lv_iload_n hx hb dL_begins_7 rfl (lv_at hl 3 rfl) ?_
  refine lv_aload_n hx hb dL_begins_8 rfl (lv_at hl 2 rfl) ?_
  refine lv_iconst (v := 1) hx hb dL_begins_9 (by decide) ?_
  refine p_ild (k := 1) (v := nI nV) hx hb hX.1 hW hg (show vp_in (nI 1) 3 from vp_in_nI (by omega) (by omega)) rfl rfl dL_begins_10 ?_
  refine x_join (ls' := ls) (rest' := [.int x]) 21 (nI (pN1 nV)) (fun v ev => ?_) (fun J => ?_)
  · subst ev
    refine x_callSi (va_runS (As := [.int x, .int (nI (pN1 nV))]) (rest := []) ⟨hx, hb, hml, hown, hts⟩ (kS l x (N := (pN1 nV)) (pN1_pos _) (by omega)) (va_cwS 2 hts gL_begins_L_some rfl rfl rfl (by decide +kernel) ⟨Nat.le_of_ble_eq_true rfl, Nat.le_of_ble_eq_true rfl⟩) x_preT rfl rfl hl.1 rfl (lv_room (Nat.le_of_ble_eq_true rfl)) dL_begins_21 ⟨by show _ ≤ 2200; omega, by show _ ≤ 13500; omega⟩) (fun vj21 hvj21 => ?_)
    obtain ⟨j21, hj21, ej21, xj21⟩ := hvj21
    rw [ej21]
    refine lv_istore (lv' := [(6, .int (nI j21)), (4, .long (pAll (σ) nV nG)), (0, .ref o), (1, .ref ga), (2, .int x), (3, .int z)]) hx hb dL_begins_24 hl (by decide) rfl (fun ls hl => ?_)
    refine lv_iload_n hx hb dL_begins_26 rfl (lv_at hl 4 rfl) ?_
    refine lv_iconst (v := 3) hx hb dL_begins_27 (by decide) ?_
    refine lv_ishr hx hb dL_begins_28 ?_
    refine lv_iconst (v := 5) hx hb dL_begins_29 (by decide) ?_
    refine x_callSi (va_runS (As := [.int (x >>> (3 &&& 31)), .int 5]) (rest := []) ⟨hx, hb, hml, hown, hts⟩ (kS l (x >>> (3 &&& 31)) (N := 5) (by omega) (by omega)) (va_cwS 2 hts gL_begins_L_some rfl rfl rfl (by decide +kernel) ⟨Nat.le_of_ble_eq_true rfl, Nat.le_of_ble_eq_true rfl⟩) x_preT rfl rfl hl.1 rfl (lv_room (Nat.le_of_ble_eq_true rfl)) dL_begins_30 ⟨by show _ ≤ 2200; omega, by show _ ≤ 13500; omega⟩) (fun vj30 hvj30 => ?_)
    obtain ⟨j30, hj30, ej30, xj30⟩ := hvj30
    rw [ej30]
    refine lv_istore (lv' := [(7, .int (nI j30)), (6, .int (nI j21)), (4, .long (pAll (σ) nV nG)), (0, .ref o), (1, .ref ga), (2, .int x), (3, .int z)]) hx hb dL_begins_33 hl (by decide) rfl (fun ls hl => ?_)
    refine lv_iconst (v := 0) hx hb dL_begins_35 (by decide) ?_
    refine lv_istore (lv' := [(8, .int 0), (7, .int (nI j30)), (6, .int (nI j21)), (4, .long (pAll (σ) nV nG)), (0, .ref o), (1, .ref ga), (2, .int x), (3, .int z)]) hx hb dL_begins_36 hl (by decide) rfl (fun ls hl => ?_)
    refine lv_iconst (v := 0) hx hb dL_begins_38 (by decide) ?_
    refine lv_istore (lv' := [(9, .int 0), (8, .int 0), (7, .int (nI j30)), (6, .int (nI j21)), (4, .long (pAll (σ) nV nG)), (0, .ref o), (1, .ref ga), (2, .int x), (3, .int z)]) hx hb dL_begins_39 hl (by decide) rfl (fun ls hl => ?_)
    refine lv_iconst (v := 0) hx hb dL_begins_41 (by decide) ?_
    refine lv_istore (lv' := [(10, .int 0), (9, .int 0), (8, .int 0), (7, .int (nI j30)), (6, .int (nI j21)), (4, .long (pAll (σ) nV nG)), (0, .ref o), (1, .ref ga), (2, .int x), (3, .int z)]) hx hb dL_begins_42 hl (by decide) rfl (fun ls hl => ?_)
    refine p_loop 44 13 (fun i => [(7, .int (nI j30)), (6, .int (nI j21)), (4, .long (pAll (σ) nV nG)), (0, .ref o), (1, .ref ga), (2, .int x), (3, .int z), (10, .int (nI i)), (8, .int (pO1 z i)), (9, .int (pO2 z i))]) (fun i => True) 5 0 0 (96) (576) ?_ 0 ls _ _ _ _ (by omega) trivial (by omega) (by omega) hW hS (lv_sub hl [3, 4, 5, 6, 7, 8, 9, 0, 2, 1] rfl)
    intro i ls H locs cellsa slotsa hka hIa hca hsa hW hS hl iha
    have hl : lv_has ls 13 [(7, .int (nI j30)), (6, .int (nI j21)), (4, .long (pAll (σ) nV nG)), (0, .ref o), (1, .ref ga), (2, .int x), (3, .int z), (10, .int (nI i)), (8, .int (pO1 z i)), (9, .int (pO2 z i))] := hl
    refine lv_iload hx hb dL_begins_44 (lv_at hl 7 rfl) ?_
    refine lv_iconst (v := 5) hx hb dL_begins_46 (by decide) ?_
    refine lv_icmp_ge (tgt := 94) hx hb dL_begins_47 (by decide) (fun c47 => ?_) (fun c47 => ?_)
    · have hin : 5 = i := Nat.le_antisymm ((nI_leI (a := 5) (by omega) (by omega)).mp c47) hka
      subst hin
      refine lv_iload hx hb dL_begins_94 (lv_at hl 9 rfl) ?_
      refine lv_iload hx hb dL_begins_96 (lv_at hl 8 rfl) ?_
      refine lv_iconst (v := (-1)) hx hb dL_begins_98 (by decide) ?_
      refine lv_ixor hx hb dL_begins_99 ?_
      refine lv_iand hx hb dL_begins_100 ?_
      refine lv_istore (lv' := [(9, .int ((pO2 z 5) &&& ((pO1 z 5) ^^^ (-1)))), (7, .int (nI j30)), (6, .int (nI j21)), (4, .long (pAll (σ) nV nG)), (0, .ref o), (1, .ref ga), (2, .int x), (3, .int z), (10, .int (nI 5)), (8, .int (pO1 z 5))]) hx hb dL_begins_101 hl (by decide) rfl (fun ls hl => ?_)
      refine lv_aload_n hx hb dL_begins_103 rfl (lv_at hl 4 rfl) ?_
      refine lv_iconst (v := 3) hx hb dL_begins_104 (by decide) ?_
      refine lv_iload hx hb dL_begins_105 (lv_at hl 2 rfl) ?_
      refine lv_iload hx hb dL_begins_107 (lv_at hl 1 rfl) ?_
      refine lv_iload hx hb dL_begins_109 (lv_at hl 1 rfl) ?_
      refine lv_iconst (v := 1) hx hb dL_begins_111 (by decide) ?_
      refine lv_iadd hx hb dL_begins_112 ?_
      refine lv_iload_n hx hb dL_begins_113 rfl (lv_at hl 6 rfl) ?_
      refine lv_bipush (v := 6) hx hb dL_begins_114 (by decide) ?_
      refine lv_ishr hx hb dL_begins_116 ?_
      refine lv_iconst (v := 4) hx hb dL_begins_117 (by decide) ?_
      refine x_callSi (va_runS (As := [.int (x >>> (6 &&& 31)), .int 4]) (rest := [.int ((nI j30) + 1), .int (nI j30), .int (nI j21), .int 3, .ref o]) ⟨hx, hb, hml, hown, hts⟩ (kS l (x >>> (6 &&& 31)) (N := 4) (by omega) (by omega)) (va_cwS 2 hts gL_begins_L_some rfl rfl rfl (by decide +kernel) ⟨Nat.le_of_ble_eq_true rfl, Nat.le_of_ble_eq_true rfl⟩) x_preT rfl rfl hl.1 rfl (lv_room (Nat.le_of_ble_eq_true rfl)) dL_begins_118 ⟨by show _ ≤ 2200; omega, by show _ ≤ 13500; omega⟩) (fun vj118 hvj118 => ?_)
      obtain ⟨j118, hj118, ej118, xj118⟩ := hvj118
      rw [ej118]
      refine lv_iadd hx hb dL_begins_121 ?_
      refine lv_iconst (v := 5) hx hb dL_begins_122 (by decide) ?_
      refine lv_irem hx hb dL_begins_123 (by decide) ?_
      rw [show ((((nI j30) + 1) + (nI j118)) - (((nI j30) + 1) + (nI j118)) / 5 * 5 : Int32) = nI ((j30 + 1 + j118) % 5) from n_rem5 hj30 hj118]
      refine lv_iload hx hb dL_begins_124 (lv_at hl 9 rfl) ?_
      refine lv_iload hx hb dL_begins_126 (lv_at hl 0 rfl) ?_
      refine p_wr (vx_runSX (As := [.ref o, .int 3, .int (nI j21), .int (nI j30), .int (nI ((j30 + 1 + j118) % 5)), .int (pO1 z 5), .int ((pO2 z 5) &&& ((pO1 z 5) ^^^ (-1)))]) (rest := []) ⟨hx, hb, hml, hown, hts⟩ (kC_begin l hl9 G E o (nI j21) (nI j30) (nI ((j30 + 1 + j118) % 5)) (pO1 z 5) ((pO2 z 5) &&& ((pO1 z 5) ^^^ (-1))) nC nV nG σ hO) (vx_cwSW 7 hts gL_begins_L_call rfl rfl rfl (by decide +kernel) ⟨Nat.le_of_ble_eq_true rfl, Nat.le_of_ble_eq_true rfl⟩) (x_preS2 hX hNc hS hW) rfl rfl hl.1 rfl (lv_room (Nat.le_of_ble_eq_true rfl)) dL_begins_128 ⟨by show _ ≤ 2200; omega, by show _ ≤ 13500; omega⟩) hS (fun r128 E1 H locs hq hW hS => ?_)
      rcases hq with ⟨hT0, w1, hu1, hv1, hr9, h12, hO1, hF1⟩ | ⟨hT, hr9, hE9⟩
      · obtain rfl : j21 = w1 := (nI_eq (by have := pN1_le nV; omega) (by omega)).mp hu1
        obtain ⟨σ1, hs1⟩ : ∃ q, q = sgBegin σ nG j21 (nI j30) (nI ((j30 + 1 + j118) % 5)) (pO1 z 5) ((pO2 z 5) &&& ((pO1 z 5) ^^^ (-1))) := ⟨_, rfl⟩
        rw [← hs1] at hO1
        rw [hr9]
        have hg1 : E1 ga = _ := hF1 _ _ hg rfl
        rw [nI_clamp (show j21 < 2 ^ 31 by omega)] at hT0
        refine lv_istore (lv' := [(10, .int (nI nG)), (9, .int ((pO2 z 5) &&& ((pO1 z 5) ^^^ (-1)))), (7, .int (nI j30)), (6, .int (nI j21)), (4, .long (pAll (σ) nV nG)), (0, .ref o), (1, .ref ga), (2, .int x), (3, .int z), (8, .int (pO1 z 5))]) hx hb dL_begins_131 hl (by decide) rfl (fun ls hl => ?_)
        refine lv_iload hx hb dL_begins_133 (lv_at hl 0 rfl) ?_
        refine lv_if_ge (tgt := 188) hx hb dL_begins_135 (by decide) (fun c135 => ?_) (fun c9 => False.elim (by exact c9 (nI_pos' (by omega))))
        refine lv_aload_n hx hb dL_begins_188 rfl (lv_at hl 6 rfl) ?_
        refine lv_iconst (v := 2) hx hb dL_begins_189 (by decide) ?_
        refine lv_dup2_11 hx hb dL_begins_190 rfl rfl ?_
        refine p_ild (k := 2) (v := nI nG) hx hb hX.1 hW hg1 (show vp_in (nI 2) 3 from vp_in_nI (by omega) (by omega)) rfl rfl dL_begins_191 ?_
        refine lv_iconst (v := 1) hx hb dL_begins_192 (by decide) ?_
        refine lv_iadd hx hb dL_begins_193 ?_
        refine x_iast (G := G) hx hb hX.1 hW hS hg1 (show vp_in (nI 2) 3 from vp_in_nI (by omega) (by omega)) dL_begins_194 (fun H locs hW hS => ?_)
        rw [show (2 : Int32).toNatClampNeg = 2 from rfl, gF_2 nC nV nG] at hW
        obtain ⟨E2, eE2⟩ : ∃ z, z = xU E1 ga (.inl (G.2.1 0, 3, .inl (gF nC nV (nG + 1)))) := ⟨_, rfl⟩
        rw [← eE2] at hW
        have hg2 : E2 ga = some (.inl (G.2.1 0, 3, .inl (gF nC nV (nG + 1)))) := by rw [eE2]; exact xU_self _ _ _
        have hF2 : pFr ga E E2 := pFr_put (pFr_of hF1) eE2
        have hO2 := hO1.fr (by rw [eE2]; exact xFr_put xFr_rf hg1 rfl _ : xFr tM _ E2)
        obtain ⟨fs2, hOE2⟩ := hO2.at
        have hI2 : pI σ1 nC nV (nG + 1) := by rw [hs1]; exact n_begI hO hI hv1 hj30 hj118 hT0 h12
        have hEx := n_begX hO hI hv1 hT0
        rw [← hs1] at hEx
        refine lv_iconst (v := 0) hx hb dL_begins_195 (by decide) ?_
        refine lv_istore (lv' := [(11, .int 0), (10, .int (nI nG)), (9, .int ((pO2 z 5) &&& ((pO1 z 5) ^^^ (-1)))), (7, .int (nI j30)), (6, .int (nI j21)), (4, .long (pAll (σ) nV nG)), (0, .ref o), (1, .ref ga), (2, .int x), (3, .int z), (8, .int (pO1 z 5))]) hx hb dL_begins_196 hl (by decide) rfl (fun ls hl => ?_)
        refine lv_iconst (v := 0) hx hb dL_begins_198 (by decide) ?_
        refine lv_istore (lv' := [(12, .int 0), (11, .int 0), (10, .int (nI nG)), (9, .int ((pO2 z 5) &&& ((pO1 z 5) ^^^ (-1)))), (7, .int (nI j30)), (6, .int (nI j21)), (4, .long (pAll (σ) nV nG)), (0, .ref o), (1, .ref ga), (2, .int x), (3, .int z), (8, .int (pO1 z 5))]) hx hb dL_begins_199 hl (by decide) rfl (fun ls hl => ?_)
        refine p_jkl (T := Nat) (P := fun _ => True) (G := G) (E := E2) (H0 := s.heap) 260 13 (fun _ => [(10, .int (nI nG)), (9, .int ((pO2 z 5) &&& ((pO1 z 5) ^^^ (-1)))), (7, .int (nI j30)), (6, .int (nI j21)), (4, .long (pAll (σ) nV nG)), (0, .ref o), (1, .ref ga), (2, .int x), (3, .int z), (8, .int (pO1 z 5)), (11, .int 1)]) 2110 12900 (fun _ ls H locs cells slots _ hcj hsj hW hS hl => ?_) (fun J260 => ?_)
        · have hl : lv_has ls 13 [(10, .int (nI nG)), (9, .int ((pO2 z 5) &&& ((pO1 z 5) ^^^ (-1)))), (7, .int (nI j30)), (6, .int (nI j21)), (4, .long (pAll (σ) nV nG)), (0, .ref o), (1, .ref ga), (2, .int x), (3, .int z), (8, .int (pO1 z 5)), (11, .int 1)] := hl
          refine lv_iload hx hb dL_begins_260 (lv_at hl 0 rfl) ?_
          refine lv_aload_n hx hb dL_begins_262 rfl (lv_at hl 6 rfl) ?_
          refine lv_iconst (v := 2) hx hb dL_begins_263 (by decide) ?_
          refine p_ild (k := 2) (v := nI (nG + 1)) hx hb hX.1 hW hg2 (show vp_in (nI 2) 3 from vp_in_nI (by omega) (by omega)) rfl rfl dL_begins_264 ?_
          refine lv_iconst (v := 1) hx hb dL_begins_265 (by decide) ?_
          refine lv_isub hx hb dL_begins_266 ?_
          refine lv_icmp_ne (tgt := 330) hx hb dL_begins_267 (by decide) (fun c9 => False.elim (by exact c9 (nI_pred nG).symm)) (fun c267 => ?_)
          refine lv_iload hx hb dL_begins_270 (lv_at hl 10 rfl) ?_
          refine lv_if_eq (tgt := 330) hx hb dL_begins_272 (by decide) (fun c9 => absurd c9 (by decide)) (fun _ => ?_)
          refine lv_aload_n hx hb dL_begins_275 rfl (lv_at hl 5 rfl) ?_
          refine lv_iload hx hb dL_begins_276 (lv_at hl 0 rfl) ?_
          refine p_rd (x := σ1 15 nG) (vx_runV (As := [.int (nI nG)]) (rest := []) ⟨hx, hb, hml, hown, hts⟩ (dr_state l hl9 G E2 o nC nV (nG + 1) σ1 hO2 (k := nG) (by omega)) (cwV 1 hts gL_begins_X4_state rfl rfl rfl (by decide +kernel) ⟨Nat.le_of_ble_eq_true rfl, Nat.le_of_ble_eq_true rfl⟩) (x_preV hX hS hW hOE2 rfl) rfl rfl hl.1 rfl (lv_room (Nat.le_of_ble_eq_true rfl)) dL_begins_278 ⟨by show _ ≤ 2200; omega, by show _ ≤ 13500; omega⟩) hS (fun H locs hW hS => ?_)
          refine lv_if_ne (tgt := 330) hx hb dL_begins_281 (by decide) (fun c9 => False.elim (by exact c9 (by rw [hs1]; exact n_beg15))) (fun c281 => ?_)
          refine lv_aload_n hx hb dL_begins_284 rfl (lv_at hl 5 rfl) ?_
          refine lv_iload hx hb dL_begins_285 (lv_at hl 0 rfl) ?_
          refine p_rd (x := nI (dN σ1 nG)) (vx_runV (As := [.int (nI nG)]) (rest := []) ⟨hx, hb, hml, hown, hts⟩ (dr_made l hl9 G E2 o nC nV (nG + 1) σ1 hO2 (k := nG) (by omega)) (cwV 1 hts gL_begins_X4_made rfl rfl rfl (by decide +kernel) ⟨Nat.le_of_ble_eq_true rfl, Nat.le_of_ble_eq_true rfl⟩) (x_preV hX hS hW hOE2 rfl) rfl rfl hl.1 rfl (lv_room (Nat.le_of_ble_eq_true rfl)) dL_begins_287 ⟨by show _ ≤ 2200; omega, by show _ ≤ 13500; omega⟩) hS (fun H locs hW hS => ?_)
          refine lv_if_ne (tgt := 330) hx hb dL_begins_290 (by decide) (fun c9 => False.elim (by exact c9 (by rw [hs1, n_begD]; rfl))) (fun c290 => ?_)
          refine lv_aload_n hx hb dL_begins_293 rfl (lv_at hl 5 rfl) ?_
          refine lv_iload hx hb dL_begins_294 (lv_at hl 0 rfl) ?_
          refine lv_iconst (v := 0) hx hb dL_begins_296 (by decide) ?_
          refine p_rd (x := pPc σ1 nG false) (vx_runV (As := [.int (nI nG), .int 0]) (rest := []) ⟨hx, hb, hml, hown, hts⟩ (dr_pieces l hl9 G E2 o nC nV (nG + 1) σ1 hO2 (k := nG) (by omega) false) (cwV 2 hts gL_begins_X4_pieces rfl rfl rfl (by decide +kernel) ⟨Nat.le_of_ble_eq_true rfl, Nat.le_of_ble_eq_true rfl⟩) (x_preV hX hS hW hOE2 rfl) rfl rfl hl.1 rfl (lv_room (Nat.le_of_ble_eq_true rfl)) dL_begins_297 ⟨by show _ ≤ 2200; omega, by show _ ≤ 13500; omega⟩) hS (fun H locs hW hS => ?_)
          refine lv_iload hx hb dL_begins_300 (lv_at hl 9 rfl) ?_
          refine lv_icmp_ne (tgt := 330) hx hb dL_begins_302 (by decide) (fun c9 => False.elim (by exact c9 (by rw [hs1]; exact n_begP))) (fun c302 => ?_)
          refine lv_aload_n hx hb dL_begins_305 rfl (lv_at hl 5 rfl) ?_
          refine lv_iload hx hb dL_begins_306 (lv_at hl 0 rfl) ?_
          refine lv_iconst (v := 1) hx hb dL_begins_308 (by decide) ?_
          refine p_rd (x := pPc σ1 nG true) (vx_runV (As := [.int (nI nG), .int 1]) (rest := []) ⟨hx, hb, hml, hown, hts⟩ (dr_pieces l hl9 G E2 o nC nV (nG + 1) σ1 hO2 (k := nG) (by omega) true) (cwV 2 hts gL_begins_X4_pieces rfl rfl rfl (by decide +kernel) ⟨Nat.le_of_ble_eq_true rfl, Nat.le_of_ble_eq_true rfl⟩) (x_preV hX hS hW hOE2 rfl) rfl rfl hl.1 rfl (lv_room (Nat.le_of_ble_eq_true rfl)) dL_begins_309 ⟨by show _ ≤ 2200; omega, by show _ ≤ 13500; omega⟩) hS (fun H locs hW hS => ?_)
          refine lv_iload hx hb dL_begins_312 (lv_at hl 1 rfl) ?_
          refine lv_icmp_ne (tgt := 330) hx hb dL_begins_314 (by decide) (fun c9 => False.elim (by exact c9 (by rw [hs1]; exact n_begQ))) (fun c314 => ?_)
          refine lv_aload_n hx hb dL_begins_317 rfl (lv_at hl 5 rfl) ?_
          refine lv_iload hx hb dL_begins_318 (lv_at hl 3 rfl) ?_
          refine p_rd (x := zI (pBan σ1 j21)) (vx_runV (As := [.int (nI j21)]) (rest := []) ⟨hx, hb, hml, hown, hts⟩ (dr_isBanned l hl9 G E2 o nC nV (nG + 1) σ1 hO2 (v := j21) (by omega)) (cwV 1 hts gL_begins_X4_isBanned rfl rfl rfl (by decide +kernel) ⟨Nat.le_of_ble_eq_true rfl, Nat.le_of_ble_eq_true rfl⟩) (x_preV hX hS hW hOE2 rfl) rfl rfl hl.1 rfl (lv_room (Nat.le_of_ble_eq_true rfl)) dL_begins_320 ⟨by show _ ≤ 2200; omega, by show _ ≤ 13500; omega⟩) hS (fun H locs hW hS => ?_)
          refine x_ifz_ne (b := pBan σ1 j21) (tgt := 330) hx hb dL_begins_323 (by decide) (fun c9 => False.elim (by rw [hs1, n_begB hT0] at c9; cases c9)) (fun c323 => ?_)
          refine lv_iconst (v := 1) hx hb dL_begins_326 (by decide) ?_
          refine lv_goto (tgt := 331) hx hb dL_begins_327 (by decide) ?_
          exact vx_ret (W.widen (k := 2200) (n := 13500) (by omega) (by omega) (W.zret (v := 1) hx hb hr rfl (fun t ht hw9 => ⟨⟨_, E2, rfl, ⟨rfl, ⟨σ1, nC, nV, nG + 1, hO2, hI2, hg2, hF2, Or.inr ⟨rfl, by omega, rfl, by rw [hs1]; exact n_beg11n, by rw [hs1, n_beg11]; exact (ej21.symm.trans xj21).trans (by rw [show pN1 nV = nV from by unfold pN1; rw [if_neg (by omega)]])⟩⟩⟩, (show xW G E2 t.heap from by rw [ht]; exact hW)⟩, hS.F ht⟩) hS.2.2 dL_begins_331))
        · refine p_loop 201 13 (fun k => [(10, .int (nI nG)), (9, .int ((pO2 z 5) &&& ((pO1 z 5) ^^^ (-1)))), (7, .int (nI j30)), (6, .int (nI j21)), (4, .long (pAll (σ) nV nG)), (0, .ref o), (1, .ref ga), (2, .int x), (3, .int z), (8, .int (pO1 z 5)), (12, .int (nI k)), (11, .int 0)]) (fun k => ∀ j, j < k → ¬ (bt (pO1 z 5) (j / 25) = true ∧ pCan σ1 nC nG (nI (j / 25)) (nI (j % 25)) = true)) 625 3 18 (2100) (12800) ?_ 0 ls _ _ _ _ (by omega) (fun j h => absurd h (Nat.not_lt_zero _)) (by omega) (by omega) hW hS (lv_sub hl [2, 3, 4, 5, 6, 7, 8, 9, 10, 11, 0, 1] rfl)
          intro k ls H locs cellsb slotsb hkb hIb hcb hsb hW hS hl ihb
          have hl : lv_has ls 13 [(10, .int (nI nG)), (9, .int ((pO2 z 5) &&& ((pO1 z 5) ^^^ (-1)))), (7, .int (nI j30)), (6, .int (nI j21)), (4, .long (pAll (σ) nV nG)), (0, .ref o), (1, .ref ga), (2, .int x), (3, .int z), (8, .int (pO1 z 5)), (12, .int (nI k)), (11, .int 0)] := hl
          refine lv_iload hx hb dL_begins_201 (lv_at hl 10 rfl) ?_
          refine lv_sipush (v := 625) hx hb dL_begins_203 (by decide) ?_
          refine lv_icmp_ge (tgt := 260) hx hb dL_begins_206 (by decide) (fun c9 => False.elim (by obtain ⟨j, hj, h1, h2⟩ := hEx; exact hIb j (Nat.lt_of_lt_of_le hj ((nI_leI (a := 625) (by omega) (by omega)).mp c9)) ⟨h1, h2⟩)) (fun c206 => ?_)
          have hk1b : k < 625 := x_nge (B := 625) c206 (by omega)
          refine lv_iload hx hb dL_begins_209 (lv_at hl 11 rfl) ?_
          refine lv_if_ne (tgt := 260) hx hb dL_begins_211 (by decide) (fun c9 => absurd (by decide) c9) (fun _ => ?_)
          refine lv_iload hx hb dL_begins_214 (lv_at hl 9 rfl) ?_
          refine lv_iload hx hb dL_begins_216 (lv_at hl 10 rfl) ?_
          refine lv_bipush (v := 25) hx hb dL_begins_218 (by decide) ?_
          refine lv_idiv hx hb dL_begins_220 (by decide) ?_
          rw [show ((nI k) / 25 : Int32) = nI (k / 25) from pk_div (a := k) (d := 25) (by omega) (by omega) (by omega)]
          refine lv_ishr hx hb dL_begins_221 ?_
          refine lv_iconst (v := 1) hx hb dL_begins_222 (by decide) ?_
          refine lv_iand hx hb dL_begins_223 ?_
          refine lv_iconst (v := 1) hx hb dL_begins_224 (by decide) ?_
          refine lv_icmp_ne (tgt := 251) hx hb dL_begins_225 (by decide) (fun c225 => ?_) (fun c225 => ?_)
          · refine lv_iconst (v := 0) hx hb dL_begins_251 (by decide) ?_
            refine lv_istore (lv' := [(11, .int 0), (10, .int (nI nG)), (9, .int ((pO2 z 5) &&& ((pO1 z 5) ^^^ (-1)))), (7, .int (nI j30)), (6, .int (nI j21)), (4, .long (pAll (σ) nV nG)), (0, .ref o), (1, .ref ga), (2, .int x), (3, .int z), (8, .int (pO1 z 5)), (12, .int (nI k))]) hx hb dL_begins_252 hl (by decide) rfl (fun ls hl => ?_)
            refine lv_iinc (v := nI (k + 1)) (lv' := [(12, .int (nI (k + 1))), (11, .int 0), (10, .int (nI nG)), (9, .int ((pO2 z 5) &&& ((pO1 z 5) ^^^ (-1)))), (7, .int (nI j30)), (6, .int (nI j21)), (4, .long (pAll (σ) nV nG)), (0, .ref o), (1, .ref ga), (2, .int x), (3, .int z), (8, .int (pO1 z 5))]) hx hb dL_begins_254 hl (k := 11) rfl (nI_1 _) (by decide) rfl (fun ls hl => ?_)
            refine lv_goto (tgt := 201) hx hb dL_begins_257 (by decide) ?_
            exact ihb ls _ _ _ _ hk1b (fun j hj => (Nat.lt_succ_iff_lt_or_eq.mp hj).elim (hIb j) (fun q h => c225 (by rw [x_bit1 _ (by omega), ← q, if_pos h.1]))) (by omega) (by omega) hW hS (lv_sub hl [2, 3, 4, 5, 6, 7, 8, 9, 10, 11, 0, 1] rfl)
          · refine lv_aload_n hx hb dL_begins_228 rfl (lv_at hl 5 rfl) ?_
            refine lv_iload hx hb dL_begins_229 (lv_at hl 0 rfl) ?_
            refine lv_iload hx hb dL_begins_231 (lv_at hl 10 rfl) ?_
            refine lv_bipush (v := 25) hx hb dL_begins_233 (by decide) ?_
            refine lv_idiv hx hb dL_begins_235 (by decide) ?_
            rw [show ((nI k) / 25 : Int32) = nI (k / 25) from pk_div (a := k) (d := 25) (by omega) (by omega) (by omega)]
            refine lv_iload hx hb dL_begins_236 (lv_at hl 10 rfl) ?_
            refine lv_bipush (v := 25) hx hb dL_begins_238 (by decide) ?_
            refine lv_irem hx hb dL_begins_240 (by decide) ?_
            rw [show ((nI k) - (nI k) / 25 * 25 : Int32) = nI (k % 25) from pk_rem (a := k) (d := 25) (by omega) (by omega) (by omega)]
            refine p_rd (x := zI (pCan σ1 nC nG (nI (k / 25)) (nI (k % 25)))) (vx_runV (As := [.int (nI nG), .int (nI (k / 25)), .int (nI (k % 25))]) (rest := []) ⟨hx, hb, hml, hown, hts⟩ (dr_can l hl9 G E2 o nC nV (nG + 1) σ1 hO2 (k := nG) (f := k / 25) (t := k % 25) (by omega) (by omega) (by omega)) (cwV 3 hts gL_begins_X4_can rfl rfl rfl (by decide +kernel) ⟨Nat.le_of_ble_eq_true rfl, Nat.le_of_ble_eq_true rfl⟩) (x_preV hX hS hW hOE2 rfl) rfl rfl hl.1 rfl (lv_room (Nat.le_of_ble_eq_true rfl)) dL_begins_241 ⟨by show _ ≤ 2200; omega, by show _ ≤ 13500; omega⟩) hS (fun H locs hW hS => ?_)
            refine x_ifz_eq (b := pCan σ1 nC nG (nI (k / 25)) (nI (k % 25))) (tgt := 251) hx hb dL_begins_244 (by decide) (fun c244 => ?_) (fun c244 => ?_)
            · refine lv_iconst (v := 0) hx hb dL_begins_251 (by decide) ?_
              refine lv_istore (lv' := [(11, .int 0), (10, .int (nI nG)), (9, .int ((pO2 z 5) &&& ((pO1 z 5) ^^^ (-1)))), (7, .int (nI j30)), (6, .int (nI j21)), (4, .long (pAll (σ) nV nG)), (0, .ref o), (1, .ref ga), (2, .int x), (3, .int z), (8, .int (pO1 z 5)), (12, .int (nI k))]) hx hb dL_begins_252 hl (by decide) rfl (fun ls hl => ?_)
              refine lv_iinc (v := nI (k + 1)) (lv' := [(12, .int (nI (k + 1))), (11, .int 0), (10, .int (nI nG)), (9, .int ((pO2 z 5) &&& ((pO1 z 5) ^^^ (-1)))), (7, .int (nI j30)), (6, .int (nI j21)), (4, .long (pAll (σ) nV nG)), (0, .ref o), (1, .ref ga), (2, .int x), (3, .int z), (8, .int (pO1 z 5))]) hx hb dL_begins_254 hl (k := 11) rfl (nI_1 _) (by decide) rfl (fun ls hl => ?_)
              refine lv_goto (tgt := 201) hx hb dL_begins_257 (by decide) ?_
              exact ihb ls _ _ _ _ hk1b (fun j hj => (Nat.lt_succ_iff_lt_or_eq.mp hj).elim (hIb j) (fun q h => by rw [q, c244] at h; cases h.2)) (by omega) (by omega) hW hS (lv_sub hl [2, 3, 4, 5, 6, 7, 8, 9, 10, 11, 0, 1] rfl)
            · refine lv_iconst (v := 1) hx hb dL_begins_247 (by decide) ?_
              refine lv_goto (tgt := 252) hx hb dL_begins_248 (by decide) ?_
              refine lv_istore (lv' := [(11, .int 1), (10, .int (nI nG)), (9, .int ((pO2 z 5) &&& ((pO1 z 5) ^^^ (-1)))), (7, .int (nI j30)), (6, .int (nI j21)), (4, .long (pAll (σ) nV nG)), (0, .ref o), (1, .ref ga), (2, .int x), (3, .int z), (8, .int (pO1 z 5)), (12, .int (nI k))]) hx hb dL_begins_252 hl (by decide) rfl (fun ls hl => ?_)
              refine lv_iinc (v := nI (k + 1)) (lv' := [(12, .int (nI (k + 1))), (11, .int 1), (10, .int (nI nG)), (9, .int ((pO2 z 5) &&& ((pO1 z 5) ^^^ (-1)))), (7, .int (nI j30)), (6, .int (nI j21)), (4, .long (pAll (σ) nV nG)), (0, .ref o), (1, .ref ga), (2, .int x), (3, .int z), (8, .int (pO1 z 5))]) hx hb dL_begins_254 hl (k := 11) rfl (nI_1 _) (by decide) rfl (fun ls hl => ?_)
              refine lv_goto (tgt := 201) hx hb dL_begins_257 (by decide) ?_
              refine lv_iload hx hb dL_begins_201 (lv_at hl 0 rfl) ?_
              refine lv_sipush (v := 625) hx hb dL_begins_203 (by decide) ?_
              refine lv_icmp_ge (tgt := 260) hx hb dL_begins_206 (by decide) (fun c206 => ?_) (fun c206 => ?_)
              · exact J260 0 ls _ _ _ _ trivial (by omega) (by omega) hW hS (lv_sub hl [2, 3, 4, 5, 6, 7, 8, 9, 10, 11, 1] rfl)
              · refine lv_iload hx hb dL_begins_209 (lv_at hl 1 rfl) ?_
                refine lv_if_ne (tgt := 260) hx hb dL_begins_211 (by decide) (fun _ => ?_) (fun c9 => absurd c9 (by decide))
                exact J260 0 ls _ _ _ _ trivial (by omega) (by omega) hW hS (lv_sub hl [2, 3, 4, 5, 6, 7, 8, 9, 10, 11, 1] rfl)
      · rw [hE9] at hW
        have hT3 := n_begT hV4 hj21 hj30 (Nat.mod_lt _ (by omega)) hT
        rw [hr9]
        obtain ⟨T9, hT9⟩ : ∃ q, q = tX4_begin σ nC nV nG ((nI j21).toNatClampNeg) (nI j21) (nI j30) (nI ((j30 + 1 + j118) % 5)) (pO1 z 5) ((pO2 z 5) &&& ((pO1 z 5) ^^^ (-1))) := ⟨_, rfl⟩
        rw [← hT9] at hT3 ⊢
        refine lv_istore (lv' := [(10, .int (rEx T9)), (9, .int ((pO2 z 5) &&& ((pO1 z 5) ^^^ (-1)))), (7, .int (nI j30)), (6, .int (nI j21)), (4, .long (pAll (σ) nV nG)), (0, .ref o), (1, .ref ga), (2, .int x), (3, .int z), (8, .int (pO1 z 5))]) hx hb dL_begins_131 hl (by decide) rfl (fun ls hl => ?_)
        refine lv_iload hx hb dL_begins_133 (lv_at hl 0 rfl) ?_
        refine lv_if_ge (tgt := 188) hx hb dL_begins_135 (by decide) (fun c9 => False.elim (by exact rEx_neg _ c9)) (fun c135 => ?_)
        refine lv_aload_n hx hb dL_begins_138 rfl (lv_at hl 5 rfl) ?_
        refine lv_aload_n hx hb dL_begins_139 rfl (lv_at hl 6 rfl) ?_
        refine p_rdl (x := pAll (σ) nV nG) (vx_runS (As := [.ref o, .ref ga]) (rest := []) ⟨hx, hb, hml, hown, hts⟩ (kL_all l hl9 G E o ga nC nV nG (σ) hO hI hg) (va_cwS 2 hts gL_begins_L_all rfl rfl rfl (by decide +kernel) ⟨Nat.le_of_ble_eq_true rfl, Nat.le_of_ble_eq_true rfl⟩) (x_preS2 hX hNc hS hW) rfl rfl hl.1 rfl (lv_room (Nat.le_of_ble_eq_true rfl)) dL_begins_140 ⟨by show _ ≤ 2200; omega, by show _ ≤ 13500; omega⟩) hS (fun H locs hW hS => ?_)
        refine lv_lload hx hb dL_begins_143 (lv_at hl 4 rfl) ?_
        refine W.lcmp hx hb dL_begins_145 ?_
        refine lv_if_ne (tgt := 186) hx hb dL_begins_146 (by decide) (fun c9 => False.elim (by exact c9 (lg_cmp_self _))) (fun c146 => ?_)
        refine lv_iload hx hb dL_begins_149 (lv_at hl 0 rfl) ?_
        refine lv_sipush (v := (-1021)) hx hb dL_begins_151 (by decide) ?_
        refine lv_icmp_ne (tgt := 166) hx hb dL_begins_154 (by decide) (fun c154 => ?_) (fun c154 => ?_)
        · refine lv_iload hx hb dL_begins_166 (lv_at hl 0 rfl) ?_
          refine lv_sipush (v := (-1022)) hx hb dL_begins_168 (by decide) ?_
          refine lv_icmp_eq (tgt := 182) hx hb dL_begins_171 (by decide) (fun c171 => ?_) (fun c171 => ?_)
          · refine lv_iconst (v := 1) hx hb dL_begins_182 (by decide) ?_
            refine lv_goto (tgt := 187) hx hb dL_begins_183 (by decide) ?_
            exact vx_ret (W.widen (k := 2200) (n := 13500) (by omega) (by omega) (W.zret (v := 1) hx hb hr rfl (fun t ht hw9 => ⟨⟨_, E, rfl, ⟨rfl, ⟨σ, nC, nV, nG, hO, hI, hg, pFr_rf, Or.inl ⟨rfl, rfl⟩⟩⟩, (show xW G E t.heap from by rw [ht]; exact hW)⟩, hS.F ht⟩) hS.2.2 dL_begins_187))
          · refine lv_iload hx hb dL_begins_174 (lv_at hl 0 rfl) ?_
            refine lv_sipush (v := (-1023)) hx hb dL_begins_176 (by decide) ?_
            refine lv_icmp_ne (tgt := 186) hx hb dL_begins_179 (by decide) (fun c9 => False.elim (by rcases hT3 with h | h | h; rw [h] at c171; exact absurd rfl c171; rw [h] at c9; exact absurd rfl c9; rw [h.1] at c154; exact absurd rfl c154)) (fun c179 => ?_)
            refine lv_iconst (v := 1) hx hb dL_begins_182 (by decide) ?_
            refine lv_goto (tgt := 187) hx hb dL_begins_183 (by decide) ?_
            exact vx_ret (W.widen (k := 2200) (n := 13500) (by omega) (by omega) (W.zret (v := 1) hx hb hr rfl (fun t ht hw9 => ⟨⟨_, E, rfl, ⟨rfl, ⟨σ, nC, nV, nG, hO, hI, hg, pFr_rf, Or.inl ⟨rfl, rfl⟩⟩⟩, (show xW G E t.heap from by rw [ht]; exact hW)⟩, hS.F ht⟩) hS.2.2 dL_begins_187))
        · refine lv_aload_n hx hb dL_begins_157 rfl (lv_at hl 6 rfl) ?_
          refine lv_iconst (v := 1) hx hb dL_begins_158 (by decide) ?_
          refine p_ild (k := 1) (v := nI nV) hx hb hX.1 hW hg (show vp_in (nI 1) 3 from vp_in_nI (by omega) (by omega)) rfl rfl dL_begins_159 ?_
          refine lv_if_ne (tgt := 186) hx hb dL_begins_160 (by decide) (fun c9 => False.elim (by rcases hT3 with h | h | h; rw [h] at c154; exact absurd c154 (by decide); rw [h] at c154; exact absurd c154 (by decide); exact c9 (by rw [h.2]; rfl))) (fun c160 => ?_)
          refine lv_goto (tgt := 182) hx hb dL_begins_163 (by decide) ?_
          refine lv_iconst (v := 1) hx hb dL_begins_182 (by decide) ?_
          refine lv_goto (tgt := 187) hx hb dL_begins_183 (by decide) ?_
          exact vx_ret (W.widen (k := 2200) (n := 13500) (by omega) (by omega) (W.zret (v := 1) hx hb hr rfl (fun t ht hw9 => ⟨⟨_, E, rfl, ⟨rfl, ⟨σ, nC, nV, nG, hO, hI, hg, pFr_rf, Or.inl ⟨rfl, rfl⟩⟩⟩, (show xW G E t.heap from by rw [ht]; exact hW)⟩, hS.F ht⟩) hS.2.2 dL_begins_187))
    · have hk1a : i < 5 := x_nge (B := 5) c47 (by omega)
      refine lv_iload hx hb dL_begins_50 (lv_at hl 8 rfl) ?_
      refine lv_iconst (v := 1) hx hb dL_begins_52 (by decide) ?_
      refine lv_iload_n hx hb dL_begins_53 rfl (lv_at hl 6 rfl) ?_
      refine lv_iconst (v := 3) hx hb dL_begins_54 (by decide) ?_
      refine lv_iload hx hb dL_begins_55 (lv_at hl 7 rfl) ?_
      refine lv_imul hx hb dL_begins_57 ?_
      refine lv_ishr hx hb dL_begins_58 ?_
      refine lv_bipush (v := 25) hx hb dL_begins_59 (by decide) ?_
      refine x_callSe (va_runS (As := [.int (z >>> (((3 : Int32) * (nI i)) &&& 31)), .int 25]) (rest := [.int 1, .int (pO1 z i)]) ⟨hx, hb, hml, hown, hts⟩ (kL_some l (z >>> (((3 : Int32) * (nI i)) &&& 31)) 25 (by decide)) (va_cwS 2 hts gL_begins_L_some rfl rfl rfl (by decide +kernel) ⟨Nat.le_of_ble_eq_true rfl, Nat.le_of_ble_eq_true rfl⟩) x_preT rfl rfl hl.1 rfl (lv_room (Nat.le_of_ble_eq_true rfl)) dL_begins_61 ⟨by show _ ≤ 2200; omega, by show _ ≤ 13500; omega⟩) ?_
      refine lv_ishl hx hb dL_begins_64 ?_
      refine lv_ior hx hb dL_begins_65 ?_
      refine lv_istore (lv' := [(8, .int ((pO1 z i) ||| ((1 : Int32) <<< ((fL_some (z >>> (((3 : Int32) * (nI i)) &&& 31)) 25) &&& 31)))), (7, .int (nI j30)), (6, .int (nI j21)), (4, .long (pAll (σ) nV nG)), (0, .ref o), (1, .ref ga), (2, .int x), (3, .int z), (10, .int (nI i)), (9, .int (pO2 z i))]) hx hb dL_begins_66 hl (by decide) rfl (fun ls hl => ?_)
      refine lv_iload hx hb dL_begins_68 (lv_at hl 9 rfl) ?_
      refine lv_iconst (v := 1) hx hb dL_begins_70 (by decide) ?_
      refine lv_iload_n hx hb dL_begins_71 rfl (lv_at hl 7 rfl) ?_
      refine lv_iconst (v := 3) hx hb dL_begins_72 (by decide) ?_
      refine lv_iload hx hb dL_begins_73 (lv_at hl 8 rfl) ?_
      refine lv_imul hx hb dL_begins_75 ?_
      refine lv_iconst (v := 5) hx hb dL_begins_76 (by decide) ?_
      refine lv_iadd hx hb dL_begins_77 ?_
      refine lv_ishr hx hb dL_begins_78 ?_
      refine lv_bipush (v := 25) hx hb dL_begins_79 (by decide) ?_
      refine x_callSe (va_runS (As := [.int (z >>> ((((3 : Int32) * (nI i)) + 5) &&& 31)), .int 25]) (rest := [.int 1, .int (pO2 z i)]) ⟨hx, hb, hml, hown, hts⟩ (kL_some l (z >>> ((((3 : Int32) * (nI i)) + 5) &&& 31)) 25 (by decide)) (va_cwS 2 hts gL_begins_L_some rfl rfl rfl (by decide +kernel) ⟨Nat.le_of_ble_eq_true rfl, Nat.le_of_ble_eq_true rfl⟩) x_preT rfl rfl hl.1 rfl (lv_room (Nat.le_of_ble_eq_true rfl)) dL_begins_81 ⟨by show _ ≤ 2200; omega, by show _ ≤ 13500; omega⟩) ?_
      refine lv_ishl hx hb dL_begins_84 ?_
      refine lv_ior hx hb dL_begins_85 ?_
      refine lv_istore (lv' := [(9, .int ((pO2 z i) ||| ((1 : Int32) <<< ((fL_some (z >>> ((((3 : Int32) * (nI i)) + 5) &&& 31)) 25) &&& 31)))), (8, .int ((pO1 z i) ||| ((1 : Int32) <<< ((fL_some (z >>> (((3 : Int32) * (nI i)) &&& 31)) 25) &&& 31)))), (7, .int (nI j30)), (6, .int (nI j21)), (4, .long (pAll (σ) nV nG)), (0, .ref o), (1, .ref ga), (2, .int x), (3, .int z), (10, .int (nI i))]) hx hb dL_begins_86 hl (by decide) rfl (fun ls hl => ?_)
      refine lv_iinc (v := nI (i + 1)) (lv' := [(10, .int (nI (i + 1))), (9, .int ((pO2 z i) ||| ((1 : Int32) <<< ((fL_some (z >>> ((((3 : Int32) * (nI i)) + 5) &&& 31)) 25) &&& 31)))), (8, .int ((pO1 z i) ||| ((1 : Int32) <<< ((fL_some (z >>> (((3 : Int32) * (nI i)) &&& 31)) 25) &&& 31)))), (7, .int (nI j30)), (6, .int (nI j21)), (4, .long (pAll (σ) nV nG)), (0, .ref o), (1, .ref ga), (2, .int x), (3, .int z)]) hx hb dL_begins_88 hl (k := 9) rfl (nI_1 _) (by decide) rfl (fun ls hl => ?_)
      refine lv_goto (tgt := 44) hx hb dL_begins_91 (by decide) ?_
      exact iha ls _ _ _ _ hk1a trivial (by omega) (by omega) hW hS (lv_sub hl [3, 4, 5, 6, 7, 8, 9, 0, 2, 1] rfl)
  · refine lv_if_ne (tgt := 18) hx hb dL_begins_11 (by decide) (fun cz => ?_) (fun cz => ?_)
    · refine lv_aload_n hx hb dL_begins_18 rfl (lv_at hl 2 rfl) ?_
      refine lv_iconst (v := 1) hx hb dL_begins_19 (by decide) ?_
      refine p_ild (k := 1) (v := nI nV) hx hb hX.1 hW hg (show vp_in (nI 1) 3 from vp_in_nI (by omega) (by omega)) rfl rfl dL_begins_20 ?_
      exact J _ (by rw [pN1, if_neg (fun z => cz (by rw [z]; rfl))])
    · refine lv_iconst (v := 1) hx hb dL_begins_14 (by decide) ?_
      refine lv_goto (tgt := 21) hx hb dL_begins_15 (by decide) ?_
      exact J _ (by rw [pN1, if_pos ((nI_eq (by omega) (by omega)).mp (cz.trans nI_0.symm))]; rfl)

