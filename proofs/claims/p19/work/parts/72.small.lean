def fL_some (a0 : Int32) (a1 : Int32) : Int32 := ((a0.toUInt32 >>> ((1 : Int32).toUInt32 &&& Int32.toUInt32 31)).toInt32) - ((a0.toUInt32 >>> ((1 : Int32).toUInt32 &&& Int32.toUInt32 31)).toInt32) / a1 * a1
set_option maxHeartbeats 4000000 in
set_option maxRecDepth 100000 in
theorem kL_some (l : Launch) (a0 : Int32) (a1 : Int32) (h : ¬ a1 = 0) : Met l yL_some wsL_some ({ frames := 0, cells := 0, slots := 0, locals := 0 }) (va_Pc [.int a0, .int a1] (fun _ => True)) (vp_Si (fun r => r = fL_some a0 a1)) 0 0 (fun _ => False) := by
  refine Met.ofW (cc := cL_some) (maxL := 2) (ret := (some .int)) (by decide) rfl ?_
  intro p e s m args below meth c s₁ B hml hv
  obtain ⟨rfl, -⟩ := hv
  have hx := B.exec
  have hb := B.bytes
  have hr := B.returns
  have hts := atoms_spec (ws := wsL_some) B.pre
  have hown : s.vm.findClass RL = some m.cls := findClass_of_methodNamed B.named
  have hlocks := B.notSynchronized
  have hl := lv_entry ([.int a0, .int a1]) (n := 2) (Nat.le_of_ble_eq_true rfl)
  rw [lg_entry_eq]
  generalize (lg_sl ([.int a0, .int a1]) ++ List.replicate (2 - (lg_sl ([.int a0, .int a1])).length) Slot.unset).toArray = ls at hl ⊢
  have hl : lv_has ls 2 [(0, .int a0), (1, .int a1)] := hl
  refine lv_iload_n hx hb dL_some_0 rfl (lv_at hl 0 rfl) ?_
  refine lv_iconst (v := 1) hx hb dL_some_1 (by decide) ?_
  refine lv_iushr (v := (a0.toUInt32 >>> ((1 : Int32).toUInt32 &&& Int32.toUInt32 31)).toInt32) hx hb dL_some_2 rfl ?_
  refine lv_iload_n hx hb dL_some_3 rfl (lv_at hl 1 rfl) ?_
  refine lv_irem hx hb dL_some_4 h ?_
  exact W.iret (v := ((a0.toUInt32 >>> ((1 : Int32).toUInt32 &&& Int32.toUInt32 31)).toInt32) - ((a0.toUInt32 >>> ((1 : Int32).toUInt32 &&& Int32.toUInt32 31)).toInt32) / a1 * a1) hx hb hr (fun t ht hw => ⟨_, rfl, (show (((a0.toUInt32 >>> ((1 : Int32).toUInt32 &&& Int32.toUInt32 31)).toInt32) - ((a0.toUInt32 >>> ((1 : Int32).toUInt32 &&& Int32.toUInt32 31)).toInt32) / a1 * a1 : Int32) = fL_some a0 a1 from by unfold fL_some; rfl), ht⟩) (fun _ h => nomatch h) dL_some_5

/-- a draw below n -/
theorem p_some (x : Int32) {N : Nat} (h0 : 0 < N) (hN : N < 2 ^ 31) : ∃ j : Nat, j < N ∧ fL_some x (nI N) = nI j := by
  obtain ⟨n, hn, rfl⟩ := kn_nat x
  refine ⟨n / 2 % N, Nat.mod_lt _ h0, ?_⟩
  unfold fL_some
  rw [show (1 : Int32) = nI 1 from rfl, y_ush hn (by omega), pk_rem (by omega) h0 hN]
theorem kS (l : Launch) (x : Int32) {N : Nat} (h0 : 0 < N) (hN : N < 2 ^ 31) : Met l yL_some wsL_some ({ frames := 0, cells := 0, slots := 0, locals := 0 }) (va_Pc [.int x, .int (nI N)] (fun _ => True)) (vp_Si (fun r => ∃ j, j < N ∧ r = nI j ∧ r = fL_some x (nI N))) 0 0 (fun _ => False) := by
  refine MetFree.mono (kL_some l x (nI N) (nI_ne0 h0 hN)) (fun _ _ h => h) (fun _ _ _ _ _ h => h) (fun a s o s' _ h => ⟨?_, h.2⟩)
  obtain ⟨⟨r, h1, h2, h3⟩, -⟩ := h
  obtain ⟨j, hj, hj2⟩ := p_some x h0 hN
  exact ⟨r, h1, ⟨j, hj, h2.trans hj2, h2⟩, h3⟩

set_option maxHeartbeats 4000000 in
set_option maxRecDepth 100000 in
/-- the count of a set's members, bit by bit -/
theorem kL_ones (l : Launch) {n : Nat} (hn : n < 2 ^ 25) : Met l yL_ones wsL_ones ({ frames := 0, cells := 0, slots := 0, locals := 0 }) (va_Pc [.int (nI n)] (fun _ => True)) (vp_Si (fun r => r = nI (pS n 25 0))) 0 0 (fun _ => False) := by
  refine Met.ofW (cc := cL_ones) (maxL := 3) (ret := (some .int)) (by decide) rfl ?_
  intro p e s m args below meth c s₁ B hml hv
  obtain ⟨rfl, -⟩ := hv
  have hx := B.exec
  have hb := B.bytes
  have hr := B.returns
  have hl := lv_entry ([.int (nI n)]) (n := 3) (Nat.le_of_ble_eq_true rfl)
  rw [lg_entry_eq]
  generalize (lg_sl ([.int (nI n)]) ++ List.replicate (3 - (lg_sl ([.int (nI n)])).length) Slot.unset).toArray = ls at hl ⊢
  have hl : lv_has ls 3 [(0, .int (nI n))] := hl
  refine x_loopK (σ := Nat × Nat) 4 3 (fun x => [(0, .int (nI n)), (1, .int (nI x.2)), (2, .int (nI x.1))]) (fun x => x.1 < 2 ^ 25 ∧ x.2 + pS x.1 25 0 = pS n 25 0) (fun x => x.1) ?_ (fun LP => ?_)
  · rintro ⟨a, b⟩ ls ⟨h1, h2⟩ hl ih
    dsimp only at h1 h2
    have hl : lv_has ls 3 [(0, .int (nI n)), (1, .int (nI b)), (2, .int (nI a))] := hl
    refine lv_iload_n hx hb dL_ones_4 rfl (lv_at hl 2 rfl) ?_
    refine lv_if_eq (tgt := 20) hx hb dL_ones_5 (by decide) (fun c5 => ?_) (fun c5 => ?_)
    · have ha : a = 0 := (nI_eq (by omega) (by omega)).mp (c5.trans nI_0.symm)
      refine lv_iload_n hx hb dL_ones_20 rfl (lv_at hl 1 rfl) ?_
      exact W.iret (v := nI b) hx hb hr (fun t ht hw => ⟨_, rfl, (by rw [← h2, ha, pS_zero]; rfl), ht⟩) (fun _ h => nomatch h) dL_ones_21
    · have ha : 0 < a := Nat.pos_of_ne_zero (fun z => c5 (by rw [z]; exact nI_0))
      refine lv_iinc (v := nI (b + 1)) (lv' := [(1, .int (nI (b + 1))), (0, .int (nI n)), (2, .int (nI a))]) hx hb dL_ones_8 hl (k := 1) rfl (nI_1 _) (by decide) rfl (fun ls hl => ?_)
      refine lv_iload_n hx hb dL_ones_11 rfl (lv_at hl 2 rfl) ?_
      refine lv_iload_n hx hb dL_ones_12 rfl (lv_at hl 2 rfl) ?_
      refine lv_iconst (v := 1) hx hb dL_ones_13 (by decide) ?_
      refine lv_isub hx hb dL_ones_14 ?_
      refine lv_iand hx hb dL_ones_15 ?_
      rw [kn_I ha]
      refine lv_istore_n (lv' := [(2, .int (nI (a &&& (a - 1)))), (1, .int (nI (b + 1))), (0, .int (nI n))]) hx hb dL_ones_16 rfl hl (by decide) rfl (fun ls hl => ?_)
      refine lv_goto (tgt := 4) hx hb dL_ones_17 (by decide) ?_
      exact ih (a &&& (a - 1), b + 1) ls (kn_lt ha) ⟨Nat.lt_trans (kn_lt ha) h1, by dsimp only; have := kn_pS ha h1; omega⟩ (lv_sub hl [2, 1, 0] rfl)
  · refine lv_iconst (v := 0) hx hb dL_ones_0 (by decide) ?_
    refine lv_istore_n (lv' := [(1, .int 0), (0, .int (nI n))]) hx hb dL_ones_1 rfl hl (by decide) rfl (fun ls hl => ?_)
    refine lv_iload_n hx hb dL_ones_2 rfl (lv_at hl 1 rfl) ?_
    refine lv_istore_n (lv' := [(2, .int (nI n)), (1, .int 0), (0, .int (nI n))]) hx hb dL_ones_3 rfl hl (by decide) rfl (fun ls hl => ?_)
    exact LP (n, 0) ls ⟨hn, by dsimp only; omega⟩ (lv_sub hl [2, 1, 0] rfl)

set_option maxHeartbeats 4000000 in
set_option maxRecDepth 100000 in
/-- a cell of the script, or what stands for it behind its end -/
theorem kL_cell (l : Launch) {b L : Nat} {xs : Nat → Int32} {k : Nat} (hk : k < 1000) (hL : L ≤ 260) : Met l yL_cell wsL_cell ({ frames := 0, cells := 0, slots := 0, locals := 0 }) (va_Pc [.ref b, .int (nI k)] (fun U => va_X b L xs U U.heap ∧ b < U.heap.size)) (vp_Si (fun _ => True)) 0 0 (fun _ => False) := by
  refine Met.ofW (cc := cL_cell) (maxL := 3) (ret := (some .int)) (by decide) rfl ?_
  intro p e s m args below meth c s₁ B hml hv
  obtain ⟨rfl, hXs, hbl⟩ := hv
  have hx := B.exec
  have hb := B.bytes
  have hr := B.returns
  have hts := atoms_spec (ws := wsL_cell) B.pre
  have hown : s.vm.findClass RL = some m.cls := findClass_of_methodNamed B.named
  have hk7 := hts (Cond.constant RL 7 (1171911611)) (by decide +kernel)
  have hS : va_S (fun _ => False) s.heap s.heap [] := va_S.rf
  have hl := lv_entry ([.ref b, .int (nI k)]) (n := 3) (Nat.le_of_ble_eq_true rfl)
  rw [lg_entry_eq]
  generalize (lg_sl ([.ref b, .int (nI k)]) ++ List.replicate (3 - (lg_sl ([.ref b, .int (nI k)])).length) Slot.unset).toArray = ls at hl ⊢
  have hl : lv_has ls 3 [(0, .ref b), (1, .int (nI k))] := hl
  refine p_jk (T := Int32) (P := fun _ => True) (F := fun v => F0 m 20 ls [.int v]) (fun v _ => ?_) (fun K => ?_)
  · refine lv_istore_n (lv' := [(2, .int v), (0, .ref b), (1, .int (nI k))]) hx hb dL_cell_20 rfl hl (by decide) rfl (fun ls hl => ?_)
    refine lv_iload_n hx hb dL_cell_21 rfl (lv_at hl 0 rfl) ?_
    refine lv_iload_n hx hb dL_cell_22 rfl (lv_at hl 0 rfl) ?_
    refine lv_bipush (v := 14) hx hb dL_cell_23 (by decide) ?_
    refine lv_iushr hx hb dL_cell_25 rfl ?_
    refine lv_ixor hx hb dL_cell_26 ?_
    refine lv_ldc (v := 1171911611) hx hb hown hk7 dL_cell_27 ?_
    refine lv_imul hx hb dL_cell_29 ?_
    refine lv_sipush (v := 163) hx hb dL_cell_30 (by decide) ?_
    refine lv_iload_n hx hb dL_cell_33 rfl (lv_at hl 2 rfl) ?_
    refine lv_imul hx hb dL_cell_34 ?_
    refine lv_iadd hx hb dL_cell_35 ?_
    exact W.iret hx hb hr (fun t ht hw => ⟨_, rfl, trivial, ht⟩) (fun _ h => nomatch h) dL_cell_36
  · refine lv_iload_n hx hb dL_cell_0 rfl (lv_at hl 1 rfl) ?_
    refine lv_aload_n hx hb dL_cell_1 rfl (lv_at hl 0 rfl) ?_
    refine va_slen hx hb hXs hbl (fun h => h) hS dL_cell_2 ?_
    refine lv_icmp_ge (tgt := 12) hx hb dL_cell_3 (by decide) (fun c3 => ?_) (fun c3 => ?_)
    · refine lv_sipush (v := 5171) hx hb dL_cell_12 (by decide) ?_
      refine lv_iload_n hx hb dL_cell_15 rfl (lv_at hl 1 rfl) ?_
      refine lv_bipush (v := 46) hx hb dL_cell_16 (by decide) ?_
      refine lv_iadd hx hb dL_cell_18 ?_
      refine lv_imul hx hb dL_cell_19 ?_
      exact K _ trivial
    · refine lv_aload_n hx hb dL_cell_6 rfl (lv_at hl 0 rfl) ?_
      refine lv_iload_n hx hb dL_cell_7 rfl (lv_at hl 1 rfl) ?_
      refine va_sld hx hb hXs hbl (fun h => h) hS (vp_in_nI (x_nge (B := L) c3 (by omega)) (by omega)) dL_cell_8 ?_
      refine lv_goto (tgt := 20) hx hb dL_cell_9 (by decide) ?_
      exact K _ trivial

set_option maxHeartbeats 4000000 in
set_option maxRecDepth 100000 in
/-- the number that all answers come to -/
theorem kL_all (l : Launch) (hl9 : l.stackTraces = false) (G : xG) (E : xE) (o ga nC nV nG : Nat) (σ : xSg) (hO : pOb G E o σ nC nV nG) (hI : pI σ nC nV nG) (hg : E ga = some (.inl (G.2.1 0, 3, .inl (gF nC nV nG)))) : vx_Met l yL_all wsL_all ({ frames := 8, cells := 96, slots := 576, locals := 150 }) (va_Pc [.ref o, .ref ga] (xB2 G E)) (va_Ql (S := xE) (fun r E' => r = pAll σ nV nG ∧ E' = E) (fun E' t => xW G E' t.heap) (xA G)) (xX G E (fun _ => False)) 96 576 (xA G) := by
  refine vx_ofW (cc := cL_all) (maxL := 6) (ret := (some .long)) (by decide) rfl ?_
  intro p e s m args below meth c s₁ B hml hno hv
  obtain ⟨rfl, ⟨hX, hW⟩, hNc⟩ := hv
  have hx := B.exec
  have hb := B.bytes
  have hr := B.returns
  have hts := atoms_spec (ws := wsL_all) B.pre
  have hown : s.vm.findClass RL = some m.cls := findClass_of_methodNamed B.named
  have hlocks := B.notSynchronized
  have hS : va_S (xA G) s.heap s.heap [] := va_S.rf
  have hk78 := hts (Cond.constantLong RL 78 (7)) (by decide +kernel)
  have hk86 := hts (Cond.constantLong RL 86 (2)) (by decide +kernel)
  have hk88 := hts (Cond.constantLong RL 88 (13)) (by decide +kernel)
  have hk90 := hts (Cond.constantLong RL 90 (41)) (by decide +kernel)
  have hk80 := hts (Cond.constantLong RL 80 (4)) (by decide +kernel)
  have hk82 := hts (Cond.constantLong RL 82 (61)) (by decide +kernel)
  have hk84 := hts (Cond.constantLong RL 84 (1000003)) (by decide +kernel)
  have hl := lv_entry ([.ref o, .ref ga]) (n := 6) (Nat.le_of_ble_eq_true rfl)
  rw [lg_entry_eq]
  generalize (lg_sl ([.ref o, .ref ga]) ++ List.replicate (6 - (lg_sl ([.ref o, .ref ga])).length) Slot.unset).toArray = ls at hl ⊢
  have hl : lv_has ls 6 [(0, .ref o), (1, .ref ga)] := hl
  obtain ⟨H, hH⟩ : ∃ z, z = s.heap := ⟨_, rfl⟩
  rw [← hH] at hW
  have hS : va_S (xA G) s.heap H [] := by rw [hH]; exact hS
  rw [← hH]
  obtain ⟨fs, hOE⟩ := hO.at
  obtain ⟨h00, h05, h010, hC8, hV4, hG12⟩ := hO.nums
  refine lv_ldc2 (v := 7) hx hb hown hk78 dL_all_0 ?_
  refine lv_lstore_n (lv' := [(2, .long 7), (0, .ref o), (1, .ref ga)]) hx hb dL_all_3 rfl hl (by decide) rfl (fun ls hl => ?_)
  refine lv_iconst (v := 0) hx hb dL_all_4 (by decide) ?_
  refine lv_istore (lv' := [(4, .int 0), (2, .long 7), (0, .ref o), (1, .ref ga)]) hx hb dL_all_5 hl (by decide) rfl (fun ls hl => ?_)
  refine p_loop 7 6 (fun k => [(0, .ref o), (1, .ref ga), (4, .int (nI k)), (2, .long (pGs σ k))]) (fun k => True) nG 4 24 (48) (288) ?_ 0 ls _ _ _ _ (by omega) trivial (by omega) (by omega) hW hS (lv_sub hl [2, 3, 0, 1] rfl)
  intro k ls H locs cellsa slotsa hka hIa hca hsa hW hS hl iha
  have hl : lv_has ls 6 [(0, .ref o), (1, .ref ga), (4, .int (nI k)), (2, .long (pGs σ k))] := hl
  refine lv_iload hx hb dL_all_7 (lv_at hl 2 rfl) ?_
  refine lv_aload_n hx hb dL_all_9 rfl (lv_at hl 1 rfl) ?_
  refine lv_iconst (v := 2) hx hb dL_all_10 (by decide) ?_
  refine p_ild (k := 2) (v := nI nG) hx hb hX.1 hW hg (show vp_in (nI 2) 3 from vp_in_nI (by omega) (by omega)) rfl rfl dL_all_11 ?_
  refine lv_icmp_ge (tgt := 75) hx hb dL_all_12 (by decide) (fun c12 => ?_) (fun c12 => ?_)
  · have hkn : nG = k := Nat.le_antisymm ((nI_leI (by omega) (by omega)).mp c12) hka
    subst hkn
    refine lv_iconst (v := 0) hx hb dL_all_75 (by decide) ?_
    refine lv_istore (lv' := [(4, .int 0), (0, .ref o), (1, .ref ga), (2, .long (pGs σ nG))]) hx hb dL_all_76 hl (by decide) rfl (fun ls hl => ?_)
    refine p_loop 78 6 (fun v => [(0, .ref o), (1, .ref ga), (4, .int (nI v)), (2, .long (pVs σ nG v))]) (fun v => True) nV 12 72 (96) (576) ?_ 0 ls _ _ _ _ (by omega) trivial (by omega) (by omega) hW hS (lv_sub hl [1, 2, 0, 3] rfl)
    intro v ls H locs cellsb slotsb hkb hIb hcb hsb hW hS hl ihb
    have hl : lv_has ls 6 [(0, .ref o), (1, .ref ga), (4, .int (nI v)), (2, .long (pVs σ nG v))] := hl
    refine lv_iload hx hb dL_all_78 (lv_at hl 2 rfl) ?_
    refine lv_aload_n hx hb dL_all_80 rfl (lv_at hl 1 rfl) ?_
    refine lv_iconst (v := 1) hx hb dL_all_81 (by decide) ?_
    refine p_ild (k := 1) (v := nI nV) hx hb hX.1 hW hg (show vp_in (nI 1) 3 from vp_in_nI (by omega) (by omega)) rfl rfl dL_all_82 ?_
    refine lv_icmp_ge (tgt := 157) hx hb dL_all_83 (by decide) (fun c83 => ?_) (fun c83 => ?_)
    · have hvn : nV = v := Nat.le_antisymm ((nI_leI (by omega) (by omega)).mp c83) hkb
      subst hvn
      refine lv_lload_n hx hb dL_all_157 rfl (lv_at hl 3 rfl) ?_
      exact vx_ret (W.widen (k := 96) (n := 576) (by omega) (by omega) (W.lret (v := pVs σ nG nV) hx hb hr (fun t ht hw9 => ⟨⟨_, E, rfl, ⟨rfl, rfl⟩, (show xW G E t.heap from by rw [ht]; exact hW)⟩, hS.F ht⟩) hS.2.2 dL_all_158))
    · have hk1b : v < nV := x_nge c83 (by omega)
      refine lv_lload_n hx hb dL_all_86 rfl (lv_at hl 3 rfl) ?_
      refine lv_ldc2 (v := 2) hx hb hown hk86 dL_all_87 ?_
      refine lv_lmul hx hb dL_all_90 ?_
      refine lv_aload_n hx hb dL_all_91 rfl (lv_at hl 0 rfl) ?_
      refine lv_iload hx hb dL_all_92 (lv_at hl 2 rfl) ?_
      refine p_rd (x := zI (pBan σ v)) (vx_runV (As := [.int (nI v)]) (rest := [.long ((pVs σ nG v) * 2)]) ⟨hx, hb, hml, hown, hts⟩ (dr_isBanned l hl9 G E o nC nV nG σ hO (v := v) (by omega)) (cwV 1 hts gL_all_X4_isBanned rfl rfl rfl (by decide +kernel) ⟨Nat.le_of_ble_eq_true rfl, Nat.le_of_ble_eq_true rfl⟩) (x_preV hX hS hW hOE rfl) rfl rfl hl.1 rfl (lv_room (Nat.le_of_ble_eq_true rfl)) dL_all_94 ⟨by show _ ≤ 96; omega, by show _ ≤ 576; omega⟩) hS (fun H locs hW hS => ?_)
      refine x_join (ls' := ls) (rest' := [.long ((pVs σ nG v) * 2)]) 105 (zI (pBan σ v)) (fun v ev => ?_) (fun J => ?_)
      · subst ev
        refine lv_i2l (v := (zI (pBan σ v)).toInt64) hx hb dL_all_105 rfl ?_
        refine lv_ladd hx hb dL_all_106 ?_
        refine lv_ldc2 (v := 13) hx hb hown hk88 dL_all_107 ?_
        refine lv_lmul hx hb dL_all_110 ?_
        refine lv_aload_n hx hb dL_all_111 rfl (lv_at hl 0 rfl) ?_
        refine lv_iload hx hb dL_all_112 (lv_at hl 2 rfl) ?_
        refine p_rd (x := σ 9 v) (vx_runV (As := [.int (nI v)]) (rest := [.long ((((pVs σ nG v) * 2) + ((zI (pBan σ v)).toInt64)) * 13)]) ⟨hx, hb, hml, hown, hts⟩ (dr_endless l hl9 G E o nC nV nG σ hO (v := v) (by omega)) (cwV 1 hts gL_all_X4_endless rfl rfl rfl (by decide +kernel) ⟨Nat.le_of_ble_eq_true rfl, Nat.le_of_ble_eq_true rfl⟩) (x_preV hX hS hW hOE rfl) rfl rfl hl.1 rfl (lv_room (Nat.le_of_ble_eq_true rfl)) dL_all_114 ⟨by show _ ≤ 96; omega, by show _ ≤ 576; omega⟩) hS (fun H locs hW hS => ?_)
        refine lv_i2l (v := (σ 9 v).toInt64) hx hb dL_all_117 rfl ?_
        refine lv_ladd hx hb dL_all_118 ?_
        refine lv_lstore_n (lv' := [(2, .long (((((pVs σ nG v) * 2) + ((zI (pBan σ v)).toInt64)) * 13) + ((σ 9 v).toInt64))), (0, .ref o), (1, .ref ga), (4, .int (nI v))]) hx hb dL_all_119 rfl hl (by decide) rfl (fun ls hl => ?_)
        refine lv_iconst (v := 0) hx hb dL_all_120 (by decide) ?_
        refine lv_istore (lv' := [(5, .int 0), (2, .long (((((pVs σ nG v) * 2) + ((zI (pBan σ v)).toInt64)) * 13) + ((σ 9 v).toInt64))), (0, .ref o), (1, .ref ga), (4, .int (nI v))]) hx hb dL_all_121 hl (by decide) rfl (fun ls hl => ?_)
        refine p_loop 123 6 (fun q => [(0, .ref o), (1, .ref ga), (4, .int (nI v)), (5, .int (nI q)), (2, .long (pPs σ nG v ((((pVs σ nG v) * 2) + ((zI (pBan σ v)).toInt64)) * 13 + ((σ 9 v).toInt64)) q))]) (fun q => True) 5 2 12 (cellsb + 12) (slotsb + 72) ?_ 0 ls _ _ _ _ (by omega) trivial (by omega) (by omega) hW hS (lv_sub hl [2, 3, 4, 0, 1] rfl)
        intro q ls H locs cellsc slotsc hkc hIc hcc hsc hW hS hl ihc
        have hl : lv_has ls 6 [(0, .ref o), (1, .ref ga), (4, .int (nI v)), (5, .int (nI q)), (2, .long (pPs σ nG v ((((pVs σ nG v) * 2) + ((zI (pBan σ v)).toInt64)) * 13 + ((σ 9 v).toInt64)) q))] := hl
        refine lv_iload hx hb dL_all_123 (lv_at hl 3 rfl) ?_
        refine lv_iconst (v := 5) hx hb dL_all_125 (by decide) ?_
        refine lv_icmp_ge (tgt := 151) hx hb dL_all_126 (by decide) (fun c126 => ?_) (fun c126 => ?_)
        · have hqn : 5 = q := Nat.le_antisymm ((nI_leI (a := 5) (by omega) (by omega)).mp c126) hkc
          subst hqn
          refine lv_iinc (v := nI (v + 1)) (lv' := [(4, .int (nI (v + 1))), (0, .ref o), (1, .ref ga), (5, .int (nI 5)), (2, .long (pPs σ nG v ((((pVs σ nG v) * 2) + ((zI (pBan σ v)).toInt64)) * 13 + ((σ 9 v).toInt64)) 5))]) hx hb dL_all_151 hl (k := 2) rfl (nI_1 _) (by decide) rfl (fun ls hl => ?_)
          refine lv_goto (tgt := 78) hx hb dL_all_154 (by decide) ?_
          exact ihb ls _ _ _ _ hk1b trivial (by omega) (by omega) hW hS (lv_sub hl [1, 2, 0, 4] rfl)
        · have hk1c : q < 5 := x_nge (B := 5) c126 (by omega)
          refine lv_lload_n hx hb dL_all_129 rfl (lv_at hl 4 rfl) ?_
          refine lv_ldc2 (v := 41) hx hb hown hk90 dL_all_130 ?_
          refine lv_lmul hx hb dL_all_133 ?_
          refine lv_aload_n hx hb dL_all_134 rfl (lv_at hl 0 rfl) ?_
          refine lv_iload hx hb dL_all_135 (lv_at hl 3 rfl) ?_
          refine lv_iload hx hb dL_all_137 (lv_at hl 2 rfl) ?_
          refine p_rd (x := pPts σ nG v (nI q)) (vx_runV (As := [.int (nI q), .int (nI v)]) (rest := [.long ((pPs σ nG v ((((pVs σ nG v) * 2) + ((zI (pBan σ v)).toInt64)) * 13 + ((σ 9 v).toInt64)) q) * 41)]) ⟨hx, hb, hml, hown, hts⟩ (dr_points l hl9 G E o nC nV nG σ hO (v := v) (p := q) (by omega) (by omega)) (cwV 2 hts gL_all_X4_points rfl rfl rfl (by decide +kernel) ⟨Nat.le_of_ble_eq_true rfl, Nat.le_of_ble_eq_true rfl⟩) (x_preV hX hS hW hOE rfl) rfl rfl hl.1 rfl (lv_room (Nat.le_of_ble_eq_true rfl)) dL_all_139 ⟨by show _ ≤ 96; omega, by show _ ≤ 576; omega⟩) hS (fun H locs hW hS => ?_)
          refine lv_i2l (v := (pPts σ nG v (nI q)).toInt64) hx hb dL_all_142 rfl ?_
          refine lv_ladd hx hb dL_all_143 ?_
          refine lv_lstore_n (lv' := [(2, .long (((pPs σ nG v ((((pVs σ nG v) * 2) + ((zI (pBan σ v)).toInt64)) * 13 + ((σ 9 v).toInt64)) q) * 41) + ((pPts σ nG v (nI q)).toInt64))), (0, .ref o), (1, .ref ga), (4, .int (nI v)), (5, .int (nI q))]) hx hb dL_all_144 rfl hl (by decide) rfl (fun ls hl => ?_)
          refine lv_iinc (v := nI (q + 1)) (lv' := [(5, .int (nI (q + 1))), (2, .long (((pPs σ nG v ((((pVs σ nG v) * 2) + ((zI (pBan σ v)).toInt64)) * 13 + ((σ 9 v).toInt64)) q) * 41) + ((pPts σ nG v (nI q)).toInt64))), (0, .ref o), (1, .ref ga), (4, .int (nI v))]) hx hb dL_all_145 hl (k := 4) rfl (nI_1 _) (by decide) rfl (fun ls hl => ?_)
          refine lv_goto (tgt := 123) hx hb dL_all_148 (by decide) ?_
          exact ihc ls _ _ _ _ hk1c trivial (by omega) (by omega) hW hS (lv_sub hl [2, 3, 4, 0, 1] rfl)
      · refine x_ifz_eq (b := pBan σ v) (tgt := 104) hx hb dL_all_97 (by decide) (fun cz => ?_) (fun cz => ?_)
        · refine lv_iconst (v := 0) hx hb dL_all_104 (by decide) ?_
          exact J _ (by rw [cz]; rfl)
        · refine lv_iconst (v := 1) hx hb dL_all_100 (by decide) ?_
          refine lv_goto (tgt := 105) hx hb dL_all_101 (by decide) ?_
          exact J _ (by rw [cz]; rfl)
  · have hk1a : k < nG := x_nge c12 (by omega)
    refine lv_lload_n hx hb dL_all_15 rfl (lv_at hl 3 rfl) ?_
    refine lv_ldc2 (v := 4) hx hb hown hk80 dL_all_16 ?_
    refine lv_lmul hx hb dL_all_19 ?_
    refine lv_aload_n hx hb dL_all_20 rfl (lv_at hl 0 rfl) ?_
    refine lv_iload hx hb dL_all_21 (lv_at hl 2 rfl) ?_
    refine p_rd (x := σ 15 k) (vx_runV (As := [.int (nI k)]) (rest := [.long ((pGs σ k) * 4)]) ⟨hx, hb, hml, hown, hts⟩ (dr_state l hl9 G E o nC nV nG σ hO (k := k) (by omega)) (cwV 1 hts gL_all_X4_state rfl rfl rfl (by decide +kernel) ⟨Nat.le_of_ble_eq_true rfl, Nat.le_of_ble_eq_true rfl⟩) (x_preV hX hS hW hOE rfl) rfl rfl hl.1 rfl (lv_room (Nat.le_of_ble_eq_true rfl)) dL_all_23 ⟨by show _ ≤ 96; omega, by show _ ≤ 576; omega⟩) hS (fun H locs hW hS => ?_)
    refine lv_i2l (v := (σ 15 k).toInt64) hx hb dL_all_26 rfl ?_
    refine lv_ladd hx hb dL_all_27 ?_
    refine lv_ldc2 (v := 61) hx hb hown hk82 dL_all_28 ?_
    refine lv_lmul hx hb dL_all_31 ?_
    refine lv_aload_n hx hb dL_all_32 rfl (lv_at hl 0 rfl) ?_
    refine lv_iload hx hb dL_all_33 (lv_at hl 2 rfl) ?_
    refine p_rd (x := nI (dN σ k)) (vx_runV (As := [.int (nI k)]) (rest := [.long ((((pGs σ k) * 4) + ((σ 15 k).toInt64)) * 61)]) ⟨hx, hb, hml, hown, hts⟩ (dr_made l hl9 G E o nC nV nG σ hO (k := k) (by omega)) (cwV 1 hts gL_all_X4_made rfl rfl rfl (by decide +kernel) ⟨Nat.le_of_ble_eq_true rfl, Nat.le_of_ble_eq_true rfl⟩) (x_preV hX hS hW hOE rfl) rfl rfl hl.1 rfl (lv_room (Nat.le_of_ble_eq_true rfl)) dL_all_35 ⟨by show _ ≤ 96; omega, by show _ ≤ 576; omega⟩) hS (fun H locs hW hS => ?_)
    refine lv_i2l (v := (nI (dN σ k)).toInt64) hx hb dL_all_38 rfl ?_
    refine lv_ladd hx hb dL_all_39 ?_
    refine lv_ldc2 (v := 1000003) hx hb hown hk84 dL_all_40 ?_
    refine lv_lmul hx hb dL_all_43 ?_
    refine lv_aload_n hx hb dL_all_44 rfl (lv_at hl 0 rfl) ?_
    refine lv_iload hx hb dL_all_45 (lv_at hl 2 rfl) ?_
    refine lv_iconst (v := 0) hx hb dL_all_47 (by decide) ?_
    refine p_rd (x := pPc σ k false) (vx_runV (As := [.int (nI k), .int 0]) (rest := [.long ((((((pGs σ k) * 4) + ((σ 15 k).toInt64)) * 61) + ((nI (dN σ k)).toInt64)) * 1000003)]) ⟨hx, hb, hml, hown, hts⟩ (dr_pieces l hl9 G E o nC nV nG σ hO (k := k) (by omega) false) (cwV 2 hts gL_all_X4_pieces rfl rfl rfl (by decide +kernel) ⟨Nat.le_of_ble_eq_true rfl, Nat.le_of_ble_eq_true rfl⟩) (x_preV hX hS hW hOE rfl) rfl rfl hl.1 rfl (lv_room (Nat.le_of_ble_eq_true rfl)) dL_all_48 ⟨by show _ ≤ 96; omega, by show _ ≤ 576; omega⟩) hS (fun H locs hW hS => ?_)
    refine lv_i2l (v := (pPc σ k false).toInt64) hx hb dL_all_51 rfl ?_
    refine lv_ladd hx hb dL_all_52 ?_
    refine lv_lstore_n (lv' := [(2, .long (((((((pGs σ k) * 4) + ((σ 15 k).toInt64)) * 61) + ((nI (dN σ k)).toInt64)) * 1000003) + ((pPc σ k false).toInt64))), (0, .ref o), (1, .ref ga), (4, .int (nI k))]) hx hb dL_all_53 rfl hl (by decide) rfl (fun ls hl => ?_)
    refine lv_lload_n hx hb dL_all_54 rfl (lv_at hl 0 rfl) ?_
    refine lv_ldc2 (v := 1000003) hx hb hown hk84 dL_all_55 ?_
    refine lv_lmul hx hb dL_all_58 ?_
    refine lv_aload_n hx hb dL_all_59 rfl (lv_at hl 1 rfl) ?_
    refine lv_iload hx hb dL_all_60 (lv_at hl 3 rfl) ?_
    refine lv_iconst (v := 1) hx hb dL_all_62 (by decide) ?_
    refine p_rd (x := pPc σ k true) (vx_runV (As := [.int (nI k), .int 1]) (rest := [.long ((((((((pGs σ k) * 4) + ((σ 15 k).toInt64)) * 61) + ((nI (dN σ k)).toInt64)) * 1000003) + ((pPc σ k false).toInt64)) * 1000003)]) ⟨hx, hb, hml, hown, hts⟩ (dr_pieces l hl9 G E o nC nV nG σ hO (k := k) (by omega) true) (cwV 2 hts gL_all_X4_pieces rfl rfl rfl (by decide +kernel) ⟨Nat.le_of_ble_eq_true rfl, Nat.le_of_ble_eq_true rfl⟩) (x_preV hX hS hW hOE rfl) rfl rfl hl.1 rfl (lv_room (Nat.le_of_ble_eq_true rfl)) dL_all_63 ⟨by show _ ≤ 96; omega, by show _ ≤ 576; omega⟩) hS (fun H locs hW hS => ?_)
    refine lv_i2l (v := (pPc σ k true).toInt64) hx hb dL_all_66 rfl ?_
    refine lv_ladd hx hb dL_all_67 ?_
    refine lv_lstore_n (lv' := [(2, .long (((((((((pGs σ k) * 4) + ((σ 15 k).toInt64)) * 61) + ((nI (dN σ k)).toInt64)) * 1000003) + ((pPc σ k false).toInt64)) * 1000003) + ((pPc σ k true).toInt64))), (0, .ref o), (1, .ref ga), (4, .int (nI k))]) hx hb dL_all_68 rfl hl (by decide) rfl (fun ls hl => ?_)
    refine lv_iinc (v := nI (k + 1)) (lv' := [(4, .int (nI (k + 1))), (2, .long (((((((((pGs σ k) * 4) + ((σ 15 k).toInt64)) * 61) + ((nI (dN σ k)).toInt64)) * 1000003) + ((pPc σ k false).toInt64)) * 1000003) + ((pPc σ k true).toInt64))), (0, .ref o), (1, .ref ga)]) hx hb dL_all_69 hl (k := 3) rfl (nI_1 _) (by decide) rfl (fun ls hl => ?_)
    refine lv_goto (tgt := 7) hx hb dL_all_72 (by decide) ?_
    exact iha ls _ _ _ _ hk1a trivial (by omega) (by omega) hW hS (lv_sub hl [2, 3, 0, 1] rfl)

