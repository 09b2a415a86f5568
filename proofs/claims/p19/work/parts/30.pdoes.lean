/-- which of the three isn't of which -/
def xNc (U : State) : Prop := va_Nc "java/lang/IllegalStateException" "java/lang/IllegalArgumentException" U ∧ va_Nc "java/lang/IllegalArgumentException" "java/lang/IndexOutOfBoundsException" U ∧ va_Nc "java/lang/IllegalStateException" "java/lang/IndexOutOfBoundsException" U
theorem xNc.moved {u U : State} (hvm : u.vm.Alike U.vm) (h : xNc u) : xNc U := ⟨h.1.moved hvm, h.2.1.moved hvm, h.2.2.moved hvm⟩
def xB2 (G : xG) (E : xE) (U : State) : Prop := xB G E U ∧ xNc U
theorem x_blind2 {G : xG} {E : xE} {av : List Value} : FrameBlind (va_Pc av (xB2 G E)) := fun a U g mk h => ⟨h.1, ⟨h.2.1.1.same (U := U.calling g mk a) rfl rfl, h.2.1.2⟩, h.2.2⟩
theorem x_preS2 {s : State} {H : Heap} {locs : List Loc} {G : xG} {E : xE} {As : List Value} (hX : xS G s) (hN : xNc s) (hS : va_S (xA G) s.heap H locs) (hW : xW G E H) : PreS s H (va_Pc As (xB2 G E)) As :=
  ⟨x_blind2, fun U hU hw => ⟨rfl, ⟨hX.go hS hU hw, by rw [hU]; exact hW⟩, hN.moved hw.alike⟩⟩
theorem p_z1 {r : Int32} {b : Bool} (h : r = zI b) (c : ¬ r = 0) : r = 1 := by
  rw [h] at c ⊢
  cases b
  · exact absurd rfl c
  · rfl
theorem p_zb (x : Int32) : (if x = 1 then (1 : Int32) else 0) = zI (decide (x = 1)) := by
  by_cases h : x = 1
  · rw [if_pos h]; unfold zI; rw [if_pos (decide_eq_true h)]
  · rw [if_neg h]; unfold zI; rw [if_neg (by rw [decide_eq_true_eq]; exact h)]

set_option maxHeartbeats 4000000 in
set_option maxRecDepth 100000 in
theorem kD_card (l : Launch) (hl9 : l.stackTraces = false) (G : xG) (E : xE) (o : Nat) (a0 a1 a2 a3 a4 : Int32) (nC nV nG : Nat) (σ : xSg) (hO : pOb G E o σ nC nV nG) : vx_Met l yL_does wsL_does ({ frames := 9, cells := 5, slots := 88, locals := 260 }) (va_Pc [.ref o, .int 0, .int a0, .int a1, .int a2, .int a3, .int a4] (xB G E)) (va_Qi (S := xE) (d_card G E o a0 a1 a2 a3 nC nV nG σ) (fun E' t => xW G E' t.heap) (xA G)) (xX G E (fun n => xEx n (tX4_card nC a0 a1 a2 a3))) 5 88 (xA G) := by
  refine vx_ofW (cc := cL_does) (maxL := 7) (ret := (some .int)) (by decide) rfl ?_
  intro p e s m args below meth c s₁ B hml hno hv
  obtain ⟨rfl, hX, hW⟩ := hv
  have hx := B.exec
  have hb := B.bytes
  have hr := B.returns
  have hts := atoms_spec (ws := wsL_does) B.pre
  have hown : s.vm.findClass RL = some m.cls := findClass_of_methodNamed B.named
  have hlocks := B.notSynchronized
  have hS : va_S (xA G) s.heap s.heap [] := va_S.rf
  obtain ⟨fs, hOE⟩ := hO.at
  have hl := lv_entry ([.ref o, .int 0, .int a0, .int a1, .int a2, .int a3, .int a4]) (n := 7) (Nat.le_of_ble_eq_true rfl)
  rw [lg_entry_eq]
  generalize (lg_sl ([.ref o, .int 0, .int a0, .int a1, .int a2, .int a3, .int a4]) ++ List.replicate (7 - (lg_sl ([.ref o, .int 0, .int a0, .int a1, .int a2, .int a3, .int a4])).length) Slot.unset).toArray = ls at hl ⊢
  have hl : lv_has ls 7 [(0, .ref o), (1, .int 0), (2, .int a0), (3, .int a1), (4, .int a2), (5, .int a3), (6, .int a4)] := hl
  obtain ⟨H, hH⟩ : ∃ z, z = s.heap := ⟨_, rfl⟩
  rw [← hH] at hW
  have hS : va_S (xA G) s.heap H [] := by rw [hH]; exact hS
  rw [← hH]
  refine lv_iload_n hx hb dL_does_0 rfl (lv_at hl 1 rfl) ?_
  refine lv_tableIn hx hb (tgt := 76) dL_does_1 (by decide) (by decide) (show _ = some (75 : Int) from rfl) (by decide) ?_
  refine lv_aload_n hx hb dL_does_76 rfl (lv_at hl 0 rfl) ?_
  refine lv_iload_n hx hb dL_does_77 rfl (lv_at hl 2 rfl) ?_
  refine lv_iload_n hx hb dL_does_78 rfl (lv_at hl 3 rfl) ?_
  refine lv_iload hx hb dL_does_79 (lv_at hl 4 rfl) ?_
  refine lv_iload hx hb dL_does_81 (lv_at hl 5 rfl) ?_
  refine vx_calli (vx_runV (As := [.int a0, .int a1, .int a2, .int a3]) (rest := []) ⟨hx, hb, hml, hown, hts⟩ (k_card l hl9 G E o a0 a1 a2 a3 nC nV nG σ hO) (cwV 4 hts gL_does_X4_card rfl rfl rfl (by decide +kernel) ⟨Nat.le_of_ble_eq_true rfl, Nat.le_of_ble_eq_true rfl⟩) (x_preV hX hS hW hOE rfl) rfl rfl hl.1 rfl (lv_room (Nat.le_of_ble_eq_true rfl)) dL_does_83 ⟨Nat.le_of_ble_eq_true rfl, Nat.le_of_ble_eq_true rfl⟩) hS (fun _ _ h => h) (fun _ h => h) (fun _ _ h => h) (fun Ex ce q9 ux t H1 locs1 ht hvm hpx hB hz1 hk1 hS1 hce hcv hcl => ?_) (fun r1 E1 t H1 locs1 ht hvm hw hB hz1 hk1 hS1 => ?_)
  · obtain ⟨hpx, hB⟩ := hB
    rw [ht] at hB
    exact vx_widen (k := 5) (n := 88) (Nat.le_of_ble_eq_true rfl) (Nat.le_of_ble_eq_true rfl) (vx_out (fun x hx9 => (hno x hx9).elim) hlocks hce hcv hcl (fun t9 ht9 hv9 => ⟨(), trivial, ⟨hpx, by rw [ht9]; exact hB⟩, hS1.F ht9⟩) hS1.2.2 (Nat.le_refl _) (Nat.le_refl _))
  · rw [ht] at hB
    have hS := hS1
    exact vx_ret (W.widen (k := 5) (n := 88) (Nat.le_of_ble_eq_true rfl) (Nat.le_of_ble_eq_true rfl) (W.iret (v := r1) hx hb hr (fun t ht hw9 => ⟨⟨_, E1, rfl, hw, (show xW G E1 t.heap from by rw [ht]; exact hB)⟩, hS.F ht⟩) hS.2.2 dL_does_86))
set_option maxHeartbeats 4000000 in
set_option maxRecDepth 100000 in
theorem kD_variant (l : Launch) (hl9 : l.stackTraces = false) (G : xG) (E : xE) (o : Nat) (a0 a1 a2 a3 a4 : Int32) (nC nV nG : Nat) (σ : xSg) (hO : pOb G E o σ nC nV nG) (hZ : σ 8 nV = 0 ∧ σ 9 nV = 0) : vx_Met l yL_does wsL_does ({ frames := 9, cells := 5, slots := 88, locals := 260 }) (va_Pc [.ref o, .int 1, .int a0, .int a1, .int a2, .int a3, .int a4] (xB G E)) (va_Qi (S := xE) (d_variant G E o a0 a1 nC nV nG σ) (fun E' t => xW G E' t.heap) (xA G)) (xX G E (fun n => xEx n (tX4_variant nC nV a0 a1))) 5 88 (xA G) := by
  refine vx_ofW (cc := cL_does) (maxL := 7) (ret := (some .int)) (by decide) rfl ?_
  intro p e s m args below meth c s₁ B hml hno hv
  obtain ⟨rfl, hX, hW⟩ := hv
  have hx := B.exec
  have hb := B.bytes
  have hr := B.returns
  have hts := atoms_spec (ws := wsL_does) B.pre
  have hown : s.vm.findClass RL = some m.cls := findClass_of_methodNamed B.named
  have hlocks := B.notSynchronized
  have hS : va_S (xA G) s.heap s.heap [] := va_S.rf
  obtain ⟨fs, hOE⟩ := hO.at
  have hl := lv_entry ([.ref o, .int 1, .int a0, .int a1, .int a2, .int a3, .int a4]) (n := 7) (Nat.le_of_ble_eq_true rfl)
  rw [lg_entry_eq]
  generalize (lg_sl ([.ref o, .int 1, .int a0, .int a1, .int a2, .int a3, .int a4]) ++ List.replicate (7 - (lg_sl ([.ref o, .int 1, .int a0, .int a1, .int a2, .int a3, .int a4])).length) Slot.unset).toArray = ls at hl ⊢
  have hl : lv_has ls 7 [(0, .ref o), (1, .int 1), (2, .int a0), (3, .int a1), (4, .int a2), (5, .int a3), (6, .int a4)] := hl
  obtain ⟨H, hH⟩ : ∃ z, z = s.heap := ⟨_, rfl⟩
  rw [← hH] at hW
  have hS : va_S (xA G) s.heap H [] := by rw [hH]; exact hS
  rw [← hH]
  refine lv_iload_n hx hb dL_does_0 rfl (lv_at hl 1 rfl) ?_
  refine lv_tableIn hx hb (tgt := 87) dL_does_1 (by decide) (by decide) (show _ = some (86 : Int) from rfl) (by decide) ?_
  refine lv_aload_n hx hb dL_does_87 rfl (lv_at hl 0 rfl) ?_
  refine lv_iload_n hx hb dL_does_88 rfl (lv_at hl 2 rfl) ?_
  refine lv_iload_n hx hb dL_does_89 rfl (lv_at hl 3 rfl) ?_
  refine vx_calli (vx_runV (As := [.int a0, .int a1]) (rest := []) ⟨hx, hb, hml, hown, hts⟩ (k_variant l hl9 G E o a0 a1 nC nV nG σ hO hZ) (cwV 2 hts gL_does_X4_variant rfl rfl rfl (by decide +kernel) ⟨Nat.le_of_ble_eq_true rfl, Nat.le_of_ble_eq_true rfl⟩) (x_preV hX hS hW hOE rfl) rfl rfl hl.1 rfl (lv_room (Nat.le_of_ble_eq_true rfl)) dL_does_90 ⟨Nat.le_of_ble_eq_true rfl, Nat.le_of_ble_eq_true rfl⟩) hS (fun _ _ h => h) (fun _ h => h) (fun _ _ h => h) (fun Ex ce q9 ux t H1 locs1 ht hvm hpx hB hz1 hk1 hS1 hce hcv hcl => ?_) (fun r1 E1 t H1 locs1 ht hvm hw hB hz1 hk1 hS1 => ?_)
  · obtain ⟨hpx, hB⟩ := hB
    rw [ht] at hB
    exact vx_widen (k := 5) (n := 88) (Nat.le_of_ble_eq_true rfl) (Nat.le_of_ble_eq_true rfl) (vx_out (fun x hx9 => (hno x hx9).elim) hlocks hce hcv hcl (fun t9 ht9 hv9 => ⟨(), trivial, ⟨hpx, by rw [ht9]; exact hB⟩, hS1.F ht9⟩) hS1.2.2 (Nat.le_refl _) (Nat.le_refl _))
  · rw [ht] at hB
    have hS := hS1
    exact vx_ret (W.widen (k := 5) (n := 88) (Nat.le_of_ble_eq_true rfl) (Nat.le_of_ble_eq_true rfl) (W.iret (v := r1) hx hb hr (fun t ht hw9 => ⟨⟨_, E1, rfl, hw, (show xW G E1 t.heap from by rw [ht]; exact hB)⟩, hS.F ht⟩) hS.2.2 dL_does_93))
set_option maxHeartbeats 4000000 in
set_option maxRecDepth 100000 in
theorem kD_setCards (l : Launch) (hl9 : l.stackTraces = false) (G : xG) (E : xE) (o : Nat) (a0 a1 a2 a3 a4 : Int32) (nC nV nG : Nat) (σ : xSg) (hO : pOb G E o σ nC nV nG) : vx_Met l yL_does wsL_does ({ frames := 9, cells := 5, slots := 88, locals := 260 }) (va_Pc [.ref o, .int 2, .int a0, .int a1, .int a2, .int a3, .int a4] (xB G E)) (va_Qi (S := xE) (d_setCards G E o a0 a1 nC nV nG σ) (fun E' t => xW G E' t.heap) (xA G)) (xX G E (fun n => xEx n (tX4_setCards nC nV a0 a1))) 5 88 (xA G) := by
  refine vx_ofW (cc := cL_does) (maxL := 7) (ret := (some .int)) (by decide) rfl ?_
  intro p e s m args below meth c s₁ B hml hno hv
  obtain ⟨rfl, hX, hW⟩ := hv
  have hx := B.exec
  have hb := B.bytes
  have hr := B.returns
  have hts := atoms_spec (ws := wsL_does) B.pre
  have hown : s.vm.findClass RL = some m.cls := findClass_of_methodNamed B.named
  have hlocks := B.notSynchronized
  have hS : va_S (xA G) s.heap s.heap [] := va_S.rf
  obtain ⟨fs, hOE⟩ := hO.at
  have hl := lv_entry ([.ref o, .int 2, .int a0, .int a1, .int a2, .int a3, .int a4]) (n := 7) (Nat.le_of_ble_eq_true rfl)
  rw [lg_entry_eq]
  generalize (lg_sl ([.ref o, .int 2, .int a0, .int a1, .int a2, .int a3, .int a4]) ++ List.replicate (7 - (lg_sl ([.ref o, .int 2, .int a0, .int a1, .int a2, .int a3, .int a4])).length) Slot.unset).toArray = ls at hl ⊢
  have hl : lv_has ls 7 [(0, .ref o), (1, .int 2), (2, .int a0), (3, .int a1), (4, .int a2), (5, .int a3), (6, .int a4)] := hl
  obtain ⟨H, hH⟩ : ∃ z, z = s.heap := ⟨_, rfl⟩
  rw [← hH] at hW
  have hS : va_S (xA G) s.heap H [] := by rw [hH]; exact hS
  rw [← hH]
  refine lv_iload_n hx hb dL_does_0 rfl (lv_at hl 1 rfl) ?_
  refine lv_tableIn hx hb (tgt := 94) dL_does_1 (by decide) (by decide) (show _ = some (93 : Int) from rfl) (by decide) ?_
  refine lv_aload_n hx hb dL_does_94 rfl (lv_at hl 0 rfl) ?_
  refine lv_iload_n hx hb dL_does_95 rfl (lv_at hl 2 rfl) ?_
  refine lv_iload_n hx hb dL_does_96 rfl (lv_at hl 3 rfl) ?_
  refine vx_calli (vx_runV (As := [.int a0, .int a1]) (rest := []) ⟨hx, hb, hml, hown, hts⟩ (k_setCards l hl9 G E o a0 a1 nC nV nG σ hO) (cwV 2 hts gL_does_X4_setCards rfl rfl rfl (by decide +kernel) ⟨Nat.le_of_ble_eq_true rfl, Nat.le_of_ble_eq_true rfl⟩) (x_preV hX hS hW hOE rfl) rfl rfl hl.1 rfl (lv_room (Nat.le_of_ble_eq_true rfl)) dL_does_97 ⟨Nat.le_of_ble_eq_true rfl, Nat.le_of_ble_eq_true rfl⟩) hS (fun _ _ h => h) (fun _ h => h) (fun _ _ h => h) (fun Ex ce q9 ux t H1 locs1 ht hvm hpx hB hz1 hk1 hS1 hce hcv hcl => ?_) (fun r1 E1 t H1 locs1 ht hvm hw hB hz1 hk1 hS1 => ?_)
  · obtain ⟨hpx, hB⟩ := hB
    rw [ht] at hB
    exact vx_widen (k := 5) (n := 88) (Nat.le_of_ble_eq_true rfl) (Nat.le_of_ble_eq_true rfl) (vx_out (fun x hx9 => (hno x hx9).elim) hlocks hce hcv hcl (fun t9 ht9 hv9 => ⟨(), trivial, ⟨hpx, by rw [ht9]; exact hB⟩, hS1.F ht9⟩) hS1.2.2 (Nat.le_refl _) (Nat.le_refl _))
  · rw [ht] at hB
    have hS := hS1
    exact vx_ret (W.widen (k := 5) (n := 88) (Nat.le_of_ble_eq_true rfl) (Nat.le_of_ble_eq_true rfl) (W.iret (v := r1) hx hb hr (fun t ht hw9 => ⟨⟨_, E1, rfl, hw, (show xW G E1 t.heap from by rw [ht]; exact hB)⟩, hS.F ht⟩) hS.2.2 dL_does_100))
set_option maxHeartbeats 4000000 in
set_option maxRecDepth 100000 in
theorem kD_begin (l : Launch) (hl9 : l.stackTraces = false) (G : xG) (E : xE) (o : Nat) (a0 a1 a2 a3 a4 : Int32) (nC nV nG : Nat) (σ : xSg) (hO : pOb G E o σ nC nV nG) : vx_Met l yL_does wsL_does ({ frames := 9, cells := 5, slots := 88, locals := 260 }) (va_Pc [.ref o, .int 3, .int a0, .int a1, .int a2, .int a3, .int a4] (xB G E)) (va_Qi (S := xE) (d_begin G E o a0 a1 a2 a3 a4 nC nV nG σ) (fun E' t => xW G E' t.heap) (xA G)) (xX G E (fun n => xEx n (tX4_begin σ nC nV nG (a0.toNatClampNeg) a0 a1 a2 a3 a4))) 5 88 (xA G) := by
  refine vx_ofW (cc := cL_does) (maxL := 7) (ret := (some .int)) (by decide) rfl ?_
  intro p e s m args below meth c s₁ B hml hno hv
  obtain ⟨rfl, hX, hW⟩ := hv
  have hx := B.exec
  have hb := B.bytes
  have hr := B.returns
  have hts := atoms_spec (ws := wsL_does) B.pre
  have hown : s.vm.findClass RL = some m.cls := findClass_of_methodNamed B.named
  have hlocks := B.notSynchronized
  have hS : va_S (xA G) s.heap s.heap [] := va_S.rf
  obtain ⟨fs, hOE⟩ := hO.at
  have hl := lv_entry ([.ref o, .int 3, .int a0, .int a1, .int a2, .int a3, .int a4]) (n := 7) (Nat.le_of_ble_eq_true rfl)
  rw [lg_entry_eq]
  generalize (lg_sl ([.ref o, .int 3, .int a0, .int a1, .int a2, .int a3, .int a4]) ++ List.replicate (7 - (lg_sl ([.ref o, .int 3, .int a0, .int a1, .int a2, .int a3, .int a4])).length) Slot.unset).toArray = ls at hl ⊢
  have hl : lv_has ls 7 [(0, .ref o), (1, .int 3), (2, .int a0), (3, .int a1), (4, .int a2), (5, .int a3), (6, .int a4)] := hl
  obtain ⟨H, hH⟩ : ∃ z, z = s.heap := ⟨_, rfl⟩
  rw [← hH] at hW
  have hS : va_S (xA G) s.heap H [] := by rw [hH]; exact hS
  rw [← hH]
  refine lv_iload_n hx hb dL_does_0 rfl (lv_at hl 1 rfl) ?_
  refine lv_tableIn hx hb (tgt := 101) dL_does_1 (by decide) (by decide) (show _ = some (100 : Int) from rfl) (by decide) ?_
  refine lv_aload_n hx hb dL_does_101 rfl (lv_at hl 0 rfl) ?_
  refine lv_iload_n hx hb dL_does_102 rfl (lv_at hl 2 rfl) ?_
  refine lv_iload_n hx hb dL_does_103 rfl (lv_at hl 3 rfl) ?_
  refine lv_iload hx hb dL_does_104 (lv_at hl 4 rfl) ?_
  refine lv_iload hx hb dL_does_106 (lv_at hl 5 rfl) ?_
  refine lv_iload hx hb dL_does_108 (lv_at hl 6 rfl) ?_
  refine vx_calli (vx_runV (As := [.int a0, .int a1, .int a2, .int a3, .int a4]) (rest := []) ⟨hx, hb, hml, hown, hts⟩ (k_begin l hl9 G E o a0 a1 a2 a3 a4 nC nV nG σ hO) (cwV 5 hts gL_does_X4_begin rfl rfl rfl (by decide +kernel) ⟨Nat.le_of_ble_eq_true rfl, Nat.le_of_ble_eq_true rfl⟩) (x_preV hX hS hW hOE rfl) rfl rfl hl.1 rfl (lv_room (Nat.le_of_ble_eq_true rfl)) dL_does_110 ⟨Nat.le_of_ble_eq_true rfl, Nat.le_of_ble_eq_true rfl⟩) hS (fun _ _ h => h) (fun _ h => h) (fun _ _ h => h) (fun Ex ce q9 ux t H1 locs1 ht hvm hpx hB hz1 hk1 hS1 hce hcv hcl => ?_) (fun r1 E1 t H1 locs1 ht hvm hw hB hz1 hk1 hS1 => ?_)
  · obtain ⟨hpx, hB⟩ := hB
    rw [ht] at hB
    exact vx_widen (k := 5) (n := 88) (Nat.le_of_ble_eq_true rfl) (Nat.le_of_ble_eq_true rfl) (vx_out (fun x hx9 => (hno x hx9).elim) hlocks hce hcv hcl (fun t9 ht9 hv9 => ⟨(), trivial, ⟨hpx, by rw [ht9]; exact hB⟩, hS1.F ht9⟩) hS1.2.2 (Nat.le_refl _) (Nat.le_refl _))
  · rw [ht] at hB
    have hS := hS1
    exact vx_ret (W.widen (k := 5) (n := 88) (Nat.le_of_ble_eq_true rfl) (Nat.le_of_ble_eq_true rfl) (W.iret (v := r1) hx hb hr (fun t ht hw9 => ⟨⟨_, E1, rfl, hw, (show xW G E1 t.heap from by rw [ht]; exact hB)⟩, hS.F ht⟩) hS.2.2 dL_does_113))
set_option maxHeartbeats 4000000 in
set_option maxRecDepth 100000 in
theorem kD_can (l : Launch) (hl9 : l.stackTraces = false) (G : xG) (E : xE) (o : Nat) (a0 a1 a2 a3 a4 : Int32) (nC nV nG : Nat) (σ : xSg) (hO : pOb G E o σ nC nV nG) : vx_Met l yL_does wsL_does ({ frames := 9, cells := 5, slots := 88, locals := 260 }) (va_Pc [.ref o, .int 4, .int a0, .int a1, .int a2, .int a3, .int a4] (xB G E)) (va_Qi (S := xE) (d_can G E o a0 a1 a2 nC nV nG σ) (fun E' t => xW G E' t.heap) (xA G)) (xX G E (fun n => xEx n (tX4_can nG a0 a1 a2))) 5 88 (xA G) := by
  refine vx_ofW (cc := cL_does) (maxL := 7) (ret := (some .int)) (by decide) rfl ?_
  intro p e s m args below meth c s₁ B hml hno hv
  obtain ⟨rfl, hX, hW⟩ := hv
  have hx := B.exec
  have hb := B.bytes
  have hr := B.returns
  have hts := atoms_spec (ws := wsL_does) B.pre
  have hown : s.vm.findClass RL = some m.cls := findClass_of_methodNamed B.named
  have hlocks := B.notSynchronized
  have hS : va_S (xA G) s.heap s.heap [] := va_S.rf
  obtain ⟨fs, hOE⟩ := hO.at
  have hl := lv_entry ([.ref o, .int 4, .int a0, .int a1, .int a2, .int a3, .int a4]) (n := 7) (Nat.le_of_ble_eq_true rfl)
  rw [lg_entry_eq]
  generalize (lg_sl ([.ref o, .int 4, .int a0, .int a1, .int a2, .int a3, .int a4]) ++ List.replicate (7 - (lg_sl ([.ref o, .int 4, .int a0, .int a1, .int a2, .int a3, .int a4])).length) Slot.unset).toArray = ls at hl ⊢
  have hl : lv_has ls 7 [(0, .ref o), (1, .int 4), (2, .int a0), (3, .int a1), (4, .int a2), (5, .int a3), (6, .int a4)] := hl
  obtain ⟨H, hH⟩ : ∃ z, z = s.heap := ⟨_, rfl⟩
  rw [← hH] at hW
  have hS : va_S (xA G) s.heap H [] := by rw [hH]; exact hS
  rw [← hH]
  refine lv_iload_n hx hb dL_does_0 rfl (lv_at hl 1 rfl) ?_
  refine lv_tableIn hx hb (tgt := 114) dL_does_1 (by decide) (by decide) (show _ = some (113 : Int) from rfl) (by decide) ?_
  refine lv_aload_n hx hb dL_does_114 rfl (lv_at hl 0 rfl) ?_
  refine lv_iload_n hx hb dL_does_115 rfl (lv_at hl 2 rfl) ?_
  refine lv_iload_n hx hb dL_does_116 rfl (lv_at hl 3 rfl) ?_
  refine lv_iload hx hb dL_does_117 (lv_at hl 4 rfl) ?_
  refine vx_calli (vx_runV (As := [.int a0, .int a1, .int a2]) (rest := []) ⟨hx, hb, hml, hown, hts⟩ (k_can l hl9 G E o a0 a1 a2 nC nV nG σ hO) (cwV 3 hts gL_does_X4_can rfl rfl rfl (by decide +kernel) ⟨Nat.le_of_ble_eq_true rfl, Nat.le_of_ble_eq_true rfl⟩) (x_preV hX hS hW hOE rfl) rfl rfl hl.1 rfl (lv_room (Nat.le_of_ble_eq_true rfl)) dL_does_119 ⟨Nat.le_of_ble_eq_true rfl, Nat.le_of_ble_eq_true rfl⟩) hS (fun _ _ h => h) (fun _ h => h) (fun _ _ h => h) (fun Ex ce q9 ux t H1 locs1 ht hvm hpx hB hz1 hk1 hS1 hce hcv hcl => ?_) (fun r1 E1 t H1 locs1 ht hvm hw hB hz1 hk1 hS1 => ?_)
  · obtain ⟨hpx, hB⟩ := hB
    rw [ht] at hB
    exact vx_widen (k := 5) (n := 88) (Nat.le_of_ble_eq_true rfl) (Nat.le_of_ble_eq_true rfl) (vx_out (fun x hx9 => (hno x hx9).elim) hlocks hce hcv hcl (fun t9 ht9 hv9 => ⟨(), trivial, ⟨hpx, by rw [ht9]; exact hB⟩, hS1.F ht9⟩) hS1.2.2 (Nat.le_refl _) (Nat.le_refl _))
  · rw [ht] at hB
    have hS := hS1
    refine lv_if_eq (tgt := 129) hx hb dL_does_122 (by decide) (fun c1 => ?_) (fun c1 => ?_)
    · refine lv_iconst (v := 0) hx hb dL_does_129 (by decide) ?_
      exact vx_ret (W.widen (k := 5) (n := 88) (Nat.le_of_ble_eq_true rfl) (Nat.le_of_ble_eq_true rfl) (W.iret (v := 0) hx hb hr (fun t ht hw9 => ⟨⟨_, E1, rfl, (by rw [c1] at hw; exact hw), (show xW G E1 t.heap from by rw [ht]; exact hB)⟩, hS.F ht⟩) hS.2.2 dL_does_130))
    · refine lv_iconst (v := 1) hx hb dL_does_125 (by decide) ?_
      refine lv_goto (tgt := 130) hx hb dL_does_126 (by decide) ?_
      have h1 : r1 = 1 := by obtain ⟨z1, z2, z3⟩ := hw; obtain ⟨u, d, v, q1, q2, q3, q4, q5, q6⟩ := z3; exact p_z1 q6 c1
      exact vx_ret (W.widen (k := 5) (n := 88) (Nat.le_of_ble_eq_true rfl) (Nat.le_of_ble_eq_true rfl) (W.iret (v := 1) hx hb hr (fun t ht hw9 => ⟨⟨_, E1, rfl, (by rw [h1] at hw; exact hw), (show xW G E1 t.heap from by rw [ht]; exact hB)⟩, hS.F ht⟩) hS.2.2 dL_does_130))
set_option maxHeartbeats 4000000 in
set_option maxRecDepth 100000 in
theorem kD_canByAll (l : Launch) (hl9 : l.stackTraces = false) (G : xG) (E : xE) (o : Nat) (a0 a1 a2 a3 a4 : Int32) (nC nV nG : Nat) (σ : xSg) (hO : pOb G E o σ nC nV nG) : vx_Met l yL_does wsL_does ({ frames := 9, cells := 5, slots := 88, locals := 260 }) (va_Pc [.ref o, .int 5, .int a0, .int a1, .int a2, .int a3, .int a4] (xB G E)) (va_Qi (S := xE) (d_canByAll G E o a0 a1 a2 nC nV nG σ) (fun E' t => xW G E' t.heap) (xA G)) (xX G E (fun n => xEx n (tX4_canByAll nG a0 a1 a2))) 5 88 (xA G) := by
  refine vx_ofW (cc := cL_does) (maxL := 7) (ret := (some .int)) (by decide) rfl ?_
  intro p e s m args below meth c s₁ B hml hno hv
  obtain ⟨rfl, hX, hW⟩ := hv
  have hx := B.exec
  have hb := B.bytes
  have hr := B.returns
  have hts := atoms_spec (ws := wsL_does) B.pre
  have hown : s.vm.findClass RL = some m.cls := findClass_of_methodNamed B.named
  have hlocks := B.notSynchronized
  have hS : va_S (xA G) s.heap s.heap [] := va_S.rf
  obtain ⟨fs, hOE⟩ := hO.at
  have hl := lv_entry ([.ref o, .int 5, .int a0, .int a1, .int a2, .int a3, .int a4]) (n := 7) (Nat.le_of_ble_eq_true rfl)
  rw [lg_entry_eq]
  generalize (lg_sl ([.ref o, .int 5, .int a0, .int a1, .int a2, .int a3, .int a4]) ++ List.replicate (7 - (lg_sl ([.ref o, .int 5, .int a0, .int a1, .int a2, .int a3, .int a4])).length) Slot.unset).toArray = ls at hl ⊢
  have hl : lv_has ls 7 [(0, .ref o), (1, .int 5), (2, .int a0), (3, .int a1), (4, .int a2), (5, .int a3), (6, .int a4)] := hl
  obtain ⟨H, hH⟩ : ∃ z, z = s.heap := ⟨_, rfl⟩
  rw [← hH] at hW
  have hS : va_S (xA G) s.heap H [] := by rw [hH]; exact hS
  rw [← hH]
  refine lv_iload_n hx hb dL_does_0 rfl (lv_at hl 1 rfl) ?_
  refine lv_tableIn hx hb (tgt := 131) dL_does_1 (by decide) (by decide) (show _ = some (130 : Int) from rfl) (by decide) ?_
  refine lv_aload_n hx hb dL_does_131 rfl (lv_at hl 0 rfl) ?_
  refine lv_iload_n hx hb dL_does_132 rfl (lv_at hl 2 rfl) ?_
  refine lv_iload_n hx hb dL_does_133 rfl (lv_at hl 3 rfl) ?_
  refine lv_iload hx hb dL_does_134 (lv_at hl 4 rfl) ?_
  refine vx_calli (vx_runV (As := [.int a0, .int a1, .int a2]) (rest := []) ⟨hx, hb, hml, hown, hts⟩ (k_canByAll l hl9 G E o a0 a1 a2 nC nV nG σ hO) (cwV 3 hts gL_does_X4_canByAll rfl rfl rfl (by decide +kernel) ⟨Nat.le_of_ble_eq_true rfl, Nat.le_of_ble_eq_true rfl⟩) (x_preV hX hS hW hOE rfl) rfl rfl hl.1 rfl (lv_room (Nat.le_of_ble_eq_true rfl)) dL_does_136 ⟨Nat.le_of_ble_eq_true rfl, Nat.le_of_ble_eq_true rfl⟩) hS (fun _ _ h => h) (fun _ h => h) (fun _ _ h => h) (fun Ex ce q9 ux t H1 locs1 ht hvm hpx hB hz1 hk1 hS1 hce hcv hcl => ?_) (fun r1 E1 t H1 locs1 ht hvm hw hB hz1 hk1 hS1 => ?_)
  · obtain ⟨hpx, hB⟩ := hB
    rw [ht] at hB
    exact vx_widen (k := 5) (n := 88) (Nat.le_of_ble_eq_true rfl) (Nat.le_of_ble_eq_true rfl) (vx_out (fun x hx9 => (hno x hx9).elim) hlocks hce hcv hcl (fun t9 ht9 hv9 => ⟨(), trivial, ⟨hpx, by rw [ht9]; exact hB⟩, hS1.F ht9⟩) hS1.2.2 (Nat.le_refl _) (Nat.le_refl _))
  · rw [ht] at hB
    have hS := hS1
    refine lv_if_eq (tgt := 146) hx hb dL_does_139 (by decide) (fun c1 => ?_) (fun c1 => ?_)
    · refine lv_iconst (v := 0) hx hb dL_does_146 (by decide) ?_
      exact vx_ret (W.widen (k := 5) (n := 88) (Nat.le_of_ble_eq_true rfl) (Nat.le_of_ble_eq_true rfl) (W.iret (v := 0) hx hb hr (fun t ht hw9 => ⟨⟨_, E1, rfl, (by rw [c1] at hw; exact hw), (show xW G E1 t.heap from by rw [ht]; exact hB)⟩, hS.F ht⟩) hS.2.2 dL_does_147))
    · refine lv_iconst (v := 1) hx hb dL_does_142 (by decide) ?_
      refine lv_goto (tgt := 147) hx hb dL_does_143 (by decide) ?_
      have h1 : r1 = 1 := by obtain ⟨z1, z2, z3⟩ := hw; obtain ⟨u, d, v, q1, q2, q3, q4, q5, q6⟩ := z3; exact p_z1 q6 c1
      exact vx_ret (W.widen (k := 5) (n := 88) (Nat.le_of_ble_eq_true rfl) (Nat.le_of_ble_eq_true rfl) (W.iret (v := 1) hx hb hr (fun t ht hw9 => ⟨⟨_, E1, rfl, (by rw [h1] at hw; exact hw), (show xW G E1 t.heap from by rw [ht]; exact hB)⟩, hS.F ht⟩) hS.2.2 dL_does_147))
set_option maxHeartbeats 4000000 in
set_option maxRecDepth 100000 in
theorem kD_move (l : Launch) (hl9 : l.stackTraces = false) (G : xG) (E : xE) (o : Nat) (a0 a1 a2 a3 a4 : Int32) (nC nV nG : Nat) (σ : xSg) (hO : pOb G E o σ nC nV nG) : vx_Met l yL_does wsL_does ({ frames := 9, cells := 5, slots := 88, locals := 260 }) (va_Pc [.ref o, .int 6, .int a0, .int a1, .int a2, .int a3, .int a4] (xB G E)) (va_Qi (S := xE) (d_move G E o a0 a1 a2 nC nV nG σ) (fun E' t => xW G E' t.heap) (xA G)) (xX G E (fun n => xEx n (tX4_move σ nC nG (a0.toNatClampNeg) ((σ 16 a0.toNatClampNeg).toNatClampNeg) ((σ 11 a0.toNatClampNeg).toNatClampNeg) a0 a1 a2))) 5 88 (xA G) := by
  refine vx_ofW (cc := cL_does) (maxL := 7) (ret := (some .int)) (by decide) rfl ?_
  intro p e s m args below meth c s₁ B hml hno hv
  obtain ⟨rfl, hX, hW⟩ := hv
  have hx := B.exec
  have hb := B.bytes
  have hr := B.returns
  have hts := atoms_spec (ws := wsL_does) B.pre
  have hown : s.vm.findClass RL = some m.cls := findClass_of_methodNamed B.named
  have hlocks := B.notSynchronized
  have hS : va_S (xA G) s.heap s.heap [] := va_S.rf
  obtain ⟨fs, hOE⟩ := hO.at
  have hl := lv_entry ([.ref o, .int 6, .int a0, .int a1, .int a2, .int a3, .int a4]) (n := 7) (Nat.le_of_ble_eq_true rfl)
  rw [lg_entry_eq]
  generalize (lg_sl ([.ref o, .int 6, .int a0, .int a1, .int a2, .int a3, .int a4]) ++ List.replicate (7 - (lg_sl ([.ref o, .int 6, .int a0, .int a1, .int a2, .int a3, .int a4])).length) Slot.unset).toArray = ls at hl ⊢
  have hl : lv_has ls 7 [(0, .ref o), (1, .int 6), (2, .int a0), (3, .int a1), (4, .int a2), (5, .int a3), (6, .int a4)] := hl
  obtain ⟨H, hH⟩ : ∃ z, z = s.heap := ⟨_, rfl⟩
  rw [← hH] at hW
  have hS : va_S (xA G) s.heap H [] := by rw [hH]; exact hS
  rw [← hH]
  refine lv_iload_n hx hb dL_does_0 rfl (lv_at hl 1 rfl) ?_
  refine lv_tableIn hx hb (tgt := 148) dL_does_1 (by decide) (by decide) (show _ = some (147 : Int) from rfl) (by decide) ?_
  refine lv_aload_n hx hb dL_does_148 rfl (lv_at hl 0 rfl) ?_
  refine lv_iload_n hx hb dL_does_149 rfl (lv_at hl 2 rfl) ?_
  refine lv_iload_n hx hb dL_does_150 rfl (lv_at hl 3 rfl) ?_
  refine lv_iload hx hb dL_does_151 (lv_at hl 4 rfl) ?_
  refine vx_calli (vx_runV (As := [.int a0, .int a1, .int a2]) (rest := []) ⟨hx, hb, hml, hown, hts⟩ (k_move l hl9 G E o a0 a1 a2 nC nV nG σ hO) (cwV 3 hts gL_does_X4_move rfl rfl rfl (by decide +kernel) ⟨Nat.le_of_ble_eq_true rfl, Nat.le_of_ble_eq_true rfl⟩) (x_preV hX hS hW hOE rfl) rfl rfl hl.1 rfl (lv_room (Nat.le_of_ble_eq_true rfl)) dL_does_153 ⟨Nat.le_of_ble_eq_true rfl, Nat.le_of_ble_eq_true rfl⟩) hS (fun _ _ h => h) (fun _ h => h) (fun _ _ h => h) (fun Ex ce q9 ux t H1 locs1 ht hvm hpx hB hz1 hk1 hS1 hce hcv hcl => ?_) (fun r1 E1 t H1 locs1 ht hvm hw hB hz1 hk1 hS1 => ?_)
  · obtain ⟨hpx, hB⟩ := hB
    rw [ht] at hB
    exact vx_widen (k := 5) (n := 88) (Nat.le_of_ble_eq_true rfl) (Nat.le_of_ble_eq_true rfl) (vx_out (fun x hx9 => (hno x hx9).elim) hlocks hce hcv hcl (fun t9 ht9 hv9 => ⟨(), trivial, ⟨hpx, by rw [ht9]; exact hB⟩, hS1.F ht9⟩) hS1.2.2 (Nat.le_refl _) (Nat.le_refl _))
  · rw [ht] at hB
    have hS := hS1
    exact vx_ret (W.widen (k := 5) (n := 88) (Nat.le_of_ble_eq_true rfl) (Nat.le_of_ble_eq_true rfl) (W.iret (v := r1) hx hb hr (fun t ht hw9 => ⟨⟨_, E1, rfl, hw, (show xW G E1 t.heap from by rw [ht]; exact hB)⟩, hS.F ht⟩) hS.2.2 dL_does_156))
set_option maxHeartbeats 4000000 in
set_option maxRecDepth 100000 in
theorem kD_state (l : Launch) (hl9 : l.stackTraces = false) (G : xG) (E : xE) (o : Nat) (a0 a1 a2 a3 a4 : Int32) (nC nV nG : Nat) (σ : xSg) (hO : pOb G E o σ nC nV nG) : vx_Met l yL_does wsL_does ({ frames := 9, cells := 5, slots := 88, locals := 260 }) (va_Pc [.ref o, .int 7, .int a0, .int a1, .int a2, .int a3, .int a4] (xB G E)) (va_Qi (S := xE) (d_state G E o a0 nC nV nG σ) (fun E' t => xW G E' t.heap) (xA G)) (xX G E (fun n => xEx n (tX4_state nG a0))) 5 88 (xA G) := by
  refine vx_ofW (cc := cL_does) (maxL := 7) (ret := (some .int)) (by decide) rfl ?_
  intro p e s m args below meth c s₁ B hml hno hv
  obtain ⟨rfl, hX, hW⟩ := hv
  have hx := B.exec
  have hb := B.bytes
  have hr := B.returns
  have hts := atoms_spec (ws := wsL_does) B.pre
  have hown : s.vm.findClass RL = some m.cls := findClass_of_methodNamed B.named
  have hlocks := B.notSynchronized
  have hS : va_S (xA G) s.heap s.heap [] := va_S.rf
  obtain ⟨fs, hOE⟩ := hO.at
  have hl := lv_entry ([.ref o, .int 7, .int a0, .int a1, .int a2, .int a3, .int a4]) (n := 7) (Nat.le_of_ble_eq_true rfl)
  rw [lg_entry_eq]
  generalize (lg_sl ([.ref o, .int 7, .int a0, .int a1, .int a2, .int a3, .int a4]) ++ List.replicate (7 - (lg_sl ([.ref o, .int 7, .int a0, .int a1, .int a2, .int a3, .int a4])).length) Slot.unset).toArray = ls at hl ⊢
  have hl : lv_has ls 7 [(0, .ref o), (1, .int 7), (2, .int a0), (3, .int a1), (4, .int a2), (5, .int a3), (6, .int a4)] := hl
  obtain ⟨H, hH⟩ : ∃ z, z = s.heap := ⟨_, rfl⟩
  rw [← hH] at hW
  have hS : va_S (xA G) s.heap H [] := by rw [hH]; exact hS
  rw [← hH]
  refine lv_iload_n hx hb dL_does_0 rfl (lv_at hl 1 rfl) ?_
  refine lv_tableIn hx hb (tgt := 157) dL_does_1 (by decide) (by decide) (show _ = some (156 : Int) from rfl) (by decide) ?_
  refine lv_aload_n hx hb dL_does_157 rfl (lv_at hl 0 rfl) ?_
  refine lv_iload_n hx hb dL_does_158 rfl (lv_at hl 2 rfl) ?_
  refine vx_calli (vx_runV (As := [.int a0]) (rest := []) ⟨hx, hb, hml, hown, hts⟩ (k_state l hl9 G E o a0 nC nV nG σ hO) (cwV 1 hts gL_does_X4_state rfl rfl rfl (by decide +kernel) ⟨Nat.le_of_ble_eq_true rfl, Nat.le_of_ble_eq_true rfl⟩) (x_preV hX hS hW hOE rfl) rfl rfl hl.1 rfl (lv_room (Nat.le_of_ble_eq_true rfl)) dL_does_159 ⟨Nat.le_of_ble_eq_true rfl, Nat.le_of_ble_eq_true rfl⟩) hS (fun _ _ h => h) (fun _ h => h) (fun _ _ h => h) (fun Ex ce q9 ux t H1 locs1 ht hvm hpx hB hz1 hk1 hS1 hce hcv hcl => ?_) (fun r1 E1 t H1 locs1 ht hvm hw hB hz1 hk1 hS1 => ?_)
  · obtain ⟨hpx, hB⟩ := hB
    rw [ht] at hB
    exact vx_widen (k := 5) (n := 88) (Nat.le_of_ble_eq_true rfl) (Nat.le_of_ble_eq_true rfl) (vx_out (fun x hx9 => (hno x hx9).elim) hlocks hce hcv hcl (fun t9 ht9 hv9 => ⟨(), trivial, ⟨hpx, by rw [ht9]; exact hB⟩, hS1.F ht9⟩) hS1.2.2 (Nat.le_refl _) (Nat.le_refl _))
  · rw [ht] at hB
    have hS := hS1
    exact vx_ret (W.widen (k := 5) (n := 88) (Nat.le_of_ble_eq_true rfl) (Nat.le_of_ble_eq_true rfl) (W.iret (v := r1) hx hb hr (fun t ht hw9 => ⟨⟨_, E1, rfl, hw, (show xW G E1 t.heap from by rw [ht]; exact hB)⟩, hS.F ht⟩) hS.2.2 dL_does_162))
set_option maxHeartbeats 4000000 in
set_option maxRecDepth 100000 in
theorem kD_value (l : Launch) (hl9 : l.stackTraces = false) (G : xG) (E : xE) (o : Nat) (a0 a1 a2 a3 a4 : Int32) (nC nV nG : Nat) (σ : xSg) (hO : pOb G E o σ nC nV nG) : vx_Met l yL_does wsL_does ({ frames := 9, cells := 5, slots := 88, locals := 260 }) (va_Pc [.ref o, .int 10, .int a0, .int a1, .int a2, .int a3, .int a4] (xB G E)) (va_Qi (S := xE) (d_value G E o a0 a1 nC nV nG σ) (fun E' t => xW G E' t.heap) (xA G)) (xX G E (fun n => xEx n (tX4_value nG a0 a1))) 5 88 (xA G) := by
  refine vx_ofW (cc := cL_does) (maxL := 7) (ret := (some .int)) (by decide) rfl ?_
  intro p e s m args below meth c s₁ B hml hno hv
  obtain ⟨rfl, hX, hW⟩ := hv
  have hx := B.exec
  have hb := B.bytes
  have hr := B.returns
  have hts := atoms_spec (ws := wsL_does) B.pre
  have hown : s.vm.findClass RL = some m.cls := findClass_of_methodNamed B.named
  have hlocks := B.notSynchronized
  have hS : va_S (xA G) s.heap s.heap [] := va_S.rf
  obtain ⟨fs, hOE⟩ := hO.at
  have hl := lv_entry ([.ref o, .int 10, .int a0, .int a1, .int a2, .int a3, .int a4]) (n := 7) (Nat.le_of_ble_eq_true rfl)
  rw [lg_entry_eq]
  generalize (lg_sl ([.ref o, .int 10, .int a0, .int a1, .int a2, .int a3, .int a4]) ++ List.replicate (7 - (lg_sl ([.ref o, .int 10, .int a0, .int a1, .int a2, .int a3, .int a4])).length) Slot.unset).toArray = ls at hl ⊢
  have hl : lv_has ls 7 [(0, .ref o), (1, .int 10), (2, .int a0), (3, .int a1), (4, .int a2), (5, .int a3), (6, .int a4)] := hl
  obtain ⟨H, hH⟩ : ∃ z, z = s.heap := ⟨_, rfl⟩
  rw [← hH] at hW
  have hS : va_S (xA G) s.heap H [] := by rw [hH]; exact hS
  rw [← hH]
  refine lv_iload_n hx hb dL_does_0 rfl (lv_at hl 1 rfl) ?_
  refine lv_tableIn hx hb (tgt := 185) dL_does_1 (by decide) (by decide) (show _ = some (184 : Int) from rfl) (by decide) ?_
  refine lv_aload_n hx hb dL_does_185 rfl (lv_at hl 0 rfl) ?_
  refine lv_iload_n hx hb dL_does_186 rfl (lv_at hl 2 rfl) ?_
  refine lv_iload_n hx hb dL_does_187 rfl (lv_at hl 3 rfl) ?_
  refine vx_calli (vx_runV (As := [.int a0, .int a1]) (rest := []) ⟨hx, hb, hml, hown, hts⟩ (k_value l hl9 G E o a0 a1 nC nV nG σ hO) (cwV 2 hts gL_does_X4_value rfl rfl rfl (by decide +kernel) ⟨Nat.le_of_ble_eq_true rfl, Nat.le_of_ble_eq_true rfl⟩) (x_preV hX hS hW hOE rfl) rfl rfl hl.1 rfl (lv_room (Nat.le_of_ble_eq_true rfl)) dL_does_188 ⟨Nat.le_of_ble_eq_true rfl, Nat.le_of_ble_eq_true rfl⟩) hS (fun _ _ h => h) (fun _ h => h) (fun _ _ h => h) (fun Ex ce q9 ux t H1 locs1 ht hvm hpx hB hz1 hk1 hS1 hce hcv hcl => ?_) (fun r1 E1 t H1 locs1 ht hvm hw hB hz1 hk1 hS1 => ?_)
  · obtain ⟨hpx, hB⟩ := hB
    rw [ht] at hB
    exact vx_widen (k := 5) (n := 88) (Nat.le_of_ble_eq_true rfl) (Nat.le_of_ble_eq_true rfl) (vx_out (fun x hx9 => (hno x hx9).elim) hlocks hce hcv hcl (fun t9 ht9 hv9 => ⟨(), trivial, ⟨hpx, by rw [ht9]; exact hB⟩, hS1.F ht9⟩) hS1.2.2 (Nat.le_refl _) (Nat.le_refl _))
  · rw [ht] at hB
    have hS := hS1
    exact vx_ret (W.widen (k := 5) (n := 88) (Nat.le_of_ble_eq_true rfl) (Nat.le_of_ble_eq_true rfl) (W.iret (v := r1) hx hb hr (fun t ht hw9 => ⟨⟨_, E1, rfl, hw, (show xW G E1 t.heap from by rw [ht]; exact hB)⟩, hS.F ht⟩) hS.2.2 dL_does_191))
set_option maxHeartbeats 4000000 in
set_option maxRecDepth 100000 in
theorem kD_valueByAll (l : Launch) (hl9 : l.stackTraces = false) (G : xG) (E : xE) (o : Nat) (a0 a1 a2 a3 a4 : Int32) (nC nV nG : Nat) (σ : xSg) (hO : pOb G E o σ nC nV nG) : vx_Met l yL_does wsL_does ({ frames := 9, cells := 5, slots := 88, locals := 260 }) (va_Pc [.ref o, .int 11, .int a0, .int a1, .int a2, .int a3, .int a4] (xB G E)) (va_Qi (S := xE) (d_valueByAll G E o a0 a1 nC nV nG σ) (fun E' t => xW G E' t.heap) (xA G)) (xX G E (fun n => xEx n (tX4_valueByAll nG a0 a1))) 5 88 (xA G) := by
  refine vx_ofW (cc := cL_does) (maxL := 7) (ret := (some .int)) (by decide) rfl ?_
  intro p e s m args below meth c s₁ B hml hno hv
  obtain ⟨rfl, hX, hW⟩ := hv
  have hx := B.exec
  have hb := B.bytes
  have hr := B.returns
  have hts := atoms_spec (ws := wsL_does) B.pre
  have hown : s.vm.findClass RL = some m.cls := findClass_of_methodNamed B.named
  have hlocks := B.notSynchronized
  have hS : va_S (xA G) s.heap s.heap [] := va_S.rf
  obtain ⟨fs, hOE⟩ := hO.at
  have hl := lv_entry ([.ref o, .int 11, .int a0, .int a1, .int a2, .int a3, .int a4]) (n := 7) (Nat.le_of_ble_eq_true rfl)
  rw [lg_entry_eq]
  generalize (lg_sl ([.ref o, .int 11, .int a0, .int a1, .int a2, .int a3, .int a4]) ++ List.replicate (7 - (lg_sl ([.ref o, .int 11, .int a0, .int a1, .int a2, .int a3, .int a4])).length) Slot.unset).toArray = ls at hl ⊢
  have hl : lv_has ls 7 [(0, .ref o), (1, .int 11), (2, .int a0), (3, .int a1), (4, .int a2), (5, .int a3), (6, .int a4)] := hl
  obtain ⟨H, hH⟩ : ∃ z, z = s.heap := ⟨_, rfl⟩
  rw [← hH] at hW
  have hS : va_S (xA G) s.heap H [] := by rw [hH]; exact hS
  rw [← hH]
  refine lv_iload_n hx hb dL_does_0 rfl (lv_at hl 1 rfl) ?_
  refine lv_tableIn hx hb (tgt := 192) dL_does_1 (by decide) (by decide) (show _ = some (191 : Int) from rfl) (by decide) ?_
  refine lv_aload_n hx hb dL_does_192 rfl (lv_at hl 0 rfl) ?_
  refine lv_iload_n hx hb dL_does_193 rfl (lv_at hl 2 rfl) ?_
  refine lv_iload_n hx hb dL_does_194 rfl (lv_at hl 3 rfl) ?_
  refine vx_calli (vx_runV (As := [.int a0, .int a1]) (rest := []) ⟨hx, hb, hml, hown, hts⟩ (k_valueByAll l hl9 G E o a0 a1 nC nV nG σ hO) (cwV 2 hts gL_does_X4_valueByAll rfl rfl rfl (by decide +kernel) ⟨Nat.le_of_ble_eq_true rfl, Nat.le_of_ble_eq_true rfl⟩) (x_preV hX hS hW hOE rfl) rfl rfl hl.1 rfl (lv_room (Nat.le_of_ble_eq_true rfl)) dL_does_195 ⟨Nat.le_of_ble_eq_true rfl, Nat.le_of_ble_eq_true rfl⟩) hS (fun _ _ h => h) (fun _ h => h) (fun _ _ h => h) (fun Ex ce q9 ux t H1 locs1 ht hvm hpx hB hz1 hk1 hS1 hce hcv hcl => ?_) (fun r1 E1 t H1 locs1 ht hvm hw hB hz1 hk1 hS1 => ?_)
  · obtain ⟨hpx, hB⟩ := hB
    rw [ht] at hB
    exact vx_widen (k := 5) (n := 88) (Nat.le_of_ble_eq_true rfl) (Nat.le_of_ble_eq_true rfl) (vx_out (fun x hx9 => (hno x hx9).elim) hlocks hce hcv hcl (fun t9 ht9 hv9 => ⟨(), trivial, ⟨hpx, by rw [ht9]; exact hB⟩, hS1.F ht9⟩) hS1.2.2 (Nat.le_refl _) (Nat.le_refl _))
  · rw [ht] at hB
    have hS := hS1
    exact vx_ret (W.widen (k := 5) (n := 88) (Nat.le_of_ble_eq_true rfl) (Nat.le_of_ble_eq_true rfl) (W.iret (v := r1) hx hb hr (fun t ht hw9 => ⟨⟨_, E1, rfl, hw, (show xW G E1 t.heap from by rw [ht]; exact hB)⟩, hS.F ht⟩) hS.2.2 dL_does_198))
set_option maxHeartbeats 4000000 in
set_option maxRecDepth 100000 in
theorem kD_vote (l : Launch) (hl9 : l.stackTraces = false) (G : xG) (E : xE) (o : Nat) (a0 a1 a2 a3 a4 : Int32) (nC nV nG : Nat) (σ : xSg) (hO : pOb G E o σ nC nV nG) : vx_Met l yL_does wsL_does ({ frames := 9, cells := 5, slots := 88, locals := 260 }) (va_Pc [.ref o, .int 12, .int a0, .int a1, .int a2, .int a3, .int a4] (xB G E)) (va_Qi (S := xE) (d_vote G E o a0 a1 nC nV nG σ) (fun E' t => xW G E' t.heap) (xA G)) (xX G E (fun n => xEx n (tX4_vote nV a0 a1))) 5 88 (xA G) := by
  refine vx_ofW (cc := cL_does) (maxL := 7) (ret := (some .int)) (by decide) rfl ?_
  intro p e s m args below meth c s₁ B hml hno hv
  obtain ⟨rfl, hX, hW⟩ := hv
  have hx := B.exec
  have hb := B.bytes
  have hr := B.returns
  have hts := atoms_spec (ws := wsL_does) B.pre
  have hown : s.vm.findClass RL = some m.cls := findClass_of_methodNamed B.named
  have hlocks := B.notSynchronized
  have hS : va_S (xA G) s.heap s.heap [] := va_S.rf
  obtain ⟨fs, hOE⟩ := hO.at
  have hl := lv_entry ([.ref o, .int 12, .int a0, .int a1, .int a2, .int a3, .int a4]) (n := 7) (Nat.le_of_ble_eq_true rfl)
  rw [lg_entry_eq]
  generalize (lg_sl ([.ref o, .int 12, .int a0, .int a1, .int a2, .int a3, .int a4]) ++ List.replicate (7 - (lg_sl ([.ref o, .int 12, .int a0, .int a1, .int a2, .int a3, .int a4])).length) Slot.unset).toArray = ls at hl ⊢
  have hl : lv_has ls 7 [(0, .ref o), (1, .int 12), (2, .int a0), (3, .int a1), (4, .int a2), (5, .int a3), (6, .int a4)] := hl
  obtain ⟨H, hH⟩ : ∃ z, z = s.heap := ⟨_, rfl⟩
  rw [← hH] at hW
  have hS : va_S (xA G) s.heap H [] := by rw [hH]; exact hS
  rw [← hH]
  refine lv_iload_n hx hb dL_does_0 rfl (lv_at hl 1 rfl) ?_
  refine lv_tableIn hx hb (tgt := 199) dL_does_1 (by decide) (by decide) (show _ = some (198 : Int) from rfl) (by decide) ?_
  refine lv_aload_n hx hb dL_does_199 rfl (lv_at hl 0 rfl) ?_
  refine lv_iload_n hx hb dL_does_200 rfl (lv_at hl 2 rfl) ?_
  refine lv_iload_n hx hb dL_does_201 rfl (lv_at hl 3 rfl) ?_
  refine vx_calli (vx_runV (As := [.int a0, .int a1]) (rest := []) ⟨hx, hb, hml, hown, hts⟩ (k_vote l hl9 G E o a0 a1 nC nV nG σ hO) (cwV 2 hts gL_does_X4_vote rfl rfl rfl (by decide +kernel) ⟨Nat.le_of_ble_eq_true rfl, Nat.le_of_ble_eq_true rfl⟩) (x_preV hX hS hW hOE rfl) rfl rfl hl.1 rfl (lv_room (Nat.le_of_ble_eq_true rfl)) dL_does_202 ⟨Nat.le_of_ble_eq_true rfl, Nat.le_of_ble_eq_true rfl⟩) hS (fun _ _ h => h) (fun _ h => h) (fun _ _ h => h) (fun Ex ce q9 ux t H1 locs1 ht hvm hpx hB hz1 hk1 hS1 hce hcv hcl => ?_) (fun r1 E1 t H1 locs1 ht hvm hw hB hz1 hk1 hS1 => ?_)
  · obtain ⟨hpx, hB⟩ := hB
    rw [ht] at hB
    exact vx_widen (k := 5) (n := 88) (Nat.le_of_ble_eq_true rfl) (Nat.le_of_ble_eq_true rfl) (vx_out (fun x hx9 => (hno x hx9).elim) hlocks hce hcv hcl (fun t9 ht9 hv9 => ⟨(), trivial, ⟨hpx, by rw [ht9]; exact hB⟩, hS1.F ht9⟩) hS1.2.2 (Nat.le_refl _) (Nat.le_refl _))
  · rw [ht] at hB
    have hS := hS1
    exact vx_ret (W.widen (k := 5) (n := 88) (Nat.le_of_ble_eq_true rfl) (Nat.le_of_ble_eq_true rfl) (W.iret (v := r1) hx hb hr (fun t ht hw9 => ⟨⟨_, E1, rfl, hw, (show xW G E1 t.heap from by rw [ht]; exact hB)⟩, hS.F ht⟩) hS.2.2 dL_does_205))
set_option maxHeartbeats 4000000 in
set_option maxRecDepth 100000 in
theorem kD_isBanned (l : Launch) (hl9 : l.stackTraces = false) (G : xG) (E : xE) (o : Nat) (a0 a1 a2 a3 a4 : Int32) (nC nV nG : Nat) (σ : xSg) (hO : pOb G E o σ nC nV nG) : vx_Met l yL_does wsL_does ({ frames := 9, cells := 5, slots := 88, locals := 260 }) (va_Pc [.ref o, .int 13, .int a0, .int a1, .int a2, .int a3, .int a4] (xB G E)) (va_Qi (S := xE) (d_isBanned G E o a0 nC nV nG σ) (fun E' t => xW G E' t.heap) (xA G)) (xX G E (fun n => xEx n (tX4_isBanned nV a0))) 5 88 (xA G) := by
  refine vx_ofW (cc := cL_does) (maxL := 7) (ret := (some .int)) (by decide) rfl ?_
  intro p e s m args below meth c s₁ B hml hno hv
  obtain ⟨rfl, hX, hW⟩ := hv
  have hx := B.exec
  have hb := B.bytes
  have hr := B.returns
  have hts := atoms_spec (ws := wsL_does) B.pre
  have hown : s.vm.findClass RL = some m.cls := findClass_of_methodNamed B.named
  have hlocks := B.notSynchronized
  have hS : va_S (xA G) s.heap s.heap [] := va_S.rf
  obtain ⟨fs, hOE⟩ := hO.at
  have hl := lv_entry ([.ref o, .int 13, .int a0, .int a1, .int a2, .int a3, .int a4]) (n := 7) (Nat.le_of_ble_eq_true rfl)
  rw [lg_entry_eq]
  generalize (lg_sl ([.ref o, .int 13, .int a0, .int a1, .int a2, .int a3, .int a4]) ++ List.replicate (7 - (lg_sl ([.ref o, .int 13, .int a0, .int a1, .int a2, .int a3, .int a4])).length) Slot.unset).toArray = ls at hl ⊢
  have hl : lv_has ls 7 [(0, .ref o), (1, .int 13), (2, .int a0), (3, .int a1), (4, .int a2), (5, .int a3), (6, .int a4)] := hl
  obtain ⟨H, hH⟩ : ∃ z, z = s.heap := ⟨_, rfl⟩
  rw [← hH] at hW
  have hS : va_S (xA G) s.heap H [] := by rw [hH]; exact hS
  rw [← hH]
  refine lv_iload_n hx hb dL_does_0 rfl (lv_at hl 1 rfl) ?_
  refine lv_tableIn hx hb (tgt := 206) dL_does_1 (by decide) (by decide) (show _ = some (205 : Int) from rfl) (by decide) ?_
  refine lv_aload_n hx hb dL_does_206 rfl (lv_at hl 0 rfl) ?_
  refine lv_iload_n hx hb dL_does_207 rfl (lv_at hl 2 rfl) ?_
  refine vx_calli (vx_runV (As := [.int a0]) (rest := []) ⟨hx, hb, hml, hown, hts⟩ (k_isBanned l hl9 G E o a0 nC nV nG σ hO) (cwV 1 hts gL_does_X4_isBanned rfl rfl rfl (by decide +kernel) ⟨Nat.le_of_ble_eq_true rfl, Nat.le_of_ble_eq_true rfl⟩) (x_preV hX hS hW hOE rfl) rfl rfl hl.1 rfl (lv_room (Nat.le_of_ble_eq_true rfl)) dL_does_208 ⟨Nat.le_of_ble_eq_true rfl, Nat.le_of_ble_eq_true rfl⟩) hS (fun _ _ h => h) (fun _ h => h) (fun _ _ h => h) (fun Ex ce q9 ux t H1 locs1 ht hvm hpx hB hz1 hk1 hS1 hce hcv hcl => ?_) (fun r1 E1 t H1 locs1 ht hvm hw hB hz1 hk1 hS1 => ?_)
  · obtain ⟨hpx, hB⟩ := hB
    rw [ht] at hB
    exact vx_widen (k := 5) (n := 88) (Nat.le_of_ble_eq_true rfl) (Nat.le_of_ble_eq_true rfl) (vx_out (fun x hx9 => (hno x hx9).elim) hlocks hce hcv hcl (fun t9 ht9 hv9 => ⟨(), trivial, ⟨hpx, by rw [ht9]; exact hB⟩, hS1.F ht9⟩) hS1.2.2 (Nat.le_refl _) (Nat.le_refl _))
  · rw [ht] at hB
    have hS := hS1
    refine lv_if_eq (tgt := 218) hx hb dL_does_211 (by decide) (fun c1 => ?_) (fun c1 => ?_)
    · refine lv_iconst (v := 0) hx hb dL_does_218 (by decide) ?_
      exact vx_ret (W.widen (k := 5) (n := 88) (Nat.le_of_ble_eq_true rfl) (Nat.le_of_ble_eq_true rfl) (W.iret (v := 0) hx hb hr (fun t ht hw9 => ⟨⟨_, E1, rfl, (by rw [c1] at hw; exact hw), (show xW G E1 t.heap from by rw [ht]; exact hB)⟩, hS.F ht⟩) hS.2.2 dL_does_219))
    · refine lv_iconst (v := 1) hx hb dL_does_214 (by decide) ?_
      refine lv_goto (tgt := 219) hx hb dL_does_215 (by decide) ?_
      have h1 : r1 = 1 := by obtain ⟨z1, z2, z3⟩ := hw; obtain ⟨v, q1, q2, q6⟩ := z3; exact p_z1 q6 c1
      exact vx_ret (W.widen (k := 5) (n := 88) (Nat.le_of_ble_eq_true rfl) (Nat.le_of_ble_eq_true rfl) (W.iret (v := 1) hx hb hr (fun t ht hw9 => ⟨⟨_, E1, rfl, (by rw [h1] at hw; exact hw), (show xW G E1 t.heap from by rw [ht]; exact hB)⟩, hS.F ht⟩) hS.2.2 dL_does_219))
set_option maxHeartbeats 4000000 in
set_option maxRecDepth 100000 in
theorem kD_endless (l : Launch) (hl9 : l.stackTraces = false) (G : xG) (E : xE) (o : Nat) (a0 a1 a2 a3 a4 : Int32) (nC nV nG : Nat) (σ : xSg) (hO : pOb G E o σ nC nV nG) : vx_Met l yL_does wsL_does ({ frames := 9, cells := 5, slots := 88, locals := 260 }) (va_Pc [.ref o, .int 14, .int a0, .int a1, .int a2, .int a3, .int a4] (xB G E)) (va_Qi (S := xE) (d_endless G E o a0 nC nV nG σ) (fun E' t => xW G E' t.heap) (xA G)) (xX G E (fun n => xEx n (tX4_endless nV a0))) 5 88 (xA G) := by
  refine vx_ofW (cc := cL_does) (maxL := 7) (ret := (some .int)) (by decide) rfl ?_
  intro p e s m args below meth c s₁ B hml hno hv
  obtain ⟨rfl, hX, hW⟩ := hv
  have hx := B.exec
  have hb := B.bytes
  have hr := B.returns
  have hts := atoms_spec (ws := wsL_does) B.pre
  have hown : s.vm.findClass RL = some m.cls := findClass_of_methodNamed B.named
  have hlocks := B.notSynchronized
  have hS : va_S (xA G) s.heap s.heap [] := va_S.rf
  obtain ⟨fs, hOE⟩ := hO.at
  have hl := lv_entry ([.ref o, .int 14, .int a0, .int a1, .int a2, .int a3, .int a4]) (n := 7) (Nat.le_of_ble_eq_true rfl)
  rw [lg_entry_eq]
  generalize (lg_sl ([.ref o, .int 14, .int a0, .int a1, .int a2, .int a3, .int a4]) ++ List.replicate (7 - (lg_sl ([.ref o, .int 14, .int a0, .int a1, .int a2, .int a3, .int a4])).length) Slot.unset).toArray = ls at hl ⊢
  have hl : lv_has ls 7 [(0, .ref o), (1, .int 14), (2, .int a0), (3, .int a1), (4, .int a2), (5, .int a3), (6, .int a4)] := hl
  obtain ⟨H, hH⟩ : ∃ z, z = s.heap := ⟨_, rfl⟩
  rw [← hH] at hW
  have hS : va_S (xA G) s.heap H [] := by rw [hH]; exact hS
  rw [← hH]
  refine lv_iload_n hx hb dL_does_0 rfl (lv_at hl 1 rfl) ?_
  refine lv_tableIn hx hb (tgt := 220) dL_does_1 (by decide) (by decide) (show _ = some (219 : Int) from rfl) (by decide) ?_
  refine lv_aload_n hx hb dL_does_220 rfl (lv_at hl 0 rfl) ?_
  refine lv_iload_n hx hb dL_does_221 rfl (lv_at hl 2 rfl) ?_
  refine vx_calli (vx_runV (As := [.int a0]) (rest := []) ⟨hx, hb, hml, hown, hts⟩ (k_endless l hl9 G E o a0 nC nV nG σ hO) (cwV 1 hts gL_does_X4_endless rfl rfl rfl (by decide +kernel) ⟨Nat.le_of_ble_eq_true rfl, Nat.le_of_ble_eq_true rfl⟩) (x_preV hX hS hW hOE rfl) rfl rfl hl.1 rfl (lv_room (Nat.le_of_ble_eq_true rfl)) dL_does_222 ⟨Nat.le_of_ble_eq_true rfl, Nat.le_of_ble_eq_true rfl⟩) hS (fun _ _ h => h) (fun _ h => h) (fun _ _ h => h) (fun Ex ce q9 ux t H1 locs1 ht hvm hpx hB hz1 hk1 hS1 hce hcv hcl => ?_) (fun r1 E1 t H1 locs1 ht hvm hw hB hz1 hk1 hS1 => ?_)
  · obtain ⟨hpx, hB⟩ := hB
    rw [ht] at hB
    exact vx_widen (k := 5) (n := 88) (Nat.le_of_ble_eq_true rfl) (Nat.le_of_ble_eq_true rfl) (vx_out (fun x hx9 => (hno x hx9).elim) hlocks hce hcv hcl (fun t9 ht9 hv9 => ⟨(), trivial, ⟨hpx, by rw [ht9]; exact hB⟩, hS1.F ht9⟩) hS1.2.2 (Nat.le_refl _) (Nat.le_refl _))
  · rw [ht] at hB
    have hS := hS1
    exact vx_ret (W.widen (k := 5) (n := 88) (Nat.le_of_ble_eq_true rfl) (Nat.le_of_ble_eq_true rfl) (W.iret (v := r1) hx hb hr (fun t ht hw9 => ⟨⟨_, E1, rfl, hw, (show xW G E1 t.heap from by rw [ht]; exact hB)⟩, hS.F ht⟩) hS.2.2 dL_does_225))
set_option maxHeartbeats 4000000 in
set_option maxRecDepth 100000 in
theorem kD_points (l : Launch) (hl9 : l.stackTraces = false) (G : xG) (E : xE) (o : Nat) (a0 a1 a2 a3 a4 : Int32) (nC nV nG : Nat) (σ : xSg) (hO : pOb G E o σ nC nV nG) : vx_Met l yL_does wsL_does ({ frames := 9, cells := 5, slots := 88, locals := 260 }) (va_Pc [.ref o, .int 15, .int a0, .int a1, .int a2, .int a3, .int a4] (xB G E)) (va_Qi (S := xE) (d_points G E o a0 a1 nC nV nG σ) (fun E' t => xW G E' t.heap) (xA G)) (xX G E (fun n => xEx n (tX4_points nV a0 a1))) 5 88 (xA G) := by
  refine vx_ofW (cc := cL_does) (maxL := 7) (ret := (some .int)) (by decide) rfl ?_
  intro p e s m args below meth c s₁ B hml hno hv
  obtain ⟨rfl, hX, hW⟩ := hv
  have hx := B.exec
  have hb := B.bytes
  have hr := B.returns
  have hts := atoms_spec (ws := wsL_does) B.pre
  have hown : s.vm.findClass RL = some m.cls := findClass_of_methodNamed B.named
  have hlocks := B.notSynchronized
  have hS : va_S (xA G) s.heap s.heap [] := va_S.rf
  obtain ⟨fs, hOE⟩ := hO.at
  have hl := lv_entry ([.ref o, .int 15, .int a0, .int a1, .int a2, .int a3, .int a4]) (n := 7) (Nat.le_of_ble_eq_true rfl)
  rw [lg_entry_eq]
  generalize (lg_sl ([.ref o, .int 15, .int a0, .int a1, .int a2, .int a3, .int a4]) ++ List.replicate (7 - (lg_sl ([.ref o, .int 15, .int a0, .int a1, .int a2, .int a3, .int a4])).length) Slot.unset).toArray = ls at hl ⊢
  have hl : lv_has ls 7 [(0, .ref o), (1, .int 15), (2, .int a0), (3, .int a1), (4, .int a2), (5, .int a3), (6, .int a4)] := hl
  obtain ⟨H, hH⟩ : ∃ z, z = s.heap := ⟨_, rfl⟩
  rw [← hH] at hW
  have hS : va_S (xA G) s.heap H [] := by rw [hH]; exact hS
  rw [← hH]
  refine lv_iload_n hx hb dL_does_0 rfl (lv_at hl 1 rfl) ?_
  refine lv_tableOut hx hb (tgt := 226) dL_does_1 (Or.inr (by decide)) (by decide) ?_
  refine lv_aload_n hx hb dL_does_226 rfl (lv_at hl 0 rfl) ?_
  refine lv_iload_n hx hb dL_does_227 rfl (lv_at hl 2 rfl) ?_
  refine lv_iload_n hx hb dL_does_228 rfl (lv_at hl 3 rfl) ?_
  refine vx_calli (vx_runV (As := [.int a0, .int a1]) (rest := []) ⟨hx, hb, hml, hown, hts⟩ (k_points l hl9 G E o a0 a1 nC nV nG σ hO) (cwV 2 hts gL_does_X4_points rfl rfl rfl (by decide +kernel) ⟨Nat.le_of_ble_eq_true rfl, Nat.le_of_ble_eq_true rfl⟩) (x_preV hX hS hW hOE rfl) rfl rfl hl.1 rfl (lv_room (Nat.le_of_ble_eq_true rfl)) dL_does_229 ⟨Nat.le_of_ble_eq_true rfl, Nat.le_of_ble_eq_true rfl⟩) hS (fun _ _ h => h) (fun _ h => h) (fun _ _ h => h) (fun Ex ce q9 ux t H1 locs1 ht hvm hpx hB hz1 hk1 hS1 hce hcv hcl => ?_) (fun r1 E1 t H1 locs1 ht hvm hw hB hz1 hk1 hS1 => ?_)
  · obtain ⟨hpx, hB⟩ := hB
    rw [ht] at hB
    exact vx_widen (k := 5) (n := 88) (Nat.le_of_ble_eq_true rfl) (Nat.le_of_ble_eq_true rfl) (vx_out (fun x hx9 => (hno x hx9).elim) hlocks hce hcv hcl (fun t9 ht9 hv9 => ⟨(), trivial, ⟨hpx, by rw [ht9]; exact hB⟩, hS1.F ht9⟩) hS1.2.2 (Nat.le_refl _) (Nat.le_refl _))
  · rw [ht] at hB
    have hS := hS1
    exact vx_ret (W.widen (k := 5) (n := 88) (Nat.le_of_ble_eq_true rfl) (Nat.le_of_ble_eq_true rfl) (W.iret (v := r1) hx hb hr (fun t ht hw9 => ⟨⟨_, E1, rfl, hw, (show xW G E1 t.heap from by rw [ht]; exact hB)⟩, hS.F ht⟩) hS.2.2 dL_does_232))
set_option maxHeartbeats 4000000 in
set_option maxRecDepth 100000 in
/-- a call that catches: the answer, or the number of what was thrown -/
theorem kL_call (l : Launch) (hl9 : l.stackTraces = false) (G : xG) (E : xE) (o : Nat) (a0 a1 a2 a3 a4 a5 : Int32) {post post2 : Int32 → xE → Prop} {T : Nat} (hD : vx_Met l yL_does wsL_does ({ frames := 9, cells := 5, slots := 88, locals := 260 }) (va_Pc [.ref o, .int a0, .int a1, .int a2, .int a3, .int a4, .int a5] (xB G E)) (va_Qi (S := xE) post (fun E' t => xW G E' t.heap) (xA G)) (xX G E (fun n => xEx n T)) 5 88 (xA G)) (h0 : ∀ r E', post r E' → post2 r E') (h1 : T = 1 → post2 (-1022) E) (h2 : T = 2 → post2 (-1023) E) (h3 : T = 3 → post2 (-1021) E) : vx_Met l yL_call wsL_call ({ frames := 10, cells := 5, slots := 88, locals := 300 }) (va_Pc [.ref o, .int a0, .int a1, .int a2, .int a3, .int a4, .int a5] (xB2 G E)) (va_Qi (S := xE) post2 (fun E' t => xW G E' t.heap) (xA G)) (xX G E (fun _ => False)) 5 88 (xA G) := by
  refine vx_ofWH (cc := cL_call) (maxL := 8) (ret := (some .int)) (hh := [(0, 13, 14, 14), (0, 13, 20, 16), (0, 13, 26, 18)]) (by decide) rfl ?_
  intro p e s m args below meth c s₁ B hml hv
  obtain ⟨rfl, ⟨hX, hW⟩, hNc⟩ := hv
  have hx := B.exec
  have hb := B.bytes
  have hr := B.returns
  have hts := atoms_spec (ws := wsL_call) B.pre
  have hown : s.vm.findClass RL = some m.cls := findClass_of_methodNamed B.named
  have hht := vx_table (x := yL_call) B (hts _ List.mem_cons_self)
  have hS : va_S (xA G) s.heap s.heap [] := va_S.rf
  have hcl14 := hts (Cond.classLink RL 14 "java/lang/IndexOutOfBoundsException") (by decide +kernel)
  have hcl16 := hts (Cond.classLink RL 16 "java/lang/IllegalArgumentException") (by decide +kernel)
  have hcl18 := hts (Cond.classLink RL 18 "java/lang/IllegalStateException") (by decide +kernel)
  have hl := lv_entry ([.ref o, .int a0, .int a1, .int a2, .int a3, .int a4, .int a5]) (n := 8) (Nat.le_of_ble_eq_true rfl)
  rw [lg_entry_eq]
  generalize (lg_sl ([.ref o, .int a0, .int a1, .int a2, .int a3, .int a4, .int a5]) ++ List.replicate (8 - (lg_sl ([.ref o, .int a0, .int a1, .int a2, .int a3, .int a4, .int a5])).length) Slot.unset).toArray = ls at hl ⊢
  have hl : lv_has ls 8 [(0, .ref o), (1, .int a0), (2, .int a1), (3, .int a2), (4, .int a3), (5, .int a4), (6, .int a5)] := hl
  obtain ⟨H, hH⟩ : ∃ z, z = s.heap := ⟨_, rfl⟩
  rw [← hH] at hW
  have hS : va_S (xA G) s.heap H [] := by rw [hH]; exact hS
  rw [← hH]
  refine lv_aload_n hx hb dL_call_0 rfl (lv_at hl 0 rfl) ?_
  refine lv_iload_n hx hb dL_call_1 rfl (lv_at hl 1 rfl) ?_
  refine lv_iload_n hx hb dL_call_2 rfl (lv_at hl 2 rfl) ?_
  refine lv_iload_n hx hb dL_call_3 rfl (lv_at hl 3 rfl) ?_
  refine lv_iload hx hb dL_call_4 (lv_at hl 4 rfl) ?_
  refine lv_iload hx hb dL_call_6 (lv_at hl 5 rfl) ?_
  refine lv_iload hx hb dL_call_8 (lv_at hl 6 rfl) ?_
  refine vx_calli (vx_runS (As := [.ref o, .int a0, .int a1, .int a2, .int a3, .int a4, .int a5]) (rest := []) ⟨hx, hb, hml, hown, hts⟩ hD (va_cwS 7 hts gL_call_L_does rfl rfl rfl (by decide +kernel) ⟨Nat.le_of_ble_eq_true rfl, Nat.le_of_ble_eq_true rfl⟩) (x_preS hX hS hW) rfl rfl hl.1 rfl (lv_room (Nat.le_of_ble_eq_true rfl)) dL_call_10 ⟨Nat.le_of_ble_eq_true rfl, Nat.le_of_ble_eq_true rfl⟩) hS (fun _ _ h => h) (fun _ h => h) (fun _ _ h => h) (fun Ex ce q9 ux t H1 locs1 ht hvm hpx hB hz1 hk1 hS1 hce hcv hcl => ?_) (fun r1 E1 t H1 locs1 ht hvm hw hB hz1 hk1 hS1 => ?_)
  · obtain ⟨hpx, hB⟩ := hB
    rw [ht] at hB
    have hW : xW G E H1 := hB
    have hS := hS1
    rcases hpx with ⟨h9, rfl⟩ | ⟨h9, rfl⟩ | ⟨h9, rfl⟩
    · refine vx_catch (E := "java/lang/IllegalArgumentException") (name := "java/lang/IllegalArgumentException") hown [⟨0, 13, 14, 14⟩] ⟨0, 13, 20, 16⟩ [⟨0, 13, 26, 18⟩] (hht.trans rfl) (fun z hz => by rcases List.mem_singleton.mp hz; exact Or.inr ⟨by decide, _, hcl14, hNc.2.1⟩) rfl (by decide) hcl16 (xBad_use (.castable "java/lang/IllegalArgumentException" "java/lang/IllegalArgumentException") (by decide +kernel) (hX.2.2.2.2.1 (.castable "java/lang/IllegalArgumentException" "java/lang/IllegalArgumentException") (by decide +kernel))) hce hcv hcl ?_
      refine lv_astore (lv' := [(7, .ref q9), (0, .ref o), (1, .int a0), (2, .int a1), (3, .int a2), (4, .int a3), (5, .int a4), (6, .int a5)]) hx hb dL_call_20 hl (by decide) rfl (fun ls hl => ?_)
      refine lv_sipush (v := (-1022)) hx hb dL_call_22 (by decide) ?_
      exact vx_ret (W.widen (k := 5) (n := 88) (Nat.le_of_ble_eq_true rfl) (Nat.le_of_ble_eq_true rfl) (W.iret (v := (-1022)) hx hb hr (fun t ht hw => ⟨⟨_, E, rfl, h1 h9, (show xW G E t.heap from by rw [ht]; exact hW)⟩, hS.F ht⟩) hS.2.2 dL_call_25))
    · refine vx_catch (E := "java/lang/IllegalStateException") (name := "java/lang/IllegalStateException") hown [⟨0, 13, 14, 14⟩, ⟨0, 13, 20, 16⟩] ⟨0, 13, 26, 18⟩ [] (hht.trans rfl) (fun z hz => by
        rcases List.mem_cons.mp hz with rfl | hz
        · exact Or.inr ⟨by decide, _, hcl14, hNc.2.2⟩
        · rcases List.mem_singleton.mp hz; exact Or.inr ⟨by decide, _, hcl16, hNc.1⟩) rfl (by decide) hcl18 (xBad_use (.castable "java/lang/IllegalStateException" "java/lang/IllegalStateException") (by decide +kernel) (hX.2.2.2.2.1 (.castable "java/lang/IllegalStateException" "java/lang/IllegalStateException") (by decide +kernel))) hce hcv hcl ?_
      refine lv_astore (lv' := [(7, .ref q9), (0, .ref o), (1, .int a0), (2, .int a1), (3, .int a2), (4, .int a3), (5, .int a4), (6, .int a5)]) hx hb dL_call_26 hl (by decide) rfl (fun ls hl => ?_)
      refine lv_sipush (v := (-1023)) hx hb dL_call_28 (by decide) ?_
      exact vx_ret (W.widen (k := 5) (n := 88) (Nat.le_of_ble_eq_true rfl) (Nat.le_of_ble_eq_true rfl) (W.iret (v := (-1023)) hx hb hr (fun t ht hw => ⟨⟨_, E, rfl, h2 h9, (show xW G E t.heap from by rw [ht]; exact hW)⟩, hS.F ht⟩) hS.2.2 dL_call_31))
    · refine vx_catch (E := "java/lang/IndexOutOfBoundsException") (name := "java/lang/IndexOutOfBoundsException") hown [] ⟨0, 13, 14, 14⟩ [⟨0, 13, 20, 16⟩, ⟨0, 13, 26, 18⟩] (hht.trans rfl) (fun z hz => nomatch hz) rfl (by decide) hcl14 (xBad_use (.castable "java/lang/IndexOutOfBoundsException" "java/lang/IndexOutOfBoundsException") (by decide +kernel) (hX.2.2.2.2.1 (.castable "java/lang/IndexOutOfBoundsException" "java/lang/IndexOutOfBoundsException") (by decide +kernel))) hce hcv hcl ?_
      refine lv_astore (lv' := [(7, .ref q9), (0, .ref o), (1, .int a0), (2, .int a1), (3, .int a2), (4, .int a3), (5, .int a4), (6, .int a5)]) hx hb dL_call_14 hl (by decide) rfl (fun ls hl => ?_)
      refine lv_sipush (v := (-1021)) hx hb dL_call_16 (by decide) ?_
      exact vx_ret (W.widen (k := 5) (n := 88) (Nat.le_of_ble_eq_true rfl) (Nat.le_of_ble_eq_true rfl) (W.iret (v := (-1021)) hx hb hr (fun t ht hw => ⟨⟨_, E, rfl, h3 h9, (show xW G E t.heap from by rw [ht]; exact hW)⟩, hS.F ht⟩) hS.2.2 dL_call_19))
  · rw [ht] at hB
    have hS := hS1
    exact vx_ret (W.widen (k := 5) (n := 88) (Nat.le_of_ble_eq_true rfl) (Nat.le_of_ble_eq_true rfl) (W.iret (v := r1) hx hb hr (fun t ht hw9 => ⟨⟨_, E1, rfl, h0 _ _ hw, (show xW G E1 t.heap from by rw [ht]; exact hB)⟩, hS.F ht⟩) hS.2.2 dL_call_13))
def rEx (j : Nat) : Int32 := if j = 1 then -1022 else if j = 2 then -1023 else -1021
theorem kC_card (l : Launch) (hl9 : l.stackTraces = false) (G : xG) (E : xE) (o : Nat) (a0 a1 a2 a3 a4 : Int32) (nC nV nG : Nat) (σ : xSg) (hO : pOb G E o σ nC nV nG) : vx_Met l yL_call wsL_call ({ frames := 10, cells := 5, slots := 88, locals := 300 }) (va_Pc [.ref o, .int 0, .int a0, .int a1, .int a2, .int a3, .int a4] (xB2 G E)) (va_Qi (S := xE) (fun r E' => d_card G E o a0 a1 a2 a3 nC nV nG σ r E' ∨ (¬ (tX4_card nC a0 a1 a2 a3) = 0 ∧ r = rEx (tX4_card nC a0 a1 a2 a3) ∧ E' = E)) (fun E' t => xW G E' t.heap) (xA G)) (xX G E (fun _ => False)) 5 88 (xA G) :=
  kL_call l hl9 G E o 0 a0 a1 a2 a3 a4 (kD_card l hl9 G E o a0 a1 a2 a3 a4 nC nV nG σ hO) (fun _ _ h => Or.inl h) (fun h => Or.inr ⟨by rw [h]; decide, by rw [h]; rfl, rfl⟩) (fun h => Or.inr ⟨by rw [h]; decide, by rw [h]; rfl, rfl⟩) (fun h => Or.inr ⟨by rw [h]; decide, by rw [h]; rfl, rfl⟩)
theorem kR_card (l : Launch) (hl9 : l.stackTraces = false) (G : xG) (E : xE) (o : Nat) (a0 a1 a2 a3 a4 : Int32) (nC nV nG : Nat) (σ : xSg) (hO : pOb G E o σ nC nV nG) {x : Int32} (hT : ¬ (tX4_card nC a0 a1 a2 a3) = 0) (hx : rEx (tX4_card nC a0 a1 a2 a3) = x) : vx_Met l yL_call wsL_call ({ frames := 10, cells := 5, slots := 88, locals := 300 }) (va_Pc [.ref o, .int 0, .int a0, .int a1, .int a2, .int a3, .int a4] (xB2 G E)) (va_Qi (S := xE) (pRd x E) (fun E' t => xW G E' t.heap) (xA G)) (xX G E (fun _ => False)) 5 88 (xA G) :=
  p_mono (kC_card l hl9 G E o a0 a1 a2 a3 a4 nC nV nG σ hO) (fun _ h => h) (fun r E' h => h.elim (fun q => absurd q.1 hT) (fun q => ⟨by rw [q.2.1, hx], q.2.2⟩)) (fun _ h => h)
theorem kC_variant (l : Launch) (hl9 : l.stackTraces = false) (G : xG) (E : xE) (o : Nat) (a0 a1 a2 a3 a4 : Int32) (nC nV nG : Nat) (σ : xSg) (hO : pOb G E o σ nC nV nG) (hZ : σ 8 nV = 0 ∧ σ 9 nV = 0) : vx_Met l yL_call wsL_call ({ frames := 10, cells := 5, slots := 88, locals := 300 }) (va_Pc [.ref o, .int 1, .int a0, .int a1, .int a2, .int a3, .int a4] (xB2 G E)) (va_Qi (S := xE) (fun r E' => d_variant G E o a0 a1 nC nV nG σ r E' ∨ (¬ (tX4_variant nC nV a0 a1) = 0 ∧ r = rEx (tX4_variant nC nV a0 a1) ∧ E' = E)) (fun E' t => xW G E' t.heap) (xA G)) (xX G E (fun _ => False)) 5 88 (xA G) :=
  kL_call l hl9 G E o 1 a0 a1 a2 a3 a4 (kD_variant l hl9 G E o a0 a1 a2 a3 a4 nC nV nG σ hO hZ) (fun _ _ h => Or.inl h) (fun h => Or.inr ⟨by rw [h]; decide, by rw [h]; rfl, rfl⟩) (fun h => Or.inr ⟨by rw [h]; decide, by rw [h]; rfl, rfl⟩) (fun h => Or.inr ⟨by rw [h]; decide, by rw [h]; rfl, rfl⟩)
theorem kR_variant (l : Launch) (hl9 : l.stackTraces = false) (G : xG) (E : xE) (o : Nat) (a0 a1 a2 a3 a4 : Int32) (nC nV nG : Nat) (σ : xSg) (hO : pOb G E o σ nC nV nG) (hZ : σ 8 nV = 0 ∧ σ 9 nV = 0) {x : Int32} (hT : ¬ (tX4_variant nC nV a0 a1) = 0) (hx : rEx (tX4_variant nC nV a0 a1) = x) : vx_Met l yL_call wsL_call ({ frames := 10, cells := 5, slots := 88, locals := 300 }) (va_Pc [.ref o, .int 1, .int a0, .int a1, .int a2, .int a3, .int a4] (xB2 G E)) (va_Qi (S := xE) (pRd x E) (fun E' t => xW G E' t.heap) (xA G)) (xX G E (fun _ => False)) 5 88 (xA G) :=
  p_mono (kC_variant l hl9 G E o a0 a1 a2 a3 a4 nC nV nG σ hO hZ) (fun _ h => h) (fun r E' h => h.elim (fun q => absurd q.1 hT) (fun q => ⟨by rw [q.2.1, hx], q.2.2⟩)) (fun _ h => h)
theorem kC_setCards (l : Launch) (hl9 : l.stackTraces = false) (G : xG) (E : xE) (o : Nat) (a0 a1 a2 a3 a4 : Int32) (nC nV nG : Nat) (σ : xSg) (hO : pOb G E o σ nC nV nG) : vx_Met l yL_call wsL_call ({ frames := 10, cells := 5, slots := 88, locals := 300 }) (va_Pc [.ref o, .int 2, .int a0, .int a1, .int a2, .int a3, .int a4] (xB2 G E)) (va_Qi (S := xE) (fun r E' => d_setCards G E o a0 a1 nC nV nG σ r E' ∨ (¬ (tX4_setCards nC nV a0 a1) = 0 ∧ r = rEx (tX4_setCards nC nV a0 a1) ∧ E' = E)) (fun E' t => xW G E' t.heap) (xA G)) (xX G E (fun _ => False)) 5 88 (xA G) :=
  kL_call l hl9 G E o 2 a0 a1 a2 a3 a4 (kD_setCards l hl9 G E o a0 a1 a2 a3 a4 nC nV nG σ hO) (fun _ _ h => Or.inl h) (fun h => Or.inr ⟨by rw [h]; decide, by rw [h]; rfl, rfl⟩) (fun h => Or.inr ⟨by rw [h]; decide, by rw [h]; rfl, rfl⟩) (fun h => Or.inr ⟨by rw [h]; decide, by rw [h]; rfl, rfl⟩)
theorem kR_setCards (l : Launch) (hl9 : l.stackTraces = false) (G : xG) (E : xE) (o : Nat) (a0 a1 a2 a3 a4 : Int32) (nC nV nG : Nat) (σ : xSg) (hO : pOb G E o σ nC nV nG) {x : Int32} (hT : ¬ (tX4_setCards nC nV a0 a1) = 0) (hx : rEx (tX4_setCards nC nV a0 a1) = x) : vx_Met l yL_call wsL_call ({ frames := 10, cells := 5, slots := 88, locals := 300 }) (va_Pc [.ref o, .int 2, .int a0, .int a1, .int a2, .int a3, .int a4] (xB2 G E)) (va_Qi (S := xE) (pRd x E) (fun E' t => xW G E' t.heap) (xA G)) (xX G E (fun _ => False)) 5 88 (xA G) :=
  p_mono (kC_setCards l hl9 G E o a0 a1 a2 a3 a4 nC nV nG σ hO) (fun _ h => h) (fun r E' h => h.elim (fun q => absurd q.1 hT) (fun q => ⟨by rw [q.2.1, hx], q.2.2⟩)) (fun _ h => h)
theorem kC_begin (l : Launch) (hl9 : l.stackTraces = false) (G : xG) (E : xE) (o : Nat) (a0 a1 a2 a3 a4 : Int32) (nC nV nG : Nat) (σ : xSg) (hO : pOb G E o σ nC nV nG) : vx_Met l yL_call wsL_call ({ frames := 10, cells := 5, slots := 88, locals := 300 }) (va_Pc [.ref o, .int 3, .int a0, .int a1, .int a2, .int a3, .int a4] (xB2 G E)) (va_Qi (S := xE) (fun r E' => d_begin G E o a0 a1 a2 a3 a4 nC nV nG σ r E' ∨ (¬ (tX4_begin σ nC nV nG (a0.toNatClampNeg) a0 a1 a2 a3 a4) = 0 ∧ r = rEx (tX4_begin σ nC nV nG (a0.toNatClampNeg) a0 a1 a2 a3 a4) ∧ E' = E)) (fun E' t => xW G E' t.heap) (xA G)) (xX G E (fun _ => False)) 5 88 (xA G) :=
  kL_call l hl9 G E o 3 a0 a1 a2 a3 a4 (kD_begin l hl9 G E o a0 a1 a2 a3 a4 nC nV nG σ hO) (fun _ _ h => Or.inl h) (fun h => Or.inr ⟨by rw [h]; decide, by rw [h]; rfl, rfl⟩) (fun h => Or.inr ⟨by rw [h]; decide, by rw [h]; rfl, rfl⟩) (fun h => Or.inr ⟨by rw [h]; decide, by rw [h]; rfl, rfl⟩)
theorem kR_begin (l : Launch) (hl9 : l.stackTraces = false) (G : xG) (E : xE) (o : Nat) (a0 a1 a2 a3 a4 : Int32) (nC nV nG : Nat) (σ : xSg) (hO : pOb G E o σ nC nV nG) {x : Int32} (hT : ¬ (tX4_begin σ nC nV nG (a0.toNatClampNeg) a0 a1 a2 a3 a4) = 0) (hx : rEx (tX4_begin σ nC nV nG (a0.toNatClampNeg) a0 a1 a2 a3 a4) = x) : vx_Met l yL_call wsL_call ({ frames := 10, cells := 5, slots := 88, locals := 300 }) (va_Pc [.ref o, .int 3, .int a0, .int a1, .int a2, .int a3, .int a4] (xB2 G E)) (va_Qi (S := xE) (pRd x E) (fun E' t => xW G E' t.heap) (xA G)) (xX G E (fun _ => False)) 5 88 (xA G) :=
  p_mono (kC_begin l hl9 G E o a0 a1 a2 a3 a4 nC nV nG σ hO) (fun _ h => h) (fun r E' h => h.elim (fun q => absurd q.1 hT) (fun q => ⟨by rw [q.2.1, hx], q.2.2⟩)) (fun _ h => h)
theorem kC_can (l : Launch) (hl9 : l.stackTraces = false) (G : xG) (E : xE) (o : Nat) (a0 a1 a2 a3 a4 : Int32) (nC nV nG : Nat) (σ : xSg) (hO : pOb G E o σ nC nV nG) : vx_Met l yL_call wsL_call ({ frames := 10, cells := 5, slots := 88, locals := 300 }) (va_Pc [.ref o, .int 4, .int a0, .int a1, .int a2, .int a3, .int a4] (xB2 G E)) (va_Qi (S := xE) (fun r E' => d_can G E o a0 a1 a2 nC nV nG σ r E' ∨ (¬ (tX4_can nG a0 a1 a2) = 0 ∧ r = rEx (tX4_can nG a0 a1 a2) ∧ E' = E)) (fun E' t => xW G E' t.heap) (xA G)) (xX G E (fun _ => False)) 5 88 (xA G) :=
  kL_call l hl9 G E o 4 a0 a1 a2 a3 a4 (kD_can l hl9 G E o a0 a1 a2 a3 a4 nC nV nG σ hO) (fun _ _ h => Or.inl h) (fun h => Or.inr ⟨by rw [h]; decide, by rw [h]; rfl, rfl⟩) (fun h => Or.inr ⟨by rw [h]; decide, by rw [h]; rfl, rfl⟩) (fun h => Or.inr ⟨by rw [h]; decide, by rw [h]; rfl, rfl⟩)
theorem kR_can (l : Launch) (hl9 : l.stackTraces = false) (G : xG) (E : xE) (o : Nat) (a0 a1 a2 a3 a4 : Int32) (nC nV nG : Nat) (σ : xSg) (hO : pOb G E o σ nC nV nG) {x : Int32} (hT : ¬ (tX4_can nG a0 a1 a2) = 0) (hx : rEx (tX4_can nG a0 a1 a2) = x) : vx_Met l yL_call wsL_call ({ frames := 10, cells := 5, slots := 88, locals := 300 }) (va_Pc [.ref o, .int 4, .int a0, .int a1, .int a2, .int a3, .int a4] (xB2 G E)) (va_Qi (S := xE) (pRd x E) (fun E' t => xW G E' t.heap) (xA G)) (xX G E (fun _ => False)) 5 88 (xA G) :=
  p_mono (kC_can l hl9 G E o a0 a1 a2 a3 a4 nC nV nG σ hO) (fun _ h => h) (fun r E' h => h.elim (fun q => absurd q.1 hT) (fun q => ⟨by rw [q.2.1, hx], q.2.2⟩)) (fun _ h => h)
theorem kC_canByAll (l : Launch) (hl9 : l.stackTraces = false) (G : xG) (E : xE) (o : Nat) (a0 a1 a2 a3 a4 : Int32) (nC nV nG : Nat) (σ : xSg) (hO : pOb G E o σ nC nV nG) : vx_Met l yL_call wsL_call ({ frames := 10, cells := 5, slots := 88, locals := 300 }) (va_Pc [.ref o, .int 5, .int a0, .int a1, .int a2, .int a3, .int a4] (xB2 G E)) (va_Qi (S := xE) (fun r E' => d_canByAll G E o a0 a1 a2 nC nV nG σ r E' ∨ (¬ (tX4_canByAll nG a0 a1 a2) = 0 ∧ r = rEx (tX4_canByAll nG a0 a1 a2) ∧ E' = E)) (fun E' t => xW G E' t.heap) (xA G)) (xX G E (fun _ => False)) 5 88 (xA G) :=
  kL_call l hl9 G E o 5 a0 a1 a2 a3 a4 (kD_canByAll l hl9 G E o a0 a1 a2 a3 a4 nC nV nG σ hO) (fun _ _ h => Or.inl h) (fun h => Or.inr ⟨by rw [h]; decide, by rw [h]; rfl, rfl⟩) (fun h => Or.inr ⟨by rw [h]; decide, by rw [h]; rfl, rfl⟩) (fun h => Or.inr ⟨by rw [h]; decide, by rw [h]; rfl, rfl⟩)
theorem kR_canByAll (l : Launch) (hl9 : l.stackTraces = false) (G : xG) (E : xE) (o : Nat) (a0 a1 a2 a3 a4 : Int32) (nC nV nG : Nat) (σ : xSg) (hO : pOb G E o σ nC nV nG) {x : Int32} (hT : ¬ (tX4_canByAll nG a0 a1 a2) = 0) (hx : rEx (tX4_canByAll nG a0 a1 a2) = x) : vx_Met l yL_call wsL_call ({ frames := 10, cells := 5, slots := 88, locals := 300 }) (va_Pc [.ref o, .int 5, .int a0, .int a1, .int a2, .int a3, .int a4] (xB2 G E)) (va_Qi (S := xE) (pRd x E) (fun E' t => xW G E' t.heap) (xA G)) (xX G E (fun _ => False)) 5 88 (xA G) :=
  p_mono (kC_canByAll l hl9 G E o a0 a1 a2 a3 a4 nC nV nG σ hO) (fun _ h => h) (fun r E' h => h.elim (fun q => absurd q.1 hT) (fun q => ⟨by rw [q.2.1, hx], q.2.2⟩)) (fun _ h => h)
theorem kC_move (l : Launch) (hl9 : l.stackTraces = false) (G : xG) (E : xE) (o : Nat) (a0 a1 a2 a3 a4 : Int32) (nC nV nG : Nat) (σ : xSg) (hO : pOb G E o σ nC nV nG) : vx_Met l yL_call wsL_call ({ frames := 10, cells := 5, slots := 88, locals := 300 }) (va_Pc [.ref o, .int 6, .int a0, .int a1, .int a2, .int a3, .int a4] (xB2 G E)) (va_Qi (S := xE) (fun r E' => d_move G E o a0 a1 a2 nC nV nG σ r E' ∨ (¬ (tX4_move σ nC nG (a0.toNatClampNeg) ((σ 16 a0.toNatClampNeg).toNatClampNeg) ((σ 11 a0.toNatClampNeg).toNatClampNeg) a0 a1 a2) = 0 ∧ r = rEx (tX4_move σ nC nG (a0.toNatClampNeg) ((σ 16 a0.toNatClampNeg).toNatClampNeg) ((σ 11 a0.toNatClampNeg).toNatClampNeg) a0 a1 a2) ∧ E' = E)) (fun E' t => xW G E' t.heap) (xA G)) (xX G E (fun _ => False)) 5 88 (xA G) :=
  kL_call l hl9 G E o 6 a0 a1 a2 a3 a4 (kD_move l hl9 G E o a0 a1 a2 a3 a4 nC nV nG σ hO) (fun _ _ h => Or.inl h) (fun h => Or.inr ⟨by rw [h]; decide, by rw [h]; rfl, rfl⟩) (fun h => Or.inr ⟨by rw [h]; decide, by rw [h]; rfl, rfl⟩) (fun h => Or.inr ⟨by rw [h]; decide, by rw [h]; rfl, rfl⟩)
theorem kR_move (l : Launch) (hl9 : l.stackTraces = false) (G : xG) (E : xE) (o : Nat) (a0 a1 a2 a3 a4 : Int32) (nC nV nG : Nat) (σ : xSg) (hO : pOb G E o σ nC nV nG) {x : Int32} (hT : ¬ (tX4_move σ nC nG (a0.toNatClampNeg) ((σ 16 a0.toNatClampNeg).toNatClampNeg) ((σ 11 a0.toNatClampNeg).toNatClampNeg) a0 a1 a2) = 0) (hx : rEx (tX4_move σ nC nG (a0.toNatClampNeg) ((σ 16 a0.toNatClampNeg).toNatClampNeg) ((σ 11 a0.toNatClampNeg).toNatClampNeg) a0 a1 a2) = x) : vx_Met l yL_call wsL_call ({ frames := 10, cells := 5, slots := 88, locals := 300 }) (va_Pc [.ref o, .int 6, .int a0, .int a1, .int a2, .int a3, .int a4] (xB2 G E)) (va_Qi (S := xE) (pRd x E) (fun E' t => xW G E' t.heap) (xA G)) (xX G E (fun _ => False)) 5 88 (xA G) :=
  p_mono (kC_move l hl9 G E o a0 a1 a2 a3 a4 nC nV nG σ hO) (fun _ h => h) (fun r E' h => h.elim (fun q => absurd q.1 hT) (fun q => ⟨by rw [q.2.1, hx], q.2.2⟩)) (fun _ h => h)
theorem kC_state (l : Launch) (hl9 : l.stackTraces = false) (G : xG) (E : xE) (o : Nat) (a0 a1 a2 a3 a4 : Int32) (nC nV nG : Nat) (σ : xSg) (hO : pOb G E o σ nC nV nG) : vx_Met l yL_call wsL_call ({ frames := 10, cells := 5, slots := 88, locals := 300 }) (va_Pc [.ref o, .int 7, .int a0, .int a1, .int a2, .int a3, .int a4] (xB2 G E)) (va_Qi (S := xE) (fun r E' => d_state G E o a0 nC nV nG σ r E' ∨ (¬ (tX4_state nG a0) = 0 ∧ r = rEx (tX4_state nG a0) ∧ E' = E)) (fun E' t => xW G E' t.heap) (xA G)) (xX G E (fun _ => False)) 5 88 (xA G) :=
  kL_call l hl9 G E o 7 a0 a1 a2 a3 a4 (kD_state l hl9 G E o a0 a1 a2 a3 a4 nC nV nG σ hO) (fun _ _ h => Or.inl h) (fun h => Or.inr ⟨by rw [h]; decide, by rw [h]; rfl, rfl⟩) (fun h => Or.inr ⟨by rw [h]; decide, by rw [h]; rfl, rfl⟩) (fun h => Or.inr ⟨by rw [h]; decide, by rw [h]; rfl, rfl⟩)
theorem kR_state (l : Launch) (hl9 : l.stackTraces = false) (G : xG) (E : xE) (o : Nat) (a0 a1 a2 a3 a4 : Int32) (nC nV nG : Nat) (σ : xSg) (hO : pOb G E o σ nC nV nG) {x : Int32} (hT : ¬ (tX4_state nG a0) = 0) (hx : rEx (tX4_state nG a0) = x) : vx_Met l yL_call wsL_call ({ frames := 10, cells := 5, slots := 88, locals := 300 }) (va_Pc [.ref o, .int 7, .int a0, .int a1, .int a2, .int a3, .int a4] (xB2 G E)) (va_Qi (S := xE) (pRd x E) (fun E' t => xW G E' t.heap) (xA G)) (xX G E (fun _ => False)) 5 88 (xA G) :=
  p_mono (kC_state l hl9 G E o a0 a1 a2 a3 a4 nC nV nG σ hO) (fun _ h => h) (fun r E' h => h.elim (fun q => absurd q.1 hT) (fun q => ⟨by rw [q.2.1, hx], q.2.2⟩)) (fun _ h => h)
theorem kC_value (l : Launch) (hl9 : l.stackTraces = false) (G : xG) (E : xE) (o : Nat) (a0 a1 a2 a3 a4 : Int32) (nC nV nG : Nat) (σ : xSg) (hO : pOb G E o σ nC nV nG) : vx_Met l yL_call wsL_call ({ frames := 10, cells := 5, slots := 88, locals := 300 }) (va_Pc [.ref o, .int 10, .int a0, .int a1, .int a2, .int a3, .int a4] (xB2 G E)) (va_Qi (S := xE) (fun r E' => d_value G E o a0 a1 nC nV nG σ r E' ∨ (¬ (tX4_value nG a0 a1) = 0 ∧ r = rEx (tX4_value nG a0 a1) ∧ E' = E)) (fun E' t => xW G E' t.heap) (xA G)) (xX G E (fun _ => False)) 5 88 (xA G) :=
  kL_call l hl9 G E o 10 a0 a1 a2 a3 a4 (kD_value l hl9 G E o a0 a1 a2 a3 a4 nC nV nG σ hO) (fun _ _ h => Or.inl h) (fun h => Or.inr ⟨by rw [h]; decide, by rw [h]; rfl, rfl⟩) (fun h => Or.inr ⟨by rw [h]; decide, by rw [h]; rfl, rfl⟩) (fun h => Or.inr ⟨by rw [h]; decide, by rw [h]; rfl, rfl⟩)
theorem kR_value (l : Launch) (hl9 : l.stackTraces = false) (G : xG) (E : xE) (o : Nat) (a0 a1 a2 a3 a4 : Int32) (nC nV nG : Nat) (σ : xSg) (hO : pOb G E o σ nC nV nG) {x : Int32} (hT : ¬ (tX4_value nG a0 a1) = 0) (hx : rEx (tX4_value nG a0 a1) = x) : vx_Met l yL_call wsL_call ({ frames := 10, cells := 5, slots := 88, locals := 300 }) (va_Pc [.ref o, .int 10, .int a0, .int a1, .int a2, .int a3, .int a4] (xB2 G E)) (va_Qi (S := xE) (pRd x E) (fun E' t => xW G E' t.heap) (xA G)) (xX G E (fun _ => False)) 5 88 (xA G) :=
  p_mono (kC_value l hl9 G E o a0 a1 a2 a3 a4 nC nV nG σ hO) (fun _ h => h) (fun r E' h => h.elim (fun q => absurd q.1 hT) (fun q => ⟨by rw [q.2.1, hx], q.2.2⟩)) (fun _ h => h)
theorem kC_valueByAll (l : Launch) (hl9 : l.stackTraces = false) (G : xG) (E : xE) (o : Nat) (a0 a1 a2 a3 a4 : Int32) (nC nV nG : Nat) (σ : xSg) (hO : pOb G E o σ nC nV nG) : vx_Met l yL_call wsL_call ({ frames := 10, cells := 5, slots := 88, locals := 300 }) (va_Pc [.ref o, .int 11, .int a0, .int a1, .int a2, .int a3, .int a4] (xB2 G E)) (va_Qi (S := xE) (fun r E' => d_valueByAll G E o a0 a1 nC nV nG σ r E' ∨ (¬ (tX4_valueByAll nG a0 a1) = 0 ∧ r = rEx (tX4_valueByAll nG a0 a1) ∧ E' = E)) (fun E' t => xW G E' t.heap) (xA G)) (xX G E (fun _ => False)) 5 88 (xA G) :=
  kL_call l hl9 G E o 11 a0 a1 a2 a3 a4 (kD_valueByAll l hl9 G E o a0 a1 a2 a3 a4 nC nV nG σ hO) (fun _ _ h => Or.inl h) (fun h => Or.inr ⟨by rw [h]; decide, by rw [h]; rfl, rfl⟩) (fun h => Or.inr ⟨by rw [h]; decide, by rw [h]; rfl, rfl⟩) (fun h => Or.inr ⟨by rw [h]; decide, by rw [h]; rfl, rfl⟩)
theorem kR_valueByAll (l : Launch) (hl9 : l.stackTraces = false) (G : xG) (E : xE) (o : Nat) (a0 a1 a2 a3 a4 : Int32) (nC nV nG : Nat) (σ : xSg) (hO : pOb G E o σ nC nV nG) {x : Int32} (hT : ¬ (tX4_valueByAll nG a0 a1) = 0) (hx : rEx (tX4_valueByAll nG a0 a1) = x) : vx_Met l yL_call wsL_call ({ frames := 10, cells := 5, slots := 88, locals := 300 }) (va_Pc [.ref o, .int 11, .int a0, .int a1, .int a2, .int a3, .int a4] (xB2 G E)) (va_Qi (S := xE) (pRd x E) (fun E' t => xW G E' t.heap) (xA G)) (xX G E (fun _ => False)) 5 88 (xA G) :=
  p_mono (kC_valueByAll l hl9 G E o a0 a1 a2 a3 a4 nC nV nG σ hO) (fun _ h => h) (fun r E' h => h.elim (fun q => absurd q.1 hT) (fun q => ⟨by rw [q.2.1, hx], q.2.2⟩)) (fun _ h => h)
theorem kC_vote (l : Launch) (hl9 : l.stackTraces = false) (G : xG) (E : xE) (o : Nat) (a0 a1 a2 a3 a4 : Int32) (nC nV nG : Nat) (σ : xSg) (hO : pOb G E o σ nC nV nG) : vx_Met l yL_call wsL_call ({ frames := 10, cells := 5, slots := 88, locals := 300 }) (va_Pc [.ref o, .int 12, .int a0, .int a1, .int a2, .int a3, .int a4] (xB2 G E)) (va_Qi (S := xE) (fun r E' => d_vote G E o a0 a1 nC nV nG σ r E' ∨ (¬ (tX4_vote nV a0 a1) = 0 ∧ r = rEx (tX4_vote nV a0 a1) ∧ E' = E)) (fun E' t => xW G E' t.heap) (xA G)) (xX G E (fun _ => False)) 5 88 (xA G) :=
  kL_call l hl9 G E o 12 a0 a1 a2 a3 a4 (kD_vote l hl9 G E o a0 a1 a2 a3 a4 nC nV nG σ hO) (fun _ _ h => Or.inl h) (fun h => Or.inr ⟨by rw [h]; decide, by rw [h]; rfl, rfl⟩) (fun h => Or.inr ⟨by rw [h]; decide, by rw [h]; rfl, rfl⟩) (fun h => Or.inr ⟨by rw [h]; decide, by rw [h]; rfl, rfl⟩)
theorem kR_vote (l : Launch) (hl9 : l.stackTraces = false) (G : xG) (E : xE) (o : Nat) (a0 a1 a2 a3 a4 : Int32) (nC nV nG : Nat) (σ : xSg) (hO : pOb G E o σ nC nV nG) {x : Int32} (hT : ¬ (tX4_vote nV a0 a1) = 0) (hx : rEx (tX4_vote nV a0 a1) = x) : vx_Met l yL_call wsL_call ({ frames := 10, cells := 5, slots := 88, locals := 300 }) (va_Pc [.ref o, .int 12, .int a0, .int a1, .int a2, .int a3, .int a4] (xB2 G E)) (va_Qi (S := xE) (pRd x E) (fun E' t => xW G E' t.heap) (xA G)) (xX G E (fun _ => False)) 5 88 (xA G) :=
  p_mono (kC_vote l hl9 G E o a0 a1 a2 a3 a4 nC nV nG σ hO) (fun _ h => h) (fun r E' h => h.elim (fun q => absurd q.1 hT) (fun q => ⟨by rw [q.2.1, hx], q.2.2⟩)) (fun _ h => h)
theorem kC_isBanned (l : Launch) (hl9 : l.stackTraces = false) (G : xG) (E : xE) (o : Nat) (a0 a1 a2 a3 a4 : Int32) (nC nV nG : Nat) (σ : xSg) (hO : pOb G E o σ nC nV nG) : vx_Met l yL_call wsL_call ({ frames := 10, cells := 5, slots := 88, locals := 300 }) (va_Pc [.ref o, .int 13, .int a0, .int a1, .int a2, .int a3, .int a4] (xB2 G E)) (va_Qi (S := xE) (fun r E' => d_isBanned G E o a0 nC nV nG σ r E' ∨ (¬ (tX4_isBanned nV a0) = 0 ∧ r = rEx (tX4_isBanned nV a0) ∧ E' = E)) (fun E' t => xW G E' t.heap) (xA G)) (xX G E (fun _ => False)) 5 88 (xA G) :=
  kL_call l hl9 G E o 13 a0 a1 a2 a3 a4 (kD_isBanned l hl9 G E o a0 a1 a2 a3 a4 nC nV nG σ hO) (fun _ _ h => Or.inl h) (fun h => Or.inr ⟨by rw [h]; decide, by rw [h]; rfl, rfl⟩) (fun h => Or.inr ⟨by rw [h]; decide, by rw [h]; rfl, rfl⟩) (fun h => Or.inr ⟨by rw [h]; decide, by rw [h]; rfl, rfl⟩)
theorem kR_isBanned (l : Launch) (hl9 : l.stackTraces = false) (G : xG) (E : xE) (o : Nat) (a0 a1 a2 a3 a4 : Int32) (nC nV nG : Nat) (σ : xSg) (hO : pOb G E o σ nC nV nG) {x : Int32} (hT : ¬ (tX4_isBanned nV a0) = 0) (hx : rEx (tX4_isBanned nV a0) = x) : vx_Met l yL_call wsL_call ({ frames := 10, cells := 5, slots := 88, locals := 300 }) (va_Pc [.ref o, .int 13, .int a0, .int a1, .int a2, .int a3, .int a4] (xB2 G E)) (va_Qi (S := xE) (pRd x E) (fun E' t => xW G E' t.heap) (xA G)) (xX G E (fun _ => False)) 5 88 (xA G) :=
  p_mono (kC_isBanned l hl9 G E o a0 a1 a2 a3 a4 nC nV nG σ hO) (fun _ h => h) (fun r E' h => h.elim (fun q => absurd q.1 hT) (fun q => ⟨by rw [q.2.1, hx], q.2.2⟩)) (fun _ h => h)
theorem kC_endless (l : Launch) (hl9 : l.stackTraces = false) (G : xG) (E : xE) (o : Nat) (a0 a1 a2 a3 a4 : Int32) (nC nV nG : Nat) (σ : xSg) (hO : pOb G E o σ nC nV nG) : vx_Met l yL_call wsL_call ({ frames := 10, cells := 5, slots := 88, locals := 300 }) (va_Pc [.ref o, .int 14, .int a0, .int a1, .int a2, .int a3, .int a4] (xB2 G E)) (va_Qi (S := xE) (fun r E' => d_endless G E o a0 nC nV nG σ r E' ∨ (¬ (tX4_endless nV a0) = 0 ∧ r = rEx (tX4_endless nV a0) ∧ E' = E)) (fun E' t => xW G E' t.heap) (xA G)) (xX G E (fun _ => False)) 5 88 (xA G) :=
  kL_call l hl9 G E o 14 a0 a1 a2 a3 a4 (kD_endless l hl9 G E o a0 a1 a2 a3 a4 nC nV nG σ hO) (fun _ _ h => Or.inl h) (fun h => Or.inr ⟨by rw [h]; decide, by rw [h]; rfl, rfl⟩) (fun h => Or.inr ⟨by rw [h]; decide, by rw [h]; rfl, rfl⟩) (fun h => Or.inr ⟨by rw [h]; decide, by rw [h]; rfl, rfl⟩)
theorem kR_endless (l : Launch) (hl9 : l.stackTraces = false) (G : xG) (E : xE) (o : Nat) (a0 a1 a2 a3 a4 : Int32) (nC nV nG : Nat) (σ : xSg) (hO : pOb G E o σ nC nV nG) {x : Int32} (hT : ¬ (tX4_endless nV a0) = 0) (hx : rEx (tX4_endless nV a0) = x) : vx_Met l yL_call wsL_call ({ frames := 10, cells := 5, slots := 88, locals := 300 }) (va_Pc [.ref o, .int 14, .int a0, .int a1, .int a2, .int a3, .int a4] (xB2 G E)) (va_Qi (S := xE) (pRd x E) (fun E' t => xW G E' t.heap) (xA G)) (xX G E (fun _ => False)) 5 88 (xA G) :=
  p_mono (kC_endless l hl9 G E o a0 a1 a2 a3 a4 nC nV nG σ hO) (fun _ h => h) (fun r E' h => h.elim (fun q => absurd q.1 hT) (fun q => ⟨by rw [q.2.1, hx], q.2.2⟩)) (fun _ h => h)
theorem kC_points (l : Launch) (hl9 : l.stackTraces = false) (G : xG) (E : xE) (o : Nat) (a0 a1 a2 a3 a4 : Int32) (nC nV nG : Nat) (σ : xSg) (hO : pOb G E o σ nC nV nG) : vx_Met l yL_call wsL_call ({ frames := 10, cells := 5, slots := 88, locals := 300 }) (va_Pc [.ref o, .int 15, .int a0, .int a1, .int a2, .int a3, .int a4] (xB2 G E)) (va_Qi (S := xE) (fun r E' => d_points G E o a0 a1 nC nV nG σ r E' ∨ (¬ (tX4_points nV a0 a1) = 0 ∧ r = rEx (tX4_points nV a0 a1) ∧ E' = E)) (fun E' t => xW G E' t.heap) (xA G)) (xX G E (fun _ => False)) 5 88 (xA G) :=
  kL_call l hl9 G E o 15 a0 a1 a2 a3 a4 (kD_points l hl9 G E o a0 a1 a2 a3 a4 nC nV nG σ hO) (fun _ _ h => Or.inl h) (fun h => Or.inr ⟨by rw [h]; decide, by rw [h]; rfl, rfl⟩) (fun h => Or.inr ⟨by rw [h]; decide, by rw [h]; rfl, rfl⟩) (fun h => Or.inr ⟨by rw [h]; decide, by rw [h]; rfl, rfl⟩)
theorem kR_points (l : Launch) (hl9 : l.stackTraces = false) (G : xG) (E : xE) (o : Nat) (a0 a1 a2 a3 a4 : Int32) (nC nV nG : Nat) (σ : xSg) (hO : pOb G E o σ nC nV nG) {x : Int32} (hT : ¬ (tX4_points nV a0 a1) = 0) (hx : rEx (tX4_points nV a0 a1) = x) : vx_Met l yL_call wsL_call ({ frames := 10, cells := 5, slots := 88, locals := 300 }) (va_Pc [.ref o, .int 15, .int a0, .int a1, .int a2, .int a3, .int a4] (xB2 G E)) (va_Qi (S := xE) (pRd x E) (fun E' t => xW G E' t.heap) (xA G)) (xX G E (fun _ => False)) 5 88 (xA G) :=
  p_mono (kC_points l hl9 G E o a0 a1 a2 a3 a4 nC nV nG σ hO) (fun _ h => h) (fun r E' h => h.elim (fun q => absurd q.1 hT) (fun q => ⟨by rw [q.2.1, hx], q.2.2⟩)) (fun _ h => h)
