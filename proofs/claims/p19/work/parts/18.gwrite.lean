/-- what a move makes of the pieces: the first one's, the second one's -/
def goA (p1 p2 : Int32) (d : Nat) (a0 a1 : Int32) : Int32 := if fX1_isSecondToMove (nI d) = true then ((fX1_ofWaiting p1 p2 (nI d)) &&& (((1 : Int32) <<< (a1 &&& 31)) ^^^ (-1))) else (fX4_moved (fX1_ofMover p1 p2 (nI d)) a0 a1)
def goB (p1 p2 : Int32) (d : Nat) (a0 a1 : Int32) : Int32 := if fX1_isSecondToMove (nI d) = true then (fX4_moved (fX1_ofMover p1 p2 (nI d)) a0 a1) else ((fX1_ofWaiting p1 p2 (nI d)) &&& (((1 : Int32) <<< (a1 &&& 31)) ^^^ (-1)))

set_option maxHeartbeats 4000000 in
set_option maxRecDepth 100000 in
theorem kX1_go (l : Launch) (G : xG) (E : xE) (o : Nat) (a0 a1 : Int32) (gv gr sn : Nat) (q1 q2 p1 p2 sta : Int32) (sq : Nat → Int64) (d : Nat) (hd : d < 60) (hE : E o = some (.inr (1, [.ref gv, .ref gr, .int q1, .int q2, .ref sn, .int p1, .int p2, .int (nI d), .int sta]))) (hQ : E sn = some (.inl (G.2.1 1, 61, .inr (.inl sq)))) : Met l yX1_go wsX1_go ({ frames := 2, cells := 0, slots := 0, locals := 40 }) (va_Pc [.ref o, .int a0, .int a1] (xB G E)) (va_Qv (S := xE) (fun E' => E' = xU (xU E o (.inr (1, [.ref gv, .ref gr, .int q1, .int q2, .ref sn, .int (goA p1 p2 d a0 a1), .int (goB p1 p2 d a0 a1), .int (nI (d + 1)), .int sta]))) sn (.inl (G.2.1 1, 61, .inr (.inl (vp_updL sq (d + 1) (fX1_placing (goA p1 p2 d a0 a1) (goB p1 p2 d a0 a1) (fX1_isSecondToMove (nI (d + 1))))))))) (fun E' t => xW G E' t.heap) (xA G)) 0 0 (xA G) := by
  refine Met.ofW (cc := cX1_go) (maxL := 5) (ret := none) (by decide) rfl ?_
  intro p e s m args below meth c s₁ B hml hv
  obtain ⟨rfl, hX, hW⟩ := hv
  have hx := B.exec
  have hb := B.bytes
  have hr := B.returns
  have hts := atoms_spec (ws := wsX1_go) B.pre
  have hown : s.vm.findClass RX1 = some m.cls := findClass_of_methodNamed B.named
  have hlocks := B.notSynchronized
  have hS : va_S (xA G) s.heap s.heap [] := va_S.rf
  have hiniRX4 := hts (Cond.initialized RX4) (by decide +kernel)
  have hstX4_moved := hts (Cond.static yX4_moved) (by decide +kernel)
  have hiX1 : ∀ w ∈ u_ws RX1 TX1 9, w ∈ wsX1_go := by decide +kernel
  have hf29 := hts (Cond.fieldLink RX1 29 "VariantMill$Game" "ofFirst" "I") (by decide +kernel)
  have hf32 := hts (Cond.fieldLink RX1 32 "VariantMill$Game" "ofSecond" "I") (by decide +kernel)
  have hf46 := hts (Cond.fieldLink RX1 46 "VariantMill$Game" "made" "I") (by decide +kernel)
  have hf38 := hts (Cond.fieldLink RX1 38 "VariantMill$Game" "seen" "[J") (by decide +kernel)
  have hl := lv_entry ([.ref o, .int a0, .int a1]) (n := 5) (Nat.le_of_ble_eq_true rfl)
  rw [lg_entry_eq]
  generalize (lg_sl ([.ref o, .int a0, .int a1]) ++ List.replicate (5 - (lg_sl ([.ref o, .int a0, .int a1])).length) Slot.unset).toArray = ls at hl ⊢
  have hl : lv_has ls 5 [(0, .ref o), (1, .int a0), (2, .int a1)] := hl
  obtain ⟨H, hH⟩ : ∃ z, z = s.heap := ⟨_, rfl⟩
  rw [← hH] at hW
  have hS : va_S (xA G) s.heap H [] := by rw [hH]; exact hS
  rw [← hH]
  refine lv_aload_n hx hb dX1_go_0 rfl (lv_at hl 0 rfl) ?_
  refine x_callSe (va_runV (As := []) (rest := []) ⟨hx, hb, hml, hown, hts⟩ (kX1_ofMover l G _ p1 p2 (nI d) o gv gr sn q1 q2 sta hE) (cwV 0 hts gX1_go_X1_ofMover rfl rfl rfl (by decide +kernel) ⟨Nat.le_of_ble_eq_true rfl, Nat.le_of_ble_eq_true rfl⟩) (x_preV hX hS hW hE rfl) rfl rfl hl.1 rfl (lv_room (Nat.le_of_ble_eq_true rfl)) dX1_go_1 ⟨Nat.le_of_ble_eq_true rfl, Nat.le_of_ble_eq_true rfl⟩) ?_
  refine lv_iload_n hx hb dX1_go_4 rfl (lv_at hl 1 rfl) ?_
  refine lv_iload_n hx hb dX1_go_5 rfl (lv_at hl 2 rfl) ?_
  refine x_callSe (va_runSN (As := [.int (fX1_ofMover p1 p2 (nI d)), .int a0, .int a1]) (rest := []) ⟨hx, hb, hml, hown, hts⟩ (kX4_moved l (fX1_ofMover p1 p2 (nI d)) a0 a1) ⟨va_cnB 3 hts gX1_go_X4_moved_n67 rfl rfl rfl hX.2.1.2.2.2.2 hiniRX4 (by decide +kernel) ⟨Nat.le_of_ble_eq_true rfl, Nat.le_of_ble_eq_true rfl⟩, hstX4_moved, trivial⟩ x_preT rfl rfl hl.1 rfl (lv_room (Nat.le_of_ble_eq_true rfl)) dX1_go_6 ⟨Nat.le_of_ble_eq_true rfl, Nat.le_of_ble_eq_true rfl⟩) ?_
  refine lv_istore_n (lv' := [(3, .int (fX4_moved (fX1_ofMover p1 p2 (nI d)) a0 a1)), (0, .ref o), (1, .int a0), (2, .int a1)]) hx hb dX1_go_9 rfl hl (by decide) rfl (fun ls hl => ?_)
  refine lv_aload_n hx hb dX1_go_10 rfl (lv_at hl 1 rfl) ?_
  refine x_callSe (va_runV (As := []) (rest := []) ⟨hx, hb, hml, hown, hts⟩ (kX1_ofWaiting l G _ p1 p2 (nI d) o gv gr sn q1 q2 sta hE) (cwV 0 hts gX1_go_X1_ofWaiting rfl rfl rfl (by decide +kernel) ⟨Nat.le_of_ble_eq_true rfl, Nat.le_of_ble_eq_true rfl⟩) (x_preV hX hS hW hE rfl) rfl rfl hl.1 rfl (lv_room (Nat.le_of_ble_eq_true rfl)) dX1_go_11 ⟨Nat.le_of_ble_eq_true rfl, Nat.le_of_ble_eq_true rfl⟩) ?_
  refine lv_iconst (v := 1) hx hb dX1_go_14 (by decide) ?_
  refine lv_iload_n hx hb dX1_go_15 rfl (lv_at hl 3 rfl) ?_
  refine lv_ishl hx hb dX1_go_16 ?_
  refine lv_iconst (v := (-1)) hx hb dX1_go_17 (by decide) ?_
  refine lv_ixor hx hb dX1_go_18 ?_
  refine lv_iand hx hb dX1_go_19 ?_
  refine lv_istore (lv' := [(4, .int ((fX1_ofWaiting p1 p2 (nI d)) &&& (((1 : Int32) <<< (a1 &&& 31)) ^^^ (-1)))), (3, .int (fX4_moved (fX1_ofMover p1 p2 (nI d)) a0 a1)), (0, .ref o), (1, .int a0), (2, .int a1)]) hx hb dX1_go_20 hl (by decide) rfl (fun ls hl => ?_)
  refine lv_aload_n hx hb dX1_go_22 rfl (lv_at hl 2 rfl) ?_
  refine lv_aload_n hx hb dX1_go_23 rfl (lv_at hl 2 rfl) ?_
  refine x_callSe (va_runV (As := []) (rest := [.ref o]) ⟨hx, hb, hml, hown, hts⟩ (kX1_isSecondToMove l G _ (nI d) o gv gr sn q1 q2 p1 p2 sta hE) (cwV 0 hts gX1_go_X1_isSecondToMove rfl rfl rfl (by decide +kernel) ⟨Nat.le_of_ble_eq_true rfl, Nat.le_of_ble_eq_true rfl⟩) (x_preV hX hS hW hE rfl) rfl rfl hl.1 rfl (lv_room (Nat.le_of_ble_eq_true rfl)) dX1_go_24 ⟨Nat.le_of_ble_eq_true rfl, Nat.le_of_ble_eq_true rfl⟩) ?_
  refine x_join (ls' := ls) (rest' := [.ref o]) 36 ((if (fX1_isSecondToMove (nI d)) = true then (((fX1_ofWaiting p1 p2 (nI d)) &&& (((1 : Int32) <<< (a1 &&& 31)) ^^^ (-1)))) else ((fX4_moved (fX1_ofMover p1 p2 (nI d)) a0 a1)))) (fun v ev => ?_) (fun J => ?_)
  · subst ev
    refine x_put (G := G) (ci := 1) (v := .int (if (fX1_isSecondToMove (nI d)) = true then (((fX1_ofWaiting p1 p2 (nI d)) &&& (((1 : Int32) <<< (a1 &&& 31)) ^^^ (-1)))) else ((fX4_moved (fX1_ofMover p1 p2 (nI d)) a0 a1)))) (ty := .int) (C := RX1) (T := TX1) (N := 9) hx hb hts hiX1 tyX1 tyX1_ok nmX1 hown hX.1 hW hS hE rfl 5 (by decide) hf29 (fun _ h9 => h9) rfl (by decide +kernel) rfl rfl (Nat.le_of_ble_eq_true rfl) dX1_go_36 (fun H locs hW hS => ?_)
    obtain ⟨E2, eE2⟩ : ∃ z, z = xU E o (.inr (1, [.ref gv, .ref gr, .int q1, .int q2, .ref sn, .int (if (fX1_isSecondToMove (nI d)) = true then (((fX1_ofWaiting p1 p2 (nI d)) &&& (((1 : Int32) <<< (a1 &&& 31)) ^^^ (-1)))) else ((fX4_moved (fX1_ofMover p1 p2 (nI d)) a0 a1))), .int p2, .int (nI d), .int sta])) := ⟨_, rfl⟩
    have hW : xW G E2 H := by rw [eE2]; exact hW
    have hQ9 : E2 sn = some (.inl (G.2.1 1, 61, .inr (.inl sq))) := by rw [eE2]; exact xU_of hQ hE (fun h => by cases h)
    have hE9 : E2 o = some (.inr (1, [.ref gv, .ref gr, .int q1, .int q2, .ref sn, .int (if (fX1_isSecondToMove (nI d)) = true then (((fX1_ofWaiting p1 p2 (nI d)) &&& (((1 : Int32) <<< (a1 &&& 31)) ^^^ (-1)))) else ((fX4_moved (fX1_ofMover p1 p2 (nI d)) a0 a1))), .int p2, .int (nI d), .int sta])) := by rw [eE2]; exact xU_self _ _ _
    refine lv_aload_n hx hb dX1_go_39 rfl (lv_at hl 2 rfl) ?_
    refine lv_aload_n hx hb dX1_go_40 rfl (lv_at hl 2 rfl) ?_
    refine x_callSe (va_runV (As := []) (rest := [.ref o]) ⟨hx, hb, hml, hown, hts⟩ (kX1_isSecondToMove l G _ (nI d) o gv gr sn q1 q2 (if (fX1_isSecondToMove (nI d)) = true then (((fX1_ofWaiting p1 p2 (nI d)) &&& (((1 : Int32) <<< (a1 &&& 31)) ^^^ (-1)))) else ((fX4_moved (fX1_ofMover p1 p2 (nI d)) a0 a1))) p2 sta hE9) (cwV 0 hts gX1_go_X1_isSecondToMove rfl rfl rfl (by decide +kernel) ⟨Nat.le_of_ble_eq_true rfl, Nat.le_of_ble_eq_true rfl⟩) (x_preV hX hS hW hE9 rfl) rfl rfl hl.1 rfl (lv_room (Nat.le_of_ble_eq_true rfl)) dX1_go_41 ⟨Nat.le_of_ble_eq_true rfl, Nat.le_of_ble_eq_true rfl⟩) ?_
    refine x_join (ls' := ls) (rest' := [.ref o]) 53 ((if (fX1_isSecondToMove (nI d)) = true then ((fX4_moved (fX1_ofMover p1 p2 (nI d)) a0 a1)) else (((fX1_ofWaiting p1 p2 (nI d)) &&& (((1 : Int32) <<< (a1 &&& 31)) ^^^ (-1)))))) (fun v ev => ?_) (fun J => ?_)
    · subst ev
      refine x_put (G := G) (ci := 1) (v := .int (if (fX1_isSecondToMove (nI d)) = true then ((fX4_moved (fX1_ofMover p1 p2 (nI d)) a0 a1)) else (((fX1_ofWaiting p1 p2 (nI d)) &&& (((1 : Int32) <<< (a1 &&& 31)) ^^^ (-1)))))) (ty := .int) (C := RX1) (T := TX1) (N := 9) hx hb hts hiX1 tyX1 tyX1_ok nmX1 hown hX.1 hW hS hE9 rfl 6 (by decide) hf32 (fun _ h9 => h9) rfl (by decide +kernel) rfl rfl (Nat.le_of_ble_eq_true rfl) dX1_go_53 (fun H locs hW hS => ?_)
      obtain ⟨E4, eE4⟩ : ∃ z, z = xU E2 o (.inr (1, [.ref gv, .ref gr, .int q1, .int q2, .ref sn, .int (if (fX1_isSecondToMove (nI d)) = true then (((fX1_ofWaiting p1 p2 (nI d)) &&& (((1 : Int32) <<< (a1 &&& 31)) ^^^ (-1)))) else ((fX4_moved (fX1_ofMover p1 p2 (nI d)) a0 a1))), .int (if (fX1_isSecondToMove (nI d)) = true then ((fX4_moved (fX1_ofMover p1 p2 (nI d)) a0 a1)) else (((fX1_ofWaiting p1 p2 (nI d)) &&& (((1 : Int32) <<< (a1 &&& 31)) ^^^ (-1))))), .int (nI d), .int sta])) := ⟨_, rfl⟩
      have hW : xW G E4 H := by rw [eE4]; exact hW
      have hQ99 : E4 sn = some (.inl (G.2.1 1, 61, .inr (.inl sq))) := by rw [eE4]; exact xU_of hQ9 hE9 (fun h => by cases h)
      have hE99 : E4 o = some (.inr (1, [.ref gv, .ref gr, .int q1, .int q2, .ref sn, .int (if (fX1_isSecondToMove (nI d)) = true then (((fX1_ofWaiting p1 p2 (nI d)) &&& (((1 : Int32) <<< (a1 &&& 31)) ^^^ (-1)))) else ((fX4_moved (fX1_ofMover p1 p2 (nI d)) a0 a1))), .int (if (fX1_isSecondToMove (nI d)) = true then ((fX4_moved (fX1_ofMover p1 p2 (nI d)) a0 a1)) else (((fX1_ofWaiting p1 p2 (nI d)) &&& (((1 : Int32) <<< (a1 &&& 31)) ^^^ (-1))))), .int (nI d), .int sta])) := by rw [eE4]; exact xU_self _ _ _
      refine lv_aload_n hx hb dX1_go_56 rfl (lv_at hl 2 rfl) ?_
      refine lv_dup hx hb dX1_go_57 rfl ?_
      refine va_get (D := G.1) (ci := 1) (v := .int (nI d)) (C := RX1) (T := TX1) (N := 9) hx hb hts hiX1 hown hX.1 (x1 hW hE99) 0 rfl rfl 7 (by decide) hf46 (fun _ h9 => h9) rfl dX1_go_58 ?_
      refine lv_iconst (v := 1) hx hb dX1_go_61 (by decide) ?_
      refine lv_iadd hx hb dX1_go_62 ?_
      rw [nI_1]
      refine x_put (G := G) (ci := 1) (v := .int (nI (d + 1))) (ty := .int) (C := RX1) (T := TX1) (N := 9) hx hb hts hiX1 tyX1 tyX1_ok nmX1 hown hX.1 hW hS hE99 rfl 7 (by decide) hf46 (fun _ h9 => h9) rfl (by decide +kernel) rfl rfl (Nat.le_of_ble_eq_true rfl) dX1_go_63 (fun H locs hW hS => ?_)
      obtain ⟨E5, eE5⟩ : ∃ z, z = xU E4 o (.inr (1, [.ref gv, .ref gr, .int q1, .int q2, .ref sn, .int (if (fX1_isSecondToMove (nI d)) = true then (((fX1_ofWaiting p1 p2 (nI d)) &&& (((1 : Int32) <<< (a1 &&& 31)) ^^^ (-1)))) else ((fX4_moved (fX1_ofMover p1 p2 (nI d)) a0 a1))), .int (if (fX1_isSecondToMove (nI d)) = true then ((fX4_moved (fX1_ofMover p1 p2 (nI d)) a0 a1)) else (((fX1_ofWaiting p1 p2 (nI d)) &&& (((1 : Int32) <<< (a1 &&& 31)) ^^^ (-1))))), .int (nI (d + 1)), .int sta])) := ⟨_, rfl⟩
      have hW : xW G E5 H := by rw [eE5]; exact hW
      have hQ999 : E5 sn = some (.inl (G.2.1 1, 61, .inr (.inl sq))) := by rw [eE5]; exact xU_of hQ99 hE99 (fun h => by cases h)
      have hE999 : E5 o = some (.inr (1, [.ref gv, .ref gr, .int q1, .int q2, .ref sn, .int (if (fX1_isSecondToMove (nI d)) = true then (((fX1_ofWaiting p1 p2 (nI d)) &&& (((1 : Int32) <<< (a1 &&& 31)) ^^^ (-1)))) else ((fX4_moved (fX1_ofMover p1 p2 (nI d)) a0 a1))), .int (if (fX1_isSecondToMove (nI d)) = true then ((fX4_moved (fX1_ofMover p1 p2 (nI d)) a0 a1)) else (((fX1_ofWaiting p1 p2 (nI d)) &&& (((1 : Int32) <<< (a1 &&& 31)) ^^^ (-1))))), .int (nI (d + 1)), .int sta])) := by rw [eE5]; exact xU_self _ _ _
      refine lv_aload_n hx hb dX1_go_66 rfl (lv_at hl 2 rfl) ?_
      refine va_get (D := G.1) (ci := 1) (v := .int (nI (d + 1))) (C := RX1) (T := TX1) (N := 9) hx hb hts hiX1 hown hX.1 (x1 hW hE999) 0 rfl rfl 7 (by decide) hf46 (fun _ h9 => h9) rfl dX1_go_67 ?_
      refine lv_aload_n hx hb dX1_go_70 rfl (lv_at hl 2 rfl) ?_
      refine va_get (D := G.1) (ci := 1) (v := .ref sn) (C := RX1) (T := TX1) (N := 9) hx hb hts hiX1 hown hX.1 (x1 hW hE999) 0 rfl rfl 4 (by decide) hf38 (fun _ h9 => h9) rfl dX1_go_71 ?_
      refine va_alen (D := G.1) hx hb hX.1 (x1 hW hQ999) 0 1 rfl rfl (v := 61) rfl dX1_go_74 ?_
      refine lv_icmp_ge (tgt := 102) hx hb dX1_go_75 (by decide) (fun c9 => absurd c9 (show ¬ ((61 : Int32) ≤ nI (d + 1)) from nI_ge (a := d + 1) (b := 61) (by omega) (by omega))) (fun _ => ?_)
      refine lv_aload_n hx hb dX1_go_78 rfl (lv_at hl 2 rfl) ?_
      refine va_get (D := G.1) (ci := 1) (v := .ref sn) (C := RX1) (T := TX1) (N := 9) hx hb hts hiX1 hown hX.1 (x1 hW hE999) 0 rfl rfl 4 (by decide) hf38 (fun _ h9 => h9) rfl dX1_go_79 ?_
      refine lv_aload_n hx hb dX1_go_82 rfl (lv_at hl 2 rfl) ?_
      refine va_get (D := G.1) (ci := 1) (v := .int (nI (d + 1))) (C := RX1) (T := TX1) (N := 9) hx hb hts hiX1 hown hX.1 (x1 hW hE999) 0 rfl rfl 7 (by decide) hf46 (fun _ h9 => h9) rfl dX1_go_83 ?_
      refine lv_aload_n hx hb dX1_go_86 rfl (lv_at hl 2 rfl) ?_
      refine va_get (D := G.1) (ci := 1) (v := .int (if (fX1_isSecondToMove (nI d)) = true then (((fX1_ofWaiting p1 p2 (nI d)) &&& (((1 : Int32) <<< (a1 &&& 31)) ^^^ (-1)))) else ((fX4_moved (fX1_ofMover p1 p2 (nI d)) a0 a1)))) (C := RX1) (T := TX1) (N := 9) hx hb hts hiX1 hown hX.1 (x1 hW hE999) 0 rfl rfl 5 (by decide) hf29 (fun _ h9 => h9) rfl dX1_go_87 ?_
      refine lv_aload_n hx hb dX1_go_90 rfl (lv_at hl 2 rfl) ?_
      refine va_get (D := G.1) (ci := 1) (v := .int (if (fX1_isSecondToMove (nI d)) = true then ((fX4_moved (fX1_ofMover p1 p2 (nI d)) a0 a1)) else (((fX1_ofWaiting p1 p2 (nI d)) &&& (((1 : Int32) <<< (a1 &&& 31)) ^^^ (-1)))))) (C := RX1) (T := TX1) (N := 9) hx hb hts hiX1 hown hX.1 (x1 hW hE999) 0 rfl rfl 6 (by decide) hf32 (fun _ h9 => h9) rfl dX1_go_91 ?_
      refine lv_aload_n hx hb dX1_go_94 rfl (lv_at hl 2 rfl) ?_
      refine x_callSe (va_runV (As := []) (rest := [.int (if (fX1_isSecondToMove (nI d)) = true then ((fX4_moved (fX1_ofMover p1 p2 (nI d)) a0 a1)) else (((fX1_ofWaiting p1 p2 (nI d)) &&& (((1 : Int32) <<< (a1 &&& 31)) ^^^ (-1))))), .int (if (fX1_isSecondToMove (nI d)) = true then (((fX1_ofWaiting p1 p2 (nI d)) &&& (((1 : Int32) <<< (a1 &&& 31)) ^^^ (-1)))) else ((fX4_moved (fX1_ofMover p1 p2 (nI d)) a0 a1))), .int (nI (d + 1)), .ref sn]) ⟨hx, hb, hml, hown, hts⟩ (kX1_isSecondToMove l G _ (nI (d + 1)) o gv gr sn q1 q2 (if (fX1_isSecondToMove (nI d)) = true then (((fX1_ofWaiting p1 p2 (nI d)) &&& (((1 : Int32) <<< (a1 &&& 31)) ^^^ (-1)))) else ((fX4_moved (fX1_ofMover p1 p2 (nI d)) a0 a1))) (if (fX1_isSecondToMove (nI d)) = true then ((fX4_moved (fX1_ofMover p1 p2 (nI d)) a0 a1)) else (((fX1_ofWaiting p1 p2 (nI d)) &&& (((1 : Int32) <<< (a1 &&& 31)) ^^^ (-1))))) sta hE999) (cwV 0 hts gX1_go_X1_isSecondToMove rfl rfl rfl (by decide +kernel) ⟨Nat.le_of_ble_eq_true rfl, Nat.le_of_ble_eq_true rfl⟩) (x_preV hX hS hW hE999 rfl) rfl rfl hl.1 rfl (lv_room (Nat.le_of_ble_eq_true rfl)) dX1_go_95 ⟨Nat.le_of_ble_eq_true rfl, Nat.le_of_ble_eq_true rfl⟩) ?_
      refine x_callSle (va_runS (As := [.int (if (fX1_isSecondToMove (nI d)) = true then (((fX1_ofWaiting p1 p2 (nI d)) &&& (((1 : Int32) <<< (a1 &&& 31)) ^^^ (-1)))) else ((fX4_moved (fX1_ofMover p1 p2 (nI d)) a0 a1))), .int (if (fX1_isSecondToMove (nI d)) = true then ((fX4_moved (fX1_ofMover p1 p2 (nI d)) a0 a1)) else (((fX1_ofWaiting p1 p2 (nI d)) &&& (((1 : Int32) <<< (a1 &&& 31)) ^^^ (-1))))), .int (zI (fX1_isSecondToMove (nI (d + 1))))]) (rest := [.int (nI (d + 1)), .ref sn]) ⟨hx, hb, hml, hown, hts⟩ (kX1_placing l (if (fX1_isSecondToMove (nI d)) = true then (((fX1_ofWaiting p1 p2 (nI d)) &&& (((1 : Int32) <<< (a1 &&& 31)) ^^^ (-1)))) else ((fX4_moved (fX1_ofMover p1 p2 (nI d)) a0 a1))) (if (fX1_isSecondToMove (nI d)) = true then ((fX4_moved (fX1_ofMover p1 p2 (nI d)) a0 a1)) else (((fX1_ofWaiting p1 p2 (nI d)) &&& (((1 : Int32) <<< (a1 &&& 31)) ^^^ (-1))))) (fX1_isSecondToMove (nI (d + 1)))) (va_cwS 3 hts gX1_go_X1_placing rfl rfl rfl (by decide +kernel) ⟨Nat.le_of_ble_eq_true rfl, Nat.le_of_ble_eq_true rfl⟩) x_preT rfl rfl hl.1 rfl (lv_room (Nat.le_of_ble_eq_true rfl)) dX1_go_98 ⟨Nat.le_of_ble_eq_true rfl, Nat.le_of_ble_eq_true rfl⟩) ?_
      refine x_last (G := G) hx hb hX.1 hW hS hQ999 (vp_in_nI (by omega) (by omega)) dX1_go_101 (fun H locs hW hS => ?_)
      rw [show (nI (d + 1)).toNatClampNeg = (d + 1) from (nI_clamp (by omega))] at hW
      obtain ⟨E6, eE6⟩ : ∃ z, z = xU E5 sn (.inl (G.2.1 1, 61, .inr (.inl (vp_updL sq (d + 1) (fX1_placing (if (fX1_isSecondToMove (nI d)) = true then (((fX1_ofWaiting p1 p2 (nI d)) &&& (((1 : Int32) <<< (a1 &&& 31)) ^^^ (-1)))) else ((fX4_moved (fX1_ofMover p1 p2 (nI d)) a0 a1))) (if (fX1_isSecondToMove (nI d)) = true then ((fX4_moved (fX1_ofMover p1 p2 (nI d)) a0 a1)) else (((fX1_ofWaiting p1 p2 (nI d)) &&& (((1 : Int32) <<< (a1 &&& 31)) ^^^ (-1))))) (fX1_isSecondToMove (nI (d + 1)))))))) := ⟨_, rfl⟩
      have hW : xW G E6 H := by rw [eE6]; exact hW
      have hE9999 : E6 o = some (.inr (1, [.ref gv, .ref gr, .int q1, .int q2, .ref sn, .int (if (fX1_isSecondToMove (nI d)) = true then (((fX1_ofWaiting p1 p2 (nI d)) &&& (((1 : Int32) <<< (a1 &&& 31)) ^^^ (-1)))) else ((fX4_moved (fX1_ofMover p1 p2 (nI d)) a0 a1))), .int (if (fX1_isSecondToMove (nI d)) = true then ((fX4_moved (fX1_ofMover p1 p2 (nI d)) a0 a1)) else (((fX1_ofWaiting p1 p2 (nI d)) &&& (((1 : Int32) <<< (a1 &&& 31)) ^^^ (-1))))), .int (nI (d + 1)), .int sta])) := by rw [eE6]; exact xU_of hE999 hQ999 (fun h => by cases h)
      have hQ9999 : E6 sn = some (.inl (G.2.1 1, 61, .inr (.inl (vp_updL sq (d + 1) (fX1_placing (if (fX1_isSecondToMove (nI d)) = true then (((fX1_ofWaiting p1 p2 (nI d)) &&& (((1 : Int32) <<< (a1 &&& 31)) ^^^ (-1)))) else ((fX4_moved (fX1_ofMover p1 p2 (nI d)) a0 a1))) (if (fX1_isSecondToMove (nI d)) = true then ((fX4_moved (fX1_ofMover p1 p2 (nI d)) a0 a1)) else (((fX1_ofWaiting p1 p2 (nI d)) &&& (((1 : Int32) <<< (a1 &&& 31)) ^^^ (-1))))) (fX1_isSecondToMove (nI (d + 1)))))))) := by rw [eE6]; exact xU_self _ _ _
      exact W.widen (k := 0) (n := 0) (Nat.le_of_ble_eq_true rfl) (Nat.le_of_ble_eq_true rfl) (W.vret hx hb hr (fun t ht hw => ⟨⟨E6, rfl, (show E6 = xU (xU E o (.inr (1, [.ref gv, .ref gr, .int q1, .int q2, .ref sn, .int (goA p1 p2 d a0 a1), .int (goB p1 p2 d a0 a1), .int (nI (d + 1)), .int sta]))) sn (.inl (G.2.1 1, 61, .inr (.inl (vp_updL sq (d + 1) (fX1_placing (goA p1 p2 d a0 a1) (goB p1 p2 d a0 a1) (fX1_isSecondToMove (nI (d + 1)))))))) from by rw [eE6, eE5, eE4, eE2]; simp only [xU_xU]; rfl), (show xW G E6 t.heap from by rw [ht]; exact hW)⟩, hS.F ht⟩) hS.2.2 dX1_go_102)
    · refine x_ifz_eq (b := fX1_isSecondToMove (nI d)) (tgt := 51) hx hb dX1_go_44 (by decide) (fun c_3 => ?_) (fun c_3 => ?_)
      · refine lv_iload hx hb dX1_go_51 (lv_at hl 0 rfl) ?_
        exact J _ (show ((fX1_ofWaiting p1 p2 (nI d)) &&& (((1 : Int32) <<< (a1 &&& 31)) ^^^ (-1)) : Int32) = if (fX1_isSecondToMove (nI d)) = true then ((fX4_moved (fX1_ofMover p1 p2 (nI d)) a0 a1)) else (((fX1_ofWaiting p1 p2 (nI d)) &&& (((1 : Int32) <<< (a1 &&& 31)) ^^^ (-1)))) from by rw [if_neg (Bool.eq_false_iff.mp c_3)])
      · refine lv_iload_n hx hb dX1_go_47 rfl (lv_at hl 1 rfl) ?_
        refine lv_goto (tgt := 53) hx hb dX1_go_48 (by decide) ?_
        exact J _ (show (fX4_moved (fX1_ofMover p1 p2 (nI d)) a0 a1 : Int32) = if (fX1_isSecondToMove (nI d)) = true then ((fX4_moved (fX1_ofMover p1 p2 (nI d)) a0 a1)) else (((fX1_ofWaiting p1 p2 (nI d)) &&& (((1 : Int32) <<< (a1 &&& 31)) ^^^ (-1)))) from by rw [if_pos c_3])
  · refine x_ifz_eq (b := fX1_isSecondToMove (nI d)) (tgt := 35) hx hb dX1_go_27 (by decide) (fun c_1 => ?_) (fun c_1 => ?_)
    · refine lv_iload_n hx hb dX1_go_35 rfl (lv_at hl 1 rfl) ?_
      exact J _ (show (fX4_moved (fX1_ofMover p1 p2 (nI d)) a0 a1 : Int32) = if (fX1_isSecondToMove (nI d)) = true then (((fX1_ofWaiting p1 p2 (nI d)) &&& (((1 : Int32) <<< (a1 &&& 31)) ^^^ (-1)))) else ((fX4_moved (fX1_ofMover p1 p2 (nI d)) a0 a1)) from by rw [if_neg (Bool.eq_false_iff.mp c_1)])
    · refine lv_iload hx hb dX1_go_30 (lv_at hl 0 rfl) ?_
      refine lv_goto (tgt := 36) hx hb dX1_go_32 (by decide) ?_
      exact J _ (show ((fX1_ofWaiting p1 p2 (nI d)) &&& (((1 : Int32) <<< (a1 &&& 31)) ^^^ (-1)) : Int32) = if (fX1_isSecondToMove (nI d)) = true then (((fX1_ofWaiting p1 p2 (nI d)) &&& (((1 : Int32) <<< (a1 &&& 31)) ^^^ (-1)))) else ((fX4_moved (fX1_ofMover p1 p2 (nI d)) a0 a1)) from by rw [if_pos c_1])

def fX1_settle (σ : xSg) (nC : Nat) (S h : Int32) (p1 p2 md sta en : Int32) (sq : Nat → Int64) : Int32 × Int32 := if (fX2_hasMove (σ) nC S h (fX1_ofMover p1 p2 md) (fX1_ofWaiting p1 p2 md) (fX1_isSecondToMove md)) = true then (if (fX1_timesSeen p1 p2 md sq) < 3 then (if md < 60 then ((sta, en)) else ((3, en))) else ((3, en + 1))) else (((if (fX1_isSecondToMove md) = true then ((1 : Int32)) else ((2 : Int32))), en))
set_option maxHeartbeats 4000000 in
set_option maxRecDepth 100000 in
theorem kX1_settle (l : Launch) (G : xG) (E : xE) (o : Nat) (gv gr sn : Nat) (q1 q2 p1 p2 md sta : Int32) (sq : Nat → Int64) (σ : xSg) (nC : Nat) (S h : Int32) (ta : Nat) (tb : Nat → Option Nat) (vr : Nat) (vo en : Int32) (hE : E o = some (.inr (1, [.ref gv, .ref gr, .int q1, .int q2, .ref sn, .int p1, .int p2, .int md, .int sta]))) (hQ : E sn = some (.inl (G.2.1 1, 61, .inr (.inl sq)))) (hR : E gr = some (.inr (2, [.ref ta, .int S, .int h]))) (hT : xCardsAt G E ta tb nC σ) (hV : E gv = some (.inr (3, [.ref vr, .int vo, .int en]))) : Met l yX1_settle wsX1_settle ({ frames := 4, cells := 0, slots := 0, locals := 105 }) (va_Pc [.ref o] (xB G E)) (va_Qv (S := xE) (fun E' => E' = xU (xU E o (.inr (1, [.ref gv, .ref gr, .int q1, .int q2, .ref sn, .int p1, .int p2, .int md, .int (fX1_settle σ nC S h p1 p2 md sta en sq).1]))) gv (.inr (3, [.ref vr, .int vo, .int (fX1_settle σ nC S h p1 p2 md sta en sq).2]))) (fun E' t => xW G E' t.heap) (xA G)) 0 0 (xA G) := by
  refine Met.ofW (cc := cX1_settle) (maxL := 1) (ret := none) (by decide) rfl ?_
  intro p e s m args below meth c s₁ B hml hv
  obtain ⟨rfl, hX, hW⟩ := hv
  have hx := B.exec
  have hb := B.bytes
  have hr := B.returns
  have hts := atoms_spec (ws := wsX1_settle) B.pre
  have hown : s.vm.findClass RX1 = some m.cls := findClass_of_methodNamed B.named
  have hlocks := B.notSynchronized
  have hS : va_S (xA G) s.heap s.heap [] := va_S.rf
  have hiX1 : ∀ w ∈ u_ws RX1 TX1 9, w ∈ wsX1_settle := by decide +kernel
  have hf21 := hts (Cond.fieldLink RX1 21 "VariantMill$Game" "rules" "LVariantMill$Rules;") (by decide +kernel)
  have hf46 := hts (Cond.fieldLink RX1 46 "VariantMill$Game" "made" "I") (by decide +kernel)
  have hf35 := hts (Cond.fieldLink RX1 35 "VariantMill$Game" "state" "I") (by decide +kernel)
  have hf9 := hts (Cond.fieldLink RX1 9 "VariantMill$Game" "variant" "LVariantMill$Variant;") (by decide +kernel)
  have hiX3 : ∀ w ∈ u_ws RX3 TX3 3, w ∈ wsX1_settle := by decide +kernel
  have hf81 := hts (Cond.fieldLink RX1 81 "VariantMill$Variant" "endlessGames" "I") (by decide +kernel)
  have hl := lv_entry ([.ref o]) (n := 1) (Nat.le_of_ble_eq_true rfl)
  rw [lg_entry_eq]
  generalize (lg_sl ([.ref o]) ++ List.replicate (1 - (lg_sl ([.ref o])).length) Slot.unset).toArray = ls at hl ⊢
  have hl : lv_has ls 1 [(0, .ref o)] := hl
  obtain ⟨H, hH⟩ : ∃ z, z = s.heap := ⟨_, rfl⟩
  rw [← hH] at hW
  have hS : va_S (xA G) s.heap H [] := by rw [hH]; exact hS
  rw [← hH]
  refine lv_aload_n hx hb dX1_settle_0 rfl (lv_at hl 0 rfl) ?_
  refine va_get (D := G.1) (ci := 1) (v := .ref gr) (C := RX1) (T := TX1) (N := 9) hx hb hts hiX1 hown hX.1 (x1 hW hE) 0 rfl rfl 1 (by decide) hf21 (fun _ h9 => h9) rfl dX1_settle_1 ?_
  refine lv_aload_n hx hb dX1_settle_4 rfl (lv_at hl 0 rfl) ?_
  refine x_callSe (va_runV (As := []) (rest := [.ref gr]) ⟨hx, hb, hml, hown, hts⟩ (kX1_ofMover l G _ p1 p2 md o gv gr sn q1 q2 sta hE) (cwV 0 hts gX1_settle_X1_ofMover rfl rfl rfl (by decide +kernel) ⟨Nat.le_of_ble_eq_true rfl, Nat.le_of_ble_eq_true rfl⟩) (x_preV hX hS hW hE rfl) rfl rfl hl.1 rfl (lv_room (Nat.le_of_ble_eq_true rfl)) dX1_settle_5 ⟨Nat.le_of_ble_eq_true rfl, Nat.le_of_ble_eq_true rfl⟩) ?_
  refine lv_aload_n hx hb dX1_settle_8 rfl (lv_at hl 0 rfl) ?_
  refine x_callSe (va_runV (As := []) (rest := [.int (fX1_ofMover p1 p2 md), .ref gr]) ⟨hx, hb, hml, hown, hts⟩ (kX1_ofWaiting l G _ p1 p2 md o gv gr sn q1 q2 sta hE) (cwV 0 hts gX1_settle_X1_ofWaiting rfl rfl rfl (by decide +kernel) ⟨Nat.le_of_ble_eq_true rfl, Nat.le_of_ble_eq_true rfl⟩) (x_preV hX hS hW hE rfl) rfl rfl hl.1 rfl (lv_room (Nat.le_of_ble_eq_true rfl)) dX1_settle_9 ⟨Nat.le_of_ble_eq_true rfl, Nat.le_of_ble_eq_true rfl⟩) ?_
  refine lv_aload_n hx hb dX1_settle_12 rfl (lv_at hl 0 rfl) ?_
  refine x_callSe (va_runV (As := []) (rest := [.int (fX1_ofWaiting p1 p2 md), .int (fX1_ofMover p1 p2 md), .ref gr]) ⟨hx, hb, hml, hown, hts⟩ (kX1_isSecondToMove l G _ md o gv gr sn q1 q2 p1 p2 sta hE) (cwV 0 hts gX1_settle_X1_isSecondToMove rfl rfl rfl (by decide +kernel) ⟨Nat.le_of_ble_eq_true rfl, Nat.le_of_ble_eq_true rfl⟩) (x_preV hX hS hW hE rfl) rfl rfl hl.1 rfl (lv_room (Nat.le_of_ble_eq_true rfl)) dX1_settle_13 ⟨Nat.le_of_ble_eq_true rfl, Nat.le_of_ble_eq_true rfl⟩) ?_
  refine x_callSe (va_runV (As := [.int (fX1_ofMover p1 p2 md), .int (fX1_ofWaiting p1 p2 md), .int (zI (fX1_isSecondToMove md))]) (rest := []) ⟨hx, hb, hml, hown, hts⟩ (kX2_hasMove l G _ (σ) nC S h gr (fX1_ofMover p1 p2 md) (fX1_ofWaiting p1 p2 md) (fX1_isSecondToMove md) ta tb hR hT) (cwV 3 hts gX1_settle_X2_hasMove rfl rfl rfl (by decide +kernel) ⟨Nat.le_of_ble_eq_true rfl, Nat.le_of_ble_eq_true rfl⟩) (x_preV hX hS hW hR rfl) rfl rfl hl.1 rfl (lv_room (Nat.le_of_ble_eq_true rfl)) dX1_settle_16 ⟨Nat.le_of_ble_eq_true rfl, Nat.le_of_ble_eq_true rfl⟩) ?_
  refine x_ifz_ne (b := fX2_hasMove (σ) nC S h (fX1_ofMover p1 p2 md) (fX1_ofWaiting p1 p2 md) (fX1_isSecondToMove md)) (tgt := 41) hx hb dX1_settle_19 (by decide) (fun c_1 => ?_) (fun c_1 => ?_)
  · refine lv_aload_n hx hb dX1_settle_41 rfl (lv_at hl 0 rfl) ?_
    refine x_callSe (va_runV (As := []) (rest := []) ⟨hx, hb, hml, hown, hts⟩ (kX1_timesSeen l G _ p1 p2 md sq o gv gr sn q1 q2 sta hE hQ) (cwV 0 hts gX1_settle_X1_timesSeen rfl rfl rfl (by decide +kernel) ⟨Nat.le_of_ble_eq_true rfl, Nat.le_of_ble_eq_true rfl⟩) (x_preV hX hS hW hE rfl) rfl rfl hl.1 rfl (lv_room (Nat.le_of_ble_eq_true rfl)) dX1_settle_42 ⟨Nat.le_of_ble_eq_true rfl, Nat.le_of_ble_eq_true rfl⟩) ?_
    refine lv_iconst (v := 3) hx hb dX1_settle_45 (by decide) ?_
    refine lv_icmp_lt (tgt := 70) hx hb dX1_settle_46 (by decide) (fun c_2 => ?_) (fun c_2 => ?_)
    · refine lv_aload_n hx hb dX1_settle_70 rfl (lv_at hl 0 rfl) ?_
      refine va_get (D := G.1) (ci := 1) (v := .int md) (C := RX1) (T := TX1) (N := 9) hx hb hts hiX1 hown hX.1 (x1 hW hE) 0 rfl rfl 7 (by decide) hf46 (fun _ h9 => h9) rfl dX1_settle_71 ?_
      refine lv_bipush (v := 60) hx hb dX1_settle_74 (by decide) ?_
      refine lv_icmp_lt (tgt := 84) hx hb dX1_settle_76 (by decide) (fun c_3 => ?_) (fun c_3 => ?_)
      · exact W.widen (k := 0) (n := 0) (Nat.le_of_ble_eq_true rfl) (Nat.le_of_ble_eq_true rfl) (W.vret hx hb hr (fun t ht hw => ⟨⟨E, rfl, (show E = xU (xU E o (.inr (1, [.ref gv, .ref gr, .int q1, .int q2, .ref sn, .int p1, .int p2, .int md, .int (fX1_settle σ nC S h p1 p2 md sta en sq).1]))) gv (.inr (3, [.ref vr, .int vo, .int (fX1_settle σ nC S h p1 p2 md sta en sq).2])) from by rw [(show fX1_settle σ nC S h p1 p2 md sta en sq = (sta, en) from by unfold fX1_settle; rw [if_pos c_1, if_pos c_2, if_pos c_3])]; exact (by rw [xU_id hE, xU_id hV])), (show xW G E t.heap from by rw [ht]; exact hW)⟩, hS.F ht⟩) hS.2.2 dX1_settle_84)
      · refine lv_aload_n hx hb dX1_settle_79 rfl (lv_at hl 0 rfl) ?_
        refine lv_iconst (v := 3) hx hb dX1_settle_80 (by decide) ?_
        refine x_put (G := G) (ci := 1) (v := .int 3) (ty := .int) (C := RX1) (T := TX1) (N := 9) hx hb hts hiX1 tyX1 tyX1_ok nmX1 hown hX.1 hW hS hE rfl 8 (by decide) hf35 (fun _ h9 => h9) rfl (by decide +kernel) rfl rfl (Nat.le_of_ble_eq_true rfl) dX1_settle_81 (fun H locs hW hS => ?_)
        obtain ⟨E4, eE4⟩ : ∃ z, z = xU E o (.inr (1, [.ref gv, .ref gr, .int q1, .int q2, .ref sn, .int p1, .int p2, .int md, .int 3])) := ⟨_, rfl⟩
        have hW : xW G E4 H := by rw [eE4]; exact hW
        have hQ9 : E4 sn = some (.inl (G.2.1 1, 61, .inr (.inl sq))) := by rw [eE4]; exact xU_of hQ hE (fun h => by cases h)
        have hR9 : E4 gr = some (.inr (2, [.ref ta, .int S, .int h])) := by rw [eE4]; exact xU_of hR hE (fun h => by cases h)
        have hV9 : E4 gv = some (.inr (3, [.ref vr, .int vo, .int en])) := by rw [eE4]; exact xU_of hV hE (fun h => by cases h)
        have hE9 : E4 o = some (.inr (1, [.ref gv, .ref gr, .int q1, .int q2, .ref sn, .int p1, .int p2, .int md, .int 3])) := by rw [eE4]; exact xU_self _ _ _
        exact W.widen (k := 0) (n := 0) (Nat.le_of_ble_eq_true rfl) (Nat.le_of_ble_eq_true rfl) (W.vret hx hb hr (fun t ht hw => ⟨⟨E4, rfl, (show E4 = xU (xU E o (.inr (1, [.ref gv, .ref gr, .int q1, .int q2, .ref sn, .int p1, .int p2, .int md, .int (fX1_settle σ nC S h p1 p2 md sta en sq).1]))) gv (.inr (3, [.ref vr, .int vo, .int (fX1_settle σ nC S h p1 p2 md sta en sq).2])) from by rw [(show fX1_settle σ nC S h p1 p2 md sta en sq = (3, en) from by unfold fX1_settle; rw [if_pos c_1, if_pos c_2, if_neg c_3]), ← eE4]; exact (xU_id hV9).symm), (show xW G E4 t.heap from by rw [ht]; exact hW)⟩, hS.F ht⟩) hS.2.2 dX1_settle_84)
    · refine lv_aload_n hx hb dX1_settle_49 rfl (lv_at hl 0 rfl) ?_
      refine lv_iconst (v := 3) hx hb dX1_settle_50 (by decide) ?_
      refine x_put (G := G) (ci := 1) (v := .int 3) (ty := .int) (C := RX1) (T := TX1) (N := 9) hx hb hts hiX1 tyX1 tyX1_ok nmX1 hown hX.1 hW hS hE rfl 8 (by decide) hf35 (fun _ h9 => h9) rfl (by decide +kernel) rfl rfl (Nat.le_of_ble_eq_true rfl) dX1_settle_51 (fun H locs hW hS => ?_)
      obtain ⟨E5, eE5⟩ : ∃ z, z = xU E o (.inr (1, [.ref gv, .ref gr, .int q1, .int q2, .ref sn, .int p1, .int p2, .int md, .int 3])) := ⟨_, rfl⟩
      have hW : xW G E5 H := by rw [eE5]; exact hW
      have hQ9 : E5 sn = some (.inl (G.2.1 1, 61, .inr (.inl sq))) := by rw [eE5]; exact xU_of hQ hE (fun h => by cases h)
      have hR9 : E5 gr = some (.inr (2, [.ref ta, .int S, .int h])) := by rw [eE5]; exact xU_of hR hE (fun h => by cases h)
      have hV9 : E5 gv = some (.inr (3, [.ref vr, .int vo, .int en])) := by rw [eE5]; exact xU_of hV hE (fun h => by cases h)
      have hE9 : E5 o = some (.inr (1, [.ref gv, .ref gr, .int q1, .int q2, .ref sn, .int p1, .int p2, .int md, .int 3])) := by rw [eE5]; exact xU_self _ _ _
      refine lv_aload_n hx hb dX1_settle_54 rfl (lv_at hl 0 rfl) ?_
      refine va_get (D := G.1) (ci := 1) (v := .ref gv) (C := RX1) (T := TX1) (N := 9) hx hb hts hiX1 hown hX.1 (x1 hW hE9) 0 rfl rfl 0 (by decide) hf9 (fun _ h9 => h9) rfl dX1_settle_55 ?_
      refine lv_dup hx hb dX1_settle_58 rfl ?_
      refine va_get (D := G.1) (ci := 3) (v := .int en) (C := RX3) (T := TX3) (N := 3) hx hb hts hiX3 hown hX.1 (x1 hW hV9) 0 rfl rfl 2 (by decide) hf81 (fun _ h9 => h9) rfl dX1_settle_59 ?_
      refine lv_iconst (v := 1) hx hb dX1_settle_62 (by decide) ?_
      refine lv_iadd hx hb dX1_settle_63 ?_
      refine x_put (G := G) (ci := 3) (v := .int (en + 1)) (ty := .int) (C := RX3) (T := TX3) (N := 3) hx hb hts hiX3 tyX3 tyX3_ok nmX3 hown hX.1 hW hS hV9 rfl 2 (by decide) hf81 (fun _ h9 => h9) rfl (by decide +kernel) rfl rfl (Nat.le_of_ble_eq_true rfl) dX1_settle_64 (fun H locs hW hS => ?_)
      obtain ⟨E6, eE6⟩ : ∃ z, z = xU E5 gv (.inr (3, [.ref vr, .int vo, .int (en + 1)])) := ⟨_, rfl⟩
      have hW : xW G E6 H := by rw [eE6]; exact hW
      have hE99 : E6 o = some (.inr (1, [.ref gv, .ref gr, .int q1, .int q2, .ref sn, .int p1, .int p2, .int md, .int 3])) := by rw [eE6]; exact xU_of hE9 hV9 (fun h => by cases h)
      have hQ99 : E6 sn = some (.inl (G.2.1 1, 61, .inr (.inl sq))) := by rw [eE6]; exact xU_of hQ9 hV9 (fun h => by cases h)
      have hR99 : E6 gr = some (.inr (2, [.ref ta, .int S, .int h])) := by rw [eE6]; exact xU_of hR9 hV9 (fun h => by cases h)
      have hV99 : E6 gv = some (.inr (3, [.ref vr, .int vo, .int (en + 1)])) := by rw [eE6]; exact xU_self _ _ _
      refine lv_goto (tgt := 84) hx hb dX1_settle_67 (by decide) ?_
      exact W.widen (k := 0) (n := 0) (Nat.le_of_ble_eq_true rfl) (Nat.le_of_ble_eq_true rfl) (W.vret hx hb hr (fun t ht hw => ⟨⟨E6, rfl, (show E6 = xU (xU E o (.inr (1, [.ref gv, .ref gr, .int q1, .int q2, .ref sn, .int p1, .int p2, .int md, .int (fX1_settle σ nC S h p1 p2 md sta en sq).1]))) gv (.inr (3, [.ref vr, .int vo, .int (fX1_settle σ nC S h p1 p2 md sta en sq).2])) from by rw [(show fX1_settle σ nC S h p1 p2 md sta en sq = (3, en + 1) from by unfold fX1_settle; rw [if_pos c_1, if_neg c_2])]; rw [eE6, eE5]), (show xW G E6 t.heap from by rw [ht]; exact hW)⟩, hS.F ht⟩) hS.2.2 dX1_settle_84)
  · refine lv_aload_n hx hb dX1_settle_22 rfl (lv_at hl 0 rfl) ?_
    refine lv_aload_n hx hb dX1_settle_23 rfl (lv_at hl 0 rfl) ?_
    refine x_callSe (va_runV (As := []) (rest := [.ref o]) ⟨hx, hb, hml, hown, hts⟩ (kX1_isSecondToMove l G _ md o gv gr sn q1 q2 p1 p2 sta hE) (cwV 0 hts gX1_settle_X1_isSecondToMove rfl rfl rfl (by decide +kernel) ⟨Nat.le_of_ble_eq_true rfl, Nat.le_of_ble_eq_true rfl⟩) (x_preV hX hS hW hE rfl) rfl rfl hl.1 rfl (lv_room (Nat.le_of_ble_eq_true rfl)) dX1_settle_24 ⟨Nat.le_of_ble_eq_true rfl, Nat.le_of_ble_eq_true rfl⟩) ?_
    refine x_join (ls' := ls) (rest' := [.ref o]) 35 ((if (fX1_isSecondToMove md) = true then ((1 : Int32)) else ((2 : Int32)))) (fun v ev => ?_) (fun J => ?_)
    · subst ev
      refine x_put (G := G) (ci := 1) (v := .int (if (fX1_isSecondToMove md) = true then ((1 : Int32)) else ((2 : Int32)))) (ty := .int) (C := RX1) (T := TX1) (N := 9) hx hb hts hiX1 tyX1 tyX1_ok nmX1 hown hX.1 hW hS hE rfl 8 (by decide) hf35 (fun _ h9 => h9) rfl (by decide +kernel) rfl rfl (Nat.le_of_ble_eq_true rfl) dX1_settle_35 (fun H locs hW hS => ?_)
      obtain ⟨E8, eE8⟩ : ∃ z, z = xU E o (.inr (1, [.ref gv, .ref gr, .int q1, .int q2, .ref sn, .int p1, .int p2, .int md, .int (if (fX1_isSecondToMove md) = true then ((1 : Int32)) else ((2 : Int32)))])) := ⟨_, rfl⟩
      have hW : xW G E8 H := by rw [eE8]; exact hW
      have hQ9 : E8 sn = some (.inl (G.2.1 1, 61, .inr (.inl sq))) := by rw [eE8]; exact xU_of hQ hE (fun h => by cases h)
      have hR9 : E8 gr = some (.inr (2, [.ref ta, .int S, .int h])) := by rw [eE8]; exact xU_of hR hE (fun h => by cases h)
      have hV9 : E8 gv = some (.inr (3, [.ref vr, .int vo, .int en])) := by rw [eE8]; exact xU_of hV hE (fun h => by cases h)
      have hE9 : E8 o = some (.inr (1, [.ref gv, .ref gr, .int q1, .int q2, .ref sn, .int p1, .int p2, .int md, .int (if (fX1_isSecondToMove md) = true then ((1 : Int32)) else ((2 : Int32)))])) := by rw [eE8]; exact xU_self _ _ _
      refine lv_goto (tgt := 84) hx hb dX1_settle_38 (by decide) ?_
      exact W.widen (k := 0) (n := 0) (Nat.le_of_ble_eq_true rfl) (Nat.le_of_ble_eq_true rfl) (W.vret hx hb hr (fun t ht hw => ⟨⟨E8, rfl, (show E8 = xU (xU E o (.inr (1, [.ref gv, .ref gr, .int q1, .int q2, .ref sn, .int p1, .int p2, .int md, .int (fX1_settle σ nC S h p1 p2 md sta en sq).1]))) gv (.inr (3, [.ref vr, .int vo, .int (fX1_settle σ nC S h p1 p2 md sta en sq).2])) from by rw [(show fX1_settle σ nC S h p1 p2 md sta en sq = ((if (fX1_isSecondToMove md) = true then ((1 : Int32)) else ((2 : Int32))), en) from by unfold fX1_settle; rw [if_neg (Bool.eq_false_iff.mp c_1)]), ← eE8]; exact (xU_id hV9).symm), (show xW G E8 t.heap from by rw [ht]; exact hW)⟩, hS.F ht⟩) hS.2.2 dX1_settle_84)
    · refine x_ifz_eq (b := fX1_isSecondToMove md) (tgt := 34) hx hb dX1_settle_27 (by decide) (fun c_7 => ?_) (fun c_7 => ?_)
      · refine lv_iconst (v := 2) hx hb dX1_settle_34 (by decide) ?_
        exact J _ (show (2 : Int32) = if (fX1_isSecondToMove md) = true then ((1 : Int32)) else ((2 : Int32)) from by rw [if_neg (Bool.eq_false_iff.mp c_7)])
      · refine lv_iconst (v := 1) hx hb dX1_settle_30 (by decide) ?_
        refine lv_goto (tgt := 35) hx hb dX1_settle_31 (by decide) ?_
        exact J _ (show (1 : Int32) = if (fX1_isSecondToMove md) = true then ((1 : Int32)) else ((2 : Int32)) from by rw [if_pos c_7])
