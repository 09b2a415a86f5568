def fX4_isIn  (a0 : Int32) (a1 : Int32) : Bool := if ((a0 >>> (a1 &&& 31)) &&& 1) = 0 then false else true
set_option maxHeartbeats 4000000 in
set_option maxRecDepth 100000 in
theorem kX4_isIn (l : Launch) (a0 : Int32) (a1 : Int32) : Met l yX4_isIn wsX4_isIn ({ frames := 0, cells := 0, slots := 0, locals := 0 }) (va_Pc [.int a0, .int a1] (fun _ => True)) (vp_Si (fun r => r = zI (fX4_isIn a0 a1))) 0 0 (fun _ => False) := by
  refine Met.ofW (cc := cX4_isIn) (maxL := 2) (ret := (some .boolean)) (by decide) rfl ?_
  intro p e s m args below meth c s₁ B hml hv
  obtain ⟨rfl, -⟩ := hv
  have hx := B.exec
  have hb := B.bytes
  have hr := B.returns
  have hts := atoms_spec (ws := wsX4_isIn) B.pre
  have hown : s.vm.findClass RX4 = some m.cls := findClass_of_methodNamed B.named
  have hlocks := B.notSynchronized
  have hl := lv_entry ([.int a0, .int a1]) (n := 2) (Nat.le_of_ble_eq_true rfl)
  rw [lg_entry_eq]
  generalize (lg_sl ([.int a0, .int a1]) ++ List.replicate (2 - (lg_sl ([.int a0, .int a1])).length) Slot.unset).toArray = ls at hl ⊢
  have hl : lv_has ls 2 [(0, .int a0), (1, .int a1)] := hl
  refine lv_iload_n hx hb dX4_isIn_0 rfl (lv_at hl 0 rfl) ?_
  refine lv_iload_n hx hb dX4_isIn_1 rfl (lv_at hl 1 rfl) ?_
  refine lv_ishr hx hb dX4_isIn_2 ?_
  refine lv_iconst (v := 1) hx hb dX4_isIn_3 (by decide) ?_
  refine lv_iand hx hb dX4_isIn_4 ?_
  refine lv_if_eq (tgt := 12) hx hb dX4_isIn_5 (by decide) (fun c_1 => ?_) (fun c_1 => ?_)
  · refine lv_iconst (v := 0) hx hb dX4_isIn_12 (by decide) ?_
    exact W.zret (v := 0) hx hb hr rfl (fun t ht hw => ⟨_, rfl, (congrArg zI (show false = fX4_isIn a0 a1 from by unfold fX4_isIn; rw [if_pos c_1])), ht⟩) (fun _ h => nomatch h) dX4_isIn_13
  · refine lv_iconst (v := 1) hx hb dX4_isIn_8 (by decide) ?_
    refine lv_goto (tgt := 13) hx hb dX4_isIn_9 (by decide) ?_
    exact W.zret (v := 1) hx hb hr rfl (fun t ht hw => ⟨_, rfl, (congrArg zI (show true = fX4_isIn a0 a1 from by unfold fX4_isIn; rw [if_neg c_1])), ht⟩) (fun _ h => nomatch h) dX4_isIn_13

def fX4_cellAhead  (a0 : Int32) (a1 : Int32) (a2 : Int32) : Int32 := if ((a0 - a0 / 5 * 5) + a1) < 0 then (-1) else (if 5 ≤ ((a0 - a0 / 5 * 5) + a1) then (-1) else (if ((a0 / 5) + a2) < 0 then (-1) else (if 5 ≤ ((a0 / 5) + a2) then (-1) else (((5 : Int32) * ((a0 / 5) + a2)) + ((a0 - a0 / 5 * 5) + a1)))))
set_option maxHeartbeats 4000000 in
set_option maxRecDepth 100000 in
theorem kX4_cellAhead (l : Launch) (a0 : Int32) (a1 : Int32) (a2 : Int32) : Met l yX4_cellAhead wsX4_cellAhead ({ frames := 0, cells := 0, slots := 0, locals := 0 }) (va_Pc [.int a0, .int a1, .int a2] (fun _ => True)) (vp_Si (fun r => r = fX4_cellAhead a0 a1 a2)) 0 0 (fun _ => False) := by
  refine Met.ofW (cc := cX4_cellAhead) (maxL := 6) (ret := (some .int)) (by decide) rfl ?_
  intro p e s m args below meth c s₁ B hml hv
  obtain ⟨rfl, -⟩ := hv
  have hx := B.exec
  have hb := B.bytes
  have hr := B.returns
  have hts := atoms_spec (ws := wsX4_cellAhead) B.pre
  have hown : s.vm.findClass RX4 = some m.cls := findClass_of_methodNamed B.named
  have hlocks := B.notSynchronized
  have hl := lv_entry ([.int a0, .int a1, .int a2]) (n := 6) (Nat.le_of_ble_eq_true rfl)
  rw [lg_entry_eq]
  generalize (lg_sl ([.int a0, .int a1, .int a2]) ++ List.replicate (6 - (lg_sl ([.int a0, .int a1, .int a2])).length) Slot.unset).toArray = ls at hl ⊢
  have hl : lv_has ls 6 [(0, .int a0), (1, .int a1), (2, .int a2)] := hl
  refine lv_iload_n hx hb dX4_cellAhead_0 rfl (lv_at hl 0 rfl) ?_
  refine lv_iconst (v := 5) hx hb dX4_cellAhead_1 (by decide) ?_
  refine lv_irem hx hb dX4_cellAhead_2 (by decide) ?_
  refine lv_iload_n hx hb dX4_cellAhead_3 rfl (lv_at hl 1 rfl) ?_
  refine lv_iadd hx hb dX4_cellAhead_4 ?_
  refine lv_istore_n (lv' := [(3, .int ((a0 - a0 / 5 * 5) + a1)), (0, .int a0), (1, .int a1), (2, .int a2)]) hx hb dX4_cellAhead_5 rfl hl (by decide) rfl (fun ls hl => ?_)
  refine lv_iload_n hx hb dX4_cellAhead_6 rfl (lv_at hl 1 rfl) ?_
  refine lv_iconst (v := 5) hx hb dX4_cellAhead_7 (by decide) ?_
  refine lv_idiv hx hb dX4_cellAhead_8 (by decide) ?_
  refine lv_iload_n hx hb dX4_cellAhead_9 rfl (lv_at hl 3 rfl) ?_
  refine lv_iadd hx hb dX4_cellAhead_10 ?_
  refine lv_istore (lv' := [(4, .int ((a0 / 5) + a2)), (3, .int ((a0 - a0 / 5 * 5) + a1)), (0, .int a0), (1, .int a1), (2, .int a2)]) hx hb dX4_cellAhead_11 hl (by decide) rfl (fun ls hl => ?_)
  refine lv_iload_n hx hb dX4_cellAhead_13 rfl (lv_at hl 1 rfl) ?_
  refine lv_if_lt (tgt := 37) hx hb dX4_cellAhead_14 (by decide) (fun c_1 => ?_) (fun c_1 => ?_)
  · refine lv_iconst (v := 0) hx hb dX4_cellAhead_37 (by decide) ?_
    refine lv_istore (lv' := [(5, .int 0), (4, .int ((a0 / 5) + a2)), (3, .int ((a0 - a0 / 5 * 5) + a1)), (0, .int a0), (1, .int a1), (2, .int a2)]) hx hb dX4_cellAhead_38 hl (by decide) rfl (fun ls hl => ?_)
    refine lv_iload hx hb dX4_cellAhead_40 (lv_at hl 0 rfl) ?_
    refine lv_if_eq (tgt := 54) hx hb dX4_cellAhead_42 (by decide) (fun _ => ?_) (fun c9 => absurd (by decide) c9)
    refine lv_iconst (v := (-1)) hx hb dX4_cellAhead_54 (by decide) ?_
    exact W.iret (v := (-1)) hx hb hr (fun t ht hw => ⟨_, rfl, (show ((-1) : Int32) = fX4_cellAhead a0 a1 a2 from by unfold fX4_cellAhead; rw [if_pos c_1]), ht⟩) (fun _ h => nomatch h) dX4_cellAhead_55
  · refine lv_iload_n hx hb dX4_cellAhead_17 rfl (lv_at hl 1 rfl) ?_
    refine lv_iconst (v := 5) hx hb dX4_cellAhead_18 (by decide) ?_
    refine lv_icmp_ge (tgt := 37) hx hb dX4_cellAhead_19 (by decide) (fun c_2 => ?_) (fun c_2 => ?_)
    · refine lv_iconst (v := 0) hx hb dX4_cellAhead_37 (by decide) ?_
      refine lv_istore (lv' := [(5, .int 0), (4, .int ((a0 / 5) + a2)), (3, .int ((a0 - a0 / 5 * 5) + a1)), (0, .int a0), (1, .int a1), (2, .int a2)]) hx hb dX4_cellAhead_38 hl (by decide) rfl (fun ls hl => ?_)
      refine lv_iload hx hb dX4_cellAhead_40 (lv_at hl 0 rfl) ?_
      refine lv_if_eq (tgt := 54) hx hb dX4_cellAhead_42 (by decide) (fun _ => ?_) (fun c9 => absurd (by decide) c9)
      refine lv_iconst (v := (-1)) hx hb dX4_cellAhead_54 (by decide) ?_
      exact W.iret (v := (-1)) hx hb hr (fun t ht hw => ⟨_, rfl, (show ((-1) : Int32) = fX4_cellAhead a0 a1 a2 from by unfold fX4_cellAhead; rw [if_neg c_1, if_pos c_2]), ht⟩) (fun _ h => nomatch h) dX4_cellAhead_55
    · refine lv_iload hx hb dX4_cellAhead_22 (lv_at hl 0 rfl) ?_
      refine lv_if_lt (tgt := 37) hx hb dX4_cellAhead_24 (by decide) (fun c_3 => ?_) (fun c_3 => ?_)
      · refine lv_iconst (v := 0) hx hb dX4_cellAhead_37 (by decide) ?_
        refine lv_istore (lv' := [(5, .int 0), (4, .int ((a0 / 5) + a2)), (3, .int ((a0 - a0 / 5 * 5) + a1)), (0, .int a0), (1, .int a1), (2, .int a2)]) hx hb dX4_cellAhead_38 hl (by decide) rfl (fun ls hl => ?_)
        refine lv_iload hx hb dX4_cellAhead_40 (lv_at hl 0 rfl) ?_
        refine lv_if_eq (tgt := 54) hx hb dX4_cellAhead_42 (by decide) (fun _ => ?_) (fun c9 => absurd (by decide) c9)
        refine lv_iconst (v := (-1)) hx hb dX4_cellAhead_54 (by decide) ?_
        exact W.iret (v := (-1)) hx hb hr (fun t ht hw => ⟨_, rfl, (show ((-1) : Int32) = fX4_cellAhead a0 a1 a2 from by unfold fX4_cellAhead; rw [if_neg c_1, if_neg c_2, if_pos c_3]), ht⟩) (fun _ h => nomatch h) dX4_cellAhead_55
      · refine lv_iload hx hb dX4_cellAhead_27 (lv_at hl 0 rfl) ?_
        refine lv_iconst (v := 5) hx hb dX4_cellAhead_29 (by decide) ?_
        refine lv_icmp_ge (tgt := 37) hx hb dX4_cellAhead_30 (by decide) (fun c_4 => ?_) (fun c_4 => ?_)
        · refine lv_iconst (v := 0) hx hb dX4_cellAhead_37 (by decide) ?_
          refine lv_istore (lv' := [(5, .int 0), (4, .int ((a0 / 5) + a2)), (3, .int ((a0 - a0 / 5 * 5) + a1)), (0, .int a0), (1, .int a1), (2, .int a2)]) hx hb dX4_cellAhead_38 hl (by decide) rfl (fun ls hl => ?_)
          refine lv_iload hx hb dX4_cellAhead_40 (lv_at hl 0 rfl) ?_
          refine lv_if_eq (tgt := 54) hx hb dX4_cellAhead_42 (by decide) (fun _ => ?_) (fun c9 => absurd (by decide) c9)
          refine lv_iconst (v := (-1)) hx hb dX4_cellAhead_54 (by decide) ?_
          exact W.iret (v := (-1)) hx hb hr (fun t ht hw => ⟨_, rfl, (show ((-1) : Int32) = fX4_cellAhead a0 a1 a2 from by unfold fX4_cellAhead; rw [if_neg c_1, if_neg c_2, if_neg c_3, if_pos c_4]), ht⟩) (fun _ h => nomatch h) dX4_cellAhead_55
        · refine lv_iconst (v := 1) hx hb dX4_cellAhead_33 (by decide) ?_
          refine lv_goto (tgt := 38) hx hb dX4_cellAhead_34 (by decide) ?_
          refine lv_istore (lv' := [(5, .int 1), (4, .int ((a0 / 5) + a2)), (3, .int ((a0 - a0 / 5 * 5) + a1)), (0, .int a0), (1, .int a1), (2, .int a2)]) hx hb dX4_cellAhead_38 hl (by decide) rfl (fun ls hl => ?_)
          refine lv_iload hx hb dX4_cellAhead_40 (lv_at hl 0 rfl) ?_
          refine lv_if_eq (tgt := 54) hx hb dX4_cellAhead_42 (by decide) (fun c9 => absurd c9 (by decide)) (fun _ => ?_)
          refine lv_iconst (v := 5) hx hb dX4_cellAhead_45 (by decide) ?_
          refine lv_iload hx hb dX4_cellAhead_46 (lv_at hl 1 rfl) ?_
          refine lv_imul hx hb dX4_cellAhead_48 ?_
          refine lv_iload_n hx hb dX4_cellAhead_49 rfl (lv_at hl 2 rfl) ?_
          refine lv_iadd hx hb dX4_cellAhead_50 ?_
          refine lv_goto (tgt := 55) hx hb dX4_cellAhead_51 (by decide) ?_
          exact W.iret (v := ((5 : Int32) * ((a0 / 5) + a2)) + ((a0 - a0 / 5 * 5) + a1)) hx hb hr (fun t ht hw => ⟨_, rfl, (show (((5 : Int32) * ((a0 / 5) + a2)) + ((a0 - a0 / 5 * 5) + a1) : Int32) = fX4_cellAhead a0 a1 a2 from by unfold fX4_cellAhead; rw [if_neg c_1, if_neg c_2, if_neg c_3, if_neg c_4]), ht⟩) (fun _ h => nomatch h) dX4_cellAhead_55

def fX4_moved  (a0 : Int32) (a1 : Int32) (a2 : Int32) : Int32 := (a0 &&& (((1 : Int32) <<< (a1 &&& 31)) ^^^ (-1))) ||| ((1 : Int32) <<< (a2 &&& 31))
set_option maxHeartbeats 4000000 in
set_option maxRecDepth 100000 in
theorem kX4_moved (l : Launch) (a0 : Int32) (a1 : Int32) (a2 : Int32) : Met l yX4_moved wsX4_moved ({ frames := 0, cells := 0, slots := 0, locals := 0 }) (va_Pc [.int a0, .int a1, .int a2] (fun _ => True)) (vp_Si (fun r => r = fX4_moved a0 a1 a2)) 0 0 (fun _ => False) := by
  refine Met.ofW (cc := cX4_moved) (maxL := 3) (ret := (some .int)) (by decide) rfl ?_
  intro p e s m args below meth c s₁ B hml hv
  obtain ⟨rfl, -⟩ := hv
  have hx := B.exec
  have hb := B.bytes
  have hr := B.returns
  have hts := atoms_spec (ws := wsX4_moved) B.pre
  have hown : s.vm.findClass RX4 = some m.cls := findClass_of_methodNamed B.named
  have hlocks := B.notSynchronized
  have hl := lv_entry ([.int a0, .int a1, .int a2]) (n := 3) (Nat.le_of_ble_eq_true rfl)
  rw [lg_entry_eq]
  generalize (lg_sl ([.int a0, .int a1, .int a2]) ++ List.replicate (3 - (lg_sl ([.int a0, .int a1, .int a2])).length) Slot.unset).toArray = ls at hl ⊢
  have hl : lv_has ls 3 [(0, .int a0), (1, .int a1), (2, .int a2)] := hl
  refine lv_iload_n hx hb dX4_moved_0 rfl (lv_at hl 0 rfl) ?_
  refine lv_iconst (v := 1) hx hb dX4_moved_1 (by decide) ?_
  refine lv_iload_n hx hb dX4_moved_2 rfl (lv_at hl 1 rfl) ?_
  refine lv_ishl hx hb dX4_moved_3 ?_
  refine lv_iconst (v := (-1)) hx hb dX4_moved_4 (by decide) ?_
  refine lv_ixor hx hb dX4_moved_5 ?_
  refine lv_iand hx hb dX4_moved_6 ?_
  refine lv_iconst (v := 1) hx hb dX4_moved_7 (by decide) ?_
  refine lv_iload_n hx hb dX4_moved_8 rfl (lv_at hl 2 rfl) ?_
  refine lv_ishl hx hb dX4_moved_9 ?_
  refine lv_ior hx hb dX4_moved_10 ?_
  exact W.iret (v := (a0 &&& (((1 : Int32) <<< (a1 &&& 31)) ^^^ (-1))) ||| ((1 : Int32) <<< (a2 &&& 31))) hx hb hr (fun t ht hw => ⟨_, rfl, (show ((a0 &&& (((1 : Int32) <<< (a1 &&& 31)) ^^^ (-1))) ||| ((1 : Int32) <<< (a2 &&& 31)) : Int32) = fX4_moved a0 a1 a2 from by unfold fX4_moved; rfl), ht⟩) (fun _ h => nomatch h) dX4_moved_11

def fX4_isStep  (a0 : Int32) (a1 : Int32) : Bool := if a0 < (-2) then false else (if 2 < a0 then false else (if a1 < (-2) then false else (if 2 < a1 then false else (if a0 = 0 then (if a1 = 0 then false else true) else true))))
set_option maxHeartbeats 4000000 in
set_option maxRecDepth 100000 in
theorem kX4_isStep (l : Launch) (a0 : Int32) (a1 : Int32) : Met l yX4_isStep wsX4_isStep ({ frames := 0, cells := 0, slots := 0, locals := 0 }) (va_Pc [.int a0, .int a1] (fun _ => True)) (vp_Si (fun r => r = zI (fX4_isStep a0 a1))) 0 0 (fun _ => False) := by
  refine Met.ofW (cc := cX4_isStep) (maxL := 3) (ret := (some .boolean)) (by decide) rfl ?_
  intro p e s m args below meth c s₁ B hml hv
  obtain ⟨rfl, -⟩ := hv
  have hx := B.exec
  have hb := B.bytes
  have hr := B.returns
  have hts := atoms_spec (ws := wsX4_isStep) B.pre
  have hown : s.vm.findClass RX4 = some m.cls := findClass_of_methodNamed B.named
  have hlocks := B.notSynchronized
  have hl := lv_entry ([.int a0, .int a1]) (n := 3) (Nat.le_of_ble_eq_true rfl)
  rw [lg_entry_eq]
  generalize (lg_sl ([.int a0, .int a1]) ++ List.replicate (3 - (lg_sl ([.int a0, .int a1])).length) Slot.unset).toArray = ls at hl ⊢
  have hl : lv_has ls 3 [(0, .int a0), (1, .int a1)] := hl
  refine lv_iload_n hx hb dX4_isStep_0 rfl (lv_at hl 0 rfl) ?_
  refine lv_bipush (v := (-2)) hx hb dX4_isStep_1 (by decide) ?_
  refine lv_icmp_lt (tgt := 26) hx hb dX4_isStep_3 (by decide) (fun c_1 => ?_) (fun c_1 => ?_)
  · refine lv_iconst (v := 0) hx hb dX4_isStep_26 (by decide) ?_
    refine lv_istore_n (lv' := [(2, .int 0), (0, .int a0), (1, .int a1)]) hx hb dX4_isStep_27 rfl hl (by decide) rfl (fun ls hl => ?_)
    refine lv_iload_n hx hb dX4_isStep_28 rfl (lv_at hl 0 rfl) ?_
    refine lv_if_eq (tgt := 44) hx hb dX4_isStep_29 (by decide) (fun _ => ?_) (fun c9 => absurd (by decide) c9)
    refine lv_iconst (v := 0) hx hb dX4_isStep_44 (by decide) ?_
    exact W.zret (v := 0) hx hb hr rfl (fun t ht hw => ⟨_, rfl, (congrArg zI (show false = fX4_isStep a0 a1 from by unfold fX4_isStep; rw [if_pos c_1])), ht⟩) (fun _ h => nomatch h) dX4_isStep_45
  · refine lv_iload_n hx hb dX4_isStep_6 rfl (lv_at hl 0 rfl) ?_
    refine lv_iconst (v := 2) hx hb dX4_isStep_7 (by decide) ?_
    refine lv_icmp_gt (tgt := 26) hx hb dX4_isStep_8 (by decide) (fun c_2 => ?_) (fun c_2 => ?_)
    · refine lv_iconst (v := 0) hx hb dX4_isStep_26 (by decide) ?_
      refine lv_istore_n (lv' := [(2, .int 0), (0, .int a0), (1, .int a1)]) hx hb dX4_isStep_27 rfl hl (by decide) rfl (fun ls hl => ?_)
      refine lv_iload_n hx hb dX4_isStep_28 rfl (lv_at hl 0 rfl) ?_
      refine lv_if_eq (tgt := 44) hx hb dX4_isStep_29 (by decide) (fun _ => ?_) (fun c9 => absurd (by decide) c9)
      refine lv_iconst (v := 0) hx hb dX4_isStep_44 (by decide) ?_
      exact W.zret (v := 0) hx hb hr rfl (fun t ht hw => ⟨_, rfl, (congrArg zI (show false = fX4_isStep a0 a1 from by unfold fX4_isStep; rw [if_neg c_1, if_pos c_2])), ht⟩) (fun _ h => nomatch h) dX4_isStep_45
    · refine lv_iload_n hx hb dX4_isStep_11 rfl (lv_at hl 1 rfl) ?_
      refine lv_bipush (v := (-2)) hx hb dX4_isStep_12 (by decide) ?_
      refine lv_icmp_lt (tgt := 26) hx hb dX4_isStep_14 (by decide) (fun c_3 => ?_) (fun c_3 => ?_)
      · refine lv_iconst (v := 0) hx hb dX4_isStep_26 (by decide) ?_
        refine lv_istore_n (lv' := [(2, .int 0), (0, .int a0), (1, .int a1)]) hx hb dX4_isStep_27 rfl hl (by decide) rfl (fun ls hl => ?_)
        refine lv_iload_n hx hb dX4_isStep_28 rfl (lv_at hl 0 rfl) ?_
        refine lv_if_eq (tgt := 44) hx hb dX4_isStep_29 (by decide) (fun _ => ?_) (fun c9 => absurd (by decide) c9)
        refine lv_iconst (v := 0) hx hb dX4_isStep_44 (by decide) ?_
        exact W.zret (v := 0) hx hb hr rfl (fun t ht hw => ⟨_, rfl, (congrArg zI (show false = fX4_isStep a0 a1 from by unfold fX4_isStep; rw [if_neg c_1, if_neg c_2, if_pos c_3])), ht⟩) (fun _ h => nomatch h) dX4_isStep_45
      · refine lv_iload_n hx hb dX4_isStep_17 rfl (lv_at hl 1 rfl) ?_
        refine lv_iconst (v := 2) hx hb dX4_isStep_18 (by decide) ?_
        refine lv_icmp_gt (tgt := 26) hx hb dX4_isStep_19 (by decide) (fun c_4 => ?_) (fun c_4 => ?_)
        · refine lv_iconst (v := 0) hx hb dX4_isStep_26 (by decide) ?_
          refine lv_istore_n (lv' := [(2, .int 0), (0, .int a0), (1, .int a1)]) hx hb dX4_isStep_27 rfl hl (by decide) rfl (fun ls hl => ?_)
          refine lv_iload_n hx hb dX4_isStep_28 rfl (lv_at hl 0 rfl) ?_
          refine lv_if_eq (tgt := 44) hx hb dX4_isStep_29 (by decide) (fun _ => ?_) (fun c9 => absurd (by decide) c9)
          refine lv_iconst (v := 0) hx hb dX4_isStep_44 (by decide) ?_
          exact W.zret (v := 0) hx hb hr rfl (fun t ht hw => ⟨_, rfl, (congrArg zI (show false = fX4_isStep a0 a1 from by unfold fX4_isStep; rw [if_neg c_1, if_neg c_2, if_neg c_3, if_pos c_4])), ht⟩) (fun _ h => nomatch h) dX4_isStep_45
        · refine lv_iconst (v := 1) hx hb dX4_isStep_22 (by decide) ?_
          refine lv_goto (tgt := 27) hx hb dX4_isStep_23 (by decide) ?_
          refine lv_istore_n (lv' := [(2, .int 1), (0, .int a0), (1, .int a1)]) hx hb dX4_isStep_27 rfl hl (by decide) rfl (fun ls hl => ?_)
          refine lv_iload_n hx hb dX4_isStep_28 rfl (lv_at hl 0 rfl) ?_
          refine lv_if_eq (tgt := 44) hx hb dX4_isStep_29 (by decide) (fun c9 => absurd c9 (by decide)) (fun _ => ?_)
          refine lv_iload_n hx hb dX4_isStep_32 rfl (lv_at hl 1 rfl) ?_
          refine lv_if_ne (tgt := 40) hx hb dX4_isStep_33 (by decide) (fun c_5 => ?_) (fun c_5 => ?_)
          · refine lv_iconst (v := 1) hx hb dX4_isStep_40 (by decide) ?_
            refine lv_goto (tgt := 45) hx hb dX4_isStep_41 (by decide) ?_
            exact W.zret (v := 1) hx hb hr rfl (fun t ht hw => ⟨_, rfl, (congrArg zI (show true = fX4_isStep a0 a1 from by unfold fX4_isStep; rw [if_neg c_1, if_neg c_2, if_neg c_3, if_neg c_4, if_neg c_5])), ht⟩) (fun _ h => nomatch h) dX4_isStep_45
          · refine lv_iload_n hx hb dX4_isStep_36 rfl (lv_at hl 2 rfl) ?_
            refine lv_if_eq (tgt := 44) hx hb dX4_isStep_37 (by decide) (fun c_6 => ?_) (fun c_6 => ?_)
            · refine lv_iconst (v := 0) hx hb dX4_isStep_44 (by decide) ?_
              exact W.zret (v := 0) hx hb hr rfl (fun t ht hw => ⟨_, rfl, (congrArg zI (show false = fX4_isStep a0 a1 from by unfold fX4_isStep; rw [if_neg c_1, if_neg c_2, if_neg c_3, if_neg c_4, if_pos c_5, if_pos c_6])), ht⟩) (fun _ h => nomatch h) dX4_isStep_45
            · refine lv_iconst (v := 1) hx hb dX4_isStep_40 (by decide) ?_
              refine lv_goto (tgt := 45) hx hb dX4_isStep_41 (by decide) ?_
              exact W.zret (v := 1) hx hb hr rfl (fun t ht hw => ⟨_, rfl, (congrArg zI (show true = fX4_isStep a0 a1 from by unfold fX4_isStep; rw [if_neg c_1, if_neg c_2, if_neg c_3, if_neg c_4, if_pos c_5, if_neg c_6])), ht⟩) (fun _ h => nomatch h) dX4_isStep_45

def fX1_placing  (a0 : Int32) (a1 : Int32) (a2 : Bool) : Int64 := if a2 = true then ((((a1.toInt64 <<< ((25 : Int32).toInt64 &&& 63)) ||| a0.toInt64) <<< ((1 : Int32).toInt64 &&& 63)) ||| ((1 : Int32).toInt64)) else ((((a1.toInt64 <<< ((25 : Int32).toInt64 &&& 63)) ||| a0.toInt64) <<< ((1 : Int32).toInt64 &&& 63)) ||| ((0 : Int32).toInt64))
set_option maxHeartbeats 4000000 in
set_option maxRecDepth 100000 in
theorem kX1_placing (l : Launch) (a0 : Int32) (a1 : Int32) (a2 : Bool) : Met l yX1_placing wsX1_placing ({ frames := 0, cells := 0, slots := 0, locals := 0 }) (va_Pc [.int a0, .int a1, .int (zI a2)] (fun _ => True)) (vp_Sl (fun r => r = fX1_placing a0 a1 a2)) 0 0 (fun _ => False) := by
  refine Met.ofW (cc := cX1_placing) (maxL := 5) (ret := (some .long)) (by decide) rfl ?_
  intro p e s m args below meth c s₁ B hml hv
  obtain ⟨rfl, -⟩ := hv
  have hx := B.exec
  have hb := B.bytes
  have hr := B.returns
  have hts := atoms_spec (ws := wsX1_placing) B.pre
  have hown : s.vm.findClass RX1 = some m.cls := findClass_of_methodNamed B.named
  have hlocks := B.notSynchronized
  have hl := lv_entry ([.int a0, .int a1, .int (zI a2)]) (n := 5) (Nat.le_of_ble_eq_true rfl)
  rw [lg_entry_eq]
  generalize (lg_sl ([.int a0, .int a1, .int (zI a2)]) ++ List.replicate (5 - (lg_sl ([.int a0, .int a1, .int (zI a2)])).length) Slot.unset).toArray = ls at hl ⊢
  have hl : lv_has ls 5 [(0, .int a0), (1, .int a1), (2, .int (zI a2))] := hl
  refine lv_iload_n hx hb dX1_placing_0 rfl (lv_at hl 1 rfl) ?_
  refine lv_i2l (v := a1.toInt64) hx hb dX1_placing_1 rfl ?_
  refine lv_bipush (v := 25) hx hb dX1_placing_2 (by decide) ?_
  refine lv_lshl (v := a1.toInt64 <<< ((25 : Int32).toInt64 &&& 63)) hx hb dX1_placing_4 rfl ?_
  refine lv_iload_n hx hb dX1_placing_5 rfl (lv_at hl 0 rfl) ?_
  refine lv_i2l (v := a0.toInt64) hx hb dX1_placing_6 rfl ?_
  refine lv_lor hx hb dX1_placing_7 ?_
  refine lv_lstore_n (lv' := [(3, .long ((a1.toInt64 <<< ((25 : Int32).toInt64 &&& 63)) ||| a0.toInt64)), (0, .int a0), (1, .int a1), (2, .int (zI a2))]) hx hb dX1_placing_8 rfl hl (by decide) rfl (fun ls hl => ?_)
  refine lv_lload_n hx hb dX1_placing_9 rfl (lv_at hl 0 rfl) ?_
  refine lv_iconst (v := 1) hx hb dX1_placing_10 (by decide) ?_
  refine lv_lshl (v := ((a1.toInt64 <<< ((25 : Int32).toInt64 &&& 63)) ||| a0.toInt64) <<< ((1 : Int32).toInt64 &&& 63)) hx hb dX1_placing_11 rfl ?_
  refine lv_iload_n hx hb dX1_placing_12 rfl (lv_at hl 3 rfl) ?_
  refine x_ifz_eq (b := a2) (tgt := 20) hx hb dX1_placing_13 (by decide) (fun c_1 => ?_) (fun c_1 => ?_)
  · refine lv_iconst (v := 0) hx hb dX1_placing_20 (by decide) ?_
    refine lv_i2l (v := (0 : Int32).toInt64) hx hb dX1_placing_21 rfl ?_
    refine lv_lor hx hb dX1_placing_22 ?_
    exact W.lret (v := (((a1.toInt64 <<< ((25 : Int32).toInt64 &&& 63)) ||| a0.toInt64) <<< ((1 : Int32).toInt64 &&& 63)) ||| ((0 : Int32).toInt64)) hx hb hr (fun t ht hw => ⟨_, rfl, (show ((((a1.toInt64 <<< ((25 : Int32).toInt64 &&& 63)) ||| a0.toInt64) <<< ((1 : Int32).toInt64 &&& 63)) ||| ((0 : Int32).toInt64) : Int64) = fX1_placing a0 a1 a2 from by unfold fX1_placing; rw [if_neg (Bool.eq_false_iff.mp c_1)]), ht⟩) (fun _ h => nomatch h) dX1_placing_23
  · refine lv_iconst (v := 1) hx hb dX1_placing_16 (by decide) ?_
    refine lv_goto (tgt := 21) hx hb dX1_placing_17 (by decide) ?_
    refine lv_i2l (v := (1 : Int32).toInt64) hx hb dX1_placing_21 rfl ?_
    refine lv_lor hx hb dX1_placing_22 ?_
    exact W.lret (v := (((a1.toInt64 <<< ((25 : Int32).toInt64 &&& 63)) ||| a0.toInt64) <<< ((1 : Int32).toInt64 &&& 63)) ||| ((1 : Int32).toInt64)) hx hb hr (fun t ht hw => ⟨_, rfl, (show ((((a1.toInt64 <<< ((25 : Int32).toInt64 &&& 63)) ||| a0.toInt64) <<< ((1 : Int32).toInt64 &&& 63)) ||| ((1 : Int32).toInt64) : Int64) = fX1_placing a0 a1 a2 from by unfold fX1_placing; rw [if_pos c_1]), ht⟩) (fun _ h => nomatch h) dX1_placing_23

def fJ6_bitCount_0f7a4  (a0 : Int32) : Int32 := (((((((a0 - (((a0.toUInt32 >>> ((1 : Int32).toUInt32 &&& Int32.toUInt32 31)).toInt32) &&& 1431655765)) &&& 858993459) + ((((a0 - (((a0.toUInt32 >>> ((1 : Int32).toUInt32 &&& Int32.toUInt32 31)).toInt32) &&& 1431655765)).toUInt32 >>> ((2 : Int32).toUInt32 &&& Int32.toUInt32 31)).toInt32) &&& 858993459)) + (((((a0 - (((a0.toUInt32 >>> ((1 : Int32).toUInt32 &&& Int32.toUInt32 31)).toInt32) &&& 1431655765)) &&& 858993459) + ((((a0 - (((a0.toUInt32 >>> ((1 : Int32).toUInt32 &&& Int32.toUInt32 31)).toInt32) &&& 1431655765)).toUInt32 >>> ((2 : Int32).toUInt32 &&& Int32.toUInt32 31)).toInt32) &&& 858993459)).toUInt32 >>> ((4 : Int32).toUInt32 &&& Int32.toUInt32 31)).toInt32)) &&& 252645135) + (((((((a0 - (((a0.toUInt32 >>> ((1 : Int32).toUInt32 &&& Int32.toUInt32 31)).toInt32) &&& 1431655765)) &&& 858993459) + ((((a0 - (((a0.toUInt32 >>> ((1 : Int32).toUInt32 &&& Int32.toUInt32 31)).toInt32) &&& 1431655765)).toUInt32 >>> ((2 : Int32).toUInt32 &&& Int32.toUInt32 31)).toInt32) &&& 858993459)) + (((((a0 - (((a0.toUInt32 >>> ((1 : Int32).toUInt32 &&& Int32.toUInt32 31)).toInt32) &&& 1431655765)) &&& 858993459) + ((((a0 - (((a0.toUInt32 >>> ((1 : Int32).toUInt32 &&& Int32.toUInt32 31)).toInt32) &&& 1431655765)).toUInt32 >>> ((2 : Int32).toUInt32 &&& Int32.toUInt32 31)).toInt32) &&& 858993459)).toUInt32 >>> ((4 : Int32).toUInt32 &&& Int32.toUInt32 31)).toInt32)) &&& 252645135).toUInt32 >>> ((8 : Int32).toUInt32 &&& Int32.toUInt32 31)).toInt32)) + ((((((((a0 - (((a0.toUInt32 >>> ((1 : Int32).toUInt32 &&& Int32.toUInt32 31)).toInt32) &&& 1431655765)) &&& 858993459) + ((((a0 - (((a0.toUInt32 >>> ((1 : Int32).toUInt32 &&& Int32.toUInt32 31)).toInt32) &&& 1431655765)).toUInt32 >>> ((2 : Int32).toUInt32 &&& Int32.toUInt32 31)).toInt32) &&& 858993459)) + (((((a0 - (((a0.toUInt32 >>> ((1 : Int32).toUInt32 &&& Int32.toUInt32 31)).toInt32) &&& 1431655765)) &&& 858993459) + ((((a0 - (((a0.toUInt32 >>> ((1 : Int32).toUInt32 &&& Int32.toUInt32 31)).toInt32) &&& 1431655765)).toUInt32 >>> ((2 : Int32).toUInt32 &&& Int32.toUInt32 31)).toInt32) &&& 858993459)).toUInt32 >>> ((4 : Int32).toUInt32 &&& Int32.toUInt32 31)).toInt32)) &&& 252645135) + (((((((a0 - (((a0.toUInt32 >>> ((1 : Int32).toUInt32 &&& Int32.toUInt32 31)).toInt32) &&& 1431655765)) &&& 858993459) + ((((a0 - (((a0.toUInt32 >>> ((1 : Int32).toUInt32 &&& Int32.toUInt32 31)).toInt32) &&& 1431655765)).toUInt32 >>> ((2 : Int32).toUInt32 &&& Int32.toUInt32 31)).toInt32) &&& 858993459)) + (((((a0 - (((a0.toUInt32 >>> ((1 : Int32).toUInt32 &&& Int32.toUInt32 31)).toInt32) &&& 1431655765)) &&& 858993459) + ((((a0 - (((a0.toUInt32 >>> ((1 : Int32).toUInt32 &&& Int32.toUInt32 31)).toInt32) &&& 1431655765)).toUInt32 >>> ((2 : Int32).toUInt32 &&& Int32.toUInt32 31)).toInt32) &&& 858993459)).toUInt32 >>> ((4 : Int32).toUInt32 &&& Int32.toUInt32 31)).toInt32)) &&& 252645135).toUInt32 >>> ((8 : Int32).toUInt32 &&& Int32.toUInt32 31)).toInt32)).toUInt32 >>> ((16 : Int32).toUInt32 &&& Int32.toUInt32 31)).toInt32)) &&& 63
set_option maxHeartbeats 4000000 in
set_option maxRecDepth 100000 in
theorem kJ6_bitCount_0f7a4 (l : Launch) (a0 : Int32) : Met l yJ6_bitCount_0f7a4 wsJ6_bitCount_0f7a4 ({ frames := 0, cells := 0, slots := 0, locals := 0 }) (va_Pc [.int a0] (fun _ => True)) (vp_Si (fun r => r = fJ6_bitCount_0f7a4 a0)) 0 0 (fun _ => False) := by
  refine Met.ofW (cc := cJ6_bitCount_0f7a4) (maxL := 1) (ret := (some .int)) (by decide) rfl ?_
  intro p e s m args below meth c s₁ B hml hv
  obtain ⟨rfl, -⟩ := hv
  have hx := B.exec
  have hb := B.bytes
  have hr := B.returns
  have hts := atoms_spec (ws := wsJ6_bitCount_0f7a4) B.pre
  have hown : s.vm.findClass RJ6 = some m.cls := findClass_of_methodNamed B.named
  have hlocks := B.notSynchronized
  have hk265 := hts (Cond.constant RJ6 265 (1431655765)) (by decide +kernel)
  have hk266 := hts (Cond.constant RJ6 266 (858993459)) (by decide +kernel)
  have hk267 := hts (Cond.constant RJ6 267 (252645135)) (by decide +kernel)
  have hl := lv_entry ([.int a0]) (n := 1) (Nat.le_of_ble_eq_true rfl)
  rw [lg_entry_eq]
  generalize (lg_sl ([.int a0]) ++ List.replicate (1 - (lg_sl ([.int a0])).length) Slot.unset).toArray = ls at hl ⊢
  have hl : lv_has ls 1 [(0, .int a0)] := hl
  refine lv_iload_n hx hb dJ6_bitCount_0f7a4_0 rfl (lv_at hl 0 rfl) ?_
  refine lv_iload_n hx hb dJ6_bitCount_0f7a4_1 rfl (lv_at hl 0 rfl) ?_
  refine lv_iconst (v := 1) hx hb dJ6_bitCount_0f7a4_2 (by decide) ?_
  refine lv_iushr (v := (a0.toUInt32 >>> ((1 : Int32).toUInt32 &&& Int32.toUInt32 31)).toInt32) hx hb dJ6_bitCount_0f7a4_3 rfl ?_
  refine lv_ldcw (v := 1431655765) hx hb hown hk265 dJ6_bitCount_0f7a4_4 ?_
  refine lv_iand hx hb dJ6_bitCount_0f7a4_7 ?_
  refine lv_isub hx hb dJ6_bitCount_0f7a4_8 ?_
  refine lv_istore_n (lv' := [(0, .int (a0 - (((a0.toUInt32 >>> ((1 : Int32).toUInt32 &&& Int32.toUInt32 31)).toInt32) &&& 1431655765)))]) hx hb dJ6_bitCount_0f7a4_9 rfl hl (by decide) rfl (fun ls hl => ?_)
  refine lv_iload_n hx hb dJ6_bitCount_0f7a4_10 rfl (lv_at hl 0 rfl) ?_
  refine lv_ldcw (v := 858993459) hx hb hown hk266 dJ6_bitCount_0f7a4_11 ?_
  refine lv_iand hx hb dJ6_bitCount_0f7a4_14 ?_
  refine lv_iload_n hx hb dJ6_bitCount_0f7a4_15 rfl (lv_at hl 0 rfl) ?_
  refine lv_iconst (v := 2) hx hb dJ6_bitCount_0f7a4_16 (by decide) ?_
  refine lv_iushr (v := ((a0 - (((a0.toUInt32 >>> ((1 : Int32).toUInt32 &&& Int32.toUInt32 31)).toInt32) &&& 1431655765)).toUInt32 >>> ((2 : Int32).toUInt32 &&& Int32.toUInt32 31)).toInt32) hx hb dJ6_bitCount_0f7a4_17 rfl ?_
  refine lv_ldcw (v := 858993459) hx hb hown hk266 dJ6_bitCount_0f7a4_18 ?_
  refine lv_iand hx hb dJ6_bitCount_0f7a4_21 ?_
  refine lv_iadd hx hb dJ6_bitCount_0f7a4_22 ?_
  refine lv_istore_n (lv' := [(0, .int (((a0 - (((a0.toUInt32 >>> ((1 : Int32).toUInt32 &&& Int32.toUInt32 31)).toInt32) &&& 1431655765)) &&& 858993459) + ((((a0 - (((a0.toUInt32 >>> ((1 : Int32).toUInt32 &&& Int32.toUInt32 31)).toInt32) &&& 1431655765)).toUInt32 >>> ((2 : Int32).toUInt32 &&& Int32.toUInt32 31)).toInt32) &&& 858993459)))]) hx hb dJ6_bitCount_0f7a4_23 rfl hl (by decide) rfl (fun ls hl => ?_)
  refine lv_iload_n hx hb dJ6_bitCount_0f7a4_24 rfl (lv_at hl 0 rfl) ?_
  refine lv_iload_n hx hb dJ6_bitCount_0f7a4_25 rfl (lv_at hl 0 rfl) ?_
  refine lv_iconst (v := 4) hx hb dJ6_bitCount_0f7a4_26 (by decide) ?_
  refine lv_iushr (v := ((((a0 - (((a0.toUInt32 >>> ((1 : Int32).toUInt32 &&& Int32.toUInt32 31)).toInt32) &&& 1431655765)) &&& 858993459) + ((((a0 - (((a0.toUInt32 >>> ((1 : Int32).toUInt32 &&& Int32.toUInt32 31)).toInt32) &&& 1431655765)).toUInt32 >>> ((2 : Int32).toUInt32 &&& Int32.toUInt32 31)).toInt32) &&& 858993459)).toUInt32 >>> ((4 : Int32).toUInt32 &&& Int32.toUInt32 31)).toInt32) hx hb dJ6_bitCount_0f7a4_27 rfl ?_
  refine lv_iadd hx hb dJ6_bitCount_0f7a4_28 ?_
  refine lv_ldcw (v := 252645135) hx hb hown hk267 dJ6_bitCount_0f7a4_29 ?_
  refine lv_iand hx hb dJ6_bitCount_0f7a4_32 ?_
  refine lv_istore_n (lv' := [(0, .int (((((a0 - (((a0.toUInt32 >>> ((1 : Int32).toUInt32 &&& Int32.toUInt32 31)).toInt32) &&& 1431655765)) &&& 858993459) + ((((a0 - (((a0.toUInt32 >>> ((1 : Int32).toUInt32 &&& Int32.toUInt32 31)).toInt32) &&& 1431655765)).toUInt32 >>> ((2 : Int32).toUInt32 &&& Int32.toUInt32 31)).toInt32) &&& 858993459)) + (((((a0 - (((a0.toUInt32 >>> ((1 : Int32).toUInt32 &&& Int32.toUInt32 31)).toInt32) &&& 1431655765)) &&& 858993459) + ((((a0 - (((a0.toUInt32 >>> ((1 : Int32).toUInt32 &&& Int32.toUInt32 31)).toInt32) &&& 1431655765)).toUInt32 >>> ((2 : Int32).toUInt32 &&& Int32.toUInt32 31)).toInt32) &&& 858993459)).toUInt32 >>> ((4 : Int32).toUInt32 &&& Int32.toUInt32 31)).toInt32)) &&& 252645135))]) hx hb dJ6_bitCount_0f7a4_33 rfl hl (by decide) rfl (fun ls hl => ?_)
  refine lv_iload_n hx hb dJ6_bitCount_0f7a4_34 rfl (lv_at hl 0 rfl) ?_
  refine lv_iload_n hx hb dJ6_bitCount_0f7a4_35 rfl (lv_at hl 0 rfl) ?_
  refine lv_bipush (v := 8) hx hb dJ6_bitCount_0f7a4_36 (by decide) ?_
  refine lv_iushr (v := ((((((a0 - (((a0.toUInt32 >>> ((1 : Int32).toUInt32 &&& Int32.toUInt32 31)).toInt32) &&& 1431655765)) &&& 858993459) + ((((a0 - (((a0.toUInt32 >>> ((1 : Int32).toUInt32 &&& Int32.toUInt32 31)).toInt32) &&& 1431655765)).toUInt32 >>> ((2 : Int32).toUInt32 &&& Int32.toUInt32 31)).toInt32) &&& 858993459)) + (((((a0 - (((a0.toUInt32 >>> ((1 : Int32).toUInt32 &&& Int32.toUInt32 31)).toInt32) &&& 1431655765)) &&& 858993459) + ((((a0 - (((a0.toUInt32 >>> ((1 : Int32).toUInt32 &&& Int32.toUInt32 31)).toInt32) &&& 1431655765)).toUInt32 >>> ((2 : Int32).toUInt32 &&& Int32.toUInt32 31)).toInt32) &&& 858993459)).toUInt32 >>> ((4 : Int32).toUInt32 &&& Int32.toUInt32 31)).toInt32)) &&& 252645135).toUInt32 >>> ((8 : Int32).toUInt32 &&& Int32.toUInt32 31)).toInt32) hx hb dJ6_bitCount_0f7a4_38 rfl ?_
  refine lv_iadd hx hb dJ6_bitCount_0f7a4_39 ?_
  refine lv_istore_n (lv' := [(0, .int ((((((a0 - (((a0.toUInt32 >>> ((1 : Int32).toUInt32 &&& Int32.toUInt32 31)).toInt32) &&& 1431655765)) &&& 858993459) + ((((a0 - (((a0.toUInt32 >>> ((1 : Int32).toUInt32 &&& Int32.toUInt32 31)).toInt32) &&& 1431655765)).toUInt32 >>> ((2 : Int32).toUInt32 &&& Int32.toUInt32 31)).toInt32) &&& 858993459)) + (((((a0 - (((a0.toUInt32 >>> ((1 : Int32).toUInt32 &&& Int32.toUInt32 31)).toInt32) &&& 1431655765)) &&& 858993459) + ((((a0 - (((a0.toUInt32 >>> ((1 : Int32).toUInt32 &&& Int32.toUInt32 31)).toInt32) &&& 1431655765)).toUInt32 >>> ((2 : Int32).toUInt32 &&& Int32.toUInt32 31)).toInt32) &&& 858993459)).toUInt32 >>> ((4 : Int32).toUInt32 &&& Int32.toUInt32 31)).toInt32)) &&& 252645135) + (((((((a0 - (((a0.toUInt32 >>> ((1 : Int32).toUInt32 &&& Int32.toUInt32 31)).toInt32) &&& 1431655765)) &&& 858993459) + ((((a0 - (((a0.toUInt32 >>> ((1 : Int32).toUInt32 &&& Int32.toUInt32 31)).toInt32) &&& 1431655765)).toUInt32 >>> ((2 : Int32).toUInt32 &&& Int32.toUInt32 31)).toInt32) &&& 858993459)) + (((((a0 - (((a0.toUInt32 >>> ((1 : Int32).toUInt32 &&& Int32.toUInt32 31)).toInt32) &&& 1431655765)) &&& 858993459) + ((((a0 - (((a0.toUInt32 >>> ((1 : Int32).toUInt32 &&& Int32.toUInt32 31)).toInt32) &&& 1431655765)).toUInt32 >>> ((2 : Int32).toUInt32 &&& Int32.toUInt32 31)).toInt32) &&& 858993459)).toUInt32 >>> ((4 : Int32).toUInt32 &&& Int32.toUInt32 31)).toInt32)) &&& 252645135).toUInt32 >>> ((8 : Int32).toUInt32 &&& Int32.toUInt32 31)).toInt32)))]) hx hb dJ6_bitCount_0f7a4_40 rfl hl (by decide) rfl (fun ls hl => ?_)
  refine lv_iload_n hx hb dJ6_bitCount_0f7a4_41 rfl (lv_at hl 0 rfl) ?_
  refine lv_iload_n hx hb dJ6_bitCount_0f7a4_42 rfl (lv_at hl 0 rfl) ?_
  refine lv_bipush (v := 16) hx hb dJ6_bitCount_0f7a4_43 (by decide) ?_
  refine lv_iushr (v := (((((((a0 - (((a0.toUInt32 >>> ((1 : Int32).toUInt32 &&& Int32.toUInt32 31)).toInt32) &&& 1431655765)) &&& 858993459) + ((((a0 - (((a0.toUInt32 >>> ((1 : Int32).toUInt32 &&& Int32.toUInt32 31)).toInt32) &&& 1431655765)).toUInt32 >>> ((2 : Int32).toUInt32 &&& Int32.toUInt32 31)).toInt32) &&& 858993459)) + (((((a0 - (((a0.toUInt32 >>> ((1 : Int32).toUInt32 &&& Int32.toUInt32 31)).toInt32) &&& 1431655765)) &&& 858993459) + ((((a0 - (((a0.toUInt32 >>> ((1 : Int32).toUInt32 &&& Int32.toUInt32 31)).toInt32) &&& 1431655765)).toUInt32 >>> ((2 : Int32).toUInt32 &&& Int32.toUInt32 31)).toInt32) &&& 858993459)).toUInt32 >>> ((4 : Int32).toUInt32 &&& Int32.toUInt32 31)).toInt32)) &&& 252645135) + (((((((a0 - (((a0.toUInt32 >>> ((1 : Int32).toUInt32 &&& Int32.toUInt32 31)).toInt32) &&& 1431655765)) &&& 858993459) + ((((a0 - (((a0.toUInt32 >>> ((1 : Int32).toUInt32 &&& Int32.toUInt32 31)).toInt32) &&& 1431655765)).toUInt32 >>> ((2 : Int32).toUInt32 &&& Int32.toUInt32 31)).toInt32) &&& 858993459)) + (((((a0 - (((a0.toUInt32 >>> ((1 : Int32).toUInt32 &&& Int32.toUInt32 31)).toInt32) &&& 1431655765)) &&& 858993459) + ((((a0 - (((a0.toUInt32 >>> ((1 : Int32).toUInt32 &&& Int32.toUInt32 31)).toInt32) &&& 1431655765)).toUInt32 >>> ((2 : Int32).toUInt32 &&& Int32.toUInt32 31)).toInt32) &&& 858993459)).toUInt32 >>> ((4 : Int32).toUInt32 &&& Int32.toUInt32 31)).toInt32)) &&& 252645135).toUInt32 >>> ((8 : Int32).toUInt32 &&& Int32.toUInt32 31)).toInt32)).toUInt32 >>> ((16 : Int32).toUInt32 &&& Int32.toUInt32 31)).toInt32) hx hb dJ6_bitCount_0f7a4_45 rfl ?_
  refine lv_iadd hx hb dJ6_bitCount_0f7a4_46 ?_
  refine lv_istore_n (lv' := [(0, .int (((((((a0 - (((a0.toUInt32 >>> ((1 : Int32).toUInt32 &&& Int32.toUInt32 31)).toInt32) &&& 1431655765)) &&& 858993459) + ((((a0 - (((a0.toUInt32 >>> ((1 : Int32).toUInt32 &&& Int32.toUInt32 31)).toInt32) &&& 1431655765)).toUInt32 >>> ((2 : Int32).toUInt32 &&& Int32.toUInt32 31)).toInt32) &&& 858993459)) + (((((a0 - (((a0.toUInt32 >>> ((1 : Int32).toUInt32 &&& Int32.toUInt32 31)).toInt32) &&& 1431655765)) &&& 858993459) + ((((a0 - (((a0.toUInt32 >>> ((1 : Int32).toUInt32 &&& Int32.toUInt32 31)).toInt32) &&& 1431655765)).toUInt32 >>> ((2 : Int32).toUInt32 &&& Int32.toUInt32 31)).toInt32) &&& 858993459)).toUInt32 >>> ((4 : Int32).toUInt32 &&& Int32.toUInt32 31)).toInt32)) &&& 252645135) + (((((((a0 - (((a0.toUInt32 >>> ((1 : Int32).toUInt32 &&& Int32.toUInt32 31)).toInt32) &&& 1431655765)) &&& 858993459) + ((((a0 - (((a0.toUInt32 >>> ((1 : Int32).toUInt32 &&& Int32.toUInt32 31)).toInt32) &&& 1431655765)).toUInt32 >>> ((2 : Int32).toUInt32 &&& Int32.toUInt32 31)).toInt32) &&& 858993459)) + (((((a0 - (((a0.toUInt32 >>> ((1 : Int32).toUInt32 &&& Int32.toUInt32 31)).toInt32) &&& 1431655765)) &&& 858993459) + ((((a0 - (((a0.toUInt32 >>> ((1 : Int32).toUInt32 &&& Int32.toUInt32 31)).toInt32) &&& 1431655765)).toUInt32 >>> ((2 : Int32).toUInt32 &&& Int32.toUInt32 31)).toInt32) &&& 858993459)).toUInt32 >>> ((4 : Int32).toUInt32 &&& Int32.toUInt32 31)).toInt32)) &&& 252645135).toUInt32 >>> ((8 : Int32).toUInt32 &&& Int32.toUInt32 31)).toInt32)) + ((((((((a0 - (((a0.toUInt32 >>> ((1 : Int32).toUInt32 &&& Int32.toUInt32 31)).toInt32) &&& 1431655765)) &&& 858993459) + ((((a0 - (((a0.toUInt32 >>> ((1 : Int32).toUInt32 &&& Int32.toUInt32 31)).toInt32) &&& 1431655765)).toUInt32 >>> ((2 : Int32).toUInt32 &&& Int32.toUInt32 31)).toInt32) &&& 858993459)) + (((((a0 - (((a0.toUInt32 >>> ((1 : Int32).toUInt32 &&& Int32.toUInt32 31)).toInt32) &&& 1431655765)) &&& 858993459) + ((((a0 - (((a0.toUInt32 >>> ((1 : Int32).toUInt32 &&& Int32.toUInt32 31)).toInt32) &&& 1431655765)).toUInt32 >>> ((2 : Int32).toUInt32 &&& Int32.toUInt32 31)).toInt32) &&& 858993459)).toUInt32 >>> ((4 : Int32).toUInt32 &&& Int32.toUInt32 31)).toInt32)) &&& 252645135) + (((((((a0 - (((a0.toUInt32 >>> ((1 : Int32).toUInt32 &&& Int32.toUInt32 31)).toInt32) &&& 1431655765)) &&& 858993459) + ((((a0 - (((a0.toUInt32 >>> ((1 : Int32).toUInt32 &&& Int32.toUInt32 31)).toInt32) &&& 1431655765)).toUInt32 >>> ((2 : Int32).toUInt32 &&& Int32.toUInt32 31)).toInt32) &&& 858993459)) + (((((a0 - (((a0.toUInt32 >>> ((1 : Int32).toUInt32 &&& Int32.toUInt32 31)).toInt32) &&& 1431655765)) &&& 858993459) + ((((a0 - (((a0.toUInt32 >>> ((1 : Int32).toUInt32 &&& Int32.toUInt32 31)).toInt32) &&& 1431655765)).toUInt32 >>> ((2 : Int32).toUInt32 &&& Int32.toUInt32 31)).toInt32) &&& 858993459)).toUInt32 >>> ((4 : Int32).toUInt32 &&& Int32.toUInt32 31)).toInt32)) &&& 252645135).toUInt32 >>> ((8 : Int32).toUInt32 &&& Int32.toUInt32 31)).toInt32)).toUInt32 >>> ((16 : Int32).toUInt32 &&& Int32.toUInt32 31)).toInt32)))]) hx hb dJ6_bitCount_0f7a4_47 rfl hl (by decide) rfl (fun ls hl => ?_)
  refine lv_iload_n hx hb dJ6_bitCount_0f7a4_48 rfl (lv_at hl 0 rfl) ?_
  refine lv_bipush (v := 63) hx hb dJ6_bitCount_0f7a4_49 (by decide) ?_
  refine lv_iand hx hb dJ6_bitCount_0f7a4_51 ?_
  exact W.iret (v := (((((((a0 - (((a0.toUInt32 >>> ((1 : Int32).toUInt32 &&& Int32.toUInt32 31)).toInt32) &&& 1431655765)) &&& 858993459) + ((((a0 - (((a0.toUInt32 >>> ((1 : Int32).toUInt32 &&& Int32.toUInt32 31)).toInt32) &&& 1431655765)).toUInt32 >>> ((2 : Int32).toUInt32 &&& Int32.toUInt32 31)).toInt32) &&& 858993459)) + (((((a0 - (((a0.toUInt32 >>> ((1 : Int32).toUInt32 &&& Int32.toUInt32 31)).toInt32) &&& 1431655765)) &&& 858993459) + ((((a0 - (((a0.toUInt32 >>> ((1 : Int32).toUInt32 &&& Int32.toUInt32 31)).toInt32) &&& 1431655765)).toUInt32 >>> ((2 : Int32).toUInt32 &&& Int32.toUInt32 31)).toInt32) &&& 858993459)).toUInt32 >>> ((4 : Int32).toUInt32 &&& Int32.toUInt32 31)).toInt32)) &&& 252645135) + (((((((a0 - (((a0.toUInt32 >>> ((1 : Int32).toUInt32 &&& Int32.toUInt32 31)).toInt32) &&& 1431655765)) &&& 858993459) + ((((a0 - (((a0.toUInt32 >>> ((1 : Int32).toUInt32 &&& Int32.toUInt32 31)).toInt32) &&& 1431655765)).toUInt32 >>> ((2 : Int32).toUInt32 &&& Int32.toUInt32 31)).toInt32) &&& 858993459)) + (((((a0 - (((a0.toUInt32 >>> ((1 : Int32).toUInt32 &&& Int32.toUInt32 31)).toInt32) &&& 1431655765)) &&& 858993459) + ((((a0 - (((a0.toUInt32 >>> ((1 : Int32).toUInt32 &&& Int32.toUInt32 31)).toInt32) &&& 1431655765)).toUInt32 >>> ((2 : Int32).toUInt32 &&& Int32.toUInt32 31)).toInt32) &&& 858993459)).toUInt32 >>> ((4 : Int32).toUInt32 &&& Int32.toUInt32 31)).toInt32)) &&& 252645135).toUInt32 >>> ((8 : Int32).toUInt32 &&& Int32.toUInt32 31)).toInt32)) + ((((((((a0 - (((a0.toUInt32 >>> ((1 : Int32).toUInt32 &&& Int32.toUInt32 31)).toInt32) &&& 1431655765)) &&& 858993459) + ((((a0 - (((a0.toUInt32 >>> ((1 : Int32).toUInt32 &&& Int32.toUInt32 31)).toInt32) &&& 1431655765)).toUInt32 >>> ((2 : Int32).toUInt32 &&& Int32.toUInt32 31)).toInt32) &&& 858993459)) + (((((a0 - (((a0.toUInt32 >>> ((1 : Int32).toUInt32 &&& Int32.toUInt32 31)).toInt32) &&& 1431655765)) &&& 858993459) + ((((a0 - (((a0.toUInt32 >>> ((1 : Int32).toUInt32 &&& Int32.toUInt32 31)).toInt32) &&& 1431655765)).toUInt32 >>> ((2 : Int32).toUInt32 &&& Int32.toUInt32 31)).toInt32) &&& 858993459)).toUInt32 >>> ((4 : Int32).toUInt32 &&& Int32.toUInt32 31)).toInt32)) &&& 252645135) + (((((((a0 - (((a0.toUInt32 >>> ((1 : Int32).toUInt32 &&& Int32.toUInt32 31)).toInt32) &&& 1431655765)) &&& 858993459) + ((((a0 - (((a0.toUInt32 >>> ((1 : Int32).toUInt32 &&& Int32.toUInt32 31)).toInt32) &&& 1431655765)).toUInt32 >>> ((2 : Int32).toUInt32 &&& Int32.toUInt32 31)).toInt32) &&& 858993459)) + (((((a0 - (((a0.toUInt32 >>> ((1 : Int32).toUInt32 &&& Int32.toUInt32 31)).toInt32) &&& 1431655765)) &&& 858993459) + ((((a0 - (((a0.toUInt32 >>> ((1 : Int32).toUInt32 &&& Int32.toUInt32 31)).toInt32) &&& 1431655765)).toUInt32 >>> ((2 : Int32).toUInt32 &&& Int32.toUInt32 31)).toInt32) &&& 858993459)).toUInt32 >>> ((4 : Int32).toUInt32 &&& Int32.toUInt32 31)).toInt32)) &&& 252645135).toUInt32 >>> ((8 : Int32).toUInt32 &&& Int32.toUInt32 31)).toInt32)).toUInt32 >>> ((16 : Int32).toUInt32 &&& Int32.toUInt32 31)).toInt32)) &&& 63) hx hb hr (fun t ht hw => ⟨_, rfl, (show ((((((((a0 - (((a0.toUInt32 >>> ((1 : Int32).toUInt32 &&& Int32.toUInt32 31)).toInt32) &&& 1431655765)) &&& 858993459) + ((((a0 - (((a0.toUInt32 >>> ((1 : Int32).toUInt32 &&& Int32.toUInt32 31)).toInt32) &&& 1431655765)).toUInt32 >>> ((2 : Int32).toUInt32 &&& Int32.toUInt32 31)).toInt32) &&& 858993459)) + (((((a0 - (((a0.toUInt32 >>> ((1 : Int32).toUInt32 &&& Int32.toUInt32 31)).toInt32) &&& 1431655765)) &&& 858993459) + ((((a0 - (((a0.toUInt32 >>> ((1 : Int32).toUInt32 &&& Int32.toUInt32 31)).toInt32) &&& 1431655765)).toUInt32 >>> ((2 : Int32).toUInt32 &&& Int32.toUInt32 31)).toInt32) &&& 858993459)).toUInt32 >>> ((4 : Int32).toUInt32 &&& Int32.toUInt32 31)).toInt32)) &&& 252645135) + (((((((a0 - (((a0.toUInt32 >>> ((1 : Int32).toUInt32 &&& Int32.toUInt32 31)).toInt32) &&& 1431655765)) &&& 858993459) + ((((a0 - (((a0.toUInt32 >>> ((1 : Int32).toUInt32 &&& Int32.toUInt32 31)).toInt32) &&& 1431655765)).toUInt32 >>> ((2 : Int32).toUInt32 &&& Int32.toUInt32 31)).toInt32) &&& 858993459)) + (((((a0 - (((a0.toUInt32 >>> ((1 : Int32).toUInt32 &&& Int32.toUInt32 31)).toInt32) &&& 1431655765)) &&& 858993459) + ((((a0 - (((a0.toUInt32 >>> ((1 : Int32).toUInt32 &&& Int32.toUInt32 31)).toInt32) &&& 1431655765)).toUInt32 >>> ((2 : Int32).toUInt32 &&& Int32.toUInt32 31)).toInt32) &&& 858993459)).toUInt32 >>> ((4 : Int32).toUInt32 &&& Int32.toUInt32 31)).toInt32)) &&& 252645135).toUInt32 >>> ((8 : Int32).toUInt32 &&& Int32.toUInt32 31)).toInt32)) + ((((((((a0 - (((a0.toUInt32 >>> ((1 : Int32).toUInt32 &&& Int32.toUInt32 31)).toInt32) &&& 1431655765)) &&& 858993459) + ((((a0 - (((a0.toUInt32 >>> ((1 : Int32).toUInt32 &&& Int32.toUInt32 31)).toInt32) &&& 1431655765)).toUInt32 >>> ((2 : Int32).toUInt32 &&& Int32.toUInt32 31)).toInt32) &&& 858993459)) + (((((a0 - (((a0.toUInt32 >>> ((1 : Int32).toUInt32 &&& Int32.toUInt32 31)).toInt32) &&& 1431655765)) &&& 858993459) + ((((a0 - (((a0.toUInt32 >>> ((1 : Int32).toUInt32 &&& Int32.toUInt32 31)).toInt32) &&& 1431655765)).toUInt32 >>> ((2 : Int32).toUInt32 &&& Int32.toUInt32 31)).toInt32) &&& 858993459)).toUInt32 >>> ((4 : Int32).toUInt32 &&& Int32.toUInt32 31)).toInt32)) &&& 252645135) + (((((((a0 - (((a0.toUInt32 >>> ((1 : Int32).toUInt32 &&& Int32.toUInt32 31)).toInt32) &&& 1431655765)) &&& 858993459) + ((((a0 - (((a0.toUInt32 >>> ((1 : Int32).toUInt32 &&& Int32.toUInt32 31)).toInt32) &&& 1431655765)).toUInt32 >>> ((2 : Int32).toUInt32 &&& Int32.toUInt32 31)).toInt32) &&& 858993459)) + (((((a0 - (((a0.toUInt32 >>> ((1 : Int32).toUInt32 &&& Int32.toUInt32 31)).toInt32) &&& 1431655765)) &&& 858993459) + ((((a0 - (((a0.toUInt32 >>> ((1 : Int32).toUInt32 &&& Int32.toUInt32 31)).toInt32) &&& 1431655765)).toUInt32 >>> ((2 : Int32).toUInt32 &&& Int32.toUInt32 31)).toInt32) &&& 858993459)).toUInt32 >>> ((4 : Int32).toUInt32 &&& Int32.toUInt32 31)).toInt32)) &&& 252645135).toUInt32 >>> ((8 : Int32).toUInt32 &&& Int32.toUInt32 31)).toInt32)).toUInt32 >>> ((16 : Int32).toUInt32 &&& Int32.toUInt32 31)).toInt32)) &&& 63 : Int32) = fJ6_bitCount_0f7a4 a0 from by unfold fJ6_bitCount_0f7a4; rfl), ht⟩) (fun _ h => nomatch h) dJ6_bitCount_0f7a4_52

def fX5_in  (a0 : Int32) (a1 : Int32) (a2 : Int32) : Bool := if a0 < a1 then false else (if a2 < a0 then false else true)
set_option maxHeartbeats 4000000 in
set_option maxRecDepth 100000 in
theorem kX5_in (l : Launch) (a0 : Int32) (a1 : Int32) (a2 : Int32) : Met l yX5_in wsX5_in ({ frames := 0, cells := 0, slots := 0, locals := 0 }) (va_Pc [.int a0, .int a1, .int a2] (fun _ => True)) (vp_Si (fun r => r = zI (fX5_in a0 a1 a2))) 0 0 (fun _ => False) := by
  refine Met.ofW (cc := cX5_in) (maxL := 3) (ret := (some .boolean)) (by decide) rfl ?_
  intro p e s m args below meth c s₁ B hml hv
  obtain ⟨rfl, -⟩ := hv
  have hx := B.exec
  have hb := B.bytes
  have hr := B.returns
  have hts := atoms_spec (ws := wsX5_in) B.pre
  have hown : s.vm.findClass RX5 = some m.cls := findClass_of_methodNamed B.named
  have hlocks := B.notSynchronized
  have hl := lv_entry ([.int a0, .int a1, .int a2]) (n := 3) (Nat.le_of_ble_eq_true rfl)
  rw [lg_entry_eq]
  generalize (lg_sl ([.int a0, .int a1, .int a2]) ++ List.replicate (3 - (lg_sl ([.int a0, .int a1, .int a2])).length) Slot.unset).toArray = ls at hl ⊢
  have hl : lv_has ls 3 [(0, .int a0), (1, .int a1), (2, .int a2)] := hl
  refine lv_iload_n hx hb dX5_in_0 rfl (lv_at hl 0 rfl) ?_
  refine lv_iload_n hx hb dX5_in_1 rfl (lv_at hl 1 rfl) ?_
  refine lv_icmp_lt (tgt := 14) hx hb dX5_in_2 (by decide) (fun c_1 => ?_) (fun c_1 => ?_)
  · refine lv_iconst (v := 0) hx hb dX5_in_14 (by decide) ?_
    exact W.zret (v := 0) hx hb hr rfl (fun t ht hw => ⟨_, rfl, (congrArg zI (show false = fX5_in a0 a1 a2 from by unfold fX5_in; rw [if_pos c_1])), ht⟩) (fun _ h => nomatch h) dX5_in_15
  · refine lv_iload_n hx hb dX5_in_5 rfl (lv_at hl 0 rfl) ?_
    refine lv_iload_n hx hb dX5_in_6 rfl (lv_at hl 2 rfl) ?_
    refine lv_icmp_gt (tgt := 14) hx hb dX5_in_7 (by decide) (fun c_2 => ?_) (fun c_2 => ?_)
    · refine lv_iconst (v := 0) hx hb dX5_in_14 (by decide) ?_
      exact W.zret (v := 0) hx hb hr rfl (fun t ht hw => ⟨_, rfl, (congrArg zI (show false = fX5_in a0 a1 a2 from by unfold fX5_in; rw [if_neg c_1, if_pos c_2])), ht⟩) (fun _ h => nomatch h) dX5_in_15
    · refine lv_iconst (v := 1) hx hb dX5_in_10 (by decide) ?_
      refine lv_goto (tgt := 15) hx hb dX5_in_11 (by decide) ?_
      exact W.zret (v := 1) hx hb hr rfl (fun t ht hw => ⟨_, rfl, (congrArg zI (show true = fX5_in a0 a1 a2 from by unfold fX5_in; rw [if_neg c_1, if_neg c_2])), ht⟩) (fun _ h => nomatch h) dX5_in_15

def fX5_isPlayer  (a0 : Int32) : Bool := if a0 < 0 then false else (if 5 ≤ a0 then false else true)
set_option maxHeartbeats 4000000 in
set_option maxRecDepth 100000 in
theorem kX5_isPlayer (l : Launch) (a0 : Int32) : Met l yX5_isPlayer wsX5_isPlayer ({ frames := 0, cells := 0, slots := 0, locals := 0 }) (va_Pc [.int a0] (fun _ => True)) (vp_Si (fun r => r = zI (fX5_isPlayer a0))) 0 0 (fun _ => False) := by
  refine Met.ofW (cc := cX5_isPlayer) (maxL := 1) (ret := (some .boolean)) (by decide) rfl ?_
  intro p e s m args below meth c s₁ B hml hv
  obtain ⟨rfl, -⟩ := hv
  have hx := B.exec
  have hb := B.bytes
  have hr := B.returns
  have hts := atoms_spec (ws := wsX5_isPlayer) B.pre
  have hown : s.vm.findClass RX5 = some m.cls := findClass_of_methodNamed B.named
  have hlocks := B.notSynchronized
  have hl := lv_entry ([.int a0]) (n := 1) (Nat.le_of_ble_eq_true rfl)
  rw [lg_entry_eq]
  generalize (lg_sl ([.int a0]) ++ List.replicate (1 - (lg_sl ([.int a0])).length) Slot.unset).toArray = ls at hl ⊢
  have hl : lv_has ls 1 [(0, .int a0)] := hl
  refine lv_iload_n hx hb dX5_isPlayer_0 rfl (lv_at hl 0 rfl) ?_
  refine lv_if_lt (tgt := 13) hx hb dX5_isPlayer_1 (by decide) (fun c_1 => ?_) (fun c_1 => ?_)
  · refine lv_iconst (v := 0) hx hb dX5_isPlayer_13 (by decide) ?_
    exact W.zret (v := 0) hx hb hr rfl (fun t ht hw => ⟨_, rfl, (congrArg zI (show false = fX5_isPlayer a0 from by unfold fX5_isPlayer; rw [if_pos c_1])), ht⟩) (fun _ h => nomatch h) dX5_isPlayer_14
  · refine lv_iload_n hx hb dX5_isPlayer_4 rfl (lv_at hl 0 rfl) ?_
    refine lv_iconst (v := 5) hx hb dX5_isPlayer_5 (by decide) ?_
    refine lv_icmp_ge (tgt := 13) hx hb dX5_isPlayer_6 (by decide) (fun c_2 => ?_) (fun c_2 => ?_)
    · refine lv_iconst (v := 0) hx hb dX5_isPlayer_13 (by decide) ?_
      exact W.zret (v := 0) hx hb hr rfl (fun t ht hw => ⟨_, rfl, (congrArg zI (show false = fX5_isPlayer a0 from by unfold fX5_isPlayer; rw [if_neg c_1, if_pos c_2])), ht⟩) (fun _ h => nomatch h) dX5_isPlayer_14
    · refine lv_iconst (v := 1) hx hb dX5_isPlayer_9 (by decide) ?_
      refine lv_goto (tgt := 14) hx hb dX5_isPlayer_10 (by decide) ?_
      exact W.zret (v := 1) hx hb hr rfl (fun t ht hw => ⟨_, rfl, (congrArg zI (show true = fX5_isPlayer a0 from by unfold fX5_isPlayer; rw [if_neg c_1, if_neg c_2])), ht⟩) (fun _ h => nomatch h) dX5_isPlayer_14

def fX5_isCell  (a0 : Int32) : Bool := if a0 < 0 then false else (if 25 ≤ a0 then false else true)
set_option maxHeartbeats 4000000 in
set_option maxRecDepth 100000 in
theorem kX5_isCell (l : Launch) (a0 : Int32) : Met l yX5_isCell wsX5_isCell ({ frames := 0, cells := 0, slots := 0, locals := 0 }) (va_Pc [.int a0] (fun _ => True)) (vp_Si (fun r => r = zI (fX5_isCell a0))) 0 0 (fun _ => False) := by
  refine Met.ofW (cc := cX5_isCell) (maxL := 1) (ret := (some .boolean)) (by decide) rfl ?_
  intro p e s m args below meth c s₁ B hml hv
  obtain ⟨rfl, -⟩ := hv
  have hx := B.exec
  have hb := B.bytes
  have hr := B.returns
  have hts := atoms_spec (ws := wsX5_isCell) B.pre
  have hown : s.vm.findClass RX5 = some m.cls := findClass_of_methodNamed B.named
  have hlocks := B.notSynchronized
  have hl := lv_entry ([.int a0]) (n := 1) (Nat.le_of_ble_eq_true rfl)
  rw [lg_entry_eq]
  generalize (lg_sl ([.int a0]) ++ List.replicate (1 - (lg_sl ([.int a0])).length) Slot.unset).toArray = ls at hl ⊢
  have hl : lv_has ls 1 [(0, .int a0)] := hl
  refine lv_iload_n hx hb dX5_isCell_0 rfl (lv_at hl 0 rfl) ?_
  refine lv_if_lt (tgt := 14) hx hb dX5_isCell_1 (by decide) (fun c_1 => ?_) (fun c_1 => ?_)
  · refine lv_iconst (v := 0) hx hb dX5_isCell_14 (by decide) ?_
    exact W.zret (v := 0) hx hb hr rfl (fun t ht hw => ⟨_, rfl, (congrArg zI (show false = fX5_isCell a0 from by unfold fX5_isCell; rw [if_pos c_1])), ht⟩) (fun _ h => nomatch h) dX5_isCell_15
  · refine lv_iload_n hx hb dX5_isCell_4 rfl (lv_at hl 0 rfl) ?_
    refine lv_bipush (v := 25) hx hb dX5_isCell_5 (by decide) ?_
    refine lv_icmp_ge (tgt := 14) hx hb dX5_isCell_7 (by decide) (fun c_2 => ?_) (fun c_2 => ?_)
    · refine lv_iconst (v := 0) hx hb dX5_isCell_14 (by decide) ?_
      exact W.zret (v := 0) hx hb hr rfl (fun t ht hw => ⟨_, rfl, (congrArg zI (show false = fX5_isCell a0 from by unfold fX5_isCell; rw [if_neg c_1, if_pos c_2])), ht⟩) (fun _ h => nomatch h) dX5_isCell_15
    · refine lv_iconst (v := 1) hx hb dX5_isCell_10 (by decide) ?_
      refine lv_goto (tgt := 15) hx hb dX5_isCell_11 (by decide) ?_
      exact W.zret (v := 1) hx hb hr rfl (fun t ht hw => ⟨_, rfl, (congrArg zI (show true = fX5_isCell a0 from by unfold fX5_isCell; rw [if_neg c_1, if_neg c_2])), ht⟩) (fun _ h => nomatch h) dX5_isCell_15

def fX0_rows (kd : Int32) (dx : Int32) (dy : Int32) (re : Int32) (a0 : Bool) : Int32 := if a0 = true then (-dy) else dy
set_option maxHeartbeats 4000000 in
set_option maxRecDepth 100000 in
theorem kX0_rows (l : Launch) (G : xG) (E : xE) (kd : Int32) (dx : Int32) (dy : Int32) (re : Int32) (o : Nat) (a0 : Bool) (hE : E o = some (.inr (0, [.int kd, .int dx, .int dy, .int re]))) : Met l yX0_rows wsX0_rows ({ frames := 0, cells := 0, slots := 0, locals := 0 }) (va_Pc [.ref o, .int (zI a0)] (xB G E)) (vp_Si (fun r => r = fX0_rows kd dx dy re a0)) 0 0 (fun _ => False) := by
  refine Met.ofW (cc := cX0_rows) (maxL := 2) (ret := (some .int)) (by decide) rfl ?_
  intro p e s m args below meth c s₁ B hml hv
  obtain ⟨rfl, hX, hW⟩ := hv
  have hx := B.exec
  have hb := B.bytes
  have hr := B.returns
  have hts := atoms_spec (ws := wsX0_rows) B.pre
  have hown : s.vm.findClass RX0 = some m.cls := findClass_of_methodNamed B.named
  have hlocks := B.notSynchronized
  have hS : va_S (xA G) s.heap s.heap [] := va_S.rf
  have hiX0 : ∀ w ∈ u_ws RX0 TX0 4, w ∈ wsX0_rows := by decide +kernel
  have hf18 := hts (Cond.fieldLink RX0 18 "VariantMill$Card" "dy" "I") (by decide +kernel)
  have hl := lv_entry ([.ref o, .int (zI a0)]) (n := 2) (Nat.le_of_ble_eq_true rfl)
  rw [lg_entry_eq]
  generalize (lg_sl ([.ref o, .int (zI a0)]) ++ List.replicate (2 - (lg_sl ([.ref o, .int (zI a0)])).length) Slot.unset).toArray = ls at hl ⊢
  have hl : lv_has ls 2 [(0, .ref o), (1, .int (zI a0))] := hl
  refine lv_iload_n hx hb dX0_rows_0 rfl (lv_at hl 1 rfl) ?_
  refine x_ifz_eq (b := a0) (tgt := 12) hx hb dX0_rows_1 (by decide) (fun c_1 => ?_) (fun c_1 => ?_)
  · refine lv_aload_n hx hb dX0_rows_12 rfl (lv_at hl 0 rfl) ?_
    refine va_get (D := G.1) (ci := 0) (v := .int dy) (C := RX0) (T := TX0) (N := 4) hx hb hts hiX0 hown hX.1 (x1 hW hE) 0 rfl rfl 2 (by decide) hf18 (fun _ h9 => h9) rfl dX0_rows_13 ?_
    exact W.iret (v := dy) hx hb hr (fun t ht hw => ⟨_, rfl, (show (dy : Int32) = fX0_rows kd dx dy re a0 from by unfold fX0_rows; rw [if_neg (Bool.eq_false_iff.mp c_1)]), ht⟩) (fun _ h => nomatch h) dX0_rows_16
  · refine lv_aload_n hx hb dX0_rows_4 rfl (lv_at hl 0 rfl) ?_
    refine va_get (D := G.1) (ci := 0) (v := .int dy) (C := RX0) (T := TX0) (N := 4) hx hb hts hiX0 hown hX.1 (x1 hW hE) 0 rfl rfl 2 (by decide) hf18 (fun _ h9 => h9) rfl dX0_rows_5 ?_
    refine lv_ineg hx hb dX0_rows_8 ?_
    refine lv_goto (tgt := 16) hx hb dX0_rows_9 (by decide) ?_
    exact W.iret (v := -dy) hx hb hr (fun t ht hw => ⟨_, rfl, (show (-dy : Int32) = fX0_rows kd dx dy re a0 from by unfold fX0_rows; rw [if_pos c_1]), ht⟩) (fun _ h => nomatch h) dX0_rows_16

def fX0_isRightPath (kd : Int32) (dx : Int32) (dy : Int32) (re : Int32) (a0 : Int32) (a1 : Int32) (a2 : Int32) : Bool := if kd = 2 then (if a1 = (-1) then false else (if (a0 &&& a2) = ((1 : Int32) <<< (a1 &&& 31)) then true else false)) else (if (a0 &&& a2) = 0 then true else false)
set_option maxHeartbeats 4000000 in
set_option maxRecDepth 100000 in
theorem kX0_isRightPath (l : Launch) (G : xG) (E : xE) (kd : Int32) (dx : Int32) (dy : Int32) (re : Int32) (o : Nat) (a0 : Int32) (a1 : Int32) (a2 : Int32) (hE : E o = some (.inr (0, [.int kd, .int dx, .int dy, .int re]))) : Met l yX0_isRightPath wsX0_isRightPath ({ frames := 0, cells := 0, slots := 0, locals := 0 }) (va_Pc [.ref o, .int a0, .int a1, .int a2] (xB G E)) (vp_Si (fun r => r = zI (fX0_isRightPath kd dx dy re a0 a1 a2))) 0 0 (fun _ => False) := by
  refine Met.ofW (cc := cX0_isRightPath) (maxL := 5) (ret := (some .boolean)) (by decide) rfl ?_
  intro p e s m args below meth c s₁ B hml hv
  obtain ⟨rfl, hX, hW⟩ := hv
  have hx := B.exec
  have hb := B.bytes
  have hr := B.returns
  have hts := atoms_spec (ws := wsX0_isRightPath) B.pre
  have hown : s.vm.findClass RX0 = some m.cls := findClass_of_methodNamed B.named
  have hlocks := B.notSynchronized
  have hS : va_S (xA G) s.heap s.heap [] := va_S.rf
  have hiX0 : ∀ w ∈ u_ws RX0 TX0 4, w ∈ wsX0_isRightPath := by decide +kernel
  have hf9 := hts (Cond.fieldLink RX0 9 "VariantMill$Card" "kind" "I") (by decide +kernel)
  have hl := lv_entry ([.ref o, .int a0, .int a1, .int a2]) (n := 5) (Nat.le_of_ble_eq_true rfl)
  rw [lg_entry_eq]
  generalize (lg_sl ([.ref o, .int a0, .int a1, .int a2]) ++ List.replicate (5 - (lg_sl ([.ref o, .int a0, .int a1, .int a2])).length) Slot.unset).toArray = ls at hl ⊢
  have hl : lv_has ls 5 [(0, .ref o), (1, .int a0), (2, .int a1), (3, .int a2)] := hl
  refine lv_iload_n hx hb dX0_isRightPath_0 rfl (lv_at hl 1 rfl) ?_
  refine lv_iload_n hx hb dX0_isRightPath_1 rfl (lv_at hl 3 rfl) ?_
  refine lv_iand hx hb dX0_isRightPath_2 ?_
  refine lv_istore (lv' := [(4, .int (a0 &&& a2)), (0, .ref o), (1, .int a0), (2, .int a1), (3, .int a2)]) hx hb dX0_isRightPath_3 hl (by decide) rfl (fun ls hl => ?_)
  refine lv_aload_n hx hb dX0_isRightPath_5 rfl (lv_at hl 1 rfl) ?_
  refine va_get (D := G.1) (ci := 0) (v := .int kd) (C := RX0) (T := TX0) (N := 4) hx hb hts hiX0 hown hX.1 (x1 hW hE) 0 rfl rfl 0 (by decide) hf9 (fun _ h9 => h9) rfl dX0_isRightPath_6 ?_
  refine lv_iconst (v := 2) hx hb dX0_isRightPath_9 (by decide) ?_
  refine lv_icmp_eq (tgt := 24) hx hb dX0_isRightPath_10 (by decide) (fun c_1 => ?_) (fun c_1 => ?_)
  · refine lv_iload_n hx hb dX0_isRightPath_24 rfl (lv_at hl 3 rfl) ?_
    refine lv_iconst (v := (-1)) hx hb dX0_isRightPath_25 (by decide) ?_
    refine lv_icmp_eq (tgt := 41) hx hb dX0_isRightPath_26 (by decide) (fun c_2 => ?_) (fun c_2 => ?_)
    · refine lv_iconst (v := 0) hx hb dX0_isRightPath_41 (by decide) ?_
      exact W.zret (v := 0) hx hb hr rfl (fun t ht hw => ⟨_, rfl, (congrArg zI (show false = fX0_isRightPath kd dx dy re a0 a1 a2 from by unfold fX0_isRightPath; rw [if_pos c_1, if_pos c_2])), ht⟩) (fun _ h => nomatch h) dX0_isRightPath_42
    · refine lv_iload hx hb dX0_isRightPath_29 (lv_at hl 0 rfl) ?_
      refine lv_iconst (v := 1) hx hb dX0_isRightPath_31 (by decide) ?_
      refine lv_iload_n hx hb dX0_isRightPath_32 rfl (lv_at hl 3 rfl) ?_
      refine lv_ishl hx hb dX0_isRightPath_33 ?_
      refine lv_icmp_ne (tgt := 41) hx hb dX0_isRightPath_34 (by decide) (fun c_3 => ?_) (fun c_3 => ?_)
      · refine lv_iconst (v := 0) hx hb dX0_isRightPath_41 (by decide) ?_
        exact W.zret (v := 0) hx hb hr rfl (fun t ht hw => ⟨_, rfl, (congrArg zI (show false = fX0_isRightPath kd dx dy re a0 a1 a2 from by unfold fX0_isRightPath; rw [if_pos c_1, if_neg c_2, if_neg c_3])), ht⟩) (fun _ h => nomatch h) dX0_isRightPath_42
      · refine lv_iconst (v := 1) hx hb dX0_isRightPath_37 (by decide) ?_
        refine lv_goto (tgt := 42) hx hb dX0_isRightPath_38 (by decide) ?_
        exact W.zret (v := 1) hx hb hr rfl (fun t ht hw => ⟨_, rfl, (congrArg zI (show true = fX0_isRightPath kd dx dy re a0 a1 a2 from by unfold fX0_isRightPath; rw [if_pos c_1, if_neg c_2, if_pos c_3])), ht⟩) (fun _ h => nomatch h) dX0_isRightPath_42
  · refine lv_iload hx hb dX0_isRightPath_13 (lv_at hl 0 rfl) ?_
    refine lv_if_ne (tgt := 22) hx hb dX0_isRightPath_15 (by decide) (fun c_4 => ?_) (fun c_4 => ?_)
    · refine lv_iconst (v := 0) hx hb dX0_isRightPath_22 (by decide) ?_
      exact W.zret (v := 0) hx hb hr rfl (fun t ht hw => ⟨_, rfl, (congrArg zI (show false = fX0_isRightPath kd dx dy re a0 a1 a2 from by unfold fX0_isRightPath; rw [if_neg c_1, if_neg c_4])), ht⟩) (fun _ h => nomatch h) dX0_isRightPath_23
    · refine lv_iconst (v := 1) hx hb dX0_isRightPath_18 (by decide) ?_
      refine lv_goto (tgt := 23) hx hb dX0_isRightPath_19 (by decide) ?_
      exact W.zret (v := 1) hx hb hr rfl (fun t ht hw => ⟨_, rfl, (congrArg zI (show true = fX0_isRightPath kd dx dy re a0 a1 a2 from by unfold fX0_isRightPath; rw [if_neg c_1, if_pos c_4])), ht⟩) (fun _ h => nomatch h) dX0_isRightPath_23
