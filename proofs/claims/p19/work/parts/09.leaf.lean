def fX4_isIn (a0 : Int32) (a1 : Int32) : Bool := if ((a0 >>> (a1 &&& 31)) &&& 1) = 0 then false else true
set_option maxHeartbeats 4000000 in
set_option maxRecDepth 100000 in
theorem kX4_isIn (l : Launch) (a0 : Int32) (a1 : Int32) : Met l yX4_isIn wsX4_isIn ({ frames := 0, cells := 0, slots := 0, locals := 0 }) (va_Pc [.int a0, .int a1] (fun _ => True)) (vp_Si (fun r => r = zI (fX4_isIn a0 a1))) 0 0 (fun _ => False) := by
  refine Met.ofW (cc := cX4_isIn) (maxL := 2) (ret := (some .boolean)) (by decide) rfl ?_
  intro p e s m args below meth c s₁ B hml hv
  obtain ⟨rfl, -⟩ := hv
  have hx := B.exec
  have hb := B.bytes
  have hr := B.returns
  have hts := atoms_spec (ws := wsX4_isIn) B.pre
  have hown : s.vm.findClass RX4 = some m.cls := findClass_of_methodNamed B.named
  have hlocks := B.notSynchronized
  have hl := lv_entry ([.int a0, .int a1]) (n := 2) (Nat.le_of_ble_eq_true rfl)
  rw [lg_entry_eq]
  generalize (lg_sl ([.int a0, .int a1]) ++ List.replicate (2 - (lg_sl ([.int a0, .int a1])).length) Slot.unset).toArray = ls at hl ⊢
  have hl : lv_has ls 2 [(0, .int a0), (1, .int a1)] := hl
  refine lv_iload_n hx hb dX4_isIn_0 rfl (lv_at hl 0 rfl) ?_
  refine lv_iload_n hx hb dX4_isIn_1 rfl (lv_at hl 1 rfl) ?_
  refine lv_ishr hx hb dX4_isIn_2 ?_
  refine lv_iconst (v := 1) hx hb dX4_isIn_3 (by decide) ?_
  refine lv_iand hx hb dX4_isIn_4 ?_
  refine lv_if_eq (tgt := 12) hx hb dX4_isIn_5 (by decide) (fun c_1 => ?_) (fun c_1 => ?_)
  · refine lv_iconst (v := 0) hx hb dX4_isIn_12 (by decide) ?_
    exact W.zret (v := 0) hx hb hr rfl (fun t ht hw => ⟨_, rfl, (congrArg zI (show false = fX4_isIn a0 a1 from by unfold fX4_isIn; rw [if_pos c_1])), ht⟩) (fun _ h => nomatch h) dX4_isIn_13
  · refine lv_iconst (v := 1) hx hb dX4_isIn_8 (by decide) ?_
    refine lv_goto (tgt := 13) hx hb dX4_isIn_9 (by decide) ?_
    exact W.zret (v := 1) hx hb hr rfl (fun t ht hw => ⟨_, rfl, (congrArg zI (show true = fX4_isIn a0 a1 from by unfold fX4_isIn; rw [if_neg c_1])), ht⟩) (fun _ h => nomatch h) dX4_isIn_13

def fX4_cellAhead (a0 : Int32) (a1 : Int32) (a2 : Int32) : Int32 := if ((a0 - a0 / 5 * 5) + a1) < 0 then (-1) else (if 5 ≤ ((a0 - a0 / 5 * 5) + a1) then (-1) else (if ((a0 / 5) + a2) < 0 then (-1) else (if 5 ≤ ((a0 / 5) + a2) then (-1) else (((5 : Int32) * ((a0 / 5) + a2)) + ((a0 - a0 / 5 * 5) + a1)))))
set_option maxHeartbeats 4000000 in
set_option maxRecDepth 100000 in
theorem kX4_cellAhead (l : Launch) (a0 : Int32) (a1 : Int32) (a2 : Int32) : Met l yX4_cellAhead wsX4_cellAhead ({ frames := 0, cells := 0, slots := 0, locals := 0 }) (va_Pc [.int a0, .int a1, .int a2] (fun _ => True)) (vp_Si (fun r => r = fX4_cellAhead a0 a1 a2)) 0 0 (fun _ => False) := by
  refine Met.ofW (cc := cX4_cellAhead) (maxL := 6) (ret := (some .int)) (by decide) rfl ?_
  intro p e s m args below meth c s₁ B hml hv
  obtain ⟨rfl, -⟩ := hv
  have hx := B.exec
  have hb := B.bytes
  have hr := B.returns
  have hts := atoms_spec (ws := wsX4_cellAhead) B.pre
  have hown : s.vm.findClass RX4 = some m.cls := findClass_of_methodNamed B.named
  have hlocks := B.notSynchronized
  have hl := lv_entry ([.int a0, .int a1, .int a2]) (n := 6) (Nat.le_of_ble_eq_true rfl)
  rw [lg_entry_eq]
  generalize (lg_sl ([.int a0, .int a1, .int a2]) ++ List.replicate (6 - (lg_sl ([.int a0, .int a1, .int a2])).length) Slot.unset).toArray = ls at hl ⊢
  have hl : lv_has ls 6 [(0, .int a0), (1, .int a1), (2, .int a2)] := hl
  refine lv_iload_n hx hb dX4_cellAhead_0 rfl (lv_at hl 0 rfl) ?_
  refine lv_iconst (v := 5) hx hb dX4_cellAhead_1 (by decide) ?_
  refine lv_irem hx hb dX4_cellAhead_2 (by decide) ?_
  refine lv_iload_n hx hb dX4_cellAhead_3 rfl (lv_at hl 1 rfl) ?_
  refine lv_iadd hx hb dX4_cellAhead_4 ?_
  refine lv_istore_n (lv' := [(3, .int ((a0 - a0 / 5 * 5) + a1)), (0, .int a0), (1, .int a1), (2, .int a2)]) hx hb dX4_cellAhead_5 rfl hl (by decide) rfl (fun ls hl => ?_)
  refine lv_iload_n hx hb dX4_cellAhead_6 rfl (lv_at hl 1 rfl) ?_
  refine lv_iconst (v := 5) hx hb dX4_cellAhead_7 (by decide) ?_
  refine lv_idiv hx hb dX4_cellAhead_8 (by decide) ?_
  refine lv_iload_n hx hb dX4_cellAhead_9 rfl (lv_at hl 3 rfl) ?_
  refine lv_iadd hx hb dX4_cellAhead_10 ?_
  refine lv_istore (lv' := [(4, .int ((a0 / 5) + a2)), (3, .int ((a0 - a0 / 5 * 5) + a1)), (0, .int a0), (1, .int a1), (2, .int a2)]) hx hb dX4_cellAhead_11 hl (by decide) rfl (fun ls hl => ?_)
  refine lv_iload_n hx hb dX4_cellAhead_13 rfl (lv_at hl 1 rfl) ?_
  refine lv_if_lt (tgt := 37) hx hb dX4_cellAhead_14 (by decide) (fun c_1 => ?_) (fun c_1 => ?_)
  · refine lv_iconst (v := 0) hx hb dX4_cellAhead_37 (by decide) ?_
    refine lv_istore (lv' := [(5, .int 0), (4, .int ((a0 / 5) + a2)), (3, .int ((a0 - a0 / 5 * 5) + a1)), (0, .int a0), (1, .int a1), (2, .int a2)]) hx hb dX4_cellAhead_38 hl (by decide) rfl (fun ls hl => ?_)
    refine lv_iload hx hb dX4_cellAhead_40 (lv_at hl 0 rfl) ?_
    refine lv_if_eq (tgt := 54) hx hb dX4_cellAhead_42 (by decide) (fun _ => ?_) (fun c9 => absurd (by decide) c9)
    refine lv_iconst (v := (-1)) hx hb dX4_cellAhead_54 (by decide) ?_
    exact W.iret (v := (-1)) hx hb hr (fun t ht hw => ⟨_, rfl, (show ((-1) : Int32) = fX4_cellAhead a0 a1 a2 from by unfold fX4_cellAhead; rw [if_pos c_1]), ht⟩) (fun _ h => nomatch h) dX4_cellAhead_55
  · refine lv_iload_n hx hb dX4_cellAhead_17 rfl (lv_at hl 1 rfl) ?_
    refine lv_iconst (v := 5) hx hb dX4_cellAhead_18 (by decide) ?_
    refine lv_icmp_ge (tgt := 37) hx hb dX4_cellAhead_19 (by decide) (fun c_2 => ?_) (fun c_2 => ?_)
    · refine lv_iconst (v := 0) hx hb dX4_cellAhead_37 (by decide) ?_
      refine lv_istore (lv' := [(5, .int 0), (4, .int ((a0 / 5) + a2)), (3, .int ((a0 - a0 / 5 * 5) + a1)), (0, .int a0), (1, .int a1), (2, .int a2)]) hx hb dX4_cellAhead_38 hl (by decide) rfl (fun ls hl => ?_)
      refine lv_iload hx hb dX4_cellAhead_40 (lv_at hl 0 rfl) ?_
      refine lv_if_eq (tgt := 54) hx hb dX4_cellAhead_42 (by decide) (fun _ => ?_) (fun c9 => absurd (by decide) c9)
      refine lv_iconst (v := (-1)) hx hb dX4_cellAhead_54 (by decide) ?_
      exact W.iret (v := (-1)) hx hb hr (fun t ht hw => ⟨_, rfl, (show ((-1) : Int32) = fX4_cellAhead a0 a1 a2 from by unfold fX4_cellAhead; rw [if_neg c_1, if_pos c_2]), ht⟩) (fun _ h => nomatch h) dX4_cellAhead_55
    · refine lv_iload hx hb dX4_cellAhead_22 (lv_at hl 0 rfl) ?_
      refine lv_if_lt (tgt := 37) hx hb dX4_cellAhead_24 (by decide) (fun c_3 => ?_) (fun c_3 => ?_)
      · refine lv_iconst (v := 0) hx hb dX4_cellAhead_37 (by decide) ?_
        refine lv_istore (lv' := [(5, .int 0), (4, .int ((a0 / 5) + a2)), (3, .int ((a0 - a0 / 5 * 5) + a1)), (0, .int a0), (1, .int a1), (2, .int a2)]) hx hb dX4_cellAhead_38 hl (by decide) rfl (fun ls hl => ?_)
        refine lv_iload hx hb dX4_cellAhead_40 (lv_at hl 0 rfl) ?_
        refine lv_if_eq (tgt := 54) hx hb dX4_cellAhead_42 (by decide) (fun _ => ?_) (fun c9 => absurd (by decide) c9)
        refine lv_iconst (v := (-1)) hx hb dX4_cellAhead_54 (by decide) ?_
        exact W.iret (v := (-1)) hx hb hr (fun t ht hw => ⟨_, rfl, (show ((-1) : Int32) = fX4_cellAhead a0 a1 a2 from by unfold fX4_cellAhead; rw [if_neg c_1, if_neg c_2, if_pos c_3]), ht⟩) (fun _ h => nomatch h) dX4_cellAhead_55
      · refine lv_iload hx hb dX4_cellAhead_27 (lv_at hl 0 rfl) ?_
        refine lv_iconst (v := 5) hx hb dX4_cellAhead_29 (by decide) ?_
        refine lv_icmp_ge (tgt := 37) hx hb dX4_cellAhead_30 (by decide) (fun c_4 => ?_) (fun c_4 => ?_)
        · refine lv_iconst (v := 0) hx hb dX4_cellAhead_37 (by decide) ?_
          refine lv_istore (lv' := [(5, .int 0), (4, .int ((a0 / 5) + a2)), (3, .int ((a0 - a0 / 5 * 5) + a1)), (0, .int a0), (1, .int a1), (2, .int a2)]) hx hb dX4_cellAhead_38 hl (by decide) rfl (fun ls hl => ?_)
          refine lv_iload hx hb dX4_cellAhead_40 (lv_at hl 0 rfl) ?_
          refine lv_if_eq (tgt := 54) hx hb dX4_cellAhead_42 (by decide) (fun _ => ?_) (fun c9 => absurd (by decide) c9)
          refine lv_iconst (v := (-1)) hx hb dX4_cellAhead_54 (by decide) ?_
          exact W.iret (v := (-1)) hx hb hr (fun t ht hw => ⟨_, rfl, (show ((-1) : Int32) = fX4_cellAhead a0 a1 a2 from by unfold fX4_cellAhead; rw [if_neg c_1, if_neg c_2, if_neg c_3, if_pos c_4]), ht⟩) (fun _ h => nomatch h) dX4_cellAhead_55
        · refine lv_iconst (v := 1) hx hb dX4_cellAhead_33 (by decide) ?_
          refine lv_goto (tgt := 38) hx hb dX4_cellAhead_34 (by decide) ?_
          refine lv_istore (lv' := [(5, .int 1), (4, .int ((a0 / 5) + a2)), (3, .int ((a0 - a0 / 5 * 5) + a1)), (0, .int a0), (1, .int a1), (2, .int a2)]) hx hb dX4_cellAhead_38 hl (by decide) rfl (fun ls hl => ?_)
          refine lv_iload hx hb dX4_cellAhead_40 (lv_at hl 0 rfl) ?_
          refine lv_if_eq (tgt := 54) hx hb dX4_cellAhead_42 (by decide) (fun c9 => absurd c9 (by decide)) (fun _ => ?_)
          refine lv_iconst (v := 5) hx hb dX4_cellAhead_45 (by decide) ?_
          refine lv_iload hx hb dX4_cellAhead_46 (lv_at hl 1 rfl) ?_
          refine lv_imul hx hb dX4_cellAhead_48 ?_
          refine lv_iload_n hx hb dX4_cellAhead_49 rfl (lv_at hl 2 rfl) ?_
          refine lv_iadd hx hb dX4_cellAhead_50 ?_
          refine lv_goto (tgt := 55) hx hb dX4_cellAhead_51 (by decide) ?_
          exact W.iret (v := ((5 : Int32) * ((a0 / 5) + a2)) + ((a0 - a0 / 5 * 5) + a1)) hx hb hr (fun t ht hw => ⟨_, rfl, (show (((5 : Int32) * ((a0 / 5) + a2)) + ((a0 - a0 / 5 * 5) + a1) : Int32) = fX4_cellAhead a0 a1 a2 from by unfold fX4_cellAhead; rw [if_neg c_1, if_neg c_2, if_neg c_3, if_neg c_4]), ht⟩) (fun _ h => nomatch h) dX4_cellAhead_55

def fX4_moved (a0 : Int32) (a1 : Int32) (a2 : Int32) : Int32 := (a0 &&& (((1 : Int32) <<< (a1 &&& 31)) ^^^ (-1))) ||| ((1 : Int32) <<< (a2 &&& 31))
set_option maxHeartbeats 4000000 in
set_option maxRecDepth 100000 in
theorem kX4_moved (l : Launch) (a0 : Int32) (a1 : Int32) (a2 : Int32) : Met l yX4_moved wsX4_moved ({ frames := 0, cells := 0, slots := 0, locals := 0 }) (va_Pc [.int a0, .int a1, .int a2] (fun _ => True)) (vp_Si (fun r => r = fX4_moved a0 a1 a2)) 0 0 (fun _ => False) := by
  refine Met.ofW (cc := cX4_moved) (maxL := 3) (ret := (some .int)) (by decide) rfl ?_
  intro p e s m args below meth c s₁ B hml hv
  obtain ⟨rfl, -⟩ := hv
  have hx := B.exec
  have hb := B.bytes
  have hr := B.returns
  have hts := atoms_spec (ws := wsX4_moved) B.pre
  have hown : s.vm.findClass RX4 = some m.cls := findClass_of_methodNamed B.named
  have hlocks := B.notSynchronized
  have hl := lv_entry ([.int a0, .int a1, .int a2]) (n := 3) (Nat.le_of_ble_eq_true rfl)
  rw [lg_entry_eq]
  generalize (lg_sl ([.int a0, .int a1, .int a2]) ++ List.replicate (3 - (lg_sl ([.int a0, .int a1, .int a2])).length) Slot.unset).toArray = ls at hl ⊢
  have hl : lv_has ls 3 [(0, .int a0), (1, .int a1), (2, .int a2)] := hl
  refine lv_iload_n hx hb dX4_moved_0 rfl (lv_at hl 0 rfl) ?_
  refine lv_iconst (v := 1) hx hb dX4_moved_1 (by decide) ?_
  refine lv_iload_n hx hb dX4_moved_2 rfl (lv_at hl 1 rfl) ?_
  refine lv_ishl hx hb dX4_moved_3 ?_
  refine lv_iconst (v := (-1)) hx hb dX4_moved_4 (by decide) ?_
  refine lv_ixor hx hb dX4_moved_5 ?_
  refine lv_iand hx hb dX4_moved_6 ?_
  refine lv_iconst (v := 1) hx hb dX4_moved_7 (by decide) ?_
  refine lv_iload_n hx hb dX4_moved_8 rfl (lv_at hl 2 rfl) ?_
  refine lv_ishl hx hb dX4_moved_9 ?_
  refine lv_ior hx hb dX4_moved_10 ?_
  exact W.iret (v := (a0 &&& (((1 : Int32) <<< (a1 &&& 31)) ^^^ (-1))) ||| ((1 : Int32) <<< (a2 &&& 31))) hx hb hr (fun t ht hw => ⟨_, rfl, (show ((a0 &&& (((1 : Int32) <<< (a1 &&& 31)) ^^^ (-1))) ||| ((1 : Int32) <<< (a2 &&& 31)) : Int32) = fX4_moved a0 a1 a2 from by unfold fX4_moved; rfl), ht⟩) (fun _ h => nomatch h) dX4_moved_11

def fX4_isStep (a0 : Int32) (a1 : Int32) : Bool := if a0 < (-2) then false else (if 2 < a0 then false else (if a1 < (-2) then false else (if 2 < a1 then false else (if a0 = 0 then (if a1 = 0 then false else true) else true))))
set_option maxHeartbeats 4000000 in
set_option maxRecDepth 100000 in
theorem kX4_isStep (l : Launch) (a0 : Int32) (a1 : Int32) : Met l yX4_isStep wsX4_isStep ({ frames := 0, cells := 0, slots := 0, locals := 0 }) (va_Pc [.int a0, .int a1] (fun _ => True)) (vp_Si (fun r => r = zI (fX4_isStep a0 a1))) 0 0 (fun _ => False) := by
  refine Met.ofW (cc := cX4_isStep) (maxL := 3) (ret := (some .boolean)) (by decide) rfl ?_
  intro p e s m args below meth c s₁ B hml hv
  obtain ⟨rfl, -⟩ := hv
  have hx := B.exec
  have hb := B.bytes
  have hr := B.returns
  have hts := atoms_spec (ws := wsX4_isStep) B.pre
  have hown : s.vm.findClass RX4 = some m.cls := findClass_of_methodNamed B.named
  have hlocks := B.notSynchronized
  have hl := lv_entry ([.int a0, .int a1]) (n := 3) (Nat.le_of_ble_eq_true rfl)
  rw [lg_entry_eq]
  generalize (lg_sl ([.int a0, .int a1]) ++ List.replicate (3 - (lg_sl ([.int a0, .int a1])).length) Slot.unset).toArray = ls at hl ⊢
  have hl : lv_has ls 3 [(0, .int a0), (1, .int a1)] := hl
  refine lv_iload_n hx hb dX4_isStep_0 rfl (lv_at hl 0 rfl) ?_
  refine lv_bipush (v := (-2)) hx hb dX4_isStep_1 (by decide) ?_
  refine lv_icmp_lt (tgt := 26) hx hb dX4_isStep_3 (by decide) (fun c_1 => ?_) (fun c_1 => ?_)
  · refine lv_iconst (v := 0) hx hb dX4_isStep_26 (by decide) ?_
    refine lv_istore_n (lv' := [(2, .int 0), (0, .int a0), (1, .int a1)]) hx hb dX4_isStep_27 rfl hl (by decide) rfl (fun ls hl => ?_)
    refine lv_iload_n hx hb dX4_isStep_28 rfl (lv_at hl 0 rfl) ?_
    refine lv_if_eq (tgt := 44) hx hb dX4_isStep_29 (by decide) (fun _ => ?_) (fun c9 => absurd (by decide) c9)
    refine lv_iconst (v := 0) hx hb dX4_isStep_44 (by decide) ?_
    exact W.zret (v := 0) hx hb hr rfl (fun t ht hw => ⟨_, rfl, (congrArg zI (show false = fX4_isStep a0 a1 from by unfold fX4_isStep; rw [if_pos c_1])), ht⟩) (fun _ h => nomatch h) dX4_isStep_45
  · refine lv_iload_n hx hb dX4_isStep_6 rfl (lv_at hl 0 rfl) ?_
    refine lv_iconst (v := 2) hx hb dX4_isStep_7 (by decide) ?_
    refine lv_icmp_gt (tgt := 26) hx hb dX4_isStep_8 (by decide) (fun c_2 => ?_) (fun c_2 => ?_)
    · refine lv_iconst (v := 0) hx hb dX4_isStep_26 (by decide) ?_
      refine lv_istore_n (lv' := [(2, .int 0), (0, .int a0), (1, .int a1)]) hx hb dX4_isStep_27 rfl hl (by decide) rfl (fun ls hl => ?_)
      refine lv_iload_n hx hb dX4_isStep_28 rfl (lv_at hl 0 rfl) ?_
      refine lv_if_eq (tgt := 44) hx hb dX4_isStep_29 (by decide) (fun _ => ?_) (fun c9 => absurd (by decide) c9)
      refine lv_iconst (v := 0) hx hb dX4_isStep_44 (by decide) ?_
      exact W.zret (v := 0) hx hb hr rfl (fun t ht hw => ⟨_, rfl, (congrArg zI (show false = fX4_isStep a0 a1 from by unfold fX4_isStep; rw [if_neg c_1, if_pos c_2])), ht⟩) (fun _ h => nomatch h) dX4_isStep_45
    · refine lv_iload_n hx hb dX4_isStep_11 rfl (lv_at hl 1 rfl) ?_
      refine lv_bipush (v := (-2)) hx hb dX4_isStep_12 (by decide) ?_
      refine lv_icmp_lt (tgt := 26) hx hb dX4_isStep_14 (by decide) (fun c_3 => ?_) (fun c_3 => ?_)
      · refine lv_iconst (v := 0) hx hb dX4_isStep_26 (by decide) ?_
        refine lv_istore_n (lv' := [(2, .int 0), (0, .int a0), (1, .int a1)]) hx hb dX4_isStep_27 rfl hl (by decide) rfl (fun ls hl => ?_)
        refine lv_iload_n hx hb dX4_isStep_28 rfl (lv_at hl 0 rfl) ?_
        refine lv_if_eq (tgt := 44) hx hb dX4_isStep_29 (by decide) (fun _ => ?_) (fun c9 => absurd (by decide) c9)
        refine lv_iconst (v := 0) hx hb dX4_isStep_44 (by decide) ?_
        exact W.zret (v := 0) hx hb hr rfl (fun t ht hw => ⟨_, rfl, (congrArg zI (show false = fX4_isStep a0 a1 from by unfold fX4_isStep; rw [if_neg c_1, if_neg c_2, if_pos c_3])), ht⟩) (fun _ h => nomatch h) dX4_isStep_45
      · refine lv_iload_n hx hb dX4_isStep_17 rfl (lv_at hl 1 rfl) ?_
        refine lv_iconst (v := 2) hx hb dX4_isStep_18 (by decide) ?_
        refine lv_icmp_gt (tgt := 26) hx hb dX4_isStep_19 (by decide) (fun c_4 => ?_) (fun c_4 => ?_)
        · refine lv_iconst (v := 0) hx hb dX4_isStep_26 (by decide) ?_
          refine lv_istore_n (lv' := [(2, .int 0), (0, .int a0), (1, .int a1)]) hx hb dX4_isStep_27 rfl hl (by decide) rfl (fun ls hl => ?_)
          refine lv_iload_n hx hb dX4_isStep_28 rfl (lv_at hl 0 rfl) ?_
          refine lv_if_eq (tgt := 44) hx hb dX4_isStep_29 (by decide) (fun _ => ?_) (fun c9 => absurd (by decide) c9)
          refine lv_iconst (v := 0) hx hb dX4_isStep_44 (by decide) ?_
          exact W.zret (v := 0) hx hb hr rfl (fun t ht hw => ⟨_, rfl, (congrArg zI (show false = fX4_isStep a0 a1 from by unfold fX4_isStep; rw [if_neg c_1, if_neg c_2, if_neg c_3, if_pos c_4])), ht⟩) (fun _ h => nomatch h) dX4_isStep_45
        · refine lv_iconst (v := 1) hx hb dX4_isStep_22 (by decide) ?_
          refine lv_goto (tgt := 27) hx hb dX4_isStep_23 (by decide) ?_
          refine lv_istore_n (lv' := [(2, .int 1), (0, .int a0), (1, .int a1)]) hx hb dX4_isStep_27 rfl hl (by decide) rfl (fun ls hl => ?_)
          refine lv_iload_n hx hb dX4_isStep_28 rfl (lv_at hl 0 rfl) ?_
          refine lv_if_eq (tgt := 44) hx hb dX4_isStep_29 (by decide) (fun c9 => absurd c9 (by decide)) (fun _ => ?_)
          refine lv_iload_n hx hb dX4_isStep_32 rfl (lv_at hl 1 rfl) ?_
          refine lv_if_ne (tgt := 40) hx hb dX4_isStep_33 (by decide) (fun c_5 => ?_) (fun c_5 => ?_)
          · refine lv_iconst (v := 1) hx hb dX4_isStep_40 (by decide) ?_
            refine lv_goto (tgt := 45) hx hb dX4_isStep_41 (by decide) ?_
            exact W.zret (v := 1) hx hb hr rfl (fun t ht hw => ⟨_, rfl, (congrArg zI (show true = fX4_isStep a0 a1 from by unfold fX4_isStep; rw [if_neg c_1, if_neg c_2, if_neg c_3, if_neg c_4, if_neg c_5])), ht⟩) (fun _ h => nomatch h) dX4_isStep_45
          · refine lv_iload_n hx hb dX4_isStep_36 rfl (lv_at hl 2 rfl) ?_
            refine lv_if_eq (tgt := 44) hx hb dX4_isStep_37 (by decide) (fun c_6 => ?_) (fun c_6 => ?_)
            · refine lv_iconst (v := 0) hx hb dX4_isStep_44 (by decide) ?_
              exact W.zret (v := 0) hx hb hr rfl (fun t ht hw => ⟨_, rfl, (congrArg zI (show false = fX4_isStep a0 a1 from by unfold fX4_isStep; rw [if_neg c_1, if_neg c_2, if_neg c_3, if_neg c_4, if_pos c_5, if_pos c_6])), ht⟩) (fun _ h => nomatch h) dX4_isStep_45
            · refine lv_iconst (v := 1) hx hb dX4_isStep_40 (by decide) ?_
              refine lv_goto (tgt := 45) hx hb dX4_isStep_41 (by decide) ?_
              exact W.zret (v := 1) hx hb hr rfl (fun t ht hw => ⟨_, rfl, (congrArg zI (show true = fX4_isStep a0 a1 from by unfold fX4_isStep; rw [if_neg c_1, if_neg c_2, if_neg c_3, if_neg c_4, if_pos c_5, if_neg c_6])), ht⟩) (fun _ h => nomatch h) dX4_isStep_45

def fX1_placing (a0 : Int32) (a1 : Int32) (a2 : Bool) : Int64 := if a2 = true then ((((a1.toInt64 <<< ((25 : Int32).toInt64 &&& 63)) ||| a0.toInt64) <<< ((1 : Int32).toInt64 &&& 63)) ||| ((1 : Int32).toInt64)) else ((((a1.toInt64 <<< ((25 : Int32).toInt64 &&& 63)) ||| a0.toInt64) <<< ((1 : Int32).toInt64 &&& 63)) ||| ((0 : Int32).toInt64))
set_option maxHeartbeats 4000000 in
set_option maxRecDepth 100000 in
theorem kX1_placing (l : Launch) (a0 : Int32) (a1 : Int32) (a2 : Bool) : Met l yX1_placing wsX1_placing ({ frames := 0, cells := 0, slots := 0, locals := 0 }) (va_Pc [.int a0, .int a1, .int (zI a2)] (fun _ => True)) (vp_Sl (fun r => r = fX1_placing a0 a1 a2)) 0 0 (fun _ => False) := by
  refine Met.ofW (cc := cX1_placing) (maxL := 5) (ret := (some .long)) (by decide) rfl ?_
  intro p e s m args below meth c s₁ B hml hv
  obtain ⟨rfl, -⟩ := hv
  have hx := B.exec
  have hb := B.bytes
  have hr := B.returns
  have hts := atoms_spec (ws := wsX1_placing) B.pre
  have hown : s.vm.findClass RX1 = some m.cls := findClass_of_methodNamed B.named
  have hlocks := B.notSynchronized
  have hl := lv_entry ([.int a0, .int a1, .int (zI a2)]) (n := 5) (Nat.le_of_ble_eq_true rfl)
  rw [lg_entry_eq]
  generalize (lg_sl ([.int a0, .int a1, .int (zI a2)]) ++ List.replicate (5 - (lg_sl ([.int a0, .int a1, .int (zI a2)])).length) Slot.unset).toArray = ls at hl ⊢
  have hl : lv_has ls 5 [(0, .int a0), (1, .int a1), (2, .int (zI a2))] := hl
  refine lv_iload_n hx hb dX1_placing_0 rfl (lv_at hl 1 rfl) ?_
  refine lv_i2l (v := a1.toInt64) hx hb dX1_placing_1 rfl ?_
  refine lv_bipush (v := 25) hx hb dX1_placing_2 (by decide) ?_
  refine lv_lshl (v := a1.toInt64 <<< ((25 : Int32).toInt64 &&& 63)) hx hb dX1_placing_4 rfl ?_
  refine lv_iload_n hx hb dX1_placing_5 rfl (lv_at hl 0 rfl) ?_
  refine lv_i2l (v := a0.toInt64) hx hb dX1_placing_6 rfl ?_
  refine lv_lor hx hb dX1_placing_7 ?_
  refine lv_lstore_n (lv' := [(3, .long ((a1.toInt64 <<< ((25 : Int32).toInt64 &&& 63)) ||| a0.toInt64)), (0, .int a0), (1, .int a1), (2, .int (zI a2))]) hx hb dX1_placing_8 rfl hl (by decide) rfl (fun ls hl => ?_)
  refine lv_lload_n hx hb dX1_placing_9 rfl (lv_at hl 0 rfl) ?_
  refine lv_iconst (v := 1) hx hb dX1_placing_10 (by decide) ?_
  refine lv_lshl (v := ((a1.toInt64 <<< ((25 : Int32).toInt64 &&& 63)) ||| a0.toInt64) <<< ((1 : Int32).toInt64 &&& 63)) hx hb dX1_placing_11 rfl ?_
  refine lv_iload_n hx hb dX1_placing_12 rfl (lv_at hl 3 rfl) ?_
  refine x_ifz_eq (b := a2) (tgt := 20) hx hb dX1_placing_13 (by decide) (fun c_1 => ?_) (fun c_1 => ?_)
  · refine lv_iconst (v := 0) hx hb dX1_placing_20 (by decide) ?_
    refine lv_i2l (v := (0 : Int32).toInt64) hx hb dX1_placing_21 rfl ?_
    refine lv_lor hx hb dX1_placing_22 ?_
    exact W.lret (v := (((a1.toInt64 <<< ((25 : Int32).toInt64 &&& 63)) ||| a0.toInt64) <<< ((1 : Int32).toInt64 &&& 63)) ||| ((0 : Int32).toInt64)) hx hb hr (fun t ht hw => ⟨_, rfl, (show ((((a1.toInt64 <<< ((25 : Int32).toInt64 &&& 63)) ||| a0.toInt64) <<< ((1 : Int32).toInt64 &&& 63)) ||| ((0 : Int32).toInt64) : Int64) = fX1_placing a0 a1 a2 from by unfold fX1_placing; rw [if_neg (Bool.eq_false_iff.mp c_1)]), ht⟩) (fun _ h => nomatch h) dX1_placing_23
  · refine lv_iconst (v := 1) hx hb dX1_placing_16 (by decide) ?_
    refine lv_goto (tgt := 21) hx hb dX1_placing_17 (by decide) ?_
    refine lv_i2l (v := (1 : Int32).toInt64) hx hb dX1_placing_21 rfl ?_
    refine lv_lor hx hb dX1_placing_22 ?_
    exact W.lret (v := (((a1.toInt64 <<< ((25 : Int32).toInt64 &&& 63)) ||| a0.toInt64) <<< ((1 : Int32).toInt64 &&& 63)) ||| ((1 : Int32).toInt64)) hx hb hr (fun t ht hw => ⟨_, rfl, (show ((((a1.toInt64 <<< ((25 : Int32).toInt64 &&& 63)) ||| a0.toInt64) <<< ((1 : Int32).toInt64 &&& 63)) ||| ((1 : Int32).toInt64) : Int64) = fX1_placing a0 a1 a2 from by unfold fX1_placing; rw [if_pos c_1]), ht⟩) (fun _ h => nomatch h) dX1_placing_23

def fJ6_bitCount_0f7a4 (a0 : Int32) : Int32 := (((((((a0 - (((a0.toUInt32 >>> ((1 : Int32).toUInt32 &&& Int32.toUInt32 31)).toInt32) &&& 1431655765)) &&& 858993459) + ((((a0 - (((a0.toUInt32 >>> ((1 : Int32).toUInt32 &&& Int32.toUInt32 31)).toInt32) &&& 1431655765)).toUInt32 >>> ((2 : Int32).toUInt32 &&& Int32.toUInt32 31)).toInt32) &&& 858993459)) + (((((a0 - (((a0.toUInt32 >>> ((1 : Int32).toUInt32 &&& Int32.toUInt32 31)).toInt32) &&& 1431655765)) &&& 858993459) + ((((a0 - (((a0.toUInt32 >>> ((1 : Int32).toUInt32 &&& Int32.toUInt32 31)).toInt32) &&& 1431655765)).toUInt32 >>> ((2 : Int32).toUInt32 &&& Int32.toUInt32 31)).toInt32) &&& 858993459)).toUInt32 >>> ((4 : Int32).toUInt32 &&& Int32.toUInt32 31)).toInt32)) &&& 252645135) + (((((((a0 - (((a0.toUInt32 >>> ((1 : Int32).toUInt32 &&& Int32.toUInt32 31)).toInt32) &&& 1431655765)) &&& 858993459) + ((((a0 - (((a0.toUInt32 >>> ((1 : Int32).toUInt32 &&& Int32.toUInt32 31)).toInt32) &&& 1431655765)).toUInt32 >>> ((2 : Int32).toUInt32 &&& Int32.toUInt32 31)).toInt32) &&& 858993459)) + (((((a0 - (((a0.toUInt32 >>> ((1 : Int32).toUInt32 &&& Int32.toUInt32 31)).toInt32) &&& 1431655765)) &&& 858993459) + ((((a0 - (((a0.toUInt32 >>> ((1 : Int32).toUInt32 &&& Int32.toUInt32 31)).toInt32) &&& 1431655765)).toUInt32 >>> ((2 : Int32).toUInt32 &&& Int32.toUInt32 31)).toInt32) &&& 858993459)).toUInt32 >>> ((4 : Int32).toUInt32 &&& Int32.toUInt32 31)).toInt32)) &&& 252645135).toUInt32 >>> ((8 : Int32).toUInt32 &&& Int32.toUInt32 31)).toInt32)) + ((((((((a0 - (((a0.toUInt32 >>> ((1 : Int32).toUInt32 &&& Int32.toUInt32 31)).toInt32) &&& 1431655765)) &&& 858993459) + ((((a0 - (((a0.toUInt32 >>> ((1 : Int32).toUInt32 &&& Int32.toUInt32 31)).toInt32) &&& 1431655765)).toUInt32 >>> ((2 : Int32).toUInt32 &&& Int32.toUInt32 31)).toInt32) &&& 858993459)) + (((((a0 - (((a0.toUInt32 >>> ((1 : Int32).toUInt32 &&& Int32.toUInt32 31)).toInt32) &&& 1431655765)) &&& 858993459) + ((((a0 - (((a0.toUInt32 >>> ((1 : Int32).toUInt32 &&& Int32.toUInt32 31)).toInt32) &&& 1431655765)).toUInt32 >>> ((2 : Int32).toUInt32 &&& Int32.toUInt32 31)).toInt32) &&& 858993459)).toUInt32 >>> ((4 : Int32).toUInt32 &&& Int32.toUInt32 31)).toInt32)) &&& 252645135) + (((((((a0 - (((a0.toUInt32 >>> ((1 : Int32).toUInt32 &&& Int32.toUInt32 31)).toInt32) &&& 1431655765)) &&& 858993459) + ((((a0 - (((a0.toUInt32 >>> ((1 : Int32).toUInt32 &&& Int32.toUInt32 31)).toInt32) &&& 1431655765)).toUInt32 >>> ((2 : Int32).toUInt32 &&& Int32.toUInt32 31)).toInt32) &&& 858993459)) + (((((a0 - (((a0.toUInt32 >>> ((1 : Int32).toUInt32 &&& Int32.toUInt32 31)).toInt32) &&& 1431655765)) &&& 858993459) + ((((a0 - (((a0.toUInt32 >>> ((1 : Int32).toUInt32 &&& Int32.toUInt32 31)).toInt32) &&& 1431655765)).toUInt32 >>> ((2 : Int32).toUInt32 &&& Int32.toUInt32 31)).toInt32) &&& 858993459)).toUInt32 >>> ((4 : Int32).toUInt32 &&& Int32.toUInt32 31)).toInt32)) &&& 252645135).toUInt32 >>> ((8 : Int32).toUInt32 &&& Int32.toUInt32 31)).toInt32)).toUInt32 >>> ((16 : Int32).toUInt32 &&& Int32.toUInt32 31)).toInt32)) &&& 63
set_option maxHeartbeats 4000000 in
set_option maxRecDepth 100000 in
theorem kJ6_bitCount_0f7a4 (l : Launch) (a0 : Int32) : Met l yJ6_bitCount_0f7a4 wsJ6_bitCount_0f7a4 ({ frames := 0, cells := 0, slots := 0, locals := 0 }) (va_Pc [.int a0] (fun _ => True)) (vp_Si (fun r => r = fJ6_bitCount_0f7a4 a0)) 0 0 (fun _ => False) := by
  refine Met.ofW (cc := cJ6_bitCount_0f7a4) (maxL := 1) (ret := (some .int)) (by decide) rfl ?_
  intro p e s m args below meth c s₁ B hml hv
  obtain ⟨rfl, -⟩ := hv
  have hx := B.exec
  have hb := B.bytes
  have hr := B.returns
  have hts := atoms_spec (ws := wsJ6_bitCount_0f7a4) B.pre
  have hown : s.vm.findClass RJ6 = some m.cls := findClass_of_methodNamed B.named
  have hlocks := B.notSynchronized
  have hk265 := hts (Cond.constant RJ6 265 (1431655765)) (by decide +kernel)
  have hk266 := hts (Cond.constant RJ6 266 (858993459)) (by decide +kernel)
  have hk267 := hts (Cond.constant RJ6 267 (252645135)) (by decide +kernel)
  have hl := lv_entry ([.int a0]) (n := 1) (Nat.le_of_ble_eq_true rfl)
  rw [lg_entry_eq]
  generalize (lg_sl ([.int a0]) ++ List.replicate (1 - (lg_sl ([.int a0])).length) Slot.unset).toArray = ls at hl ⊢
  have hl : lv_has ls 1 [(0, .int a0)] := hl
  refine lv_iload_n hx hb dJ6_bitCount_0f7a4_0 rfl (lv_at hl 0 rfl) ?_
  refine lv_iload_n hx hb dJ6_bitCount_0f7a4_1 rfl (lv_at hl 0 rfl) ?_
  refine lv_iconst (v := 1) hx hb dJ6_bitCount_0f7a4_2 (by decide) ?_
  refine lv_iushr (v := (a0.toUInt32 >>> ((1 : Int32).toUInt32 &&& Int32.toUInt32 31)).toInt32) hx hb dJ6_bitCount_0f7a4_3 rfl ?_
  refine lv_ldcw (v := 1431655765) hx hb hown hk265 dJ6_bitCount_0f7a4_4 ?_
  refine lv_iand hx hb dJ6_bitCount_0f7a4_7 ?_
  refine lv_isub hx hb dJ6_bitCount_0f7a4_8 ?_
  refine lv_istore_n (lv' := [(0, .int (a0 - (((a0.toUInt32 >>> ((1 : Int32).toUInt32 &&& Int32.toUInt32 31)).toInt32) &&& 1431655765)))]) hx hb dJ6_bitCount_0f7a4_9 rfl hl (by decide) rfl (fun ls hl => ?_)
  refine lv_iload_n hx hb dJ6_bitCount_0f7a4_10 rfl (lv_at hl 0 rfl) ?_
  refine lv_ldcw (v := 858993459) hx hb hown hk266 dJ6_bitCount_0f7a4_11 ?_
  refine lv_iand hx hb dJ6_bitCount_0f7a4_14 ?_
  refine lv_iload_n hx hb dJ6_bitCount_0f7a4_15 rfl (lv_at hl 0 rfl) ?_
  refine lv_iconst (v := 2) hx hb dJ6_bitCount_0f7a4_16 (by decide) ?_
  refine lv_iushr (v := ((a0 - (((a0.toUInt32 >>> ((1 : Int32).toUInt32 &&& Int32.toUInt32 31)).toInt32) &&& 1431655765)).toUInt32 >>> ((2 : Int32).toUInt32 &&& Int32.toUInt32 31)).toInt32) hx hb dJ6_bitCount_0f7a4_17 rfl ?_
  refine lv_ldcw (v := 858993459) hx hb hown hk266 dJ6_bitCount_0f7a4_18 ?_
  refine lv_iand hx hb dJ6_bitCount_0f7a4_21 ?_
  refine lv_iadd hx hb dJ6_bitCount_0f7a4_22 ?_
  refine lv_istore_n (lv' := [(0, .int (((a0 - (((a0.toUInt32 >>> ((1 : Int32).toUInt32 &&& Int32.toUInt32 31)).toInt32) &&& 1431655765)) &&& 858993459) + ((((a0 - (((a0.toUInt32 >>> ((1 : Int32).toUInt32 &&& Int32.toUInt32 31)).toInt32) &&& 1431655765)).toUInt32 >>> ((2 : Int32).toUInt32 &&& Int32.toUInt32 31)).toInt32) &&& 858993459)))]) hx hb dJ6_bitCount_0f7a4_23 rfl hl (by decide) rfl (fun ls hl => ?_)
  refine lv_iload_n hx hb dJ6_bitCount_0f7a4_24 rfl (lv_at hl 0 rfl) ?_
  refine lv_iload_n hx hb dJ6_bitCount_0f7a4_25 rfl (lv_at hl 0 rfl) ?_
  refine lv_iconst (v := 4) hx hb dJ6_bitCount_0f7a4_26 (by decide) ?_
  refine lv_iushr (v := ((((a0 - (((a0.toUInt32 >>> ((1 : Int32).toUInt32 &&& Int32.toUInt32 31)).toInt32) &&& 1431655765)) &&& 858993459) + ((((a0 - (((a0.toUInt32 >>> ((1 : Int32).toUInt32 &&& Int32.toUInt32 31)).toInt32) &&& 1431655765)).toUInt32 >>> ((2 : Int32).toUInt32 &&& Int32.toUInt32 31)).toInt32) &&& 858993459)).toUInt32 >>> ((4 : Int32).toUInt32 &&& Int32.toUInt32 31)).toInt32) hx hb dJ6_bitCount_0f7a4_27 rfl ?_
  refine lv_iadd hx hb dJ6_bitCount_0f7a4_28 ?_
  refine lv_ldcw (v := 252645135) hx hb hown hk267 dJ6_bitCount_0f7a4_29 ?_
  refine lv_iand hx hb dJ6_bitCount_0f7a4_32 ?_
  refine lv_istore_n (lv' := [(0, .int (((((a0 - (((a0.toUInt32 >>> ((1 : Int32).toUInt32 &&& Int32.toUInt32 31)).toInt32) &&& 1431655765)) &&& 858993459) + ((((a0 - (((a0.toUInt32 >>> ((1 : Int32).toUInt32 &&& Int32.toUInt32 31)).toInt32) &&& 1431655765)).toUInt32 >>> ((2 : Int32).toUInt32 &&& Int32.toUInt32 31)).toInt32) &&& 858993459)) + (((((a0 - (((a0.toUInt32 >>> ((1 : Int32).toUInt32 &&& Int32.toUInt32 31)).toInt32) &&& 1431655765)) &&& 858993459) + ((((a0 - (((a0.toUInt32 >>> ((1 : Int32).toUInt32 &&& Int32.toUInt32 31)).toInt32) &&& 1431655765)).toUInt32 >>> ((2 : Int32).toUInt32 &&& Int32.toUInt32 31)).toInt32) &&& 858993459)).toUInt32 >>> ((4 : Int32).toUInt32 &&& Int32.toUInt32 31)).toInt32)) &&& 252645135))]) hx hb dJ6_bitCount_0f7a4_33 rfl hl (by decide) rfl (fun ls hl => ?_)
  refine lv_iload_n hx hb dJ6_bitCount_0f7a4_34 rfl (lv_at hl 0 rfl) ?_
  refine lv_iload_n hx hb dJ6_bitCount_0f7a4_35 rfl (lv_at hl 0 rfl) ?_
  refine lv_bipush (v := 8) hx hb dJ6_bitCount_0f7a4_36 (by decide) ?_
  refine lv_iushr (v := ((((((a0 - (((a0.toUInt32 >>> ((1 : Int32).toUInt32 &&& Int32.toUInt32 31)).toInt32) &&& 1431655765)) &&& 858993459) + ((((a0 - (((a0.toUInt32 >>> ((1 : Int32).toUInt32 &&& Int32.toUInt32 31)).toInt32) &&& 1431655765)).toUInt32 >>> ((2 : Int32).toUInt32 &&& Int32.toUInt32 31)).toInt32) &&& 858993459)) + (((((a0 - (((a0.toUInt32 >>> ((1 : Int32).toUInt32 &&& Int32.toUInt32 31)).toInt32) &&& 1431655765)) &&& 858993459) + ((((a0 - (((a0.toUInt32 >>> ((1 : Int32).toUInt32 &&& Int32.toUInt32 31)).toInt32) &&& 1431655765)).toUInt32 >>> ((2 : Int32).toUInt32 &&& Int32.toUInt32 31)).toInt32) &&& 858993459)).toUInt32 >>> ((4 : Int32).toUInt32 &&& Int32.toUInt32 31)).toInt32)) &&& 252645135).toUInt32 >>> ((8 : Int32).toUInt32 &&& Int32.toUInt32 31)).toInt32) hx hb dJ6_bitCount_0f7a4_38 rfl ?_
  refine lv_iadd hx hb dJ6_bitCount_0f7a4_39 ?_
  refine lv_istore_n (lv' := [(0, .int ((((((a0 - (((a0.toUInt32 >>> ((1 : Int32).toUInt32 &&& Int32.toUInt32 31)).toInt32) &&& 1431655765)) &&& 858993459) + ((((a0 - (((a0.toUInt32 >>> ((1 : Int32).toUInt32 &&& Int32.toUInt32 31)).toInt32) &&& 1431655765)).toUInt32 >>> ((2 : Int32).toUInt32 &&& Int32.toUInt32 31)).toInt32) &&& 858993459)) + (((((a0 - (((a0.toUInt32 >>> ((1 : Int32).toUInt32 &&& Int32.toUInt32 31)).toInt32) &&& 1431655765)) &&& 858993459) + ((((a0 - (((a0.toUInt32 >>> ((1 : Int32).toUInt32 &&& Int32.toUInt32 31)).toInt32) &&& 1431655765)).toUInt32 >>> ((2 : Int32).toUInt32 &&& Int32.toUInt32 31)).toInt32) &&& 858993459)).toUInt32 >>> ((4 : Int32).toUInt32 &&& Int32.toUInt32 31)).toInt32)) &&& 252645135) + (((((((a0 - (((a0.toUInt32 >>> ((1 : Int32).toUInt32 &&& Int32.toUInt32 31)).toInt32) &&& 1431655765)) &&& 858993459) + ((((a0 - (((a0.toUInt32 >>> ((1 : Int32).toUInt32 &&& Int32.toUInt32 31)).toInt32) &&& 1431655765)).toUInt32 >>> ((2 : Int32).toUInt32 &&& Int32.toUInt32 31)).toInt32) &&& 858993459)) + (((((a0 - (((a0.toUInt32 >>> ((1 : Int32).toUInt32 &&& Int32.toUInt32 31)).toInt32) &&& 1431655765)) &&& 858993459) + ((((a0 - (((a0.toUInt32 >>> ((1 : Int32).toUInt32 &&& Int32.toUInt32 31)).toInt32) &&& 1431655765)).toUInt32 >>> ((2 : Int32).toUInt32 &&& Int32.toUInt32 31)).toInt32) &&& 858993459)).toUInt32 >>> ((4 : Int32).toUInt32 &&& Int32.toUInt32 31)).toInt32)) &&& 252645135).toUInt32 >>> ((8 : Int32).toUInt32 &&& Int32.toUInt32 31)).toInt32)))]) hx hb dJ6_bitCount_0f7a4_40 rfl hl (by decide) rfl (fun ls hl => ?_)
  refine lv_iload_n hx hb dJ6_bitCount_0f7a4_41 rfl (lv_at hl 0 rfl) ?_
  refine lv_iload_n hx hb dJ6_bitCount_0f7a4_42 rfl (lv_at hl 0 rfl) ?_
  refine lv_bipush (v := 16) hx hb dJ6_bitCount_0f7a4_43 (by decide) ?_
  refine lv_iushr (v := (((((((a0 - (((a0.toUInt32 >>> ((1 : Int32).toUInt32 &&& Int32.toUInt32 31)).toInt32) &&& 1431655765)) &&& 858993459) + ((((a0 - (((a0.toUInt32 >>> ((1 : Int32).toUInt32 &&& Int32.toUInt32 31)).toInt32) &&& 1431655765)).toUInt32 >>> ((2 : Int32).toUInt32 &&& Int32.toUInt32 31)).toInt32) &&& 858993459)) + (((((a0 - (((a0.toUInt32 >>> ((1 : Int32).toUInt32 &&& Int32.toUInt32 31)).toInt32) &&& 1431655765)) &&& 858993459) + ((((a0 - (((a0.toUInt32 >>> ((1 : Int32).toUInt32 &&& Int32.toUInt32 31)).toInt32) &&& 1431655765)).toUInt32 >>> ((2 : Int32).toUInt32 &&& Int32.toUInt32 31)).toInt32) &&& 858993459)).toUInt32 >>> ((4 : Int32).toUInt32 &&& Int32.toUInt32 31)).toInt32)) &&& 252645135) + (((((((a0 - (((a0.toUInt32 >>> ((1 : Int32).toUInt32 &&& Int32.toUInt32 31)).toInt32) &&& 1431655765)) &&& 858993459) + ((((a0 - (((a0.toUInt32 >>> ((1 : Int32).toUInt32 &&& Int32.toUInt32 31)).toInt32) &&& 1431655765)).toUInt32 >>> ((2 : Int32).toUInt32 &&& Int32.toUInt32 31)).toInt32) &&& 858993459)) + (((((a0 - (((a0.toUInt32 >>> ((1 : Int32).toUInt32 &&& Int32.toUInt32 31)).toInt32) &&& 1431655765)) &&& 858993459) + ((((a0 - (((a0.toUInt32 >>> ((1 : Int32).toUInt32 &&& Int32.toUInt32 31)).toInt32) &&& 1431655765)).toUInt32 >>> ((2 : Int32).toUInt32 &&& Int32.toUInt32 31)).toInt32) &&& 858993459)).toUInt32 >>> ((4 : Int32).toUInt32 &&& Int32.toUInt32 31)).toInt32)) &&& 252645135).toUInt32 >>> ((8 : Int32).toUInt32 &&& Int32.toUInt32 31)).toInt32)).toUInt32 >>> ((16 : Int32).toUInt32 &&& Int32.toUInt32 31)).toInt32) hx hb dJ6_bitCount_0f7a4_45 rfl ?_
  refine lv_iadd hx hb dJ6_bitCount_0f7a4_46 ?_
  refine lv_istore_n (lv' := [(0, .int (((((((a0 - (((a0.toUInt32 >>> ((1 : Int32).toUInt32 &&& Int32.toUInt32 31)).toInt32) &&& 1431655765)) &&& 858993459) + ((((a0 - (((a0.toUInt32 >>> ((1 : Int32).toUInt32 &&& Int32.toUInt32 31)).toInt32) &&& 1431655765)).toUInt32 >>> ((2 : Int32).toUInt32 &&& Int32.toUInt32 31)).toInt32) &&& 858993459)) + (((((a0 - (((a0.toUInt32 >>> ((1 : Int32).toUInt32 &&& Int32.toUInt32 31)).toInt32) &&& 1431655765)) &&& 858993459) + ((((a0 - (((a0.toUInt32 >>> ((1 : Int32).toUInt32 &&& Int32.toUInt32 31)).toInt32) &&& 1431655765)).toUInt32 >>> ((2 : Int32).toUInt32 &&& Int32.toUInt32 31)).toInt32) &&& 858993459)).toUInt32 >>> ((4 : Int32).toUInt32 &&& Int32.toUInt32 31)).toInt32)) &&& 252645135) + (((((((a0 - (((a0.toUInt32 >>> ((1 : Int32).toUInt32 &&& Int32.toUInt32 31)).toInt32) &&& 1431655765)) &&& 858993459) + ((((a0 - (((a0.toUInt32 >>> ((1 : Int32).toUInt32 &&& Int32.toUInt32 31)).toInt32) &&& 1431655765)).toUInt32 >>> ((2 : Int32).toUInt32 &&& Int32.toUInt32 31)).toInt32) &&& 858993459)) + (((((a0 - (((a0.toUInt32 >>> ((1 : Int32).toUInt32 &&& Int32.toUInt32 31)).toInt32) &&& 1431655765)) &&& 858993459) + ((((a0 - (((a0.toUInt32 >>> ((1 : Int32).toUInt32 &&& Int32.toUInt32 31)).toInt32) &&& 1431655765)).toUInt32 >>> ((2 : Int32).toUInt32 &&& Int32.toUInt32 31)).toInt32) &&& 858993459)).toUInt32 >>> ((4 : Int32).toUInt32 &&& Int32.toUInt32 31)).toInt32)) &&& 252645135).toUInt32 >>> ((8 : Int32).toUInt32 &&& Int32.toUInt32 31)).toInt32)) + ((((((((a0 - (((a0.toUInt32 >>> ((1 : Int32).toUInt32 &&& Int32.toUInt32 31)).toInt32) &&& 1431655765)) &&& 858993459) + ((((a0 - (((a0.toUInt32 >>> ((1 : Int32).toUInt32 &&& Int32.toUInt32 31)).toInt32) &&& 1431655765)).toUInt32 >>> ((2 : Int32).toUInt32 &&& Int32.toUInt32 31)).toInt32) &&& 858993459)) + (((((a0 - (((a0.toUInt32 >>> ((1 : Int32).toUInt32 &&& Int32.toUInt32 31)).toInt32) &&& 1431655765)) &&& 858993459) + ((((a0 - (((a0.toUInt32 >>> ((1 : Int32).toUInt32 &&& Int32.toUInt32 31)).toInt32) &&& 1431655765)).toUInt32 >>> ((2 : Int32).toUInt32 &&& Int32.toUInt32 31)).toInt32) &&& 858993459)).toUInt32 >>> ((4 : Int32).toUInt32 &&& Int32.toUInt32 31)).toInt32)) &&& 252645135) + (((((((a0 - (((a0.toUInt32 >>> ((1 : Int32).toUInt32 &&& Int32.toUInt32 31)).toInt32) &&& 1431655765)) &&& 858993459) + ((((a0 - (((a0.toUInt32 >>> ((1 : Int32).toUInt32 &&& Int32.toUInt32 31)).toInt32) &&& 1431655765)).toUInt32 >>> ((2 : Int32).toUInt32 &&& Int32.toUInt32 31)).toInt32) &&& 858993459)) + (((((a0 - (((a0.toUInt32 >>> ((1 : Int32).toUInt32 &&& Int32.toUInt32 31)).toInt32) &&& 1431655765)) &&& 858993459) + ((((a0 - (((a0.toUInt32 >>> ((1 : Int32).toUInt32 &&& Int32.toUInt32 31)).toInt32) &&& 1431655765)).toUInt32 >>> ((2 : Int32).toUInt32 &&& Int32.toUInt32 31)).toInt32) &&& 858993459)).toUInt32 >>> ((4 : Int32).toUInt32 &&& Int32.toUInt32 31)).toInt32)) &&& 252645135).toUInt32 >>> ((8 : Int32).toUInt32 &&& Int32.toUInt32 31)).toInt32)).toUInt32 >>> ((16 : Int32).toUInt32 &&& Int32.toUInt32 31)).toInt32)))]) hx hb dJ6_bitCount_0f7a4_47 rfl hl (by decide) rfl (fun ls hl => ?_)
  refine lv_iload_n hx hb dJ6_bitCount_0f7a4_48 rfl (lv_at hl 0 rfl) ?_
  refine lv_bipush (v := 63) hx hb dJ6_bitCount_0f7a4_49 (by decide) ?_
  refine lv_iand hx hb dJ6_bitCount_0f7a4_51 ?_
  exact W.iret (v := (((((((a0 - (((a0.toUInt32 >>> ((1 : Int32).toUInt32 &&& Int32.toUInt32 31)).toInt32) &&& 1431655765)) &&& 858993459) + ((((a0 - (((a0.toUInt32 >>> ((1 : Int32).toUInt32 &&& Int32.toUInt32 31)).toInt32) &&& 1431655765)).toUInt32 >>> ((2 : Int32).toUInt32 &&& Int32.toUInt32 31)).toInt32) &&& 858993459)) + (((((a0 - (((a0.toUInt32 >>> ((1 : Int32).toUInt32 &&& Int32.toUInt32 31)).toInt32) &&& 1431655765)) &&& 858993459) + ((((a0 - (((a0.toUInt32 >>> ((1 : Int32).toUInt32 &&& Int32.toUInt32 31)).toInt32) &&& 1431655765)).toUInt32 >>> ((2 : Int32).toUInt32 &&& Int32.toUInt32 31)).toInt32) &&& 858993459)).toUInt32 >>> ((4 : Int32).toUInt32 &&& Int32.toUInt32 31)).toInt32)) &&& 252645135) + (((((((a0 - (((a0.toUInt32 >>> ((1 : Int32).toUInt32 &&& Int32.toUInt32 31)).toInt32) &&& 1431655765)) &&& 858993459) + ((((a0 - (((a0.toUInt32 >>> ((1 : Int32).toUInt32 &&& Int32.toUInt32 31)).toInt32) &&& 1431655765)).toUInt32 >>> ((2 : Int32).toUInt32 &&& Int32.toUInt32 31)).toInt32) &&& 858993459)) + (((((a0 - (((a0.toUInt32 >>> ((1 : Int32).toUInt32 &&& Int32.toUInt32 31)).toInt32) &&& 1431655765)) &&& 858993459) + ((((a0 - (((a0.toUInt32 >>> ((1 : Int32).toUInt32 &&& Int32.toUInt32 31)).toInt32) &&& 1431655765)).toUInt32 >>> ((2 : Int32).toUInt32 &&& Int32.toUInt32 31)).toInt32) &&& 858993459)).toUInt32 >>> ((4 : Int32).toUInt32 &&& Int32.toUInt32 31)).toInt32)) &&& 252645135).toUInt32 >>> ((8 : Int32).toUInt32 &&& Int32.toUInt32 31)).toInt32)) + ((((((((a0 - (((a0.toUInt32 >>> ((1 : Int32).toUInt32 &&& Int32.toUInt32 31)).toInt32) &&& 1431655765)) &&& 858993459) + ((((a0 - (((a0.toUInt32 >>> ((1 : Int32).toUInt32 &&& Int32.toUInt32 31)).toInt32) &&& 1431655765)).toUInt32 >>> ((2 : Int32).toUInt32 &&& Int32.toUInt32 31)).toInt32) &&& 858993459)) + (((((a0 - (((a0.toUInt32 >>> ((1 : Int32).toUInt32 &&& Int32.toUInt32 31)).toInt32) &&& 1431655765)) &&& 858993459) + ((((a0 - (((a0.toUInt32 >>> ((1 : Int32).toUInt32 &&& Int32.toUInt32 31)).toInt32) &&& 1431655765)).toUInt32 >>> ((2 : Int32).toUInt32 &&& Int32.toUInt32 31)).toInt32) &&& 858993459)).toUInt32 >>> ((4 : Int32).toUInt32 &&& Int32.toUInt32 31)).toInt32)) &&& 252645135) + (((((((a0 - (((a0.toUInt32 >>> ((1 : Int32).toUInt32 &&& Int32.toUInt32 31)).toInt32) &&& 1431655765)) &&& 858993459) + ((((a0 - (((a0.toUInt32 >>> ((1 : Int32).toUInt32 &&& Int32.toUInt32 31)).toInt32) &&& 1431655765)).toUInt32 >>> ((2 : Int32).toUInt32 &&& Int32.toUInt32 31)).toInt32) &&& 858993459)) + (((((a0 - (((a0.toUInt32 >>> ((1 : Int32).toUInt32 &&& Int32.toUInt32 31)).toInt32) &&& 1431655765)) &&& 858993459) + ((((a0 - (((a0.toUInt32 >>> ((1 : Int32).toUInt32 &&& Int32.toUInt32 31)).toInt32) &&& 1431655765)).toUInt32 >>> ((2 : Int32).toUInt32 &&& Int32.toUInt32 31)).toInt32) &&& 858993459)).toUInt32 >>> ((4 : Int32).toUInt32 &&& Int32.toUInt32 31)).toInt32)) &&& 252645135).toUInt32 >>> ((8 : Int32).toUInt32 &&& Int32.toUInt32 31)).toInt32)).toUInt32 >>> ((16 : Int32).toUInt32 &&& Int32.toUInt32 31)).toInt32)) &&& 63) hx hb hr (fun t ht hw => ⟨_, rfl, (show ((((((((a0 - (((a0.toUInt32 >>> ((1 : Int32).toUInt32 &&& Int32.toUInt32 31)).toInt32) &&& 1431655765)) &&& 858993459) + ((((a0 - (((a0.toUInt32 >>> ((1 : Int32).toUInt32 &&& Int32.toUInt32 31)).toInt32) &&& 1431655765)).toUInt32 >>> ((2 : Int32).toUInt32 &&& Int32.toUInt32 31)).toInt32) &&& 858993459)) + (((((a0 - (((a0.toUInt32 >>> ((1 : Int32).toUInt32 &&& Int32.toUInt32 31)).toInt32) &&& 1431655765)) &&& 858993459) + ((((a0 - (((a0.toUInt32 >>> ((1 : Int32).toUInt32 &&& Int32.toUInt32 31)).toInt32) &&& 1431655765)).toUInt32 >>> ((2 : Int32).toUInt32 &&& Int32.toUInt32 31)).toInt32) &&& 858993459)).toUInt32 >>> ((4 : Int32).toUInt32 &&& Int32.toUInt32 31)).toInt32)) &&& 252645135) + (((((((a0 - (((a0.toUInt32 >>> ((1 : Int32).toUInt32 &&& Int32.toUInt32 31)).toInt32) &&& 1431655765)) &&& 858993459) + ((((a0 - (((a0.toUInt32 >>> ((1 : Int32).toUInt32 &&& Int32.toUInt32 31)).toInt32) &&& 1431655765)).toUInt32 >>> ((2 : Int32).toUInt32 &&& Int32.toUInt32 31)).toInt32) &&& 858993459)) + (((((a0 - (((a0.toUInt32 >>> ((1 : Int32).toUInt32 &&& Int32.toUInt32 31)).toInt32) &&& 1431655765)) &&& 858993459) + ((((a0 - (((a0.toUInt32 >>> ((1 : Int32).toUInt32 &&& Int32.toUInt32 31)).toInt32) &&& 1431655765)).toUInt32 >>> ((2 : Int32).toUInt32 &&& Int32.toUInt32 31)).toInt32) &&& 858993459)).toUInt32 >>> ((4 : Int32).toUInt32 &&& Int32.toUInt32 31)).toInt32)) &&& 252645135).toUInt32 >>> ((8 : Int32).toUInt32 &&& Int32.toUInt32 31)).toInt32)) + ((((((((a0 - (((a0.toUInt32 >>> ((1 : Int32).toUInt32 &&& Int32.toUInt32 31)).toInt32) &&& 1431655765)) &&& 858993459) + ((((a0 - (((a0.toUInt32 >>> ((1 : Int32).toUInt32 &&& Int32.toUInt32 31)).toInt32) &&& 1431655765)).toUInt32 >>> ((2 : Int32).toUInt32 &&& Int32.toUInt32 31)).toInt32) &&& 858993459)) + (((((a0 - (((a0.toUInt32 >>> ((1 : Int32).toUInt32 &&& Int32.toUInt32 31)).toInt32) &&& 1431655765)) &&& 858993459) + ((((a0 - (((a0.toUInt32 >>> ((1 : Int32).toUInt32 &&& Int32.toUInt32 31)).toInt32) &&& 1431655765)).toUInt32 >>> ((2 : Int32).toUInt32 &&& Int32.toUInt32 31)).toInt32) &&& 858993459)).toUInt32 >>> ((4 : Int32).toUInt32 &&& Int32.toUInt32 31)).toInt32)) &&& 252645135) + (((((((a0 - (((a0.toUInt32 >>> ((1 : Int32).toUInt32 &&& Int32.toUInt32 31)).toInt32) &&& 1431655765)) &&& 858993459) + ((((a0 - (((a0.toUInt32 >>> ((1 : Int32).toUInt32 &&& Int32.toUInt32 31)).toInt32) &&& 1431655765)).toUInt32 >>> ((2 : Int32).toUInt32 &&& Int32.toUInt32 31)).toInt32) &&& 858993459)) + (((((a0 - (((a0.toUInt32 >>> ((1 : Int32).toUInt32 &&& Int32.toUInt32 31)).toInt32) &&& 1431655765)) &&& 858993459) + ((((a0 - (((a0.toUInt32 >>> ((1 : Int32).toUInt32 &&& Int32.toUInt32 31)).toInt32) &&& 1431655765)).toUInt32 >>> ((2 : Int32).toUInt32 &&& Int32.toUInt32 31)).toInt32) &&& 858993459)).toUInt32 >>> ((4 : Int32).toUInt32 &&& Int32.toUInt32 31)).toInt32)) &&& 252645135).toUInt32 >>> ((8 : Int32).toUInt32 &&& Int32.toUInt32 31)).toInt32)).toUInt32 >>> ((16 : Int32).toUInt32 &&& Int32.toUInt32 31)).toInt32)) &&& 63 : Int32) = fJ6_bitCount_0f7a4 a0 from by unfold fJ6_bitCount_0f7a4; rfl), ht⟩) (fun _ h => nomatch h) dJ6_bitCount_0f7a4_52

def fX5_in (a0 : Int32) (a1 : Int32) (a2 : Int32) : Bool := if a0 < a1 then false else (if a2 < a0 then false else true)
def fX5_isPlayer (a0 : Int32) : Bool := if a0 < 0 then false else (if 5 ≤ a0 then false else true)
def fX5_isCell (a0 : Int32) : Bool := if a0 < 0 then false else (if 25 ≤ a0 then false else true)
def fX0_rows (kd : Int32) (dx : Int32) (dy : Int32) (re : Int32) (a0 : Bool) : Int32 := if a0 = true then (-dy) else dy
set_option maxHeartbeats 4000000 in
set_option maxRecDepth 100000 in
theorem kX0_rows (l : Launch) (G : xG) (E : xE) (kd : Int32) (dx : Int32) (dy : Int32) (re : Int32) (o : Nat) (a0 : Bool) (hE : E o = some (.inr (0, [.int kd, .int dx, .int dy, .int re]))) : Met l yX0_rows wsX0_rows ({ frames := 0, cells := 0, slots := 0, locals := 0 }) (va_Pc [.ref o, .int (zI a0)] (xB G E)) (vp_Si (fun r => r = fX0_rows kd dx dy re a0)) 0 0 (fun _ => False) := by
  refine Met.ofW (cc := cX0_rows) (maxL := 2) (ret := (some .int)) (by decide) rfl ?_
  intro p e s m args below meth c s₁ B hml hv
  obtain ⟨rfl, hX, hW⟩ := hv
  have hx := B.exec
  have hb := B.bytes
  have hr := B.returns
  have hts := atoms_spec (ws := wsX0_rows) B.pre
  have hown : s.vm.findClass RX0 = some m.cls := findClass_of_methodNamed B.named
  have hlocks := B.notSynchronized
  have hS : va_S (xA G) s.heap s.heap [] := va_S.rf
  have hiX0 : ∀ w ∈ u_ws RX0 TX0 4, w ∈ wsX0_rows := by decide +kernel
  have hf18 := hts (Cond.fieldLink RX0 18 "VariantMill$Card" "dy" "I") (by decide +kernel)
  have hl := lv_entry ([.ref o, .int (zI a0)]) (n := 2) (Nat.le_of_ble_eq_true rfl)
  rw [lg_entry_eq]
  generalize (lg_sl ([.ref o, .int (zI a0)]) ++ List.replicate (2 - (lg_sl ([.ref o, .int (zI a0)])).length) Slot.unset).toArray = ls at hl ⊢
  have hl : lv_has ls 2 [(0, .ref o), (1, .int (zI a0))] := hl
  refine lv_iload_n hx hb dX0_rows_0 rfl (lv_at hl 1 rfl) ?_
  refine x_ifz_eq (b := a0) (tgt := 12) hx hb dX0_rows_1 (by decide) (fun c_1 => ?_) (fun c_1 => ?_)
  · refine lv_aload_n hx hb dX0_rows_12 rfl (lv_at hl 0 rfl) ?_
    refine va_get (D := G.1) (ci := 0) (v := .int dy) (C := RX0) (T := TX0) (N := 4) hx hb hts hiX0 hown hX.1 (x1 hW hE) 0 rfl rfl 2 (by decide) hf18 (fun _ h9 => h9) rfl dX0_rows_13 ?_
    exact W.iret (v := dy) hx hb hr (fun t ht hw => ⟨_, rfl, (show (dy : Int32) = fX0_rows kd dx dy re a0 from by unfold fX0_rows; rw [if_neg (Bool.eq_false_iff.mp c_1)]), ht⟩) (fun _ h => nomatch h) dX0_rows_16
  · refine lv_aload_n hx hb dX0_rows_4 rfl (lv_at hl 0 rfl) ?_
    refine va_get (D := G.1) (ci := 0) (v := .int dy) (C := RX0) (T := TX0) (N := 4) hx hb hts hiX0 hown hX.1 (x1 hW hE) 0 rfl rfl 2 (by decide) hf18 (fun _ h9 => h9) rfl dX0_rows_5 ?_
    refine lv_ineg hx hb dX0_rows_8 ?_
    refine lv_goto (tgt := 16) hx hb dX0_rows_9 (by decide) ?_
    exact W.iret (v := -dy) hx hb hr (fun t ht hw => ⟨_, rfl, (show (-dy : Int32) = fX0_rows kd dx dy re a0 from by unfold fX0_rows; rw [if_pos c_1]), ht⟩) (fun _ h => nomatch h) dX0_rows_16

def fX0_isRightPath (kd : Int32) (dx : Int32) (dy : Int32) (re : Int32) (a0 : Int32) (a1 : Int32) (a2 : Int32) : Bool := if kd = 2 then (if a1 = (-1) then false else (if (a0 &&& a2) = ((1 : Int32) <<< (a1 &&& 31)) then true else false)) else (if (a0 &&& a2) = 0 then true else false)
set_option maxHeartbeats 4000000 in
set_option maxRecDepth 100000 in
theorem kX0_isRightPath (l : Launch) (G : xG) (E : xE) (kd : Int32) (dx : Int32) (dy : Int32) (re : Int32) (o : Nat) (a0 : Int32) (a1 : Int32) (a2 : Int32) (hE : E o = some (.inr (0, [.int kd, .int dx, .int dy, .int re]))) : Met l yX0_isRightPath wsX0_isRightPath ({ frames := 0, cells := 0, slots := 0, locals := 0 }) (va_Pc [.ref o, .int a0, .int a1, .int a2] (xB G E)) (vp_Si (fun r => r = zI (fX0_isRightPath kd dx dy re a0 a1 a2))) 0 0 (fun _ => False) := by
  refine Met.ofW (cc := cX0_isRightPath) (maxL := 5) (ret := (some .boolean)) (by decide) rfl ?_
  intro p e s m args below meth c s₁ B hml hv
  obtain ⟨rfl, hX, hW⟩ := hv
  have hx := B.exec
  have hb := B.bytes
  have hr := B.returns
  have hts := atoms_spec (ws := wsX0_isRightPath) B.pre
  have hown : s.vm.findClass RX0 = some m.cls := findClass_of_methodNamed B.named
  have hlocks := B.notSynchronized
  have hS : va_S (xA G) s.heap s.heap [] := va_S.rf
  have hiX0 : ∀ w ∈ u_ws RX0 TX0 4, w ∈ wsX0_isRightPath := by decide +kernel
  have hf9 := hts (Cond.fieldLink RX0 9 "VariantMill$Card" "kind" "I") (by decide +kernel)
  have hl := lv_entry ([.ref o, .int a0, .int a1, .int a2]) (n := 5) (Nat.le_of_ble_eq_true rfl)
  rw [lg_entry_eq]
  generalize (lg_sl ([.ref o, .int a0, .int a1, .int a2]) ++ List.replicate (5 - (lg_sl ([.ref o, .int a0, .int a1, .int a2])).length) Slot.unset).toArray = ls at hl ⊢
  have hl : lv_has ls 5 [(0, .ref o), (1, .int a0), (2, .int a1), (3, .int a2)] := hl
  refine lv_iload_n hx hb dX0_isRightPath_0 rfl (lv_at hl 1 rfl) ?_
  refine lv_iload_n hx hb dX0_isRightPath_1 rfl (lv_at hl 3 rfl) ?_
  refine lv_iand hx hb dX0_isRightPath_2 ?_
  refine lv_istore (lv' := [(4, .int (a0 &&& a2)), (0, .ref o), (1, .int a0), (2, .int a1), (3, .int a2)]) hx hb dX0_isRightPath_3 hl (by decide) rfl (fun ls hl => ?_)
  refine lv_aload_n hx hb dX0_isRightPath_5 rfl (lv_at hl 1 rfl) ?_
  refine va_get (D := G.1) (ci := 0) (v := .int kd) (C := RX0) (T := TX0) (N := 4) hx hb hts hiX0 hown hX.1 (x1 hW hE) 0 rfl rfl 0 (by decide) hf9 (fun _ h9 => h9) rfl dX0_isRightPath_6 ?_
  refine lv_iconst (v := 2) hx hb dX0_isRightPath_9 (by decide) ?_
  refine lv_icmp_eq (tgt := 24) hx hb dX0_isRightPath_10 (by decide) (fun c_1 => ?_) (fun c_1 => ?_)
  · refine lv_iload_n hx hb dX0_isRightPath_24 rfl (lv_at hl 3 rfl) ?_
    refine lv_iconst (v := (-1)) hx hb dX0_isRightPath_25 (by decide) ?_
    refine lv_icmp_eq (tgt := 41) hx hb dX0_isRightPath_26 (by decide) (fun c_2 => ?_) (fun c_2 => ?_)
    · refine lv_iconst (v := 0) hx hb dX0_isRightPath_41 (by decide) ?_
      exact W.zret (v := 0) hx hb hr rfl (fun t ht hw => ⟨_, rfl, (congrArg zI (show false = fX0_isRightPath kd dx dy re a0 a1 a2 from by unfold fX0_isRightPath; rw [if_pos c_1, if_pos c_2])), ht⟩) (fun _ h => nomatch h) dX0_isRightPath_42
    · refine lv_iload hx hb dX0_isRightPath_29 (lv_at hl 0 rfl) ?_
      refine lv_iconst (v := 1) hx hb dX0_isRightPath_31 (by decide) ?_
      refine lv_iload_n hx hb dX0_isRightPath_32 rfl (lv_at hl 3 rfl) ?_
      refine lv_ishl hx hb dX0_isRightPath_33 ?_
      refine lv_icmp_ne (tgt := 41) hx hb dX0_isRightPath_34 (by decide) (fun c_3 => ?_) (fun c_3 => ?_)
      · refine lv_iconst (v := 0) hx hb dX0_isRightPath_41 (by decide) ?_
        exact W.zret (v := 0) hx hb hr rfl (fun t ht hw => ⟨_, rfl, (congrArg zI (show false = fX0_isRightPath kd dx dy re a0 a1 a2 from by unfold fX0_isRightPath; rw [if_pos c_1, if_neg c_2, if_neg c_3])), ht⟩) (fun _ h => nomatch h) dX0_isRightPath_42
      · refine lv_iconst (v := 1) hx hb dX0_isRightPath_37 (by decide) ?_
        refine lv_goto (tgt := 42) hx hb dX0_isRightPath_38 (by decide) ?_
        exact W.zret (v := 1) hx hb hr rfl (fun t ht hw => ⟨_, rfl, (congrArg zI (show true = fX0_isRightPath kd dx dy re a0 a1 a2 from by unfold fX0_isRightPath; rw [if_pos c_1, if_neg c_2, if_pos c_3])), ht⟩) (fun _ h => nomatch h) dX0_isRightPath_42
  · refine lv_iload hx hb dX0_isRightPath_13 (lv_at hl 0 rfl) ?_
    refine lv_if_ne (tgt := 22) hx hb dX0_isRightPath_15 (by decide) (fun c_4 => ?_) (fun c_4 => ?_)
    · refine lv_iconst (v := 0) hx hb dX0_isRightPath_22 (by decide) ?_
      exact W.zret (v := 0) hx hb hr rfl (fun t ht hw => ⟨_, rfl, (congrArg zI (show false = fX0_isRightPath kd dx dy re a0 a1 a2 from by unfold fX0_isRightPath; rw [if_neg c_1, if_neg c_4])), ht⟩) (fun _ h => nomatch h) dX0_isRightPath_23
    · refine lv_iconst (v := 1) hx hb dX0_isRightPath_18 (by decide) ?_
      refine lv_goto (tgt := 23) hx hb dX0_isRightPath_19 (by decide) ?_
      exact W.zret (v := 1) hx hb hr rfl (fun t ht hw => ⟨_, rfl, (congrArg zI (show true = fX0_isRightPath kd dx dy re a0 a1 a2 from by unfold fX0_isRightPath; rw [if_neg c_1, if_pos c_4])), ht⟩) (fun _ h => nomatch h) dX0_isRightPath_23

def gX0_endsFrom (kd : Int32) (dx : Int32) (dy : Int32) (re : Int32) (a0 : Int32) (a1 : Int32) (a2 : Int32) (a3 : Bool) : Nat → Nat → Int32 → Int32 → Int32 → Int32
  | 0, _, _, _, _ => 0
  | n + 1, k, v5, v6, v7 => if re < (nI k) then v5 else (if (fX4_cellAhead v6 dx (fX0_rows kd dx dy re a3)) = (-1) then v5 else (if (fX4_isIn a1 (fX4_cellAhead v6 dx (fX0_rows kd dx dy re a3))) = true then v5 else (if v7 = 0 then (if kd = 2 then (if v7 = 0 then (if kd = 2 then (if (fX4_isIn a2 (fX4_cellAhead v6 dx (fX0_rows kd dx dy re a3))) = true then (gX0_endsFrom kd dx dy re a0 a1 a2 a3 n (k + 1) v5 (fX4_cellAhead v6 dx (fX0_rows kd dx dy re a3)) 1) else (gX0_endsFrom kd dx dy re a0 a1 a2 a3 n (k + 1) v5 (fX4_cellAhead v6 dx (fX0_rows kd dx dy re a3)) 0)) else (gX0_endsFrom kd dx dy re a0 a1 a2 a3 n (k + 1) v5 (fX4_cellAhead v6 dx (fX0_rows kd dx dy re a3)) 1)) else v5) else (if (fX4_isIn a2 (fX4_cellAhead v6 dx (fX0_rows kd dx dy re a3))) = true then v5 else (if kd = 2 then (if (fX4_isIn a2 (fX4_cellAhead v6 dx (fX0_rows kd dx dy re a3))) = true then (gX0_endsFrom kd dx dy re a0 a1 a2 a3 n (k + 1) v5 (fX4_cellAhead v6 dx (fX0_rows kd dx dy re a3)) 1) else (gX0_endsFrom kd dx dy re a0 a1 a2 a3 n (k + 1) v5 (fX4_cellAhead v6 dx (fX0_rows kd dx dy re a3)) 0)) else (gX0_endsFrom kd dx dy re a0 a1 a2 a3 n (k + 1) v5 (fX4_cellAhead v6 dx (fX0_rows kd dx dy re a3)) 1)))) else (if kd = 2 then (if v7 = 0 then (if kd = 2 then (if (fX4_isIn a2 (fX4_cellAhead v6 dx (fX0_rows kd dx dy re a3))) = true then (gX0_endsFrom kd dx dy re a0 a1 a2 a3 n (k + 1) (v5 ||| ((1 : Int32) <<< ((fX4_cellAhead v6 dx (fX0_rows kd dx dy re a3)) &&& 31))) (fX4_cellAhead v6 dx (fX0_rows kd dx dy re a3)) 1) else (gX0_endsFrom kd dx dy re a0 a1 a2 a3 n (k + 1) (v5 ||| ((1 : Int32) <<< ((fX4_cellAhead v6 dx (fX0_rows kd dx dy re a3)) &&& 31))) (fX4_cellAhead v6 dx (fX0_rows kd dx dy re a3)) 0)) else (gX0_endsFrom kd dx dy re a0 a1 a2 a3 n (k + 1) (v5 ||| ((1 : Int32) <<< ((fX4_cellAhead v6 dx (fX0_rows kd dx dy re a3)) &&& 31))) (fX4_cellAhead v6 dx (fX0_rows kd dx dy re a3)) 1)) else (v5 ||| ((1 : Int32) <<< ((fX4_cellAhead v6 dx (fX0_rows kd dx dy re a3)) &&& 31)))) else (if (fX4_isIn a2 (fX4_cellAhead v6 dx (fX0_rows kd dx dy re a3))) = true then (v5 ||| ((1 : Int32) <<< ((fX4_cellAhead v6 dx (fX0_rows kd dx dy re a3)) &&& 31))) else (if kd = 2 then (if (fX4_isIn a2 (fX4_cellAhead v6 dx (fX0_rows kd dx dy re a3))) = true then (gX0_endsFrom kd dx dy re a0 a1 a2 a3 n (k + 1) (v5 ||| ((1 : Int32) <<< ((fX4_cellAhead v6 dx (fX0_rows kd dx dy re a3)) &&& 31))) (fX4_cellAhead v6 dx (fX0_rows kd dx dy re a3)) 1) else (gX0_endsFrom kd dx dy re a0 a1 a2 a3 n (k + 1) (v5 ||| ((1 : Int32) <<< ((fX4_cellAhead v6 dx (fX0_rows kd dx dy re a3)) &&& 31))) (fX4_cellAhead v6 dx (fX0_rows kd dx dy re a3)) 0)) else (gX0_endsFrom kd dx dy re a0 a1 a2 a3 n (k + 1) (v5 ||| ((1 : Int32) <<< ((fX4_cellAhead v6 dx (fX0_rows kd dx dy re a3)) &&& 31))) (fX4_cellAhead v6 dx (fX0_rows kd dx dy re a3)) 1)))))))
def fX0_endsFrom (kd : Int32) (dx : Int32) (dy : Int32) (re : Int32) (a0 : Int32) (a1 : Int32) (a2 : Int32) (a3 : Bool) : Int32 := if kd = 2 then (gX0_endsFrom kd dx dy re a0 a1 a2 a3 5 1 0 a0 0) else (gX0_endsFrom kd dx dy re a0 a1 a2 a3 5 1 0 a0 1)
set_option maxHeartbeats 4000000 in
set_option maxRecDepth 100000 in
theorem kX0_endsFrom (l : Launch) (G : xG) (E : xE) (kd : Int32) (dx : Int32) (dy : Int32) (re : Int32) (o : Nat) (a0 : Int32) (a1 : Int32) (a2 : Int32) (a3 : Bool) (hE : E o = some (.inr (0, [.int kd, .int dx, .int dy, .int re]))) (r : Nat) (hre : re = nI r) (h4 : r ≤ 4) : Met l yX0_endsFrom wsX0_endsFrom ({ frames := 1, cells := 0, slots := 0, locals := 25 }) (va_Pc [.ref o, .int a0, .int a1, .int a2, .int (zI a3)] (xB G E)) (vp_Si (fun r => r = fX0_endsFrom kd dx dy re a0 a1 a2 a3)) 0 0 (fun _ => False) := by
  refine Met.ofW (cc := cX0_endsFrom) (maxL := 10) (ret := (some .int)) (by decide) rfl ?_
  intro p e s m args below meth c s₁ B hml hv
  obtain ⟨rfl, hX, hW⟩ := hv
  have hx := B.exec
  have hb := B.bytes
  have hr := B.returns
  have hts := atoms_spec (ws := wsX0_endsFrom) B.pre
  have hown : s.vm.findClass RX0 = some m.cls := findClass_of_methodNamed B.named
  have hlocks := B.notSynchronized
  have hS : va_S (xA G) s.heap s.heap [] := va_S.rf
  have hiX0 : ∀ w ∈ u_ws RX0 TX0 4, w ∈ wsX0_endsFrom := by decide +kernel
  have hf21 := hts (Cond.fieldLink RX0 21 "VariantMill$Card" "reach" "I") (by decide +kernel)
  have hf15 := hts (Cond.fieldLink RX0 15 "VariantMill$Card" "dx" "I") (by decide +kernel)
  have hiniRX4 := hts (Cond.initialized RX4) (by decide +kernel)
  have hstX4_cellAhead := hts (Cond.static yX4_cellAhead) (by decide +kernel)
  have hstX4_isIn := hts (Cond.static yX4_isIn) (by decide +kernel)
  have hf9 := hts (Cond.fieldLink RX0 9 "VariantMill$Card" "kind" "I") (by decide +kernel)
  have hl := lv_entry ([.ref o, .int a0, .int a1, .int a2, .int (zI a3)]) (n := 10) (Nat.le_of_ble_eq_true rfl)
  rw [lg_entry_eq]
  generalize (lg_sl ([.ref o, .int a0, .int a1, .int a2, .int (zI a3)]) ++ List.replicate (10 - (lg_sl ([.ref o, .int a0, .int a1, .int a2, .int (zI a3)])).length) Slot.unset).toArray = ls at hl ⊢
  have hl : lv_has ls 10 [(0, .ref o), (1, .int a0), (2, .int a1), (3, .int a2), (4, .int (zI a3))] := hl
  refine x_loopK (σ := Nat × Nat × Int32 × Int32 × Int32) 24 10 (fun x => [(0, .ref o), (1, .int a0), (2, .int a1), (3, .int a2), (4, .int (zI a3)), (8, .int (nI x.2.1)), (5, .int x.2.2.1), (6, .int x.2.2.2.1), (7, .int x.2.2.2.2)]) (fun x => fX0_endsFrom kd dx dy re a0 a1 a2 a3 = gX0_endsFrom kd dx dy re a0 a1 a2 a3 x.1 x.2.1 x.2.2.1 x.2.2.2.1 x.2.2.2.2 ∧ x.2.1 ≤ 5 ∧ x.1 + x.2.1 = 5 + 1) (fun x => x.1) ?_ (fun LP => ?_)
  · rintro ⟨n, k, v5, v6, v7⟩ ls ⟨hv, hk, hn⟩ hl ih
    dsimp only at hv hk hn
    rcases n with _ | n
    · omega
    · have hl : lv_has ls 10 [(0, .ref o), (1, .int a0), (2, .int a1), (3, .int a2), (4, .int (zI a3)), (8, .int (nI k)), (5, .int v5), (6, .int v6), (7, .int v7)] := hl
      refine lv_iload hx hb dX0_endsFrom_24 (lv_at hl 5 rfl) ?_
      refine lv_aload_n hx hb dX0_endsFrom_26 rfl (lv_at hl 0 rfl) ?_
      refine va_get (D := G.1) (ci := 0) (v := .int re) (C := RX0) (T := TX0) (N := 4) hx hb hts hiX0 hown hX.1 (x1 hW hE) 0 rfl rfl 3 (by decide) hf21 (fun _ h9 => h9) rfl dX0_endsFrom_27 ?_
      refine lv_icmp_gt (tgt := 140) hx hb dX0_endsFrom_30 (by decide) (fun c_1 => ?_) (fun c_1 => ?_)
      · refine lv_iload hx hb dX0_endsFrom_140 (lv_at hl 6 rfl) ?_
        exact W.iret (v := v5) hx hb hr (fun t ht hw => ⟨_, rfl, (show (v5 : Int32) = fX0_endsFrom kd dx dy re a0 a1 a2 a3 from by rw [hv, gX0_endsFrom]; rw [if_pos c_1]), ht⟩) (fun _ h => nomatch h) dX0_endsFrom_142
      · have hk1 : k < 5 := Nat.lt_of_le_of_lt (x_nlt (B := r) (by rw [← hre]; exact c_1) (by omega) (by omega)) (by omega)
        refine lv_iload hx hb dX0_endsFrom_33 (lv_at hl 7 rfl) ?_
        refine lv_aload_n hx hb dX0_endsFrom_35 rfl (lv_at hl 0 rfl) ?_
        refine va_get (D := G.1) (ci := 0) (v := .int dx) (C := RX0) (T := TX0) (N := 4) hx hb hts hiX0 hown hX.1 (x1 hW hE) 0 rfl rfl 1 (by decide) hf15 (fun _ h9 => h9) rfl dX0_endsFrom_36 ?_
        refine lv_aload_n hx hb dX0_endsFrom_39 rfl (lv_at hl 0 rfl) ?_
        refine lv_iload hx hb dX0_endsFrom_40 (lv_at hl 4 rfl) ?_
        refine x_callSe (va_runV (As := [.int (zI a3)]) (rest := [.int dx, .int v6]) ⟨hx, hb, hml, hown, hts⟩ (kX0_rows l G _ kd dx dy re o a3 hE) (cwV 1 hts gX0_endsFrom_X0_rows rfl rfl rfl (by decide +kernel) ⟨Nat.le_of_ble_eq_true rfl, Nat.le_of_ble_eq_true rfl⟩) (x_preV hX hS hW hE rfl) rfl rfl hl.1 rfl (lv_room (Nat.le_of_ble_eq_true rfl)) dX0_endsFrom_42 ⟨Nat.le_of_ble_eq_true rfl, Nat.le_of_ble_eq_true rfl⟩) ?_
        refine x_callSe (va_runSN (As := [.int v6, .int dx, .int (fX0_rows kd dx dy re a3)]) (rest := []) ⟨hx, hb, hml, hown, hts⟩ (kX4_cellAhead l v6 dx (fX0_rows kd dx dy re a3)) ⟨va_cnB 3 hts gX0_endsFrom_X4_cellAhead_n28 rfl rfl rfl hX.2.1.2.1 hiniRX4 (by decide +kernel) ⟨Nat.le_of_ble_eq_true rfl, Nat.le_of_ble_eq_true rfl⟩, hstX4_cellAhead, trivial⟩ x_preT rfl rfl hl.1 rfl (lv_room (Nat.le_of_ble_eq_true rfl)) dX0_endsFrom_45 ⟨Nat.le_of_ble_eq_true rfl, Nat.le_of_ble_eq_true rfl⟩) ?_
        refine lv_istore (lv' := [(6, .int (fX4_cellAhead v6 dx (fX0_rows kd dx dy re a3))), (0, .ref o), (1, .int a0), (2, .int a1), (3, .int a2), (4, .int (zI a3)), (8, .int (nI k)), (5, .int v5), (7, .int v7)]) hx hb dX0_endsFrom_48 hl (by decide) rfl (fun ls hl => ?_)
        refine lv_iload hx hb dX0_endsFrom_50 (lv_at hl 0 rfl) ?_
        refine lv_iconst (v := (-1)) hx hb dX0_endsFrom_52 (by decide) ?_
        refine lv_icmp_eq (tgt := 65) hx hb dX0_endsFrom_53 (by decide) (fun c_2 => ?_) (fun c_2 => ?_)
        · refine lv_iload hx hb dX0_endsFrom_65 (lv_at hl 7 rfl) ?_
          exact W.iret (v := v5) hx hb hr (fun t ht hw => ⟨_, rfl, (show (v5 : Int32) = fX0_endsFrom kd dx dy re a0 a1 a2 a3 from by rw [hv, gX0_endsFrom]; rw [if_neg c_1, if_pos c_2]), ht⟩) (fun _ h => nomatch h) dX0_endsFrom_67
        · refine lv_iload_n hx hb dX0_endsFrom_56 rfl (lv_at hl 3 rfl) ?_
          refine lv_iload hx hb dX0_endsFrom_57 (lv_at hl 0 rfl) ?_
          refine x_callSe (va_runSN (As := [.int a1, .int (fX4_cellAhead v6 dx (fX0_rows kd dx dy re a3))]) (rest := []) ⟨hx, hb, hml, hown, hts⟩ (kX4_isIn l a1 (fX4_cellAhead v6 dx (fX0_rows kd dx dy re a3))) ⟨va_cnB 2 hts gX0_endsFrom_X4_isIn_n32 rfl rfl rfl hX.2.1.2.2.1 hiniRX4 (by decide +kernel) ⟨Nat.le_of_ble_eq_true rfl, Nat.le_of_ble_eq_true rfl⟩, hstX4_isIn, trivial⟩ x_preT rfl rfl hl.1 rfl (lv_room (Nat.le_of_ble_eq_true rfl)) dX0_endsFrom_59 ⟨Nat.le_of_ble_eq_true rfl, Nat.le_of_ble_eq_true rfl⟩) ?_
          refine x_ifz_eq (b := fX4_isIn a1 (fX4_cellAhead v6 dx (fX0_rows kd dx dy re a3))) (tgt := 68) hx hb dX0_endsFrom_62 (by decide) (fun c_3 => ?_) (fun c_3 => ?_)
          · refine lv_iload hx hb dX0_endsFrom_68 (lv_at hl 8 rfl) ?_
            refine lv_if_eq (tgt := 82) hx hb dX0_endsFrom_70 (by decide) (fun c_4 => ?_) (fun c_4 => ?_)
            · refine lv_iload_n hx hb dX0_endsFrom_82 rfl (lv_at hl 4 rfl) ?_
              refine lv_iload hx hb dX0_endsFrom_83 (lv_at hl 0 rfl) ?_
              refine x_callSe (va_runSN (As := [.int a2, .int (fX4_cellAhead v6 dx (fX0_rows kd dx dy re a3))]) (rest := []) ⟨hx, hb, hml, hown, hts⟩ (kX4_isIn l a2 (fX4_cellAhead v6 dx (fX0_rows kd dx dy re a3))) ⟨va_cnB 2 hts gX0_endsFrom_X4_isIn_n32 rfl rfl rfl hX.2.1.2.2.1 hiniRX4 (by decide +kernel) ⟨Nat.le_of_ble_eq_true rfl, Nat.le_of_ble_eq_true rfl⟩, hstX4_isIn, trivial⟩ x_preT rfl rfl hl.1 rfl (lv_room (Nat.le_of_ble_eq_true rfl)) dX0_endsFrom_85 ⟨Nat.le_of_ble_eq_true rfl, Nat.le_of_ble_eq_true rfl⟩) ?_
              refine lv_istore (lv' := [(9, .int (zI (fX4_isIn a2 (fX4_cellAhead v6 dx (fX0_rows kd dx dy re a3))))), (6, .int (fX4_cellAhead v6 dx (fX0_rows kd dx dy re a3))), (0, .ref o), (1, .int a0), (2, .int a1), (3, .int a2), (4, .int (zI a3)), (8, .int (nI k)), (5, .int v5), (7, .int v7)]) hx hb dX0_endsFrom_88 hl (by decide) rfl (fun ls hl => ?_)
              refine lv_aload_n hx hb dX0_endsFrom_90 rfl (lv_at hl 2 rfl) ?_
              refine va_get (D := G.1) (ci := 0) (v := .int kd) (C := RX0) (T := TX0) (N := 4) hx hb hts hiX0 hown hX.1 (x1 hW hE) 0 rfl rfl 0 (by decide) hf9 (fun _ h9 => h9) rfl dX0_endsFrom_91 ?_
              refine lv_iconst (v := 2) hx hb dX0_endsFrom_94 (by decide) ?_
              refine lv_icmp_ne (tgt := 106) hx hb dX0_endsFrom_95 (by decide) (fun c_5 => ?_) (fun c_5 => ?_)
              · refine lv_iload hx hb dX0_endsFrom_106 (lv_at hl 0 rfl) ?_
                refine x_ifz_eq (b := fX4_isIn a2 (fX4_cellAhead v6 dx (fX0_rows kd dx dy re a3))) (tgt := 114) hx hb dX0_endsFrom_108 (by decide) (fun c_6 => ?_) (fun c_6 => ?_)
                · refine lv_aload_n hx hb dX0_endsFrom_114 rfl (lv_at hl 2 rfl) ?_
                  refine va_get (D := G.1) (ci := 0) (v := .int kd) (C := RX0) (T := TX0) (N := 4) hx hb hts hiX0 hown hX.1 (x1 hW hE) 0 rfl rfl 0 (by decide) hf9 (fun _ h9 => h9) rfl dX0_endsFrom_115 ?_
                  refine lv_iconst (v := 2) hx hb dX0_endsFrom_118 (by decide) ?_
                  refine lv_icmp_ne (tgt := 127) hx hb dX0_endsFrom_119 (by decide) (fun c_7 => ?_) (fun c_7 => ?_)
                  · refine lv_iconst (v := 1) hx hb dX0_endsFrom_127 (by decide) ?_
                    refine lv_goto (tgt := 132) hx hb dX0_endsFrom_128 (by decide) ?_
                    refine lv_istore (lv' := [(7, .int 1), (9, .int (zI (fX4_isIn a2 (fX4_cellAhead v6 dx (fX0_rows kd dx dy re a3))))), (6, .int (fX4_cellAhead v6 dx (fX0_rows kd dx dy re a3))), (0, .ref o), (1, .int a0), (2, .int a1), (3, .int a2), (4, .int (zI a3)), (8, .int (nI k)), (5, .int v5)]) hx hb dX0_endsFrom_132 hl (by decide) rfl (fun ls hl => ?_)
                    refine lv_iinc (v := nI (k + 1)) (lv' := [(8, .int (nI (k + 1))), (7, .int 1), (9, .int (zI (fX4_isIn a2 (fX4_cellAhead v6 dx (fX0_rows kd dx dy re a3))))), (6, .int (fX4_cellAhead v6 dx (fX0_rows kd dx dy re a3))), (0, .ref o), (1, .int a0), (2, .int a1), (3, .int a2), (4, .int (zI a3)), (5, .int v5)]) hx hb dX0_endsFrom_134 hl (k := 8) rfl (nI_1 _) (by decide) rfl (fun ls hl => ?_)
                    refine lv_goto (tgt := 24) hx hb dX0_endsFrom_137 (by decide) ?_
                    exact ih (n, k + 1, v5, (fX4_cellAhead v6 dx (fX0_rows kd dx dy re a3)), 1) ls (Nat.lt_succ_self _) ⟨by rw [hv, gX0_endsFrom]; rw [if_neg c_1, if_neg c_2, if_neg (Bool.eq_false_iff.mp c_3), if_pos c_4, if_neg c_5, if_neg (Bool.eq_false_iff.mp c_6), if_neg c_7], hk1, by dsimp only <;> omega⟩ (lv_sub hl [4, 5, 6, 7, 8, 0, 9, 3, 1] rfl)
                  · refine lv_iload hx hb dX0_endsFrom_122 (lv_at hl 0 rfl) ?_
                    refine x_ifz_eq (b := fX4_isIn a2 (fX4_cellAhead v6 dx (fX0_rows kd dx dy re a3))) (tgt := 131) hx hb dX0_endsFrom_124 (by decide) (fun c_8 => ?_) (fun c_8 => ?_)
                    · refine lv_iconst (v := 0) hx hb dX0_endsFrom_131 (by decide) ?_
                      refine lv_istore (lv' := [(7, .int 0), (9, .int (zI (fX4_isIn a2 (fX4_cellAhead v6 dx (fX0_rows kd dx dy re a3))))), (6, .int (fX4_cellAhead v6 dx (fX0_rows kd dx dy re a3))), (0, .ref o), (1, .int a0), (2, .int a1), (3, .int a2), (4, .int (zI a3)), (8, .int (nI k)), (5, .int v5)]) hx hb dX0_endsFrom_132 hl (by decide) rfl (fun ls hl => ?_)
                      refine lv_iinc (v := nI (k + 1)) (lv' := [(8, .int (nI (k + 1))), (7, .int 0), (9, .int (zI (fX4_isIn a2 (fX4_cellAhead v6 dx (fX0_rows kd dx dy re a3))))), (6, .int (fX4_cellAhead v6 dx (fX0_rows kd dx dy re a3))), (0, .ref o), (1, .int a0), (2, .int a1), (3, .int a2), (4, .int (zI a3)), (5, .int v5)]) hx hb dX0_endsFrom_134 hl (k := 8) rfl (nI_1 _) (by decide) rfl (fun ls hl => ?_)
                      refine lv_goto (tgt := 24) hx hb dX0_endsFrom_137 (by decide) ?_
                      exact ih (n, k + 1, v5, (fX4_cellAhead v6 dx (fX0_rows kd dx dy re a3)), 0) ls (Nat.lt_succ_self _) ⟨by rw [hv, gX0_endsFrom]; rw [if_neg c_1, if_neg c_2, if_neg (Bool.eq_false_iff.mp c_3), if_pos c_4, if_neg c_5, if_neg (Bool.eq_false_iff.mp c_6), if_pos c_7, if_neg (Bool.eq_false_iff.mp c_8)], hk1, by dsimp only <;> omega⟩ (lv_sub hl [4, 5, 6, 7, 8, 0, 9, 3, 1] rfl)
                    · refine lv_iconst (v := 1) hx hb dX0_endsFrom_127 (by decide) ?_
                      refine lv_goto (tgt := 132) hx hb dX0_endsFrom_128 (by decide) ?_
                      refine lv_istore (lv' := [(7, .int 1), (9, .int (zI (fX4_isIn a2 (fX4_cellAhead v6 dx (fX0_rows kd dx dy re a3))))), (6, .int (fX4_cellAhead v6 dx (fX0_rows kd dx dy re a3))), (0, .ref o), (1, .int a0), (2, .int a1), (3, .int a2), (4, .int (zI a3)), (8, .int (nI k)), (5, .int v5)]) hx hb dX0_endsFrom_132 hl (by decide) rfl (fun ls hl => ?_)
                      refine lv_iinc (v := nI (k + 1)) (lv' := [(8, .int (nI (k + 1))), (7, .int 1), (9, .int (zI (fX4_isIn a2 (fX4_cellAhead v6 dx (fX0_rows kd dx dy re a3))))), (6, .int (fX4_cellAhead v6 dx (fX0_rows kd dx dy re a3))), (0, .ref o), (1, .int a0), (2, .int a1), (3, .int a2), (4, .int (zI a3)), (5, .int v5)]) hx hb dX0_endsFrom_134 hl (k := 8) rfl (nI_1 _) (by decide) rfl (fun ls hl => ?_)
                      refine lv_goto (tgt := 24) hx hb dX0_endsFrom_137 (by decide) ?_
                      exact ih (n, k + 1, v5, (fX4_cellAhead v6 dx (fX0_rows kd dx dy re a3)), 1) ls (Nat.lt_succ_self _) ⟨by rw [hv, gX0_endsFrom]; rw [if_neg c_1, if_neg c_2, if_neg (Bool.eq_false_iff.mp c_3), if_pos c_4, if_neg c_5, if_neg (Bool.eq_false_iff.mp c_6), if_pos c_7, if_pos c_8], hk1, by dsimp only <;> omega⟩ (lv_sub hl [4, 5, 6, 7, 8, 0, 9, 3, 1] rfl)
                · refine lv_iload hx hb dX0_endsFrom_111 (lv_at hl 8 rfl) ?_
                  exact W.iret (v := v5) hx hb hr (fun t ht hw => ⟨_, rfl, (show (v5 : Int32) = fX0_endsFrom kd dx dy re a0 a1 a2 a3 from by rw [hv, gX0_endsFrom]; rw [if_neg c_1, if_neg c_2, if_neg (Bool.eq_false_iff.mp c_3), if_pos c_4, if_neg c_5, if_pos c_6]), ht⟩) (fun _ h => nomatch h) dX0_endsFrom_113
              · refine lv_iload hx hb dX0_endsFrom_98 (lv_at hl 9 rfl) ?_
                refine lv_if_eq (tgt := 114) hx hb dX0_endsFrom_100 (by decide) (fun c_9 => ?_) (fun c_9 => ?_)
                · refine lv_aload_n hx hb dX0_endsFrom_114 rfl (lv_at hl 2 rfl) ?_
                  refine va_get (D := G.1) (ci := 0) (v := .int kd) (C := RX0) (T := TX0) (N := 4) hx hb hts hiX0 hown hX.1 (x1 hW hE) 0 rfl rfl 0 (by decide) hf9 (fun _ h9 => h9) rfl dX0_endsFrom_115 ?_
                  refine lv_iconst (v := 2) hx hb dX0_endsFrom_118 (by decide) ?_
                  refine lv_icmp_ne (tgt := 127) hx hb dX0_endsFrom_119 (by decide) (fun c_10 => ?_) (fun c_10 => ?_)
                  · refine lv_iconst (v := 1) hx hb dX0_endsFrom_127 (by decide) ?_
                    refine lv_goto (tgt := 132) hx hb dX0_endsFrom_128 (by decide) ?_
                    refine lv_istore (lv' := [(7, .int 1), (9, .int (zI (fX4_isIn a2 (fX4_cellAhead v6 dx (fX0_rows kd dx dy re a3))))), (6, .int (fX4_cellAhead v6 dx (fX0_rows kd dx dy re a3))), (0, .ref o), (1, .int a0), (2, .int a1), (3, .int a2), (4, .int (zI a3)), (8, .int (nI k)), (5, .int v5)]) hx hb dX0_endsFrom_132 hl (by decide) rfl (fun ls hl => ?_)
                    refine lv_iinc (v := nI (k + 1)) (lv' := [(8, .int (nI (k + 1))), (7, .int 1), (9, .int (zI (fX4_isIn a2 (fX4_cellAhead v6 dx (fX0_rows kd dx dy re a3))))), (6, .int (fX4_cellAhead v6 dx (fX0_rows kd dx dy re a3))), (0, .ref o), (1, .int a0), (2, .int a1), (3, .int a2), (4, .int (zI a3)), (5, .int v5)]) hx hb dX0_endsFrom_134 hl (k := 8) rfl (nI_1 _) (by decide) rfl (fun ls hl => ?_)
                    refine lv_goto (tgt := 24) hx hb dX0_endsFrom_137 (by decide) ?_
                    exact ih (n, k + 1, v5, (fX4_cellAhead v6 dx (fX0_rows kd dx dy re a3)), 1) ls (Nat.lt_succ_self _) ⟨by rw [hv, gX0_endsFrom]; rw [if_neg c_1, if_neg c_2, if_neg (Bool.eq_false_iff.mp c_3), if_pos c_4, if_pos c_5, if_pos c_9, if_neg c_10], hk1, by dsimp only <;> omega⟩ (lv_sub hl [4, 5, 6, 7, 8, 0, 9, 3, 1] rfl)
                  · refine lv_iload hx hb dX0_endsFrom_122 (lv_at hl 0 rfl) ?_
                    refine x_ifz_eq (b := fX4_isIn a2 (fX4_cellAhead v6 dx (fX0_rows kd dx dy re a3))) (tgt := 131) hx hb dX0_endsFrom_124 (by decide) (fun c_11 => ?_) (fun c_11 => ?_)
                    · refine lv_iconst (v := 0) hx hb dX0_endsFrom_131 (by decide) ?_
                      refine lv_istore (lv' := [(7, .int 0), (9, .int (zI (fX4_isIn a2 (fX4_cellAhead v6 dx (fX0_rows kd dx dy re a3))))), (6, .int (fX4_cellAhead v6 dx (fX0_rows kd dx dy re a3))), (0, .ref o), (1, .int a0), (2, .int a1), (3, .int a2), (4, .int (zI a3)), (8, .int (nI k)), (5, .int v5)]) hx hb dX0_endsFrom_132 hl (by decide) rfl (fun ls hl => ?_)
                      refine lv_iinc (v := nI (k + 1)) (lv' := [(8, .int (nI (k + 1))), (7, .int 0), (9, .int (zI (fX4_isIn a2 (fX4_cellAhead v6 dx (fX0_rows kd dx dy re a3))))), (6, .int (fX4_cellAhead v6 dx (fX0_rows kd dx dy re a3))), (0, .ref o), (1, .int a0), (2, .int a1), (3, .int a2), (4, .int (zI a3)), (5, .int v5)]) hx hb dX0_endsFrom_134 hl (k := 8) rfl (nI_1 _) (by decide) rfl (fun ls hl => ?_)
                      refine lv_goto (tgt := 24) hx hb dX0_endsFrom_137 (by decide) ?_
                      exact ih (n, k + 1, v5, (fX4_cellAhead v6 dx (fX0_rows kd dx dy re a3)), 0) ls (Nat.lt_succ_self _) ⟨by rw [hv, gX0_endsFrom]; rw [if_neg c_1, if_neg c_2, if_neg (Bool.eq_false_iff.mp c_3), if_pos c_4, if_pos c_5, if_pos c_9, if_pos c_10, if_neg (Bool.eq_false_iff.mp c_11)], hk1, by dsimp only <;> omega⟩ (lv_sub hl [4, 5, 6, 7, 8, 0, 9, 3, 1] rfl)
                    · refine lv_iconst (v := 1) hx hb dX0_endsFrom_127 (by decide) ?_
                      refine lv_goto (tgt := 132) hx hb dX0_endsFrom_128 (by decide) ?_
                      refine lv_istore (lv' := [(7, .int 1), (9, .int (zI (fX4_isIn a2 (fX4_cellAhead v6 dx (fX0_rows kd dx dy re a3))))), (6, .int (fX4_cellAhead v6 dx (fX0_rows kd dx dy re a3))), (0, .ref o), (1, .int a0), (2, .int a1), (3, .int a2), (4, .int (zI a3)), (8, .int (nI k)), (5, .int v5)]) hx hb dX0_endsFrom_132 hl (by decide) rfl (fun ls hl => ?_)
                      refine lv_iinc (v := nI (k + 1)) (lv' := [(8, .int (nI (k + 1))), (7, .int 1), (9, .int (zI (fX4_isIn a2 (fX4_cellAhead v6 dx (fX0_rows kd dx dy re a3))))), (6, .int (fX4_cellAhead v6 dx (fX0_rows kd dx dy re a3))), (0, .ref o), (1, .int a0), (2, .int a1), (3, .int a2), (4, .int (zI a3)), (5, .int v5)]) hx hb dX0_endsFrom_134 hl (k := 8) rfl (nI_1 _) (by decide) rfl (fun ls hl => ?_)
                      refine lv_goto (tgt := 24) hx hb dX0_endsFrom_137 (by decide) ?_
                      exact ih (n, k + 1, v5, (fX4_cellAhead v6 dx (fX0_rows kd dx dy re a3)), 1) ls (Nat.lt_succ_self _) ⟨by rw [hv, gX0_endsFrom]; rw [if_neg c_1, if_neg c_2, if_neg (Bool.eq_false_iff.mp c_3), if_pos c_4, if_pos c_5, if_pos c_9, if_pos c_10, if_pos c_11], hk1, by dsimp only <;> omega⟩ (lv_sub hl [4, 5, 6, 7, 8, 0, 9, 3, 1] rfl)
                · refine lv_goto (tgt := 111) hx hb dX0_endsFrom_103 (by decide) ?_
                  refine lv_iload hx hb dX0_endsFrom_111 (lv_at hl 8 rfl) ?_
                  exact W.iret (v := v5) hx hb hr (fun t ht hw => ⟨_, rfl, (show (v5 : Int32) = fX0_endsFrom kd dx dy re a0 a1 a2 a3 from by rw [hv, gX0_endsFrom]; rw [if_neg c_1, if_neg c_2, if_neg (Bool.eq_false_iff.mp c_3), if_pos c_4, if_pos c_5, if_neg c_9]), ht⟩) (fun _ h => nomatch h) dX0_endsFrom_113
            · refine lv_iload hx hb dX0_endsFrom_73 (lv_at hl 7 rfl) ?_
              refine lv_iconst (v := 1) hx hb dX0_endsFrom_75 (by decide) ?_
              refine lv_iload hx hb dX0_endsFrom_76 (lv_at hl 0 rfl) ?_
              refine lv_ishl hx hb dX0_endsFrom_78 ?_
              refine lv_ior hx hb dX0_endsFrom_79 ?_
              refine lv_istore (lv' := [(5, .int (v5 ||| ((1 : Int32) <<< ((fX4_cellAhead v6 dx (fX0_rows kd dx dy re a3)) &&& 31)))), (6, .int (fX4_cellAhead v6 dx (fX0_rows kd dx dy re a3))), (0, .ref o), (1, .int a0), (2, .int a1), (3, .int a2), (4, .int (zI a3)), (8, .int (nI k)), (7, .int v7)]) hx hb dX0_endsFrom_80 hl (by decide) rfl (fun ls hl => ?_)
              refine lv_iload_n hx hb dX0_endsFrom_82 rfl (lv_at hl 5 rfl) ?_
              refine lv_iload hx hb dX0_endsFrom_83 (lv_at hl 1 rfl) ?_
              refine x_callSe (va_runSN (As := [.int a2, .int (fX4_cellAhead v6 dx (fX0_rows kd dx dy re a3))]) (rest := []) ⟨hx, hb, hml, hown, hts⟩ (kX4_isIn l a2 (fX4_cellAhead v6 dx (fX0_rows kd dx dy re a3))) ⟨va_cnB 2 hts gX0_endsFrom_X4_isIn_n32 rfl rfl rfl hX.2.1.2.2.1 hiniRX4 (by decide +kernel) ⟨Nat.le_of_ble_eq_true rfl, Nat.le_of_ble_eq_true rfl⟩, hstX4_isIn, trivial⟩ x_preT rfl rfl hl.1 rfl (lv_room (Nat.le_of_ble_eq_true rfl)) dX0_endsFrom_85 ⟨Nat.le_of_ble_eq_true rfl, Nat.le_of_ble_eq_true rfl⟩) ?_
              refine lv_istore (lv' := [(9, .int (zI (fX4_isIn a2 (fX4_cellAhead v6 dx (fX0_rows kd dx dy re a3))))), (5, .int (v5 ||| ((1 : Int32) <<< ((fX4_cellAhead v6 dx (fX0_rows kd dx dy re a3)) &&& 31)))), (6, .int (fX4_cellAhead v6 dx (fX0_rows kd dx dy re a3))), (0, .ref o), (1, .int a0), (2, .int a1), (3, .int a2), (4, .int (zI a3)), (8, .int (nI k)), (7, .int v7)]) hx hb dX0_endsFrom_88 hl (by decide) rfl (fun ls hl => ?_)
              refine lv_aload_n hx hb dX0_endsFrom_90 rfl (lv_at hl 3 rfl) ?_
              refine va_get (D := G.1) (ci := 0) (v := .int kd) (C := RX0) (T := TX0) (N := 4) hx hb hts hiX0 hown hX.1 (x1 hW hE) 0 rfl rfl 0 (by decide) hf9 (fun _ h9 => h9) rfl dX0_endsFrom_91 ?_
              refine lv_iconst (v := 2) hx hb dX0_endsFrom_94 (by decide) ?_
              refine lv_icmp_ne (tgt := 106) hx hb dX0_endsFrom_95 (by decide) (fun c_12 => ?_) (fun c_12 => ?_)
              · refine lv_iload hx hb dX0_endsFrom_106 (lv_at hl 0 rfl) ?_
                refine x_ifz_eq (b := fX4_isIn a2 (fX4_cellAhead v6 dx (fX0_rows kd dx dy re a3))) (tgt := 114) hx hb dX0_endsFrom_108 (by decide) (fun c_13 => ?_) (fun c_13 => ?_)
                · refine lv_aload_n hx hb dX0_endsFrom_114 rfl (lv_at hl 3 rfl) ?_
                  refine va_get (D := G.1) (ci := 0) (v := .int kd) (C := RX0) (T := TX0) (N := 4) hx hb hts hiX0 hown hX.1 (x1 hW hE) 0 rfl rfl 0 (by decide) hf9 (fun _ h9 => h9) rfl dX0_endsFrom_115 ?_
                  refine lv_iconst (v := 2) hx hb dX0_endsFrom_118 (by decide) ?_
                  refine lv_icmp_ne (tgt := 127) hx hb dX0_endsFrom_119 (by decide) (fun c_14 => ?_) (fun c_14 => ?_)
                  · refine lv_iconst (v := 1) hx hb dX0_endsFrom_127 (by decide) ?_
                    refine lv_goto (tgt := 132) hx hb dX0_endsFrom_128 (by decide) ?_
                    refine lv_istore (lv' := [(7, .int 1), (9, .int (zI (fX4_isIn a2 (fX4_cellAhead v6 dx (fX0_rows kd dx dy re a3))))), (5, .int (v5 ||| ((1 : Int32) <<< ((fX4_cellAhead v6 dx (fX0_rows kd dx dy re a3)) &&& 31)))), (6, .int (fX4_cellAhead v6 dx (fX0_rows kd dx dy re a3))), (0, .ref o), (1, .int a0), (2, .int a1), (3, .int a2), (4, .int (zI a3)), (8, .int (nI k))]) hx hb dX0_endsFrom_132 hl (by decide) rfl (fun ls hl => ?_)
                    refine lv_iinc (v := nI (k + 1)) (lv' := [(8, .int (nI (k + 1))), (7, .int 1), (9, .int (zI (fX4_isIn a2 (fX4_cellAhead v6 dx (fX0_rows kd dx dy re a3))))), (5, .int (v5 ||| ((1 : Int32) <<< ((fX4_cellAhead v6 dx (fX0_rows kd dx dy re a3)) &&& 31)))), (6, .int (fX4_cellAhead v6 dx (fX0_rows kd dx dy re a3))), (0, .ref o), (1, .int a0), (2, .int a1), (3, .int a2), (4, .int (zI a3))]) hx hb dX0_endsFrom_134 hl (k := 9) rfl (nI_1 _) (by decide) rfl (fun ls hl => ?_)
                    refine lv_goto (tgt := 24) hx hb dX0_endsFrom_137 (by decide) ?_
                    exact ih (n, k + 1, (v5 ||| ((1 : Int32) <<< ((fX4_cellAhead v6 dx (fX0_rows kd dx dy re a3)) &&& 31))), (fX4_cellAhead v6 dx (fX0_rows kd dx dy re a3)), 1) ls (Nat.lt_succ_self _) ⟨by rw [hv, gX0_endsFrom]; rw [if_neg c_1, if_neg c_2, if_neg (Bool.eq_false_iff.mp c_3), if_neg c_4, if_neg c_12, if_neg (Bool.eq_false_iff.mp c_13), if_neg c_14], hk1, by dsimp only <;> omega⟩ (lv_sub hl [5, 6, 7, 8, 9, 0, 3, 4, 1] rfl)
                  · refine lv_iload hx hb dX0_endsFrom_122 (lv_at hl 0 rfl) ?_
                    refine x_ifz_eq (b := fX4_isIn a2 (fX4_cellAhead v6 dx (fX0_rows kd dx dy re a3))) (tgt := 131) hx hb dX0_endsFrom_124 (by decide) (fun c_15 => ?_) (fun c_15 => ?_)
                    · refine lv_iconst (v := 0) hx hb dX0_endsFrom_131 (by decide) ?_
                      refine lv_istore (lv' := [(7, .int 0), (9, .int (zI (fX4_isIn a2 (fX4_cellAhead v6 dx (fX0_rows kd dx dy re a3))))), (5, .int (v5 ||| ((1 : Int32) <<< ((fX4_cellAhead v6 dx (fX0_rows kd dx dy re a3)) &&& 31)))), (6, .int (fX4_cellAhead v6 dx (fX0_rows kd dx dy re a3))), (0, .ref o), (1, .int a0), (2, .int a1), (3, .int a2), (4, .int (zI a3)), (8, .int (nI k))]) hx hb dX0_endsFrom_132 hl (by decide) rfl (fun ls hl => ?_)
                      refine lv_iinc (v := nI (k + 1)) (lv' := [(8, .int (nI (k + 1))), (7, .int 0), (9, .int (zI (fX4_isIn a2 (fX4_cellAhead v6 dx (fX0_rows kd dx dy re a3))))), (5, .int (v5 ||| ((1 : Int32) <<< ((fX4_cellAhead v6 dx (fX0_rows kd dx dy re a3)) &&& 31)))), (6, .int (fX4_cellAhead v6 dx (fX0_rows kd dx dy re a3))), (0, .ref o), (1, .int a0), (2, .int a1), (3, .int a2), (4, .int (zI a3))]) hx hb dX0_endsFrom_134 hl (k := 9) rfl (nI_1 _) (by decide) rfl (fun ls hl => ?_)
                      refine lv_goto (tgt := 24) hx hb dX0_endsFrom_137 (by decide) ?_
                      exact ih (n, k + 1, (v5 ||| ((1 : Int32) <<< ((fX4_cellAhead v6 dx (fX0_rows kd dx dy re a3)) &&& 31))), (fX4_cellAhead v6 dx (fX0_rows kd dx dy re a3)), 0) ls (Nat.lt_succ_self _) ⟨by rw [hv, gX0_endsFrom]; rw [if_neg c_1, if_neg c_2, if_neg (Bool.eq_false_iff.mp c_3), if_neg c_4, if_neg c_12, if_neg (Bool.eq_false_iff.mp c_13), if_pos c_14, if_neg (Bool.eq_false_iff.mp c_15)], hk1, by dsimp only <;> omega⟩ (lv_sub hl [5, 6, 7, 8, 9, 0, 3, 4, 1] rfl)
                    · refine lv_iconst (v := 1) hx hb dX0_endsFrom_127 (by decide) ?_
                      refine lv_goto (tgt := 132) hx hb dX0_endsFrom_128 (by decide) ?_
                      refine lv_istore (lv' := [(7, .int 1), (9, .int (zI (fX4_isIn a2 (fX4_cellAhead v6 dx (fX0_rows kd dx dy re a3))))), (5, .int (v5 ||| ((1 : Int32) <<< ((fX4_cellAhead v6 dx (fX0_rows kd dx dy re a3)) &&& 31)))), (6, .int (fX4_cellAhead v6 dx (fX0_rows kd dx dy re a3))), (0, .ref o), (1, .int a0), (2, .int a1), (3, .int a2), (4, .int (zI a3)), (8, .int (nI k))]) hx hb dX0_endsFrom_132 hl (by decide) rfl (fun ls hl => ?_)
                      refine lv_iinc (v := nI (k + 1)) (lv' := [(8, .int (nI (k + 1))), (7, .int 1), (9, .int (zI (fX4_isIn a2 (fX4_cellAhead v6 dx (fX0_rows kd dx dy re a3))))), (5, .int (v5 ||| ((1 : Int32) <<< ((fX4_cellAhead v6 dx (fX0_rows kd dx dy re a3)) &&& 31)))), (6, .int (fX4_cellAhead v6 dx (fX0_rows kd dx dy re a3))), (0, .ref o), (1, .int a0), (2, .int a1), (3, .int a2), (4, .int (zI a3))]) hx hb dX0_endsFrom_134 hl (k := 9) rfl (nI_1 _) (by decide) rfl (fun ls hl => ?_)
                      refine lv_goto (tgt := 24) hx hb dX0_endsFrom_137 (by decide) ?_
                      exact ih (n, k + 1, (v5 ||| ((1 : Int32) <<< ((fX4_cellAhead v6 dx (fX0_rows kd dx dy re a3)) &&& 31))), (fX4_cellAhead v6 dx (fX0_rows kd dx dy re a3)), 1) ls (Nat.lt_succ_self _) ⟨by rw [hv, gX0_endsFrom]; rw [if_neg c_1, if_neg c_2, if_neg (Bool.eq_false_iff.mp c_3), if_neg c_4, if_neg c_12, if_neg (Bool.eq_false_iff.mp c_13), if_pos c_14, if_pos c_15], hk1, by dsimp only <;> omega⟩ (lv_sub hl [5, 6, 7, 8, 9, 0, 3, 4, 1] rfl)
                · refine lv_iload hx hb dX0_endsFrom_111 (lv_at hl 1 rfl) ?_
                  exact W.iret (v := v5 ||| ((1 : Int32) <<< ((fX4_cellAhead v6 dx (fX0_rows kd dx dy re a3)) &&& 31))) hx hb hr (fun t ht hw => ⟨_, rfl, (show (v5 ||| ((1 : Int32) <<< ((fX4_cellAhead v6 dx (fX0_rows kd dx dy re a3)) &&& 31)) : Int32) = fX0_endsFrom kd dx dy re a0 a1 a2 a3 from by rw [hv, gX0_endsFrom]; rw [if_neg c_1, if_neg c_2, if_neg (Bool.eq_false_iff.mp c_3), if_neg c_4, if_neg c_12, if_pos c_13]), ht⟩) (fun _ h => nomatch h) dX0_endsFrom_113
              · refine lv_iload hx hb dX0_endsFrom_98 (lv_at hl 9 rfl) ?_
                refine lv_if_eq (tgt := 114) hx hb dX0_endsFrom_100 (by decide) (fun c_16 => ?_) (fun c_16 => ?_)
                · refine lv_aload_n hx hb dX0_endsFrom_114 rfl (lv_at hl 3 rfl) ?_
                  refine va_get (D := G.1) (ci := 0) (v := .int kd) (C := RX0) (T := TX0) (N := 4) hx hb hts hiX0 hown hX.1 (x1 hW hE) 0 rfl rfl 0 (by decide) hf9 (fun _ h9 => h9) rfl dX0_endsFrom_115 ?_
                  refine lv_iconst (v := 2) hx hb dX0_endsFrom_118 (by decide) ?_
                  refine lv_icmp_ne (tgt := 127) hx hb dX0_endsFrom_119 (by decide) (fun c_17 => ?_) (fun c_17 => ?_)
                  · refine lv_iconst (v := 1) hx hb dX0_endsFrom_127 (by decide) ?_
                    refine lv_goto (tgt := 132) hx hb dX0_endsFrom_128 (by decide) ?_
                    refine lv_istore (lv' := [(7, .int 1), (9, .int (zI (fX4_isIn a2 (fX4_cellAhead v6 dx (fX0_rows kd dx dy re a3))))), (5, .int (v5 ||| ((1 : Int32) <<< ((fX4_cellAhead v6 dx (fX0_rows kd dx dy re a3)) &&& 31)))), (6, .int (fX4_cellAhead v6 dx (fX0_rows kd dx dy re a3))), (0, .ref o), (1, .int a0), (2, .int a1), (3, .int a2), (4, .int (zI a3)), (8, .int (nI k))]) hx hb dX0_endsFrom_132 hl (by decide) rfl (fun ls hl => ?_)
                    refine lv_iinc (v := nI (k + 1)) (lv' := [(8, .int (nI (k + 1))), (7, .int 1), (9, .int (zI (fX4_isIn a2 (fX4_cellAhead v6 dx (fX0_rows kd dx dy re a3))))), (5, .int (v5 ||| ((1 : Int32) <<< ((fX4_cellAhead v6 dx (fX0_rows kd dx dy re a3)) &&& 31)))), (6, .int (fX4_cellAhead v6 dx (fX0_rows kd dx dy re a3))), (0, .ref o), (1, .int a0), (2, .int a1), (3, .int a2), (4, .int (zI a3))]) hx hb dX0_endsFrom_134 hl (k := 9) rfl (nI_1 _) (by decide) rfl (fun ls hl => ?_)
                    refine lv_goto (tgt := 24) hx hb dX0_endsFrom_137 (by decide) ?_
                    exact ih (n, k + 1, (v5 ||| ((1 : Int32) <<< ((fX4_cellAhead v6 dx (fX0_rows kd dx dy re a3)) &&& 31))), (fX4_cellAhead v6 dx (fX0_rows kd dx dy re a3)), 1) ls (Nat.lt_succ_self _) ⟨by rw [hv, gX0_endsFrom]; rw [if_neg c_1, if_neg c_2, if_neg (Bool.eq_false_iff.mp c_3), if_neg c_4, if_pos c_12, if_pos c_16, if_neg c_17], hk1, by dsimp only <;> omega⟩ (lv_sub hl [5, 6, 7, 8, 9, 0, 3, 4, 1] rfl)
                  · refine lv_iload hx hb dX0_endsFrom_122 (lv_at hl 0 rfl) ?_
                    refine x_ifz_eq (b := fX4_isIn a2 (fX4_cellAhead v6 dx (fX0_rows kd dx dy re a3))) (tgt := 131) hx hb dX0_endsFrom_124 (by decide) (fun c_18 => ?_) (fun c_18 => ?_)
                    · refine lv_iconst (v := 0) hx hb dX0_endsFrom_131 (by decide) ?_
                      refine lv_istore (lv' := [(7, .int 0), (9, .int (zI (fX4_isIn a2 (fX4_cellAhead v6 dx (fX0_rows kd dx dy re a3))))), (5, .int (v5 ||| ((1 : Int32) <<< ((fX4_cellAhead v6 dx (fX0_rows kd dx dy re a3)) &&& 31)))), (6, .int (fX4_cellAhead v6 dx (fX0_rows kd dx dy re a3))), (0, .ref o), (1, .int a0), (2, .int a1), (3, .int a2), (4, .int (zI a3)), (8, .int (nI k))]) hx hb dX0_endsFrom_132 hl (by decide) rfl (fun ls hl => ?_)
                      refine lv_iinc (v := nI (k + 1)) (lv' := [(8, .int (nI (k + 1))), (7, .int 0), (9, .int (zI (fX4_isIn a2 (fX4_cellAhead v6 dx (fX0_rows kd dx dy re a3))))), (5, .int (v5 ||| ((1 : Int32) <<< ((fX4_cellAhead v6 dx (fX0_rows kd dx dy re a3)) &&& 31)))), (6, .int (fX4_cellAhead v6 dx (fX0_rows kd dx dy re a3))), (0, .ref o), (1, .int a0), (2, .int a1), (3, .int a2), (4, .int (zI a3))]) hx hb dX0_endsFrom_134 hl (k := 9) rfl (nI_1 _) (by decide) rfl (fun ls hl => ?_)
                      refine lv_goto (tgt := 24) hx hb dX0_endsFrom_137 (by decide) ?_
                      exact ih (n, k + 1, (v5 ||| ((1 : Int32) <<< ((fX4_cellAhead v6 dx (fX0_rows kd dx dy re a3)) &&& 31))), (fX4_cellAhead v6 dx (fX0_rows kd dx dy re a3)), 0) ls (Nat.lt_succ_self _) ⟨by rw [hv, gX0_endsFrom]; rw [if_neg c_1, if_neg c_2, if_neg (Bool.eq_false_iff.mp c_3), if_neg c_4, if_pos c_12, if_pos c_16, if_pos c_17, if_neg (Bool.eq_false_iff.mp c_18)], hk1, by dsimp only <;> omega⟩ (lv_sub hl [5, 6, 7, 8, 9, 0, 3, 4, 1] rfl)
                    · refine lv_iconst (v := 1) hx hb dX0_endsFrom_127 (by decide) ?_
                      refine lv_goto (tgt := 132) hx hb dX0_endsFrom_128 (by decide) ?_
                      refine lv_istore (lv' := [(7, .int 1), (9, .int (zI (fX4_isIn a2 (fX4_cellAhead v6 dx (fX0_rows kd dx dy re a3))))), (5, .int (v5 ||| ((1 : Int32) <<< ((fX4_cellAhead v6 dx (fX0_rows kd dx dy re a3)) &&& 31)))), (6, .int (fX4_cellAhead v6 dx (fX0_rows kd dx dy re a3))), (0, .ref o), (1, .int a0), (2, .int a1), (3, .int a2), (4, .int (zI a3)), (8, .int (nI k))]) hx hb dX0_endsFrom_132 hl (by decide) rfl (fun ls hl => ?_)
                      refine lv_iinc (v := nI (k + 1)) (lv' := [(8, .int (nI (k + 1))), (7, .int 1), (9, .int (zI (fX4_isIn a2 (fX4_cellAhead v6 dx (fX0_rows kd dx dy re a3))))), (5, .int (v5 ||| ((1 : Int32) <<< ((fX4_cellAhead v6 dx (fX0_rows kd dx dy re a3)) &&& 31)))), (6, .int (fX4_cellAhead v6 dx (fX0_rows kd dx dy re a3))), (0, .ref o), (1, .int a0), (2, .int a1), (3, .int a2), (4, .int (zI a3))]) hx hb dX0_endsFrom_134 hl (k := 9) rfl (nI_1 _) (by decide) rfl (fun ls hl => ?_)
                      refine lv_goto (tgt := 24) hx hb dX0_endsFrom_137 (by decide) ?_
                      exact ih (n, k + 1, (v5 ||| ((1 : Int32) <<< ((fX4_cellAhead v6 dx (fX0_rows kd dx dy re a3)) &&& 31))), (fX4_cellAhead v6 dx (fX0_rows kd dx dy re a3)), 1) ls (Nat.lt_succ_self _) ⟨by rw [hv, gX0_endsFrom]; rw [if_neg c_1, if_neg c_2, if_neg (Bool.eq_false_iff.mp c_3), if_neg c_4, if_pos c_12, if_pos c_16, if_pos c_17, if_pos c_18], hk1, by dsimp only <;> omega⟩ (lv_sub hl [5, 6, 7, 8, 9, 0, 3, 4, 1] rfl)
                · refine lv_goto (tgt := 111) hx hb dX0_endsFrom_103 (by decide) ?_
                  refine lv_iload hx hb dX0_endsFrom_111 (lv_at hl 1 rfl) ?_
                  exact W.iret (v := v5 ||| ((1 : Int32) <<< ((fX4_cellAhead v6 dx (fX0_rows kd dx dy re a3)) &&& 31))) hx hb hr (fun t ht hw => ⟨_, rfl, (show (v5 ||| ((1 : Int32) <<< ((fX4_cellAhead v6 dx (fX0_rows kd dx dy re a3)) &&& 31)) : Int32) = fX0_endsFrom kd dx dy re a0 a1 a2 a3 from by rw [hv, gX0_endsFrom]; rw [if_neg c_1, if_neg c_2, if_neg (Bool.eq_false_iff.mp c_3), if_neg c_4, if_pos c_12, if_neg c_16]), ht⟩) (fun _ h => nomatch h) dX0_endsFrom_113
          · refine lv_iload hx hb dX0_endsFrom_65 (lv_at hl 7 rfl) ?_
            exact W.iret (v := v5) hx hb hr (fun t ht hw => ⟨_, rfl, (show (v5 : Int32) = fX0_endsFrom kd dx dy re a0 a1 a2 a3 from by rw [hv, gX0_endsFrom]; rw [if_neg c_1, if_neg c_2, if_pos c_3]), ht⟩) (fun _ h => nomatch h) dX0_endsFrom_67
  · refine lv_iconst (v := 0) hx hb dX0_endsFrom_0 (by decide) ?_
    refine lv_istore (lv' := [(5, .int 0), (0, .ref o), (1, .int a0), (2, .int a1), (3, .int a2), (4, .int (zI a3))]) hx hb dX0_endsFrom_1 hl (by decide) rfl (fun ls hl => ?_)
    refine lv_iload_n hx hb dX0_endsFrom_3 rfl (lv_at hl 2 rfl) ?_
    refine lv_istore (lv' := [(6, .int a0), (5, .int 0), (0, .ref o), (1, .int a0), (2, .int a1), (3, .int a2), (4, .int (zI a3))]) hx hb dX0_endsFrom_4 hl (by decide) rfl (fun ls hl => ?_)
    refine lv_aload_n hx hb dX0_endsFrom_6 rfl (lv_at hl 2 rfl) ?_
    refine va_get (D := G.1) (ci := 0) (v := .int kd) (C := RX0) (T := TX0) (N := 4) hx hb hts hiX0 hown hX.1 (x1 hW hE) 0 rfl rfl 0 (by decide) hf9 (fun _ h9 => h9) rfl dX0_endsFrom_7 ?_
    refine lv_iconst (v := 2) hx hb dX0_endsFrom_10 (by decide) ?_
    refine lv_icmp_eq (tgt := 18) hx hb dX0_endsFrom_11 (by decide) (fun c_19 => ?_) (fun c_19 => ?_)
    · refine lv_iconst (v := 0) hx hb dX0_endsFrom_18 (by decide) ?_
      refine lv_istore (lv' := [(7, .int 0), (6, .int a0), (5, .int 0), (0, .ref o), (1, .int a0), (2, .int a1), (3, .int a2), (4, .int (zI a3))]) hx hb dX0_endsFrom_19 hl (by decide) rfl (fun ls hl => ?_)
      refine lv_iconst (v := 1) hx hb dX0_endsFrom_21 (by decide) ?_
      refine lv_istore (lv' := [(8, .int 1), (7, .int 0), (6, .int a0), (5, .int 0), (0, .ref o), (1, .int a0), (2, .int a1), (3, .int a2), (4, .int (zI a3))]) hx hb dX0_endsFrom_22 hl (by decide) rfl (fun ls hl => ?_)
      exact LP (5, 1, 0, a0, 0) ls ⟨by unfold fX0_endsFrom; rw [if_pos c_19], by dsimp only <;> omega, by dsimp only <;> omega⟩ (lv_sub hl [4, 5, 6, 7, 8, 0, 3, 2, 1] rfl)
    · refine lv_iconst (v := 1) hx hb dX0_endsFrom_14 (by decide) ?_
      refine lv_goto (tgt := 19) hx hb dX0_endsFrom_15 (by decide) ?_
      refine lv_istore (lv' := [(7, .int 1), (6, .int a0), (5, .int 0), (0, .ref o), (1, .int a0), (2, .int a1), (3, .int a2), (4, .int (zI a3))]) hx hb dX0_endsFrom_19 hl (by decide) rfl (fun ls hl => ?_)
      refine lv_iconst (v := 1) hx hb dX0_endsFrom_21 (by decide) ?_
      refine lv_istore (lv' := [(8, .int 1), (7, .int 1), (6, .int a0), (5, .int 0), (0, .ref o), (1, .int a0), (2, .int a1), (3, .int a2), (4, .int (zI a3))]) hx hb dX0_endsFrom_22 hl (by decide) rfl (fun ls hl => ?_)
      exact LP (5, 1, 0, a0, 1) ls ⟨by unfold fX0_endsFrom; rw [if_neg c_19], by dsimp only <;> omega, by dsimp only <;> omega⟩ (lv_sub hl [4, 5, 6, 7, 8, 0, 3, 2, 1] rfl)

def gX0_leads (kd : Int32) (dx : Int32) (dy : Int32) (re : Int32) (a0 : Int32) (a1 : Int32) (a2 : Int32) (a3 : Int32) (a4 : Bool) : Nat → Nat → Int32 → Int32 → Int32 → Bool
  | 0, _, _, _, _ => false
  | n + 1, k, v6, v7, v8 => if re < (nI k) then false else (if (fX4_cellAhead v8 dx (fX0_rows kd dx dy re a4)) = (-1) then false else (if (fX4_isIn a2 (fX4_cellAhead v8 dx (fX0_rows kd dx dy re a4))) = true then false else (if (fX4_cellAhead v8 dx (fX0_rows kd dx dy re a4)) = a1 then (fX0_isRightPath kd dx dy re v6 v7 a3) else (gX0_leads kd dx dy re a0 a1 a2 a3 a4 n (k + 1) (v6 ||| ((1 : Int32) <<< ((fX4_cellAhead v8 dx (fX0_rows kd dx dy re a4)) &&& 31))) (fX4_cellAhead v8 dx (fX0_rows kd dx dy re a4)) (fX4_cellAhead v8 dx (fX0_rows kd dx dy re a4))))))
def fX0_leads (kd : Int32) (dx : Int32) (dy : Int32) (re : Int32) (a0 : Int32) (a1 : Int32) (a2 : Int32) (a3 : Int32) (a4 : Bool) : Bool := gX0_leads kd dx dy re a0 a1 a2 a3 a4 5 1 0 (-1) a0
set_option maxHeartbeats 4000000 in
set_option maxRecDepth 100000 in
theorem kX0_leads (l : Launch) (G : xG) (E : xE) (kd : Int32) (dx : Int32) (dy : Int32) (re : Int32) (o : Nat) (a0 : Int32) (a1 : Int32) (a2 : Int32) (a3 : Int32) (a4 : Bool) (hE : E o = some (.inr (0, [.int kd, .int dx, .int dy, .int re]))) (r : Nat) (hre : re = nI r) (h4 : r ≤ 4) : Met l yX0_leads wsX0_leads ({ frames := 1, cells := 0, slots := 0, locals := 25 }) (va_Pc [.ref o, .int a0, .int a1, .int a2, .int a3, .int (zI a4)] (xB G E)) (vp_Si (fun r => r = zI (fX0_leads kd dx dy re a0 a1 a2 a3 a4))) 0 0 (fun _ => False) := by
  refine Met.ofW (cc := cX0_leads) (maxL := 10) (ret := (some .boolean)) (by decide) rfl ?_
  intro p e s m args below meth c s₁ B hml hv
  obtain ⟨rfl, hX, hW⟩ := hv
  have hx := B.exec
  have hb := B.bytes
  have hr := B.returns
  have hts := atoms_spec (ws := wsX0_leads) B.pre
  have hown : s.vm.findClass RX0 = some m.cls := findClass_of_methodNamed B.named
  have hlocks := B.notSynchronized
  have hS : va_S (xA G) s.heap s.heap [] := va_S.rf
  have hiX0 : ∀ w ∈ u_ws RX0 TX0 4, w ∈ wsX0_leads := by decide +kernel
  have hf21 := hts (Cond.fieldLink RX0 21 "VariantMill$Card" "reach" "I") (by decide +kernel)
  have hf15 := hts (Cond.fieldLink RX0 15 "VariantMill$Card" "dx" "I") (by decide +kernel)
  have hiniRX4 := hts (Cond.initialized RX4) (by decide +kernel)
  have hstX4_cellAhead := hts (Cond.static yX4_cellAhead) (by decide +kernel)
  have hstX4_isIn := hts (Cond.static yX4_isIn) (by decide +kernel)
  have hl := lv_entry ([.ref o, .int a0, .int a1, .int a2, .int a3, .int (zI a4)]) (n := 10) (Nat.le_of_ble_eq_true rfl)
  rw [lg_entry_eq]
  generalize (lg_sl ([.ref o, .int a0, .int a1, .int a2, .int a3, .int (zI a4)]) ++ List.replicate (10 - (lg_sl ([.ref o, .int a0, .int a1, .int a2, .int a3, .int (zI a4)])).length) Slot.unset).toArray = ls at hl ⊢
  have hl : lv_has ls 10 [(0, .ref o), (1, .int a0), (2, .int a1), (3, .int a2), (4, .int a3), (5, .int (zI a4))] := hl
  refine x_loopK (σ := Nat × Nat × Int32 × Int32 × Int32) 12 10 (fun x => [(0, .ref o), (1, .int a0), (2, .int a1), (3, .int a2), (4, .int a3), (5, .int (zI a4)), (9, .int (nI x.2.1)), (6, .int x.2.2.1), (7, .int x.2.2.2.1), (8, .int x.2.2.2.2)]) (fun x => fX0_leads kd dx dy re a0 a1 a2 a3 a4 = gX0_leads kd dx dy re a0 a1 a2 a3 a4 x.1 x.2.1 x.2.2.1 x.2.2.2.1 x.2.2.2.2 ∧ x.2.1 ≤ 5 ∧ x.1 + x.2.1 = 5 + 1) (fun x => x.1) ?_ (fun LP => ?_)
  · rintro ⟨n, k, v6, v7, v8⟩ ls ⟨hv, hk, hn⟩ hl ih
    dsimp only at hv hk hn
    rcases n with _ | n
    · omega
    · have hl : lv_has ls 10 [(0, .ref o), (1, .int a0), (2, .int a1), (3, .int a2), (4, .int a3), (5, .int (zI a4)), (9, .int (nI k)), (6, .int v6), (7, .int v7), (8, .int v8)] := hl
      refine lv_iload hx hb dX0_leads_12 (lv_at hl 6 rfl) ?_
      refine lv_aload_n hx hb dX0_leads_14 rfl (lv_at hl 0 rfl) ?_
      refine va_get (D := G.1) (ci := 0) (v := .int re) (C := RX0) (T := TX0) (N := 4) hx hb hts hiX0 hown hX.1 (x1 hW hE) 0 rfl rfl 3 (by decide) hf21 (fun _ h9 => h9) rfl dX0_leads_15 ?_
      refine lv_icmp_gt (tgt := 91) hx hb dX0_leads_18 (by decide) (fun c_1 => ?_) (fun c_1 => ?_)
      · refine lv_iconst (v := 0) hx hb dX0_leads_91 (by decide) ?_
        exact W.zret (v := 0) hx hb hr rfl (fun t ht hw => ⟨_, rfl, (congrArg zI (show false = fX0_leads kd dx dy re a0 a1 a2 a3 a4 from by rw [hv, gX0_leads]; rw [if_pos c_1])), ht⟩) (fun _ h => nomatch h) dX0_leads_92
      · have hk1 : k < 5 := Nat.lt_of_le_of_lt (x_nlt (B := r) (by rw [← hre]; exact c_1) (by omega) (by omega)) (by omega)
        refine lv_iload hx hb dX0_leads_21 (lv_at hl 9 rfl) ?_
        refine lv_aload_n hx hb dX0_leads_23 rfl (lv_at hl 0 rfl) ?_
        refine va_get (D := G.1) (ci := 0) (v := .int dx) (C := RX0) (T := TX0) (N := 4) hx hb hts hiX0 hown hX.1 (x1 hW hE) 0 rfl rfl 1 (by decide) hf15 (fun _ h9 => h9) rfl dX0_leads_24 ?_
        refine lv_aload_n hx hb dX0_leads_27 rfl (lv_at hl 0 rfl) ?_
        refine lv_iload hx hb dX0_leads_28 (lv_at hl 5 rfl) ?_
        refine x_callSe (va_runV (As := [.int (zI a4)]) (rest := [.int dx, .int v8]) ⟨hx, hb, hml, hown, hts⟩ (kX0_rows l G _ kd dx dy re o a4 hE) (cwV 1 hts gX0_leads_X0_rows rfl rfl rfl (by decide +kernel) ⟨Nat.le_of_ble_eq_true rfl, Nat.le_of_ble_eq_true rfl⟩) (x_preV hX hS hW hE rfl) rfl rfl hl.1 rfl (lv_room (Nat.le_of_ble_eq_true rfl)) dX0_leads_30 ⟨Nat.le_of_ble_eq_true rfl, Nat.le_of_ble_eq_true rfl⟩) ?_
        refine x_callSe (va_runSN (As := [.int v8, .int dx, .int (fX0_rows kd dx dy re a4)]) (rest := []) ⟨hx, hb, hml, hown, hts⟩ (kX4_cellAhead l v8 dx (fX0_rows kd dx dy re a4)) ⟨va_cnB 3 hts gX0_leads_X4_cellAhead_n28 rfl rfl rfl hX.2.1.2.1 hiniRX4 (by decide +kernel) ⟨Nat.le_of_ble_eq_true rfl, Nat.le_of_ble_eq_true rfl⟩, hstX4_cellAhead, trivial⟩ x_preT rfl rfl hl.1 rfl (lv_room (Nat.le_of_ble_eq_true rfl)) dX0_leads_33 ⟨Nat.le_of_ble_eq_true rfl, Nat.le_of_ble_eq_true rfl⟩) ?_
        refine lv_istore (lv' := [(8, .int (fX4_cellAhead v8 dx (fX0_rows kd dx dy re a4))), (0, .ref o), (1, .int a0), (2, .int a1), (3, .int a2), (4, .int a3), (5, .int (zI a4)), (9, .int (nI k)), (6, .int v6), (7, .int v7)]) hx hb dX0_leads_36 hl (by decide) rfl (fun ls hl => ?_)
        refine lv_iload hx hb dX0_leads_38 (lv_at hl 0 rfl) ?_
        refine lv_iconst (v := (-1)) hx hb dX0_leads_40 (by decide) ?_
        refine lv_icmp_eq (tgt := 53) hx hb dX0_leads_41 (by decide) (fun c_2 => ?_) (fun c_2 => ?_)
        · refine lv_iconst (v := 0) hx hb dX0_leads_53 (by decide) ?_
          exact W.zret (v := 0) hx hb hr rfl (fun t ht hw => ⟨_, rfl, (congrArg zI (show false = fX0_leads kd dx dy re a0 a1 a2 a3 a4 from by rw [hv, gX0_leads]; rw [if_neg c_1, if_pos c_2])), ht⟩) (fun _ h => nomatch h) dX0_leads_54
        · refine lv_iload_n hx hb dX0_leads_44 rfl (lv_at hl 4 rfl) ?_
          refine lv_iload hx hb dX0_leads_45 (lv_at hl 0 rfl) ?_
          refine x_callSe (va_runSN (As := [.int a2, .int (fX4_cellAhead v8 dx (fX0_rows kd dx dy re a4))]) (rest := []) ⟨hx, hb, hml, hown, hts⟩ (kX4_isIn l a2 (fX4_cellAhead v8 dx (fX0_rows kd dx dy re a4))) ⟨va_cnB 2 hts gX0_leads_X4_isIn_n32 rfl rfl rfl hX.2.1.2.2.1 hiniRX4 (by decide +kernel) ⟨Nat.le_of_ble_eq_true rfl, Nat.le_of_ble_eq_true rfl⟩, hstX4_isIn, trivial⟩ x_preT rfl rfl hl.1 rfl (lv_room (Nat.le_of_ble_eq_true rfl)) dX0_leads_47 ⟨Nat.le_of_ble_eq_true rfl, Nat.le_of_ble_eq_true rfl⟩) ?_
          refine x_ifz_eq (b := fX4_isIn a2 (fX4_cellAhead v8 dx (fX0_rows kd dx dy re a4))) (tgt := 55) hx hb dX0_leads_50 (by decide) (fun c_3 => ?_) (fun c_3 => ?_)
          · refine lv_iload hx hb dX0_leads_55 (lv_at hl 0 rfl) ?_
            refine lv_iload_n hx hb dX0_leads_57 rfl (lv_at hl 3 rfl) ?_
            refine lv_icmp_ne (tgt := 72) hx hb dX0_leads_58 (by decide) (fun c_4 => ?_) (fun c_4 => ?_)
            · refine lv_iload hx hb dX0_leads_72 (lv_at hl 8 rfl) ?_
              refine lv_iconst (v := 1) hx hb dX0_leads_74 (by decide) ?_
              refine lv_iload hx hb dX0_leads_75 (lv_at hl 0 rfl) ?_
              refine lv_ishl hx hb dX0_leads_77 ?_
              refine lv_ior hx hb dX0_leads_78 ?_
              refine lv_istore (lv' := [(6, .int (v6 ||| ((1 : Int32) <<< ((fX4_cellAhead v8 dx (fX0_rows kd dx dy re a4)) &&& 31)))), (8, .int (fX4_cellAhead v8 dx (fX0_rows kd dx dy re a4))), (0, .ref o), (1, .int a0), (2, .int a1), (3, .int a2), (4, .int a3), (5, .int (zI a4)), (9, .int (nI k)), (7, .int v7)]) hx hb dX0_leads_79 hl (by decide) rfl (fun ls hl => ?_)
              refine lv_iload hx hb dX0_leads_81 (lv_at hl 1 rfl) ?_
              refine lv_istore (lv' := [(7, .int (fX4_cellAhead v8 dx (fX0_rows kd dx dy re a4))), (6, .int (v6 ||| ((1 : Int32) <<< ((fX4_cellAhead v8 dx (fX0_rows kd dx dy re a4)) &&& 31)))), (8, .int (fX4_cellAhead v8 dx (fX0_rows kd dx dy re a4))), (0, .ref o), (1, .int a0), (2, .int a1), (3, .int a2), (4, .int a3), (5, .int (zI a4)), (9, .int (nI k))]) hx hb dX0_leads_83 hl (by decide) rfl (fun ls hl => ?_)
              refine lv_iinc (v := nI (k + 1)) (lv' := [(9, .int (nI (k + 1))), (7, .int (fX4_cellAhead v8 dx (fX0_rows kd dx dy re a4))), (6, .int (v6 ||| ((1 : Int32) <<< ((fX4_cellAhead v8 dx (fX0_rows kd dx dy re a4)) &&& 31)))), (8, .int (fX4_cellAhead v8 dx (fX0_rows kd dx dy re a4))), (0, .ref o), (1, .int a0), (2, .int a1), (3, .int a2), (4, .int a3), (5, .int (zI a4))]) hx hb dX0_leads_85 hl (k := 9) rfl (nI_1 _) (by decide) rfl (fun ls hl => ?_)
              refine lv_goto (tgt := 12) hx hb dX0_leads_88 (by decide) ?_
              exact ih (n, k + 1, (v6 ||| ((1 : Int32) <<< ((fX4_cellAhead v8 dx (fX0_rows kd dx dy re a4)) &&& 31))), (fX4_cellAhead v8 dx (fX0_rows kd dx dy re a4)), (fX4_cellAhead v8 dx (fX0_rows kd dx dy re a4))) ls (Nat.lt_succ_self _) ⟨by rw [hv, gX0_leads]; rw [if_neg c_1, if_neg c_2, if_neg (Bool.eq_false_iff.mp c_3), if_neg c_4], hk1, by dsimp only <;> omega⟩ (lv_sub hl [4, 5, 6, 7, 8, 9, 0, 2, 1, 3] rfl)
            · refine lv_aload_n hx hb dX0_leads_61 rfl (lv_at hl 1 rfl) ?_
              refine lv_iload hx hb dX0_leads_62 (lv_at hl 8 rfl) ?_
              refine lv_iload hx hb dX0_leads_64 (lv_at hl 9 rfl) ?_
              refine lv_iload hx hb dX0_leads_66 (lv_at hl 5 rfl) ?_
              refine x_callSe (va_runV (As := [.int v6, .int v7, .int a3]) (rest := []) ⟨hx, hb, hml, hown, hts⟩ (kX0_isRightPath l G _ kd dx dy re o v6 v7 a3 hE) (cwV 3 hts gX0_leads_X0_isRightPath rfl rfl rfl (by decide +kernel) ⟨Nat.le_of_ble_eq_true rfl, Nat.le_of_ble_eq_true rfl⟩) (x_preV hX hS hW hE rfl) rfl rfl hl.1 rfl (lv_room (Nat.le_of_ble_eq_true rfl)) dX0_leads_68 ⟨Nat.le_of_ble_eq_true rfl, Nat.le_of_ble_eq_true rfl⟩) ?_
              exact W.zret (v := zI (fX0_isRightPath kd dx dy re v6 v7 a3)) hx hb hr (xz_nar _) (fun t ht hw => ⟨_, rfl, (congrArg zI (show fX0_isRightPath kd dx dy re v6 v7 a3 = fX0_leads kd dx dy re a0 a1 a2 a3 a4 from by rw [hv, gX0_leads]; rw [if_neg c_1, if_neg c_2, if_neg (Bool.eq_false_iff.mp c_3), if_pos c_4])), ht⟩) (fun _ h => nomatch h) dX0_leads_71
          · refine lv_iconst (v := 0) hx hb dX0_leads_53 (by decide) ?_
            exact W.zret (v := 0) hx hb hr rfl (fun t ht hw => ⟨_, rfl, (congrArg zI (show false = fX0_leads kd dx dy re a0 a1 a2 a3 a4 from by rw [hv, gX0_leads]; rw [if_neg c_1, if_neg c_2, if_pos c_3])), ht⟩) (fun _ h => nomatch h) dX0_leads_54
  · refine lv_iconst (v := 0) hx hb dX0_leads_0 (by decide) ?_
    refine lv_istore (lv' := [(6, .int 0), (0, .ref o), (1, .int a0), (2, .int a1), (3, .int a2), (4, .int a3), (5, .int (zI a4))]) hx hb dX0_leads_1 hl (by decide) rfl (fun ls hl => ?_)
    refine lv_iconst (v := (-1)) hx hb dX0_leads_3 (by decide) ?_
    refine lv_istore (lv' := [(7, .int (-1)), (6, .int 0), (0, .ref o), (1, .int a0), (2, .int a1), (3, .int a2), (4, .int a3), (5, .int (zI a4))]) hx hb dX0_leads_4 hl (by decide) rfl (fun ls hl => ?_)
    refine lv_iload_n hx hb dX0_leads_6 rfl (lv_at hl 3 rfl) ?_
    refine lv_istore (lv' := [(8, .int a0), (7, .int (-1)), (6, .int 0), (0, .ref o), (1, .int a0), (2, .int a1), (3, .int a2), (4, .int a3), (5, .int (zI a4))]) hx hb dX0_leads_7 hl (by decide) rfl (fun ls hl => ?_)
    refine lv_iconst (v := 1) hx hb dX0_leads_9 (by decide) ?_
    refine lv_istore (lv' := [(9, .int 1), (8, .int a0), (7, .int (-1)), (6, .int 0), (0, .ref o), (1, .int a0), (2, .int a1), (3, .int a2), (4, .int a3), (5, .int (zI a4))]) hx hb dX0_leads_10 hl (by decide) rfl (fun ls hl => ?_)
    exact LP (5, 1, 0, (-1), a0) ls ⟨by rfl, by dsimp only <;> omega, by dsimp only <;> omega⟩ (lv_sub hl [4, 5, 6, 7, 8, 9, 0, 3, 2, 1] rfl)
