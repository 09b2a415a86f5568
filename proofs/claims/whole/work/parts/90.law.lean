/-! THE CLAIM OUT OF ONE WALK OF THE LAW'S BODY. Your part is whole_start (and what it stands on); all else here is the same for every law, but numbers. -/
def R_law : String := "VariantMillLaw"
def lw_P (b : Addr) (xs : List Int32) (args : Array Value) (s : State) : Prop := args = #[.ref b] ∧ s.IntsAt b xs ∧ xs.length ≤ 3072 ∧ (Jvm.Cond.and given_1 narrow_1).before args s = true
def lw_Q (_ : Array Value) (s : State) (o : Outcome) (t : State) : Prop := o = .returned (some (.int 1)) ∧ Framed s o t [] 601024 7293034
def lw_Z (below : List Frame) (a : Array Value) (s : State) : State → Prop := fun t => ∃ o, t.status = .running ∧ Ended t below o ∧ lw_Q a s o t
/-- the law's own end, with 1 on the stack, nothing written that was there before, its room as the claim has it -/
theorem lw_ret {p : Program} {l : Launch} {e : Env} {s : State} {m : MethodId} {below : List Frame} {meth : Method} {c : Code} {b : Nat} (hx : p.tables.exec = Jvm.exec) (hb : c.code = code) (hr : meth.sig.returnType = ret) (hlocks : meth.locks = false) {pc : Nat} {H : Heap} {ls : Array Slot} (hdg : decode code pc = .ok (.ireturn, 1)) : W p l e room_1 s m #[Value.ref b] below meth c H [] 601024 7293034 (lw_Z below #[Value.ref b] s) (F0 m pc ls [.int 1]) := by
  intro T hT X
  obtain ⟨fs, hret, hrun, hended, hW, hframe⟩ := X.leave (v := some (.int 1)) (hlocks := hlocks) (fun h => by rw [hr] at h; cases h)
  have hmeth' : T.vm.method? m = some meth := X.method'
  refine ⟨T.setFrames fs, ?_, .returned (some (.int 1)), hrun, hended, rfl, ⟨_, rfl⟩, hW, hframe⟩
  jvm_step X.here [X.here.top, hx, hb, hdg, hmeth', hr, ret, narrow_b1]
  (try refine ⟨rfl, ?_⟩); (try refine ⟨rfl, ?_⟩)
  first | (intro acts; rw [hret _ acts rfl rfl rfl]) | rw [hret _ _ rfl rfl rfl]
  exact Steps.refl _
/-- what holds at the law's entry: the machine, the code, the tables' words (any of lw_tbl by 'hts w (by decide +kernel)'), the script of L ints xs at the cell b, what the Statement gives of the start (any of its parts by flat_of_before) -/
def lw_At (p : Program) (s : State) (m : MethodId) (meth : Method) (c : Code) (b L : Nat) (xs : Nat → Int32) : Prop :=
  p.tables.exec = Jvm.exec ∧ c.code = code ∧ meth.sig.returnType = ret ∧ c.maxLocals = 7 ∧ s.vm.findClass R_law = some m.cls ∧ (∀ w ∈ lw_tbl, w.before #[Value.ref b] s = true) ∧ va_X b L xs s s.heap ∧ b < s.heap.size ∧ meth.locks = false ∧ (Jvm.Cond.and given_1 narrow_1).before #[Value.ref b] s = true
theorem x_arrP {args : Array Value} {s : State} {ty : FieldType} (h : (Cond.arrayClass ty).before args s = true) : ∃ cA, ArrOfT s cA ty ∧ s.vm.findClass ("[" ++ ty.toString) = some cA := by
  obtain ⟨c, k, comp, h1, h2, h3⟩ := Cond.arrayClass_spec h
  exact ⟨c, fun n z => ⟨fun k h => (by cases h), k, h2, comp, h3⟩, h1⟩
theorem x_arrO {args : Array Value} {s : State} {C : String} (h : (Cond.arrayOver (.object C)).before args s = true) : ∃ cA, ArrOfT s cA (.object C) ∧ va_RA s cA (.object C) := by
  obtain ⟨comp, c, k, f1, f2, f3, f4, f5⟩ := Cond.arrayOver_spec h
  exact ⟨c, fun N z => ⟨fun k h => (by cases h), k, f3, comp, f4⟩, k, comp, f3, f4, f1, f5⟩

set_option maxHeartbeats 4000000 in
set_option maxRecDepth 100000 in
theorem x_begin9 {s : State} {b : Nat} (hts : ∀ w ∈ lw_tbl, w.before #[Value.ref b] s = true) (hgv : (Jvm.Cond.and given_1 narrow_1).before #[Value.ref b] s = true) : ∃ G : xG, G.2.2 = s.heap.size ∧ xS G s ∧ xNc s := by
  have hg := flat_of_before _ hgv
  obtain ⟨c0, i0, k0⟩ := u_known (C := RX0) (T := TX0) (N := 4) (n := 4) hts (by decide +kernel) (hts (.instantiable RX0 4) (by decide +kernel))
  obtain ⟨c1, i1, k1⟩ := u_known (C := RX1) (T := TX1) (N := 9) (n := 9) hts (by decide +kernel) (hts (.instantiable RX1 9) (by decide +kernel))
  obtain ⟨c2, i2, k2⟩ := u_known (C := RX2) (T := TX2) (N := 3) (n := 3) hts (by decide +kernel) (hts (.instantiable RX2 3) (by decide +kernel))
  obtain ⟨c3, i3, k3⟩ := u_known (C := RX3) (T := TX3) (N := 3) (n := 3) hts (by decide +kernel) (hts (.instantiable RX3 3) (by decide +kernel))
  obtain ⟨c4, i4, k4⟩ := u_known (C := RX4) (T := TX4) (N := 6) (n := 6) hts (by decide +kernel) (hts (.instantiable RX4 6) (by decide +kernel))
  obtain ⟨c5, i5, k5⟩ := u_known (C := RX5) (T := TX5) (N := 20) (n := 20) hts (by decide +kernel) (hts (.instantiable RX5 20) (by decide +kernel))
  obtain ⟨a0, A0, B0⟩ := x_arrP (hts (.arrayClass .int) (by decide +kernel))
  obtain ⟨a1, A1, B1⟩ := x_arrP (hts (.arrayClass .long) (by decide +kernel))
  obtain ⟨a2, A2, B2⟩ := x_arrO (C := RX0) (hts (.arrayOver (.object RX0)) (by decide +kernel))
  obtain ⟨a3, A3, B3⟩ := x_arrO (C := RX3) (hts (.arrayOver (.object RX3)) (by decide +kernel))
  obtain ⟨a4, A4, B4⟩ := x_arrO (C := RX1) (hts (.arrayOver (.object RX1)) (by decide +kernel))
  refine ⟨((fun k => [c0, c1, c2, c3, c4, c5].getD k c0, fun k => [i0, i1, i2, i3, i4, i5].getD k i0), (fun k => [a0, a1, a2, a3, a4].getD k a0), s.heap.size), rfl, ⟨⟨?_, ?_⟩, ?_, ?_, ?_, ?_, ?_, ?_, ?_, ?_⟩, ?_⟩
  · intro k q hq
    match k, hq with
    | 0, hq => cases hq; exact k0
    | 1, hq => cases hq; exact k1
    | 2, hq => cases hq; exact k2
    | 3, hq => cases hq; exact k3
    | 4, hq => cases hq; exact k4
    | 5, hq => cases hq; exact k5
    | k + 6, hq => simp [vwCl] at hq
  · intro k q hq
    match k, hq with
    | 0, hq => cases hq; exact ⟨A0, B0⟩
    | 1, hq => cases hq; exact ⟨A1, B1⟩
    | 2, hq => cases hq; exact ⟨A2, B2⟩
    | 3, hq => cases hq; exact ⟨A3, B3⟩
    | 4, hq => cases hq; exact ⟨A4, B4⟩
    | k + 5, hq => simp [xtys] at hq
  · exact ⟨va_Nw.of rfl (hts (.methodLinkNest RX2 29 yX4_isIn RX4) (by decide +kernel)), va_Nw.of rfl (hts (.methodLinkNest RX0 28 yX4_cellAhead RX4) (by decide +kernel)), va_Nw.of rfl (hts (.methodLinkNest RX0 32 yX4_isIn RX4) (by decide +kernel)), va_Nw.of rfl (hts (.methodLinkNest RX1 57 yX4_isIn RX4) (by decide +kernel)), va_Nw.of rfl (hts (.methodLinkNest RX1 67 yX4_moved RX4) (by decide +kernel))⟩
  · exact vx_Zqof (hts (.laysStatic Bundle.tN "UNASSIGNED_STACK" Bundle.steD) (by decide +kernel)) (hts (.initialized Bundle.tN) (by decide +kernel)) (hg (.isRef (.static Bundle.tN "UNASSIGNED_STACK" Bundle.steD)) (by decide +kernel)) (fun a ha h9 => absurd ha (Nat.not_lt.mpr h9))
  · exact vx_Zqof (hts (.laysStatic Bundle.tN "SUPPRESSED_SENTINEL" Bundle.listD) (by decide +kernel)) (hts (.initialized Bundle.tN) (by decide +kernel)) (hg (.isRef (.static Bundle.tN "SUPPRESSED_SENTINEL" Bundle.listD)) (by decide +kernel)) (fun a ha h9 => absurd ha (Nat.not_lt.mpr h9))
  · intro w hw
    have hm : w ∈ lw_tbl := (show ∀ w ∈ xBad, w ∈ lw_tbl by decide +kernel) w hw
    have h9 := hts w hm
    simp only [xBad, List.mem_cons, List.not_mem_nil, or_false] at hw
    rcases hw with rfl | rfl | rfl | rfl | rfl | rfl <;> exact va_Nw.of rfl h9
  · intro q hq
    have hm : Cond.stringRef RX4 q.1 q.2 ∈ lw_tbl := (show ∀ q ∈ xStr, Cond.stringRef RX4 q.1 q.2 ∈ lw_tbl by decide +kernel) q hq
    obtain ⟨k, cf, i, a, -, -, -, -, -, h6⟩ := Cond.stringRef_spec (show s.vm.findClass RX4 = some c4 from k4.2.1) (hts _ hm)
    exact ⟨a, vk_R.of (hts _ hm) h6⟩
  · exact va_AO.of (hts (.arrayOver (.object RX0)) (by decide +kernel))
  · exact va_AO.of (hts (.arrayOver (.object RX3)) (by decide +kernel))
  · exact va_AO.of (hts (.arrayOver (.object RX1)) (by decide +kernel))
  · exact ⟨va_Nc.of (hg (.not (.castable "java/lang/IllegalStateException" "java/lang/IllegalArgumentException")) (by decide +kernel)), va_Nc.of (hg (.not (.castable "java/lang/IllegalArgumentException" "java/lang/IndexOutOfBoundsException")) (by decide +kernel)), va_Nc.of (hg (.not (.castable "java/lang/IllegalStateException" "java/lang/IndexOutOfBoundsException")) (by decide +kernel))⟩

theorem x_i6 (i : Nat) : nI i + Int32.ofInt 6 = nI (i + 6) := by
  rw [show Int32.ofInt 6 = nI 6 from rfl, nI_add]
theorem x_le6 {i L : Nat} (hi : i ≤ 4096) (hL : L ≤ 3072) (h : ¬ Int32.ofNat L - 6 < nI i) : i + 6 ≤ L := by
  rcases Nat.lt_or_ge L 6 with q | q
  · exfalso
    have h1 : nI L - nI 6 < 0 := pk_sneg (by omega) q
    exact h (Int32.lt_of_lt_of_le h1 ((nI_leI (a := 0) (b := i) (by omega) (by omega)).mpr (Nat.zero_le _)))
  · have e : Int32.ofNat L - 6 = nI (L - 6) := pk_sub q
    rw [e, nI_ltI (by omega) (by omega)] at h
    omega
theorem x_and15 (a : Int32) : ∃ j : Nat, j < 16 ∧ a &&& 15 = nI j := by
  refine ⟨(a.toBitVec &&& 15#32).toNat, ?_, ?_⟩
  · rw [BitVec.toNat_and]
    exact Nat.lt_of_le_of_lt Nat.and_le_right (by decide)
  · apply Int32.toBitVec_inj.mp
    rw [Int32.toBitVec_and]
    show _ = (Int32.ofNat _).toBitVec
    rw [Int32.toBitVec_ofNat']
    apply BitVec.eq_of_toNat_eq
    simp [BitVec.toNat_ofNat]

set_option maxHeartbeats 4000000 in
set_option maxRecDepth 100000 in
theorem law_loop {p : Program} {l : Launch} {e : Env} {s : State} {m : MethodId} {b : Nat} {below : List Frame} {meth : Method} {c : Code} (hl9 : l.stackTraces = false) (hx : p.tables.exec = Jvm.exec) (hb : c.code = cL_law) (hr : meth.sig.returnType = ret) (hlocks : meth.locks = false) (hml : c.maxLocals = 7) (hown : s.vm.findClass RL = some m.cls) (hts : ∀ w ∈ wsL_law, w.before #[Value.ref b] s = true) {G : xG} (hX : xS G s) (hNc : xNc s) (hG : G.2.2 = s.heap.size) {L : Nat} {xs : Nat → Int32} (hXs : va_X b L xs s s.heap) (hbl : b < s.heap.size) (hbA : ¬ xA G b) (hL : L ≤ 3072) {o1 o2 oa : Nat} : ∀ (n i : Nat) (H : Heap) (locs : List Loc) (cells slots : Nat) (ls : Array Slot) (E : xE), L ≤ i + 6 * n + 5 → i ≤ L + 6 → cells + 5 * n ≤ 601024 → slots + 88 * n ≤ 7293034 → xLs G E o1 o2 oa → xW G E H → va_S (xA G) s.heap H locs → lv_has ls 7 [(0, .ref b), (1, .ref o1), (2, .ref o2), (3, .ref oa), (4, .int (nI i))] → W p l e room_1 s m #[Value.ref b] below meth c H locs cells slots (lw_Z below #[Value.ref b] s) (F0 m 23 ls []) := by
  intro n
  induction n with
  | zero =>
    intro i H locs cells slots ls E hLi hiL hcn hsn hLs hW hS hl
    refine lv_iload hx hb dL_law_23 (lv_at hl 4 rfl) ?_
    refine lv_aload_n hx hb dL_law_25 rfl (lv_at hl 0 rfl) ?_
    refine va_slen hx hb hXs hbl hbA hS dL_law_26 ?_
    refine lv_bipush (v := 6) hx hb dL_law_27 (by decide) ?_
    refine lv_isub hx hb dL_law_29 ?_
    refine lv_icmp_gt (tgt := 1299) hx hb dL_law_30 (by decide) (fun c1 => ?_) (fun c1 => absurd (x_le6 (by omega) hL c1) (by omega))
    refine lv_iconst (v := 1) hx hb dL_law_1299 (by decide) ?_
    refine va_forget (fun q hq => by have := hS.2.2 q hq; unfold xA at this; omega) ?_
    exact W.widen (k := 601024) (n := 7293034) (by omega) (by omega) (lw_ret hx hb hr hlocks dL_law_1300)
  | succ n ih =>
    intro i H locs cells slots ls E hLi hiL hcn hsn hLs hW hS hl
    refine lv_iload hx hb dL_law_23 (lv_at hl 4 rfl) ?_
    refine lv_aload_n hx hb dL_law_25 rfl (lv_at hl 0 rfl) ?_
    refine va_slen hx hb hXs hbl hbA hS dL_law_26 ?_
    refine lv_bipush (v := 6) hx hb dL_law_27 (by decide) ?_
    refine lv_isub hx hb dL_law_29 ?_
    refine lv_icmp_gt (tgt := 1299) hx hb dL_law_30 (by decide) (fun c1 => ?_) (fun c1 => ?_)
    · refine lv_iconst (v := 1) hx hb dL_law_1299 (by decide) ?_
      refine va_forget (fun q hq => by have := hS.2.2 q hq; unfold xA at this; omega) ?_
      exact W.widen (k := 601024) (n := 7293034) (by omega) (by omega) (lw_ret hx hb hr hlocks dL_law_1300)
    · have hi6 := x_le6 (by omega) hL c1
      have kk : ∀ (H1 : Heap) (locs1 : List Loc) (ls1 : Array Slot) (E1 : xE), xLs G E1 o1 o2 oa → xW G E1 H1 → va_S (xA G) s.heap H1 locs1 → lv_has ls1 7 [(0, .ref b), (1, .ref o1), (2, .ref o2), (3, .ref oa), (4, .int (nI i))] → W p l e room_1 s m #[Value.ref b] below meth c H1 locs1 (cells + 5) (slots + 88) (lw_Z below #[Value.ref b] s) (F0 m 1293 ls1 []) := by
        intro H1 locs1 ls E1 hLs hW hS hl
        refine lv_iinc (v := nI (i + 6)) (lv' := [(4, .int (nI (i + 6))), (0, .ref b), (1, .ref o1), (2, .ref o2), (3, .ref oa)]) hx hb dL_law_1293 hl (k := 4) rfl (x_i6 i) (by decide) rfl (fun ls hl => ?_)
        refine lv_goto (tgt := 23) hx hb dL_law_1296 (by decide) ?_
        exact ih (i + 6) H1 locs1 (cells + 5) (slots + 88) ls E1 (by omega) (by omega) (by omega) (by omega) hLs hW hS (lv_sub hl [1, 2, 3, 4, 0] rfl)
      refine lv_aload_n hx hb dL_law_33 rfl (lv_at hl 0 rfl) ?_
      refine lv_iload hx hb dL_law_34 (lv_at hl 4 rfl) ?_
      refine va_sld hx hb hXs hbl hbA hS (vp_in_nI (show i < L by omega) (by omega)) dL_law_36 ?_
      refine lv_bipush (v := 15) hx hb dL_law_37 (by decide) ?_
      refine lv_iand hx hb dL_law_39 ?_
      obtain ⟨j, hj, ej⟩ := x_and15 (xs (nI i).toNatClampNeg)
      rw [ej]
      clear ej
      match j, hj with
      | 0, _ => exact lv_tableIn hx hb (tgt := 120) dL_law_40 (by decide) (by decide) (show _ = some (80 : Int) from rfl) (by decide) (law_card hl9 hx hb hml hown hts hX hNc hXs hbl hbA hi6 hL (by omega) (by omega) hLs hW hS hl kk)
      | 1, _ => exact lv_tableIn hx hb (tgt := 212) dL_law_40 (by decide) (by decide) (show _ = some (172 : Int) from rfl) (by decide) (law_variant hl9 hx hb hml hown hts hX hNc hXs hbl hbA hi6 hL (by omega) (by omega) hLs hW hS hl kk)
      | 2, _ => exact lv_tableIn hx hb (tgt := 280) dL_law_40 (by decide) (by decide) (show _ = some (240 : Int) from rfl) (by decide) (law_setCards hl9 hx hb hml hown hts hX hNc hXs hbl hbA hi6 hL (by omega) (by omega) hLs hW hS hl kk)
      | 3, _ => exact lv_tableIn hx hb (tgt := 348) dL_law_40 (by decide) (by decide) (show _ = some (308 : Int) from rfl) (by decide) (law_begin hl9 hx hb hml hown hts hX hNc hXs hbl hbA hi6 hL (by omega) (by omega) hLs hW hS hl kk)
      | 4, _ => exact lv_tableIn hx hb (tgt := 452) dL_law_40 (by decide) (by decide) (show _ = some (412 : Int) from rfl) (by decide) (law_can hl9 hx hb hml hown hts hX hNc hXs hbl hbA hi6 hL (by omega) (by omega) hLs hW hS hl kk)
      | 5, _ => exact lv_tableIn hx hb (tgt := 539) dL_law_40 (by decide) (by decide) (show _ = some (499 : Int) from rfl) (by decide) (law_canByAll hl9 hx hb hml hown hts hX hNc hXs hbl hbA hi6 hL (by omega) (by omega) hLs hW hS hl kk)
      | 6, _ => exact lv_tableIn hx hb (tgt := 626) dL_law_40 (by decide) (by decide) (show _ = some (586 : Int) from rfl) (by decide) (law_move hl9 hx hb hml hown hts hX hNc hXs hbl hbA hi6 hL (by omega) (by omega) hLs hW hS hl kk)
      | 7, _ => exact lv_tableIn hx hb (tgt := 706) dL_law_40 (by decide) (by decide) (show _ = some (666 : Int) from rfl) (by decide) (law_state hl9 hx hb hml hown hts hX hNc hXs hbl hbA hi6 hL (by omega) (by omega) hLs hW hS hl kk)
      | 8, _ => exact lv_tableIn hx hb (tgt := 762) dL_law_40 (by decide) (by decide) (show _ = some (722 : Int) from rfl) (by decide) (law_pieces hl9 hx hb hml hown hts hX hNc hXs hbl hbA hi6 hL (by omega) (by omega) hLs hW hS hl kk)
      | 9, _ => exact lv_tableIn hx hb (tgt := 846) dL_law_40 (by decide) (by decide) (show _ = some (806 : Int) from rfl) (by decide) (law_made hl9 hx hb hml hown hts hX hNc hXs hbl hbA hi6 hL (by omega) (by omega) hLs hW hS hl kk)
      | 10, _ => exact lv_tableIn hx hb (tgt := 902) dL_law_40 (by decide) (by decide) (show _ = some (862 : Int) from rfl) (by decide) (law_value hl9 hx hb hml hown hts hX hNc hXs hbl hbA hi6 hL (by omega) (by omega) hLs hW hS hl kk)
      | 11, _ => exact lv_tableIn hx hb (tgt := 970) dL_law_40 (by decide) (by decide) (show _ = some (930 : Int) from rfl) (by decide) (law_valueByAll hl9 hx hb hml hown hts hX hNc hXs hbl hbA hi6 hL (by omega) (by omega) hLs hW hS hl kk)
      | 12, _ => exact lv_tableIn hx hb (tgt := 1038) dL_law_40 (by decide) (by decide) (show _ = some (998 : Int) from rfl) (by decide) (law_vote hl9 hx hb hml hown hts hX hNc hXs hbl hbA hi6 hL (by omega) (by omega) hLs hW hS hl kk)
      | 13, _ => exact lv_tableIn hx hb (tgt := 1106) dL_law_40 (by decide) (by decide) (show _ = some (1066 : Int) from rfl) (by decide) (law_isBanned hl9 hx hb hml hown hts hX hNc hXs hbl hbA hi6 hL (by omega) (by omega) hLs hW hS hl kk)
      | 14, _ => exact lv_tableIn hx hb (tgt := 1169) dL_law_40 (by decide) (by decide) (show _ = some (1129 : Int) from rfl) (by decide) (law_endless hl9 hx hb hml hown hts hX hNc hXs hbl hbA hi6 hL (by omega) (by omega) hLs hW hS hl kk)
      | 15, _ => exact lv_tableIn hx hb (tgt := 1225) dL_law_40 (by decide) (by decide) (show _ = some (1185 : Int) from rfl) (by decide) (law_points hl9 hx hb hml hown hts hX hNc hXs hbl hbA hi6 hL (by omega) (by omega) hLs hW hS hl kk)
      | k + 16, h => exact absurd h (by omega)

set_option maxHeartbeats 4000000 in
set_option maxRecDepth 100000 in
/-- from the entry, for every script of at most 3072 ints, the law comes to its end with true -/
theorem whole_start {p : Program} {e : Env} {s : State} {m : MethodId} {below : List Frame} {meth : Method} {c : Code} (l : Launch) (hflags : l.flags = flags0) {b L : Nat} {xs : Nat → Int32} (hL : L ≤ 3072) (C0 : lw_At p s m meth c b L xs) : W p l e room_1 s m #[Value.ref b] below meth c s.heap [] 0 0 (lw_Z below #[Value.ref b] s) (entryFrame m ([Value.ref b] : List Value).toArray 7) := by
  obtain ⟨hx, hb, hr, hml, hown, hts0, hXs, hbl, hlocks, hgv⟩ := C0
  have hl9 : l.stackTraces = false := by simp [Launch.stackTraces, hflags, flags0]
  obtain ⟨G, hG, hX, hNc⟩ := x_begin9 hts0 hgv
  have hts : ∀ w ∈ wsL_law, w.before #[Value.ref b] s = true := fun w hw => hts0 w (wsL_law_in w hw)
  have hbA : ¬ xA G b := by unfold xA; rw [hG]; exact Nat.not_le.mpr hbl
  have hS : va_S (xA G) s.heap s.heap [] := va_S.rf
  have hcl8 := hts (Cond.classLink RL 8 RX4) (by decide +kernel)
  have hinX4 := hts (Cond.instantiable RX4 6) (by decide +kernel)
  have hiniRX4 := hts (Cond.initialized RX4) (by decide +kernel)
  have hiX4 : ∀ w ∈ u_ws RX4 TX4 6, w ∈ wsL_law := by decide +kernel
  have hml71 := hts (Cond.methodLink RL 71 yX4_init) (by decide +kernel)
  have himX4_init := hts (Cond.instanceMethod yX4_init) (by decide +kernel)
  have hcl72 := hts (Cond.classLink RL 72 RX5) (by decide +kernel)
  have hinX5 := hts (Cond.instantiable RX5 20) (by decide +kernel)
  have hiniRX5 := hts (Cond.initialized RX5) (by decide +kernel)
  have hiX5 : ∀ w ∈ u_ws RX5 TX5 20, w ∈ wsL_law := by decide +kernel
  have hml74 := hts (Cond.methodLink RL 74 yX5_init) (by decide +kernel)
  have himX5_init := hts (Cond.instanceMethod yX5_init) (by decide +kernel)
  have harL := hts (Cond.arrayClass .long) (by decide +kernel)
  have hl := lv_entry ([.ref b]) (n := 7) (Nat.le_of_ble_eq_true rfl)
  rw [lg_entry_eq]
  generalize (lg_sl ([.ref b]) ++ List.replicate (7 - (lg_sl ([.ref b])).length) Slot.unset).toArray = ls at hl ⊢
  have hl : lv_has ls 7 [(0, .ref b)] := hl
  obtain ⟨H, hH⟩ : ∃ z, z = s.heap := ⟨_, rfl⟩
  have hS : va_S (xA G) s.heap H [] := by rw [hH]; exact hS
  rw [← hH]
  obtain ⟨E, hE0⟩ : ∃ z : xE, z = fun _ => none := ⟨_, rfl⟩
  have hW : xW G E H := ⟨by rw [hG, hH]; exact Nat.le_refl _, fun a e9 h9 => by rw [hE0] at h9; cases h9⟩
  refine x_new (G := G) (ci := 4) (fs := [.null, .null, .null, .int 0, .int 0, .int 0]) (C := RX4) (T := TX4) (N := 6) hx hb hts hiX4 tyX4 tyX4_ok hown hcl8 hinX4 hiniRX4 hX.1 hW hS rfl (fun j hj => by rcases (show j = 0 ∨ j = 1 ∨ j = 2 ∨ j = 3 ∨ j = 4 ∨ j = 5 by omega) with rfl | rfl | rfl | rfl | rfl | rfl <;> rfl) (Nat.le_of_ble_eq_true rfl) (Nat.le_of_ble_eq_true rfl) dL_law_0 (fun q1 H1 hqq1 hzq1 hW1 hS1 => ?_)
  have hnoq1 : E q1 = none := by rw [hqq1]; exact hW.new
  have hltq1 : G.2.2 ≤ q1 := by rw [hqq1]; exact hW.1
  have hW := hW1
  have hS := hS1
  generalize H1 = H at hW hS ⊢
  obtain ⟨E2, eE2⟩ : ∃ z, z = xU E q1 (.inr (4, [.null, .null, .null, .int 0, .int 0, .int 0])) := ⟨_, rfl⟩
  have hW : xW G E2 H := by rw [eE2]; exact hW
  have hnq19 : E2 q1 = some (.inr (4, [.null, .null, .null, .int 0, .int 0, .int 0])) := by rw [eE2]; exact xU_self _ _ _
  refine lv_dup hx hb dL_law_3 rfl ?_
  refine va_callv (va_runI (As := []) (rest := [.ref q1]) ⟨hx, hb, hml, hown, hts⟩ (kX4_init l G _ q1 hnq19) (cwI 0 hts gL_law_X4_init rfl rfl rfl hiniRX4 hml71 himX4_init rfl (by decide +kernel) ⟨Nat.le_of_ble_eq_true rfl, Nat.le_of_ble_eq_true rfl⟩) (x_preS hX hS hW) rfl rfl hl.1 rfl (lv_room (Nat.le_of_ble_eq_true rfl)) dL_law_4 ⟨Nat.le_of_ble_eq_true rfl, Nat.le_of_ble_eq_true rfl⟩) hS (fun _ _ h => h) (fun _ h => h) (fun E3 t H1 locs1 ht hvm hw hB hz1 hk1 hS1 => ?_)
  rw [ht] at hB
  have hS := hS1
  have hW : xW G E3 H1 := hB
  obtain ⟨c1, c2, c3, hx0, hx1, hx2, hx3, hFr4⟩ := hw
  refine lv_astore_n (lv' := [(1, .ref q1), (0, .ref b)]) hx hb dL_law_7 rfl hl (by decide) rfl (fun ls hl => ?_)
  refine x_new (G := G) (ci := 5) (fs := [.int 0, .null, .null, .null, .null, .int 0, .null, .null, .null, .null, .int 0, .null, .null, .null, .null, .null, .null, .null, .null, .int 0]) (C := RX5) (T := TX5) (N := 20) hx hb hts hiX5 tyX5 tyX5_ok hown hcl72 hinX5 hiniRX5 hX.1 hW hS rfl (fun j hj => by rcases (show j = 0 ∨ j = 1 ∨ j = 2 ∨ j = 3 ∨ j = 4 ∨ j = 5 ∨ j = 6 ∨ j = 7 ∨ j = 8 ∨ j = 9 ∨ j = 10 ∨ j = 11 ∨ j = 12 ∨ j = 13 ∨ j = 14 ∨ j = 15 ∨ j = 16 ∨ j = 17 ∨ j = 18 ∨ j = 19 by omega) with rfl | rfl | rfl | rfl | rfl | rfl | rfl | rfl | rfl | rfl | rfl | rfl | rfl | rfl | rfl | rfl | rfl | rfl | rfl | rfl <;> rfl) (Nat.le_of_ble_eq_true rfl) (Nat.le_of_ble_eq_true rfl) dL_law_8 (fun q5 H1 hqq5 hzq5 hW1 hS1 => ?_)
  have hne6 : q1 ≠ q5 := by rw [hqq5]; exact Nat.ne_of_lt (hW.lt hx0)
  have hne6' : q5 ≠ q1 := Ne.symm hne6
  have hne7 : c1 ≠ q5 := by rw [hqq5]; exact Nat.ne_of_lt (hW.lt hx1)
  have hne7' : q5 ≠ c1 := Ne.symm hne7
  have hne8 : c2 ≠ q5 := by rw [hqq5]; exact Nat.ne_of_lt (hW.lt hx2)
  have hne8' : q5 ≠ c2 := Ne.symm hne8
  have hne9 : c3 ≠ q5 := by rw [hqq5]; exact Nat.ne_of_lt (hW.lt hx3)
  have hne9' : q5 ≠ c3 := Ne.symm hne9
  have hnoq5 : E3 q5 = none := by rw [hqq5]; exact hW.new
  have hltq5 : G.2.2 ≤ q5 := by rw [hqq5]; exact hW.1
  have hW := hW1
  have hS := hS1
  generalize H1 = H at hW hS ⊢
  obtain ⟨E10, eE10⟩ : ∃ z, z = xU E3 q5 (.inr (5, [.int 0, .null, .null, .null, .null, .int 0, .null, .null, .null, .null, .int 0, .null, .null, .null, .null, .null, .null, .null, .null, .int 0])) := ⟨_, rfl⟩
  have hW : xW G E10 H := by rw [eE10]; exact hW
  have hx09 : E10 q1 = some (.inr (4, [.ref c1, .ref c2, .ref c3, .int 0, .int 0, .int 0])) := by rw [eE10]; exact (xU_ne _ _ hne6).trans hx0
  have hx19 : E10 c1 = some (.inl (G.2.1 2, 8, .inr (.inr (.inr (.inr (fun _ => none)))))) := by rw [eE10]; exact (xU_ne _ _ hne7).trans hx1
  have hx29 : E10 c2 = some (.inl (G.2.1 3, 4, .inr (.inr (.inr (.inr (fun _ => none)))))) := by rw [eE10]; exact (xU_ne _ _ hne8).trans hx2
  have hx39 : E10 c3 = some (.inl (G.2.1 4, 12, .inr (.inr (.inr (.inr (fun _ => none)))))) := by rw [eE10]; exact (xU_ne _ _ hne9).trans hx3
  have hnq59 : E10 q5 = some (.inr (5, [.int 0, .null, .null, .null, .null, .int 0, .null, .null, .null, .null, .int 0, .null, .null, .null, .null, .null, .null, .null, .null, .int 0])) := by rw [eE10]; exact xU_self _ _ _
  refine lv_dup hx hb dL_law_11 rfl ?_
  refine va_callv (va_runI (As := []) (rest := [.ref q5]) ⟨hx, hb, hml, hown, hts⟩ (kX5_init l G _ q5 hnq59) (cwI 0 hts gL_law_X5_init rfl rfl rfl hiniRX5 hml74 himX5_init rfl (by decide +kernel) ⟨Nat.le_of_ble_eq_true rfl, Nat.le_of_ble_eq_true rfl⟩) (x_preS hX hS hW) rfl rfl hl.1 rfl (lv_room (Nat.le_of_ble_eq_true rfl)) dL_law_12 ⟨Nat.le_of_ble_eq_true rfl, Nat.le_of_ble_eq_true rfl⟩) hS (fun _ _ h => h) (fun _ h => h) (fun E11 t H1 locs1 ht hvm hw hB hz1 hk1 hS1 => ?_)
  rw [ht] at hB
  have hS := hS1
  have hW : xW G E11 H1 := hB
  obtain ⟨⟨A, hM, hA, hA19⟩, hFr5⟩ := hw
  have hyq1 : E11 q1 = some (.inr (4, [.ref c1, .ref c2, .ref c3, .int 0, .int 0, .int 0])) := hFr5 _ _ hx09 rfl
  have hyc1 : E11 c1 = some (.inl (G.2.1 2, 8, .inr (.inr (.inr (.inr (fun _ => none)))))) := hFr5 _ _ hx19 rfl
  have hyc2 : E11 c2 = some (.inl (G.2.1 3, 4, .inr (.inr (.inr (.inr (fun _ => none)))))) := hFr5 _ _ hx29 rfl
  have hyc3 : E11 c3 = some (.inl (G.2.1 4, 12, .inr (.inr (.inr (.inr (fun _ => none)))))) := hFr5 _ _ hx39 rfl
  refine lv_astore_n (lv' := [(2, .ref q5), (1, .ref q1), (0, .ref b)]) hx hb dL_law_15 rfl hl (by decide) rfl (fun ls hl => ?_)
  refine lv_iconst (v := 1) hx hb dL_law_16 (by decide) ?_
  refine x_newL (G := G) (N' := 1) hx hb harL hX.1 hW hS (by decide) (by decide) (by decide) (Nat.le_of_ble_eq_true rfl) (Nat.le_of_ble_eq_true rfl) dL_law_17 (fun q13 H1 hqq13 hzq13 hW1 hS1 => ?_)
  have hne14 : q1 ≠ q13 := by rw [hqq13]; exact Nat.ne_of_lt (hW.lt hyq1)
  have hne14' : q13 ≠ q1 := Ne.symm hne14
  have hne15 : c1 ≠ q13 := by rw [hqq13]; exact Nat.ne_of_lt (hW.lt hyc1)
  have hne15' : q13 ≠ c1 := Ne.symm hne15
  have hne16 : c2 ≠ q13 := by rw [hqq13]; exact Nat.ne_of_lt (hW.lt hyc2)
  have hne16' : q13 ≠ c2 := Ne.symm hne16
  have hne17 : c3 ≠ q13 := by rw [hqq13]; exact Nat.ne_of_lt (hW.lt hyc3)
  have hne17' : q13 ≠ c3 := Ne.symm hne17
  have hnoq13 : E11 q13 = none := by rw [hqq13]; exact hW.new
  have hltq13 : G.2.2 ≤ q13 := by rw [hqq13]; exact hW.1
  have hW := hW1
  have hS := hS1
  generalize H1 = H at hW hS ⊢
  obtain ⟨E18, eE18⟩ : ∃ z, z = xU E11 q13 (.inl (G.2.1 1, 1, .inr (.inl (fun _ => 0)))) := ⟨_, rfl⟩
  have hW : xW G E18 H := by rw [eE18]; exact hW
  have hyq19 : E18 q1 = some (.inr (4, [.ref c1, .ref c2, .ref c3, .int 0, .int 0, .int 0])) := by rw [eE18]; exact (xU_ne _ _ hne14).trans hyq1
  have hyc19 : E18 c1 = some (.inl (G.2.1 2, 8, .inr (.inr (.inr (.inr (fun _ => none)))))) := by rw [eE18]; exact (xU_ne _ _ hne15).trans hyc1
  have hyc29 : E18 c2 = some (.inl (G.2.1 3, 4, .inr (.inr (.inr (.inr (fun _ => none)))))) := by rw [eE18]; exact (xU_ne _ _ hne16).trans hyc2
  have hyc39 : E18 c3 = some (.inl (G.2.1 4, 12, .inr (.inr (.inr (.inr (fun _ => none)))))) := by rw [eE18]; exact (xU_ne _ _ hne17).trans hyc3
  have hnq139 : E18 q13 = some (.inl (G.2.1 1, 1, .inr (.inl (fun _ => 0)))) := by rw [eE18]; exact xU_self _ _ _
  refine lv_astore_n (lv' := [(3, .ref q13), (2, .ref q5), (1, .ref q1), (0, .ref b)]) hx hb dL_law_19 rfl hl (by decide) rfl (fun ls hl => ?_)
  refine lv_iconst (v := 0) hx hb dL_law_20 (by decide) ?_
  refine lv_istore (lv' := [(4, .int 0), (3, .ref q13), (2, .ref q5), (1, .ref q1), (0, .ref b)]) hx hb dL_law_21 hl (by decide) rfl (fun ls hl => ?_)
  have hFo : xFr tO E11 E18 := by rw [eE18]; exact xFr_new xFr_rf hnoq13 _
  have hCls : xCls G E18 q1 c1 c2 c3 (fun _ => none) (fun _ => none) (fun _ => none) (fun _ => 0) 0 0 0 (fun _ _ => 0) := ⟨hyq19, rfl, rfl, rfl, ⟨hyc19, by omega, fun _ _ => rfl, fun _ h => absurd h (Nat.not_lt_zero _)⟩, ⟨hyc29, by omega, fun _ _ => rfl, fun _ h => absurd h (Nat.not_lt_zero _), fun _ _ _ h => (by cases h)⟩, ⟨hyc39, by omega, fun _ _ => rfl, fun _ h => absurd h (Nat.not_lt_zero _), fun _ _ _ h => (by cases h), fun _ _ h => absurd h (Nat.not_lt_zero _)⟩⟩
  have hInv : xInv (fun _ _ => 0) 0 0 0 := ⟨fun _ h => absurd h (Nat.not_lt_zero _), fun _ h => absurd h (Nat.not_lt_zero _), fun _ _ => ⟨rfl, rfl⟩, fun _ h => absurd h (Nat.not_lt_zero _)⟩
  exact law_loop hl9 hx hb hr hlocks hml hown hts hX hNc hG hXs hbl hbA hL 512 0 _ _ _ _ ls E18 (by omega) (by omega) (by decide) (by decide) ⟨_, _, _, ⟨c1, c2, c3, _, _, _, _, 0, 0, 0, hCls, hInv⟩, ⟨A, hM.frO hFo, hA, hA19⟩, hnq139⟩ hW hS (lv_sub hl [4, 3, 2, 1, 0] rfl)

set_option maxHeartbeats 4000000 in
theorem lw_walk (l : Launch) (hflags : l.flags = flags0) (b : Addr) (xs : List Int32) : MetFree l x (headSpec (Jvm.Cond.code x code maxLocals ret :: tables_1) room_1) (lw_P b xs) (fun _ _ _ _ _ => True) lw_Q := by
  refine MetFree.of_bodyS (code := code) (maxLocals := maxLocals) (ret := ret) (by decide) ?_ ?_
  · intro args s m h hn
    obtain ⟨meth, c, h1, h2, h3, h4, h5, h6, -, -⟩ := Cond.code_spec hn (atoms_spec (ws := Jvm.Cond.code x code maxLocals ret :: tables_1) h _ List.mem_cons_self)
    exact ⟨meth, c, h1, h2, h3, h4, h5, h6⟩
  · intro p e s m args below meth c s₁ B hml0 hP _
    obtain ⟨rfl, hx, hbd, hgv⟩ := hP
    obtain ⟨scr, harrAt, hlist, hof, hsmall⟩ := hx
    obtain ⟨hcb, hkn, -, -⟩ := State.arrayAt?_spec harrAt
    have hown : s.vm.findClass R_law = some m.cls := findClass_of_methodNamed B.named
    have hts0 : ∀ c ∈ (Jvm.Cond.code x code maxLocals ret :: tables_1), c.before #[Value.ref b] s = true := atoms_spec (ws := Jvm.Cond.code x code maxLocals ret :: tables_1) B.pre
    have hts : ∀ w ∈ lw_tbl, w.before #[Value.ref b] s = true := k2_hts_sels lw_privs (fun w hw => hts0 w (List.mem_cons_of_mem _ hw)) lw_privs_ok
    have hml : c.maxLocals = 7 := B.maxLocals_eq (hts0 _ List.mem_cons_self)
    have X₀ : Stand p l e room_1 s m #[Value.ref b] below meth c s₁ [] 0 0 := Stand.of_body B
    have hh0 : s₁.heap = s.heap := by rw [B.state]; rfl
    have hsz : scr.slots.size = xs.length := by rw [← Array.length_toList, hlist, List.length_map]
    have hval : ∀ j : Nat, j < xs.length → scr.slots[j]? = some (.int (xs.getD j 0)) := fun j hj => by
      rw [← Array.getElem?_toList, hlist]
      simp [hj]
    have hbl : b < s.heap.size := (Array.getElem?_eq_some_iff.mp hcb).1
    have hX : va_X b xs.length (fun j => xs.getD j 0) s s.heap := ⟨scr, hcb, hof, hkn, hsz, hval⟩
    have K : W p l e room_1 s m #[Value.ref b] below meth c s₁.heap [] 0 0 (lw_Z below #[Value.ref b] s) (entryFrame m ([Value.ref b] : List Value).toArray 7) := by
      rw [hh0]
      exact whole_start l hflags hbd ⟨B.exec, B.bytes, B.returns, hml, hown, hts, hX, hbl, B.notSynchronized, hgv⟩
    obtain ⟨t, a1, o, b1, b2, b3⟩ := K s₁ rfl X₀
    exact ⟨t, o, a1, b1, b2, b3⟩
theorem lw_pre_spec {args : Array Value} {s : State} (h : (Jvm.Cond.and given_1 narrow_1).before args s = true) (hr : rest_1_c.before args s = true) : ∃ (b : Addr) (xs : List Int32), lw_P b xs args s := by
  have hs := flat_of_before _ h
  have hq := flat_of_before _ hr
  have hc : (Cond.count 1).before args s = true := hs _ (by decide +kernel)
  have harr : (Cond.arrayOf (.arg 0) .int).before args s = true := hs _ (by decide +kernel)
  have hle : (Cond.le (.length (.arg 0)) (.int 3072)).before args s = true := hs _ (by decide +kernel)
  have hlen : (Cond.isInt (.length (.arg 0))).before args s = true := hq _ (by decide +kernel)
  have hall : (Cond.all (.arg 0) (.isInt (.elem (.arg 0) (.index 0)))).before args s = true := hq _ (by decide +kernel)
  obtain ⟨b, xs, hb, hx⟩ := State.ints_of_pre rfl harr hlen hall
  have hsm : xs.length < 2 ^ 31 := hx.choose_spec.2.2.2
  have hev : (Term.length (.arg 0)).eval args s none [] s = some (.int xs.length.toInt32) := hx.length_eval hb
  have hv := Cond.le_ints hev (show (Term.int 3072).eval args s none [] s = some (.int 3072) from rfl)
  have hd : xs.length.toInt32 ≤ 3072 := by
    simpa [Cond.before, Cond.holds, hv] using hle
  have hN : xs.length ≤ 3072 := (Int32.ofNat_le_ofNat hsm (by decide)).mp (show Int32.ofNat xs.length ≤ Int32.ofNat 3072 from hd)
  exact ⟨b, xs, Cond.one_arg hc (show args[0]? = some (.ref b) from hb), hx, hN, h⟩
theorem lw_comes (l : Launch) (hflags : l.flags = flags0) : Comes l x (Jvm.Cond.code x code maxLocals ret :: tables_1) room_1 (fun tb e args s => Calls_1 tb e args s ∧ rest_1 tb e args s ∧ Pre_1 tb e args s)
    (fun _ _ args s o t => lw_Q args s o t) := by
  intro p e ha hc hk s m args below hf hfit hheap happ hpre
  obtain ⟨b, xs, hP⟩ := lw_pre_spec hpre.2.2 hpre.2.1
  obtain ⟨k, o, h1, h2, h3, hQ⟩ := lw_walk l hflags b xs p e ha hc hk s m args below hf ((Spec.applies_iff_loose hf).mp happ).1 hP trivial
  exact ⟨k, o, h1, h2, h3, hQ⟩
theorem lw_frame {s t : State} {o : Outcome} {args : Array Value} (h : Framed s o t [] 601024 7293034) :
    Framed s o t (fieldLocs frame_1_writes args s ++ arrayLocs frame_1_arrays args s ++ staticLocs frame_1_statics s) 601024 7293034 := h
theorem lw_limb (L : Cond) (hL : ∀ (args : Array Value) (s t : State), L.after args s (.returned (some (.int 1))) t = true) :
    ArmFor flags0 classFile x code maxLocals ret World_1 tables_1 room_1 Calls_1 rest_1 Pre_1
      (fun tb e a s o t => postC L tb e a s o t ∧ Framed s o t (fieldLocs frame_1_writes a s ++ arrayLocs frame_1_arrays a s ++ staticLocs frame_1_statics s) 601024 7293034) := by
  intro l hflags _ _ p e ha hc hk s m args below hf hfit hheap happ hpre
  obtain ⟨k, o, h1, h2, h3, rfl, hF⟩ := lw_comes l hflags p e ha hc hk s m args below hf hfit hheap happ hpre
  exact ⟨k, _, h1, h2, h3, hL args s _, lw_frame hF⟩
theorem i_vc : Claimed_1_1 ∧ Claimed_1_2 := ⟨lw_limb limb_1_1 (fun args s t => by simp [limb_1_1, Cond.after, Cond.holds, Cond.value]), lw_limb limb_1_2 (fun args s t => Cond.after_iff.mpr (by
  first | (rw [show limb_1_2 = Cond.eq .result (.int 1) from rfl, Cond.eq_ints (x := 1) (y := 1) rfl rfl]; simp; done) | (simp [limb_1_2, Cond.value, Term.eval]; done)))⟩
