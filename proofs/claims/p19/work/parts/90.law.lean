theorem x_arrP {args : Array Value} {s : State} {ty : FieldType} (h : (Cond.arrayClass ty).before args s = true) : ∃ cA, ArrOfT s cA ty ∧ s.vm.findClass ("[" ++ ty.toString) = some cA := by
  obtain ⟨c, k, comp, h1, h2, h3⟩ := Cond.arrayClass_spec h
  exact ⟨c, fun n z => ⟨fun k h => (by cases h), k, h2, comp, h3⟩, h1⟩
theorem x_arrO {args : Array Value} {s : State} {C : String} (h : (Cond.arrayOver (.object C)).before args s = true) : ∃ cA, ArrOfT s cA (.object C) ∧ va_RA s cA (.object C) := by
  obtain ⟨comp, c, k, f1, f2, f3, f4, f5⟩ := Cond.arrayOver_spec h
  exact ⟨c, fun N z => ⟨fun k h => (by cases h), k, f3, comp, f4⟩, k, comp, f3, f4, f1, f5⟩

set_option maxHeartbeats 4000000 in
set_option maxRecDepth 100000 in
theorem x_begin9 {s : State} {b : Nat} (hts : ∀ w ∈ lw_tbl, w.before #[Value.ref b] s = true) (hgv : (Jvm.Cond.and given_1 narrow_1).before #[Value.ref b] s = true) : ∃ G : xG, G.2.2 = s.heap.size ∧ xS G s ∧ xNc s := by
  have hg := flat_of_before _ hgv
  obtain ⟨c0, i0, k0⟩ := u_known (C := RX0) (T := TX0) (N := 4) (n := 4) hts (by decide +kernel) (hts (.instantiable RX0 4) (by decide +kernel))
  obtain ⟨c1, i1, k1⟩ := u_known (C := RX1) (T := TX1) (N := 9) (n := 9) hts (by decide +kernel) (hts (.instantiable RX1 9) (by decide +kernel))
  obtain ⟨c2, i2, k2⟩ := u_known (C := RX2) (T := TX2) (N := 3) (n := 3) hts (by decide +kernel) (hts (.instantiable RX2 3) (by decide +kernel))
  obtain ⟨c3, i3, k3⟩ := u_known (C := RX3) (T := TX3) (N := 3) (n := 3) hts (by decide +kernel) (hts (.instantiable RX3 3) (by decide +kernel))
  obtain ⟨c4, i4, k4⟩ := u_known (C := RX4) (T := TX4) (N := 6) (n := 6) hts (by decide +kernel) (hts (.instantiable RX4 6) (by decide +kernel))
  obtain ⟨a0, A0, B0⟩ := x_arrP (hts (.arrayClass .int) (by decide +kernel))
  obtain ⟨a1, A1, B1⟩ := x_arrP (hts (.arrayClass .long) (by decide +kernel))
  obtain ⟨a2, A2, B2⟩ := x_arrO (C := RX0) (hts (.arrayOver (.object RX0)) (by decide +kernel))
  obtain ⟨a3, A3, B3⟩ := x_arrO (C := RX3) (hts (.arrayOver (.object RX3)) (by decide +kernel))
  obtain ⟨a4, A4, B4⟩ := x_arrO (C := RX1) (hts (.arrayOver (.object RX1)) (by decide +kernel))
  refine ⟨((fun k => [c0, c1, c2, c3, c4].getD k c0, fun k => [i0, i1, i2, i3, i4].getD k i0), (fun k => [a0, a1, a2, a3, a4].getD k a0), s.heap.size), rfl, ⟨⟨?_, ?_⟩, ?_, ?_, ?_, ?_, ?_, ?_, ?_, ?_⟩, ?_⟩
  · intro k q hq
    match k, hq with
    | 0, hq => cases hq; exact k0
    | 1, hq => cases hq; exact k1
    | 2, hq => cases hq; exact k2
    | 3, hq => cases hq; exact k3
    | 4, hq => cases hq; exact k4
    | k + 5, hq => simp [vwCl] at hq
  · intro k q hq
    match k, hq with
    | 0, hq => cases hq; exact ⟨A0, B0⟩
    | 1, hq => cases hq; exact ⟨A1, B1⟩
    | 2, hq => cases hq; exact ⟨A2, B2⟩
    | 3, hq => cases hq; exact ⟨A3, B3⟩
    | 4, hq => cases hq; exact ⟨A4, B4⟩
    | k + 5, hq => simp [xtys] at hq
  · exact ⟨va_Nw.of rfl (hts (.methodLinkNest RX2 29 yX4_isIn RX4) (by decide +kernel)), va_Nw.of rfl (hts (.methodLinkNest RX0 28 yX4_cellAhead RX4) (by decide +kernel)), va_Nw.of rfl (hts (.methodLinkNest RX0 32 yX4_isIn RX4) (by decide +kernel)), va_Nw.of rfl (hts (.methodLinkNest RX1 57 yX4_isIn RX4) (by decide +kernel)), va_Nw.of rfl (hts (.methodLinkNest RX1 67 yX4_moved RX4) (by decide +kernel))⟩
  · exact vx_Zqof (hts (.laysStatic Bundle.tN "UNASSIGNED_STACK" Bundle.steD) (by decide +kernel)) (hts (.initialized Bundle.tN) (by decide +kernel)) (hg (.isRef (.static Bundle.tN "UNASSIGNED_STACK" Bundle.steD)) (by decide +kernel)) (fun a ha h9 => absurd ha (Nat.not_lt.mpr h9))
  · exact vx_Zqof (hts (.laysStatic Bundle.tN "SUPPRESSED_SENTINEL" Bundle.listD) (by decide +kernel)) (hts (.initialized Bundle.tN) (by decide +kernel)) (hg (.isRef (.static Bundle.tN "SUPPRESSED_SENTINEL" Bundle.listD)) (by decide +kernel)) (fun a ha h9 => absurd ha (Nat.not_lt.mpr h9))
  · intro w hw
    have hm : w ∈ lw_tbl := (show ∀ w ∈ xBad, w ∈ lw_tbl by decide +kernel) w hw
    have h9 := hts w hm
    simp only [xBad, List.mem_cons, List.not_mem_nil, or_false] at hw
    rcases hw with rfl | rfl | rfl | rfl | rfl | rfl <;> exact va_Nw.of rfl h9
  · intro q hq
    have hm : Cond.stringRef RX4 q.1 q.2 ∈ lw_tbl := (show ∀ q ∈ xStr, Cond.stringRef RX4 q.1 q.2 ∈ lw_tbl by decide +kernel) q hq
    obtain ⟨k, cf, i, a, -, -, -, -, -, h6⟩ := Cond.stringRef_spec (show s.vm.findClass RX4 = some c4 from k4.2.1) (hts _ hm)
    exact ⟨a, vk_R.of (hts _ hm) h6⟩
  · exact va_AO.of (hts (.arrayOver (.object RX0)) (by decide +kernel))
  · exact va_AO.of (hts (.arrayOver (.object RX3)) (by decide +kernel))
  · exact va_AO.of (hts (.arrayOver (.object RX1)) (by decide +kernel))
  · exact ⟨va_Nc.of (hg (.not (.castable "java/lang/IllegalStateException" "java/lang/IllegalArgumentException")) (by decide +kernel)), va_Nc.of (hg (.not (.castable "java/lang/IllegalArgumentException" "java/lang/IndexOutOfBoundsException")) (by decide +kernel)), va_Nc.of (hg (.not (.castable "java/lang/IllegalStateException" "java/lang/IndexOutOfBoundsException")) (by decide +kernel))⟩

theorem p_I0 : pI (fun _ _ => 0) 0 0 0 := ⟨⟨fun _ h => absurd h (Nat.not_lt_zero _), fun _ h => absurd h (Nat.not_lt_zero _), fun _ _ => ⟨rfl, rfl⟩, fun _ h => absurd h (Nat.not_lt_zero _)⟩, fun _ h => absurd h (Nat.not_lt_zero _), fun _ h => absurd h (Nat.not_lt_zero _), fun _ h => absurd h (Nat.not_lt_zero _), Nat.le_refl _, fun _ h => absurd h (Nat.not_lt_zero _)⟩
theorem gF_000 : gF 0 0 0 = fun _ => (0 : Int32) := by
  funext k
  unfold gF
  split
  · rfl
  · split
    · rfl
    · split <;> rfl

set_option maxHeartbeats 4000000 in
set_option maxRecDepth 100000 in
/-- from the entry, for every script of at most 260 ints, the law comes to its end with true -/
theorem whole_start {p : Program} {e : Env} {s : State} {m : MethodId} {below : List Frame} {meth : Method} {c : Code} (l : Launch) (hflags : l.flags = flags0) {b L : Nat} {xs : Nat → Int32} (hL : L ≤ 260) (C0 : lw_At p s m meth c b L xs) : W p l e room_1 s m #[Value.ref b] below meth c s.heap [] 0 0 (lw_Z below #[Value.ref b] s) (entryFrame m ([Value.ref b] : List Value).toArray 10) := by
  obtain ⟨hx, hb, hr, hml, hown, hts0, hXs, hbl, hlocks, hgv⟩ := C0
  have hl9 : l.stackTraces = false := by simp [Launch.stackTraces, hflags, flags0]
  obtain ⟨G, hG, hX, hNc⟩ := x_begin9 hts0 hgv
  have hts : ∀ w ∈ wsL_law, w.before #[Value.ref b] s = true := fun w hw => hts0 w (wsL_law_in w hw)
  have hbA : ¬ xA G b := by unfold xA; rw [hG]; exact Nat.not_le.mpr hbl
  have hS : va_S (xA G) s.heap s.heap [] := va_S.rf
  have hcl21 := hts (Cond.classLink RL 21 RX4) (by decide +kernel)
  have hinX4 := hts (Cond.instantiable RX4 6) (by decide +kernel)
  have hiniRX4 := hts (Cond.initialized RX4) (by decide +kernel)
  have hiX4 : ∀ w ∈ u_ws RX4 TX4 6, w ∈ wsL_law := by decide +kernel
  have hml106 := hts (Cond.methodLink RL 106 yX4_init) (by decide +kernel)
  have himX4_init := hts (Cond.instanceMethod yX4_init) (by decide +kernel)
  have harI := hts (Cond.arrayClass .int) (by decide +kernel)
  have hl := lv_entry ([.ref b]) (n := 10) (Nat.le_of_ble_eq_true rfl)
  rw [lg_entry_eq]
  generalize (lg_sl ([.ref b]) ++ List.replicate (10 - (lg_sl ([.ref b])).length) Slot.unset).toArray = ls at hl ⊢
  have hl : lv_has ls 10 [(0, .ref b)] := hl
  obtain ⟨H, hH⟩ : ∃ z, z = s.heap := ⟨_, rfl⟩
  have hS : va_S (xA G) s.heap H [] := by rw [hH]; exact hS
  rw [← hH]
  obtain ⟨E, hE0⟩ : ∃ z : xE, z = fun _ => none := ⟨_, rfl⟩
  have hW : xW G E H := ⟨by rw [hG, hH]; exact Nat.le_refl _, fun a e9 h9 => by rw [hE0] at h9; cases h9⟩
  refine x_new (G := G) (ci := 4) (fs := [.null, .null, .null, .int 0, .int 0, .int 0]) (C := RX4) (T := TX4) (N := 6) hx hb hts hiX4 tyX4 tyX4_ok hown hcl21 hinX4 hiniRX4 hX.1 hW hS rfl (fun j hj => by rcases (show j = 0 ∨ j = 1 ∨ j = 2 ∨ j = 3 ∨ j = 4 ∨ j = 5 by omega) with rfl | rfl | rfl | rfl | rfl | rfl <;> rfl) (Nat.le_of_ble_eq_true rfl) (Nat.le_of_ble_eq_true rfl) dL_law_0 (fun q1 H1 hqq1 hzq1 hW1 hS1 => ?_)
  have hnoq1 : E q1 = none := by rw [hqq1]; exact hW.new
  have hltq1 : G.2.2 ≤ q1 := by rw [hqq1]; exact hW.1
  have hW := hW1
  have hS := hS1
  generalize H1 = H at hW hS ⊢
  obtain ⟨E2, eE2⟩ : ∃ z, z = xU E q1 (.inr (4, [.null, .null, .null, .int 0, .int 0, .int 0])) := ⟨_, rfl⟩
  have hW : xW G E2 H := by rw [eE2]; exact hW
  have hnq19 : E2 q1 = some (.inr (4, [.null, .null, .null, .int 0, .int 0, .int 0])) := by rw [eE2]; exact xU_self _ _ _
  refine lv_dup hx hb dL_law_3 rfl ?_
  refine va_callv (va_runI (As := []) (rest := [.ref q1]) ⟨hx, hb, hml, hown, hts⟩ (kX4_init l G _ q1 hnq19) (cwI 0 hts gL_law_X4_init rfl rfl rfl hiniRX4 hml106 himX4_init rfl (by decide +kernel) ⟨Nat.le_of_ble_eq_true rfl, Nat.le_of_ble_eq_true rfl⟩) (x_preS hX hS hW) rfl rfl hl.1 rfl (lv_room (Nat.le_of_ble_eq_true rfl)) dL_law_4 ⟨Nat.le_of_ble_eq_true rfl, Nat.le_of_ble_eq_true rfl⟩) hS (fun _ _ h => h) (fun _ h => h) (fun E3 t H1 locs1 ht hvm hw hB hz1 hk1 hS1 => ?_)
  rw [ht] at hB
  have hS := hS1
  have hW : xW G E3 H1 := hB
  obtain ⟨c1, c2, c3, hx0, hx1, hx2, hx3, hFr4⟩ := hw
  refine lv_astore_n (lv' := [(1, .ref q1), (0, .ref b)]) hx hb dL_law_7 rfl hl (by decide) rfl (fun ls hl => ?_)
  refine lv_iconst (v := 3) hx hb dL_law_8 (by decide) ?_
  refine x_newI (G := G) (N' := 3) hx hb harI hX.1 hW hS (by decide) (by decide) (by decide) (Nat.le_of_ble_eq_true rfl) (Nat.le_of_ble_eq_true rfl) dL_law_9 (fun q5 H1 hqq5 hzq5 hW1 hS1 => ?_)
  have hne6 : q1 ≠ q5 := by rw [hqq5]; exact Nat.ne_of_lt (hW.lt hx0)
  have hne6' : q5 ≠ q1 := Ne.symm hne6
  have hne7 : c1 ≠ q5 := by rw [hqq5]; exact Nat.ne_of_lt (hW.lt hx1)
  have hne7' : q5 ≠ c1 := Ne.symm hne7
  have hne8 : c2 ≠ q5 := by rw [hqq5]; exact Nat.ne_of_lt (hW.lt hx2)
  have hne8' : q5 ≠ c2 := Ne.symm hne8
  have hne9 : c3 ≠ q5 := by rw [hqq5]; exact Nat.ne_of_lt (hW.lt hx3)
  have hne9' : q5 ≠ c3 := Ne.symm hne9
  have hnoq5 : E3 q5 = none := by rw [hqq5]; exact hW.new
  have hltq5 : G.2.2 ≤ q5 := by rw [hqq5]; exact hW.1
  have hW := hW1
  have hS := hS1
  generalize H1 = H at hW hS ⊢
  obtain ⟨E10, eE10⟩ : ∃ z, z = xU E3 q5 (.inl (G.2.1 0, 3, .inl (fun _ => 0))) := ⟨_, rfl⟩
  have hW : xW G E10 H := by rw [eE10]; exact hW
  have hx09 : E10 q1 = some (.inr (4, [.ref c1, .ref c2, .ref c3, .int 0, .int 0, .int 0])) := by rw [eE10]; exact (xU_ne _ _ hne6).trans hx0
  have hx19 : E10 c1 = some (.inl (G.2.1 2, 8, .inr (.inr (.inr (.inr (fun _ => none)))))) := by rw [eE10]; exact (xU_ne _ _ hne7).trans hx1
  have hx29 : E10 c2 = some (.inl (G.2.1 3, 4, .inr (.inr (.inr (.inr (fun _ => none)))))) := by rw [eE10]; exact (xU_ne _ _ hne8).trans hx2
  have hx39 : E10 c3 = some (.inl (G.2.1 4, 12, .inr (.inr (.inr (.inr (fun _ => none)))))) := by rw [eE10]; exact (xU_ne _ _ hne9).trans hx3
  have hnq59 : E10 q5 = some (.inl (G.2.1 0, 3, .inl (fun _ => 0))) := by rw [eE10]; exact xU_self _ _ _
  refine lv_astore_n (lv' := [(2, .ref q5), (1, .ref q1), (0, .ref b)]) hx hb dL_law_11 rfl hl (by decide) rfl (fun ls hl => ?_)
  refine lv_bipush (v := 12) hx hb dL_law_12 (by decide) ?_
  refine x_newI (G := G) (N' := 12) hx hb harI hX.1 hW hS (by decide) (by decide) (by decide) (Nat.le_of_ble_eq_true rfl) (Nat.le_of_ble_eq_true rfl) dL_law_14 (fun q11 H1 hqq11 hzq11 hW1 hS1 => ?_)
  have hne12 : q1 ≠ q11 := by rw [hqq11]; exact Nat.ne_of_lt (hW.lt hx09)
  have hne12' : q11 ≠ q1 := Ne.symm hne12
  have hne13 : c1 ≠ q11 := by rw [hqq11]; exact Nat.ne_of_lt (hW.lt hx19)
  have hne13' : q11 ≠ c1 := Ne.symm hne13
  have hne14 : c2 ≠ q11 := by rw [hqq11]; exact Nat.ne_of_lt (hW.lt hx29)
  have hne14' : q11 ≠ c2 := Ne.symm hne14
  have hne15 : c3 ≠ q11 := by rw [hqq11]; exact Nat.ne_of_lt (hW.lt hx39)
  have hne15' : q11 ≠ c3 := Ne.symm hne15
  have hne16 : q5 ≠ q11 := by rw [hqq11]; exact Nat.ne_of_lt (hW.lt hnq59)
  have hne16' : q11 ≠ q5 := Ne.symm hne16
  have hnoq11 : E10 q11 = none := by rw [hqq11]; exact hW.new
  have hltq11 : G.2.2 ≤ q11 := by rw [hqq11]; exact hW.1
  have hW := hW1
  have hS := hS1
  generalize H1 = H at hW hS ⊢
  obtain ⟨E17, eE17⟩ : ∃ z, z = xU E10 q11 (.inl (G.2.1 0, 12, .inl (fun _ => 0))) := ⟨_, rfl⟩
  have hW : xW G E17 H := by rw [eE17]; exact hW
  have hx099 : E17 q1 = some (.inr (4, [.ref c1, .ref c2, .ref c3, .int 0, .int 0, .int 0])) := by rw [eE17]; exact (xU_ne _ _ hne12).trans hx09
  have hx199 : E17 c1 = some (.inl (G.2.1 2, 8, .inr (.inr (.inr (.inr (fun _ => none)))))) := by rw [eE17]; exact (xU_ne _ _ hne13).trans hx19
  have hx299 : E17 c2 = some (.inl (G.2.1 3, 4, .inr (.inr (.inr (.inr (fun _ => none)))))) := by rw [eE17]; exact (xU_ne _ _ hne14).trans hx29
  have hx399 : E17 c3 = some (.inl (G.2.1 4, 12, .inr (.inr (.inr (.inr (fun _ => none)))))) := by rw [eE17]; exact (xU_ne _ _ hne15).trans hx39
  have hnq599 : E17 q5 = some (.inl (G.2.1 0, 3, .inl (fun _ => 0))) := by rw [eE17]; exact (xU_ne _ _ hne16).trans hnq59
  have hnq119 : E17 q11 = some (.inl (G.2.1 0, 12, .inl (fun _ => 0))) := by rw [eE17]; exact xU_self _ _ _
  refine lv_astore_n (lv' := [(3, .ref q11), (2, .ref q5), (1, .ref q1), (0, .ref b)]) hx hb dL_law_16 rfl hl (by decide) rfl (fun ls hl => ?_)
  have hCls : xCls G E17 q1 c1 c2 c3 (fun _ => none) (fun _ => none) (fun _ => none) (fun _ => 0) 0 0 0 (fun _ _ => 0) := ⟨hx099, rfl, rfl, rfl, ⟨hx199, by omega, fun _ _ => rfl, fun _ h => absurd h (Nat.not_lt_zero _)⟩, ⟨hx299, by omega, fun _ _ => rfl, fun _ h => absurd h (Nat.not_lt_zero _), fun _ _ _ h => (by cases h)⟩, ⟨hx399, by omega, fun _ _ => rfl, fun _ h => absurd h (Nat.not_lt_zero _), fun _ _ _ h => (by cases h), fun _ _ h => absurd h (Nat.not_lt_zero _)⟩⟩
  exact law_go hl9 hx hb hr hlocks hml hown hts hX hNc hG hXs hbl hbA hL _ _ _ _ ls E17 (fun _ _ => 0) 0 0 0 (fun _ => 0) (by decide) (by decide) ⟨⟨c1, c2, c3, _, _, _, _, hCls⟩, p_I0, by rw [gF_000]; exact hnq599, hnq119, fun _ h => absurd h (Nat.not_lt_zero _), hne16'⟩ hW hS (lv_sub hl [3, 2, 1, 0] rfl)

set_option maxHeartbeats 4000000 in
theorem lw_walk (l : Launch) (hflags : l.flags = flags0) (b : Addr) (xs : List Int32) : MetFree l x (headSpec (Jvm.Cond.code x code maxLocals ret :: tables_1) room_1) (lw_P b xs) (fun _ _ _ _ _ => True) lw_Q := by
  refine MetFree.of_bodyS (code := code) (maxLocals := maxLocals) (ret := ret) (by decide) ?_ ?_
  · intro args s m h hn
    obtain ⟨meth, c, h1, h2, h3, h4, h5, h6, -, -⟩ := Cond.code_spec hn (atoms_spec (ws := Jvm.Cond.code x code maxLocals ret :: tables_1) h _ List.mem_cons_self)
    exact ⟨meth, c, h1, h2, h3, h4, h5, h6⟩
  · intro p e s m args below meth c s₁ B hml0 hP _
    obtain ⟨rfl, hx, hbd, hgv⟩ := hP
    obtain ⟨scr, harrAt, hlist, hof, hsmall⟩ := hx
    obtain ⟨hcb, hkn, -, -⟩ := State.arrayAt?_spec harrAt
    have hown : s.vm.findClass R_law = some m.cls := findClass_of_methodNamed B.named
    have hts0 : ∀ c ∈ (Jvm.Cond.code x code maxLocals ret :: tables_1), c.before #[Value.ref b] s = true := atoms_spec (ws := Jvm.Cond.code x code maxLocals ret :: tables_1) B.pre
    have hts : ∀ w ∈ lw_tbl, w.before #[Value.ref b] s = true := k2_hts_sels lw_privs (fun w hw => hts0 w (List.mem_cons_of_mem _ hw)) lw_privs_ok
    have hml : c.maxLocals = 10 := B.maxLocals_eq (hts0 _ List.mem_cons_self)
    have X₀ : Stand p l e room_1 s m #[Value.ref b] below meth c s₁ [] 0 0 := Stand.of_body B
    have hh0 : s₁.heap = s.heap := by rw [B.state]; rfl
    have hsz : scr.slots.size = xs.length := by rw [← Array.length_toList, hlist, List.length_map]
    have hval : ∀ j : Nat, j < xs.length → scr.slots[j]? = some (.int (xs.getD j 0)) := fun j hj => by
      rw [← Array.getElem?_toList, hlist]
      simp [hj]
    have hbl : b < s.heap.size := (Array.getElem?_eq_some_iff.mp hcb).1
    have hX : va_X b xs.length (fun j => xs.getD j 0) s s.heap := ⟨scr, hcb, hof, hkn, hsz, hval⟩
    have K : W p l e room_1 s m #[Value.ref b] below meth c s₁.heap [] 0 0 (lw_Z below #[Value.ref b] s) (entryFrame m ([Value.ref b] : List Value).toArray 10) := by
      rw [hh0]
      exact whole_start l hflags hbd ⟨B.exec, B.bytes, B.returns, hml, hown, hts, hX, hbl, B.notSynchronized, hgv⟩
    obtain ⟨t, a1, o, b1, b2, b3⟩ := K s₁ rfl X₀
    exact ⟨t, o, a1, b1, b2, b3⟩
theorem lw_pre_spec {args : Array Value} {s : State} (h : (Jvm.Cond.and given_1 narrow_1).before args s = true) (hr : rest_1_c.before args s = true) : ∃ (b : Addr) (xs : List Int32), lw_P b xs args s := by
  have hs := flat_of_before _ h
  have hq := flat_of_before _ hr
  have hc : (Cond.count 1).before args s = true := hs _ (by decide +kernel)
  have harr : (Cond.arrayOf (.arg 0) .int).before args s = true := hs _ (by decide +kernel)
  have hle : (Cond.le (.length (.arg 0)) (.int 260)).before args s = true := hs _ (by decide +kernel)
  have hlen : (Cond.isInt (.length (.arg 0))).before args s = true := hq _ (by decide +kernel)
  have hall : (Cond.all (.arg 0) (.isInt (.elem (.arg 0) (.index 0)))).before args s = true := hq _ (by decide +kernel)
  obtain ⟨b, xs, hb, hx⟩ := State.ints_of_pre rfl harr hlen hall
  have hsm : xs.length < 2 ^ 31 := hx.choose_spec.2.2.2
  have hev : (Term.length (.arg 0)).eval args s none [] s = some (.int xs.length.toInt32) := hx.length_eval hb
  have hv := Cond.le_ints hev (show (Term.int 260).eval args s none [] s = some (.int 260) from rfl)
  have hd : xs.length.toInt32 ≤ 260 := by
    simpa [Cond.before, Cond.holds, hv] using hle
  have hN : xs.length ≤ 260 := (Int32.ofNat_le_ofNat hsm (by decide)).mp (show Int32.ofNat xs.length ≤ Int32.ofNat 260 from hd)
  exact ⟨b, xs, Cond.one_arg hc (show args[0]? = some (.ref b) from hb), hx, hN, h⟩
theorem lw_comes (l : Launch) (hflags : l.flags = flags0) : Comes l x (Jvm.Cond.code x code maxLocals ret :: tables_1) room_1 (fun tb e args s => Calls_1 tb e args s ∧ rest_1 tb e args s ∧ Pre_1 tb e args s)
    (fun _ _ args s o t => lw_Q args s o t) := by
  intro p e ha hc hk s m args below hf hfit hheap happ hpre
  obtain ⟨b, xs, hP⟩ := lw_pre_spec hpre.2.2 hpre.2.1
  obtain ⟨k, o, h1, h2, h3, hQ⟩ := lw_walk l hflags b xs p e ha hc hk s m args below hf ((Spec.applies_iff_loose hf).mp happ).1 hP trivial
  exact ⟨k, o, h1, h2, h3, hQ⟩
theorem lw_frame {s t : State} {o : Outcome} {args : Array Value} (h : Framed s o t [] 868585 6495942) :
    Framed s o t (fieldLocs frame_1_writes args s ++ arrayLocs frame_1_arrays args s ++ staticLocs frame_1_statics s) 868585 6495942 := h
theorem lw_limb (L : Cond) (hL : ∀ (args : Array Value) (s t : State), L.after args s (.returned (some (.int 1))) t = true) :
    ArmFor flags0 classFile x code maxLocals ret World_1 tables_1 room_1 Calls_1 rest_1 Pre_1
      (fun tb e a s o t => postC L tb e a s o t ∧ Framed s o t (fieldLocs frame_1_writes a s ++ arrayLocs frame_1_arrays a s ++ staticLocs frame_1_statics s) 868585 6495942) := by
  intro l hflags _ _ p e ha hc hk s m args below hf hfit hheap happ hpre
  obtain ⟨k, o, h1, h2, h3, rfl, hF⟩ := lw_comes l hflags p e ha hc hk s m args below hf hfit hheap happ hpre
  exact ⟨k, _, h1, h2, h3, hL args s _, lw_frame hF⟩
theorem i_vc : Claimed_1_1 ∧ Claimed_1_2 := ⟨lw_limb limb_1_1 (fun args s t => by simp [limb_1_1, Cond.after, Cond.holds, Cond.value]), lw_limb limb_1_2 (fun args s t => Cond.after_iff.mpr (by
  first | (rw [show limb_1_2 = Cond.eq .result (.int 1) from rfl, Cond.eq_ints (x := 1) (y := 1) rfl rfl]; simp; done) | (simp [limb_1_2, Cond.value, Term.eval]; done)))⟩

