/-! what every method of ours is given of the machine: the classes, the private calls between nest mates, the two statics of Throwable, the message texts; and calls over the world -/
def xExc : List String := ["java/lang/IllegalArgumentException", "java/lang/IllegalStateException", "java/lang/IndexOutOfBoundsException"]
def xBad : List Cond := [.castable "java/lang/IllegalArgumentException" "java/lang/IllegalArgumentException", .castable "java/lang/IllegalStateException" "java/lang/IllegalStateException", .castable "java/lang/IndexOutOfBoundsException" "java/lang/IndexOutOfBoundsException", .declares (Bundle.initS "java/lang/RuntimeException"), .declares (Bundle.initS "java/lang/Exception"), .declares (Bundle.initS Bundle.tN)]
theorem xBad_warm {s U : State} (hW : s.WarmedH U.vm) : ∀ w ∈ xBad, va_Nw w s → va_Nw w U := by
  intro w hw h
  simp only [xBad, List.mem_cons, List.not_mem_nil, or_false] at hw
  rcases hw with rfl | rfl | rfl | rfl | rfl | rfl
  · exact va_Nw.warmC hW h
  · exact va_Nw.warmC hW h
  · exact va_Nw.warmC hW h
  · exact va_tabs rfl (rfl : (s.setVm U.vm).vm = U.vm) (by rw [Cond.declares_setVm hW.alike]; exact h)
  · exact va_tabs rfl (rfl : (s.setVm U.vm).vm = U.vm) (by rw [Cond.declares_setVm hW.alike]; exact h)
  · exact va_tabs rfl (rfl : (s.setVm U.vm).vm = U.vm) (by rw [Cond.declares_setVm hW.alike]; exact h)
theorem xBad_same {s U : State} (hv : s.vm = U.vm) : ∀ w ∈ xBad, va_Nw w s → va_Nw w U := by
  intro w hw h
  simp only [xBad, List.mem_cons, List.not_mem_nil, or_false] at hw
  rcases hw with rfl | rfl | rfl | rfl | rfl | rfl <;> exact h.same rfl hv
theorem xBad_use {args : Array Value} {s : State} : ∀ w ∈ xBad, va_Nw w s → w.before args s = true := by
  intro w hw h
  simp only [xBad, List.mem_cons, List.not_mem_nil, or_false] at hw
  rcases hw with rfl | rfl | rfl | rfl | rfl | rfl <;> exact h.use rfl
def xStr : List (Nat × String) := [(106, "banned, 12 games, or no move"), (132, "not open, void, or no card says so"), (189, "no such variant"), (192, "no such game"), (194, "no such player"), (196, "no such cell"), (198, "the depth is 0 to 2"), (33, "no such card can be"), (44, "there are 8 cards"), (55, "no such holes or cards"), (60, "there are 4 variants"), (74, "no such cards"), (93, "no such game can be")]
def xN (U : State) : Prop := va_Nw (.methodLinkNest RX2 29 yX4_isIn RX4) U ∧ va_Nw (.methodLinkNest RX0 28 yX4_cellAhead RX4) U ∧ va_Nw (.methodLinkNest RX0 32 yX4_isIn RX4) U ∧ va_Nw (.methodLinkNest RX1 57 yX4_isIn RX4) U ∧ va_Nw (.methodLinkNest RX1 67 yX4_moved RX4) U
theorem xN.warm {s U : State} (hW : s.WarmedH U.vm) (h : xN s) : xN U := ⟨h.1.warmM hW, h.2.1.warmM hW, h.2.2.1.warmM hW, h.2.2.2.1.warmM hW, h.2.2.2.2.warmM hW⟩
theorem xN.same {s U : State} (hv : s.vm = U.vm) (h : xN s) : xN U := ⟨h.1.same rfl hv, h.2.1.same rfl hv, h.2.2.1.same rfl hv, h.2.2.2.1.same rfl hv, h.2.2.2.2.same rfl hv⟩
def xT (G : xG) (U : State) : Prop := vx_Zq Bundle.tN "UNASSIGNED_STACK" Bundle.steD (xA G) U U.heap ∧ vx_Zq Bundle.tN "SUPPRESSED_SENTINEL" Bundle.listD (xA G) U U.heap ∧ (∀ w ∈ xBad, va_Nw w U) ∧ (∀ q ∈ xStr, ∃ sa : Nat, vk_R RX4 q.1 q.2 sa U) ∧ va_AO RX0 U ∧ va_AO RX3 U ∧ va_AO RX1 U
def xS (G : xG) (U : State) : Prop := va_K G.1 vwCl (xtys G) U ∧ xN U ∧ xT G U
theorem xS.go {G : xG} {s U : State} {H : Heap} {locs : List Loc} (h : xS G s) (hS : va_S (xA G) s.heap H locs) (hU : U.heap = H) (hW : s.WarmedH U.vm) : xS G U := by
  obtain ⟨h1, h2, h3, h4, h5, h6, h7, h8, h9⟩ := h
  refine ⟨va_K.moved hW.alike h1, h2.warm hW, ?_, ?_, fun w hw => xBad_warm hW w hw (h5 w hw), fun q hq => ?_, h7.moved hW.alike, h8.moved hW.alike, h9.moved hW.alike⟩
  · rw [hU]; exact vx_Zq.moved hW.alike (h3.kept hS.2.1)
  · rw [hU]; exact vx_Zq.moved hW.alike (h4.kept hS.2.1)
  · obtain ⟨sa, h⟩ := h6 q hq
    exact ⟨sa, h.warm hW⟩
theorem xS.same {G : xG} {s U : State} (h : xS G s) (hv : s.vm = U.vm) (hh : s.heap = U.heap) : xS G U := by
  obtain ⟨h1, h2, h3, h4, h5, h6, h7, h8, h9⟩ := h
  have hA : s.vm.Alike U.vm := by rw [← hv]; exact Vm.Alike.refl s.vm
  refine ⟨va_K.moved hA h1, h2.same hv, ?_, ?_, fun w hw => xBad_same hv w hw (h5 w hw), fun q hq => ?_, h7.moved hA, h8.moved hA, h9.moved hA⟩
  · rw [← hh]; exact vx_Zq.moved hA h3
  · rw [← hh]; exact vx_Zq.moved hA h4
  · obtain ⟨sa, h⟩ := h6 q hq
    exact ⟨sa, h.same hv.symm⟩
abbrev xB (G : xG) (E : xE) : State → Prop := fun U => xS G U ∧ xW G E U.heap
theorem x_blind {G : xG} {E : xE} {av : List Value} : FrameBlind (va_Pc av (xB G E)) := fun a U g mk h => ⟨h.1, h.2.1.same (U := U.calling g mk a) rfl rfl, h.2.2⟩
theorem x_blindT {av : List Value} : FrameBlind (va_Pc av (fun _ => True)) := fun a U g mk h => ⟨h.1, trivial⟩
section XC
variable {p : Program} {l : Launch} {e : Env} {R : Room} {s : State} {m : MethodId} {args : Array Value} {below : List Frame} {meth : Method} {c : Code} {H : Heap} {locs : List Loc} {cells slots : Nat} {Q : State → Prop}
variable {pc : Nat} {ls : Array Slot} {rest st0 : List Value} {G : xG} {E : xE} {a : Array Value}
theorem x_preS {As : List Value} (hX : xS G s) (hS : va_S (xA G) s.heap H locs) (hW : xW G E H) : PreS s H (va_Pc As (xB G E)) As :=
  ⟨x_blind, fun U hU hw => ⟨rfl, hX.go hS hU hw, by rw [hU]; exact hW⟩⟩
theorem x_preT {As : List Value} : PreS s H (va_Pc As (fun _ => True)) As := ⟨x_blindT, fun U hU hw => ⟨rfl, trivial⟩⟩
theorem x_preV {b ci N : Nat} {C : String} {T : u_T} {fs : List Value} {As : List Value} (hX : xS G s) (hS : va_S (xA G) s.heap H locs) (hW : xW G E H) (hE : E b = some (.inr (ci, fs))) (hc : vwCl[ci]? = some (C, T, N)) : PreV s H C b (va_Pc (.ref b :: As) (xB G E)) As :=
  ⟨x_blind, va_recv (q := (C, T, N)) hX.1 (x1 hW hE) hc (q0 := 0) rfl, fun U hU hw => ⟨rfl, hX.go hS hU hw, by rw [hU]; exact hW⟩⟩
/-- a call that reads and answers an int: the heap is as it was -/
theorem x_callSi {post : Int32 → Prop} (hr : va_Run p l e R s m args below meth c H locs cells slots 0 0 (F0 m pc ls st0) rest (vp_Si post a) (fun _ => False))
    (kk : ∀ r : Int32, post r → W p l e R s m args below meth c H locs cells slots Q (F0 m (pc + 3) ls (.int r :: rest))) : W p l e R s m args below meth c H locs cells slots Q (F0 m pc ls st0) := by
  intro T hT X
  obtain ⟨v, st₀, t, T', L, h0, X', hL, e1, -, ⟨r, hv, hp, hh⟩, st⟩ := hr T hT X
  cases hv
  obtain ⟨t2, a1, b1⟩ := kk r hp T' (by rw [e1, hh, h0]) (by
    have hLn : L = [] := by
      cases L with
      | nil => rfl
      | cons q L => exact (hL q List.mem_cons_self).elim
    subst hLn
    rw [List.append_nil] at X'
    exact X')
  exact ⟨t2, st t2 a1, b1⟩
theorem x_callSl {post : Int64 → Prop} (hr : va_Run p l e R s m args below meth c H locs cells slots 0 0 (F0 m pc ls st0) rest (vp_Sl post a) (fun _ => False))
    (kk : ∀ r : Int64, post r → W p l e R s m args below meth c H locs cells slots Q (F0 m (pc + 3) ls (.long r :: rest))) : W p l e R s m args below meth c H locs cells slots Q (F0 m pc ls st0) := by
  intro T hT X
  obtain ⟨v, st₀, t, T', L, h0, X', hL, e1, -, ⟨r, hv, hp, hh⟩, st⟩ := hr T hT X
  cases hv
  obtain ⟨t2, a1, b1⟩ := kk r hp T' (by rw [e1, hh, h0]) (by
    have hLn : L = [] := by
      cases L with
      | nil => rfl
      | cons q L => exact (hL q List.mem_cons_self).elim
    subst hLn
    rw [List.append_nil] at X'
    exact X')
  exact ⟨t2, st t2 a1, b1⟩
end XC
/-- the world behind an exception: as it was, the exception's class by its name -/
abbrev xX (G : xG) (E : xE) (px : String → Prop) : String → State → State → Prop := vx_X (S := Unit) (fun _ => True) (fun n _ t => px n ∧ xW G E t.heap) (xA G)
section XT
variable {p : Program} {l : Launch} {e : Env} {R : Room} {s : State} {m : MethodId} {args : Array Value} {below : List Frame} {meth : Method} {c : Code} {H : Heap} {locs : List Loc} {cells slots : Nat}
variable {pc : Nat} {ls : Array Slot} {rest : List Value} {G : xG} {E : xE} {cc : ByteArray} {Qc : Array Value → State → Outcome → State → Prop} {mc ms : Nat} {px : String → Prop}
abbrev xNames : List String := ["java/lang/RuntimeException", "java/lang/Exception"]
theorem x_throw (hexec : p.tables.exec = Jvm.exec) (hb : c.code = cc) (hl : l.stackTraces = false) (hown : s.vm.findClass RX4 = some m.cls) {cls text : String} {ik is ic : Nat} {Ts : List Cond} (hts : ∀ w ∈ Ts, w.before args s = true) (hX : xS G s) (hS : va_S (xA G) s.heap H locs) (hW : xW G E H)
    (hfit : Bundle.fit cls = true) (htx : (is, text) ∈ xStr) (hk : Cond.classLink RX4 ik cls ∈ Ts) (hini : Cond.initialized cls ∈ Ts) (hat : ∀ w ∈ (vx_atS RX4 ic cls xNames).filter goodWord, w ∈ Ts)
    (hbad : ∀ w ∈ (vx_atS RX4 ic cls xNames).filter (fun w => !goodWord w), w ∈ xBad) (hgood : ∀ w ∈ Cond.classLink RX4 ik cls :: Cond.initialized cls :: vx_atS RX4 ic cls xNames, vx_ot w = true)
    (hsize : ls.size = c.maxLocals) (d0 : decode cc pc = .ok (.new ik, 3)) (d3 : decode cc (pc + 3) = .ok (.dup, 1)) (d4 : decode cc (pc + 4) = .ok (.ldc is, 2)) (d6 : decode cc (pc + 6) = .ok (.invokespecial ic, 3)) (d9 : decode cc (pc + 9) = .ok (.athrow, 1))
    (hno : ∀ x ∈ c.exceptionTable.toList, False) (hRframes : 5 < R.frames) (hRlocals : (rest.map fun v => v.category).sum + 82 ≤ R.locals) (hRcells : cells + 1 ≤ R.cells) (hRslots : slots + 6 ≤ R.slots) (hlocks : meth.locks = false)
    (hpx : px cls) (hc : cells + 1 ≤ mc) (hs : slots + 6 ≤ ms) :
    W p l e R s m args below meth c H locs cells slots (vx_MQ below Qc (xX G E px) args s mc ms (xA G)) (F0 m pc ls rest) := by
  obtain ⟨hK, hN, hZ1, hZ2, hC, hQ, -⟩ := hX
  obtain ⟨sa, hstr⟩ := hQ _ htx
  refine vx_throwS (names := xNames) hexec hb hl hown hfit (by decide +kernel) (hts _ hk) (hts _ hini) hstr ?_ hgood hZ1 hZ2 hS hsize d0 d3 d4 d6 d9 (fun x hx => (hno x hx).elim) hRframes hRlocals hRcells hRslots hlocks ?_ hS.2.2 hc hs
  · refine vx_hat (B := xBad) (fun w hw => hts w (hat w hw)) hbad (fun w hw => xBad_use w hw (hC w hw))
  · intro t ht hz hq
    exact ⟨(), trivial, ⟨hpx, hW.kept hz hq⟩, Nat.le_trans hS.1 hz, fun q h1 h2 => by rw [hq q (Nat.lt_of_lt_of_le h1 hS.1)]; exact hS.2.1 q h1 h2⟩
end XT
