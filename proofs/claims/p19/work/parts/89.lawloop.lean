/-! THE CLAIM OUT OF ONE WALK OF THE LAW'S BODY. Your part is whole_start (and what it stands on); all else here is the same for every law, but numbers. -/
def R_law : String := "VariantMillLaw"
def lw_P (b : Addr) (xs : List Int32) (args : Array Value) (s : State) : Prop := args = #[.ref b] ∧ s.IntsAt b xs ∧ xs.length ≤ 260 ∧ (Jvm.Cond.and given_1 narrow_1).before args s = true
def lw_Q (_ : Array Value) (s : State) (o : Outcome) (t : State) : Prop := o = .returned (some (.int 1)) ∧ Framed s o t [] 868585 6495942
def lw_Z (below : List Frame) (a : Array Value) (s : State) : State → Prop := fun t => ∃ o, t.status = .running ∧ Ended t below o ∧ lw_Q a s o t
/-- the law's own end, with 1 on the stack, nothing written that was there before, its room as the claim has it -/
theorem lw_ret {p : Program} {l : Launch} {e : Env} {s : State} {m : MethodId} {below : List Frame} {meth : Method} {c : Code} {b : Nat} (hx : p.tables.exec = Jvm.exec) (hb : c.code = code) (hr : meth.sig.returnType = ret) (hlocks : meth.locks = false) {pc : Nat} {H : Heap} {ls : Array Slot} (hdg : decode code pc = .ok (.ireturn, 1)) : W p l e room_1 s m #[Value.ref b] below meth c H [] 868585 6495942 (lw_Z below #[Value.ref b] s) (F0 m pc ls [.int 1]) := by
  intro T hT X
  obtain ⟨fs, hret, hrun, hended, hW, hframe⟩ := X.leave (v := some (.int 1)) (hlocks := hlocks) (fun h => by rw [hr] at h; cases h)
  have hmeth' : T.vm.method? m = some meth := X.method'
  refine ⟨T.setFrames fs, ?_, .returned (some (.int 1)), hrun, hended, rfl, ⟨_, rfl⟩, hW, hframe⟩
  jvm_step X.here [X.here.top, hx, hb, hdg, hmeth', hr, ret, narrow_b1]
  (try refine ⟨rfl, ?_⟩); (try refine ⟨rfl, ?_⟩)
  first | (intro acts; rw [hret _ acts rfl rfl rfl]) | rw [hret _ _ rfl rfl rfl]
  exact Steps.refl _
/-- what holds at the law's entry: the machine, the code, the tables' words (any of lw_tbl by 'hts w (by decide +kernel)'), the script of L ints xs at the cell b, what the Statement gives of the start (any of its parts by flat_of_before) -/
def lw_At (p : Program) (s : State) (m : MethodId) (meth : Method) (c : Code) (b L : Nat) (xs : Nat → Int32) : Prop :=
  p.tables.exec = Jvm.exec ∧ c.code = code ∧ meth.sig.returnType = ret ∧ c.maxLocals = 10 ∧ s.vm.findClass R_law = some m.cls ∧ (∀ w ∈ lw_tbl, w.before #[Value.ref b] s = true) ∧ va_X b L xs s s.heap ∧ b < s.heap.size ∧ meth.locks = false ∧ (Jvm.Cond.and given_1 narrow_1).before #[Value.ref b] s = true
/-- what the law has in hand -/
def pLw (G : xG) (E : xE) (o ga ma : Nat) (σ : xSg) (nC nV nG : Nat) (mf : Nat → Int32) : Prop := pOb G E o σ nC nV nG ∧ pI σ nC nV nG ∧ E ga = some (.inl (G.2.1 0, 3, .inl (gF nC nV nG))) ∧ E ma = some (.inl (G.2.1 0, 12, .inl mf)) ∧ (∀ k, k < nG → mf k = σ 11 k) ∧ ma ≠ ga
theorem x_blindC {b L : Nat} {xs : Nat → Int32} {av : List Value} : FrameBlind (va_Pc av (fun U => va_X b L xs U U.heap ∧ b < U.heap.size)) := fun a U g mk h => ⟨h.1, va_X.moved (U := U.calling g mk a) (by show U.vm.Alike U.vm; exact Vm.Alike.refl _) h.2.1, h.2.2⟩
theorem x_preC {s : State} {H : Heap} {locs : List Loc} {G : xG} {b L : Nat} {xs : Nat → Int32} {As : List Value} (hXs : va_X b L xs s s.heap) (hbl : b < s.heap.size) (hbA : ¬ xA G b) (hS : va_S (xA G) s.heap H locs) : PreS s H (va_Pc As (fun U => va_X b L xs U U.heap ∧ b < U.heap.size)) As :=
  ⟨x_blindC, fun U hU hw => ⟨rfl, va_X.moved hw.alike (by rw [hU]; exact hXs.kept (hS.2.1 b hbl hbA)), by rw [hU]; exact Nat.lt_of_lt_of_le hbl hS.1⟩⟩

set_option maxHeartbeats 4000000 in
set_option maxRecDepth 100000 in
theorem law_loop {p : Program} {l : Launch} {e : Env} {s : State} {m : MethodId} {b : Nat} {below : List Frame} {meth : Method} {c : Code} (hl9 : l.stackTraces = false) (hx : p.tables.exec = Jvm.exec) (hb : c.code = cL_law) (hr : meth.sig.returnType = ret) (hlocks : meth.locks = false) (hml : c.maxLocals = 10) (hown : s.vm.findClass RL = some m.cls) (hts : ∀ w ∈ wsL_law, w.before #[Value.ref b] s = true) {G : xG} (hX : xS G s) (hNc : xNc s) (hG : G.2.2 = s.heap.size) {L : Nat} {xs : Nat → Int32} (hXs : va_X b L xs s s.heap) (hbl : b < s.heap.size) (hbA : ¬ xA G b) (hL : L ≤ 260) {o ga ma : Nat} : ∀ (n k : Nat) (H : Heap) (locs : List Loc) (cells slots : Nat) (ls : Array Slot) (E : xE) (σ : xSg) (nC nV nG : Nat) (mf : Nat → Int32), n + k = 90 → cells + 4900 * n ≤ 867000 → slots + 32000 * n ≤ 6490000 → pLw G E o ga ma σ nC nV nG mf → xW G E H → va_S (xA G) s.heap H locs → lv_has ls 10 [(0, .ref b), (1, .ref o), (2, .ref ga), (3, .ref ma), (4, .int 1), (5, .int (nI k))] → W p l e room_1 s m #[Value.ref b] below meth c H locs cells slots (lw_Z below #[Value.ref b] s) (F0 m 57 ls []) := by
  intro n
  induction n with
  | zero =>
    intro k H locs cells slots ls E σ nC nV nG mf hnk hcn hsn hLw hW hS hl
    obtain ⟨hO, hI, hg, hma, hm, hne⟩ := hLw
    refine lv_iload hx hb dL_law_57 (lv_at hl 5 rfl) ?_
    refine lv_bipush (v := 90) hx hb dL_law_59 (by decide) ?_
    refine lv_icmp_ge (tgt := 312) hx hb dL_law_61 (by decide) (fun c61 => ?_) (fun c9 => False.elim (by exact c9 (nI_le (a := 90) (by omega) (by omega))))
    refine lv_iload hx hb dL_law_312 (lv_at hl 4 rfl) ?_
    refine lv_if_eq (tgt := 337) hx hb dL_law_314 (by decide) (fun c9 => absurd c9 (by decide)) (fun _ => ?_)
    refine lv_aload_n hx hb dL_law_317 rfl (lv_at hl 1 rfl) ?_
    refine lv_aload_n hx hb dL_law_318 rfl (lv_at hl 2 rfl) ?_
    refine p_rd (x := 1) (vx_runS (As := [.ref o, .ref ga]) (rest := []) ⟨hx, hb, hml, hown, hts⟩ (kL_kept l hl9 G E o ga nC nV nG σ hO hI hg) (va_cwS 2 hts gL_law_L_kept rfl rfl rfl (by decide +kernel) ⟨Nat.le_of_ble_eq_true rfl, Nat.le_of_ble_eq_true rfl⟩) (x_preS2 hX hNc hS hW) rfl rfl hl.1 rfl (lv_room (Nat.le_of_ble_eq_true rfl)) dL_law_319 ⟨by show _ ≤ 868585; omega, by show _ ≤ 6495942; omega⟩) hS (fun H locs hW hS => ?_)
    refine lv_if_eq (tgt := 337) hx hb dL_law_322 (by decide) (fun c9 => absurd c9 (by decide)) (fun _ => ?_)
    refine lv_aload_n hx hb dL_law_325 rfl (lv_at hl 1 rfl) ?_
    refine lv_aload_n hx hb dL_law_326 rfl (lv_at hl 2 rfl) ?_
    refine p_rd (x := 1) (vx_runS (As := [.ref o, .ref ga]) (rest := []) ⟨hx, hb, hml, hown, hts⟩ (kL_refused l hl9 G E o ga nC nV nG σ hO hI hg) (va_cwS 2 hts gL_law_L_refused rfl rfl rfl (by decide +kernel) ⟨Nat.le_of_ble_eq_true rfl, Nat.le_of_ble_eq_true rfl⟩) (x_preS2 hX hNc hS hW) rfl rfl hl.1 rfl (lv_room (Nat.le_of_ble_eq_true rfl)) dL_law_327 ⟨by show _ ≤ 868585; omega, by show _ ≤ 6495942; omega⟩) hS (fun H locs hW hS => ?_)
    refine lv_if_eq (tgt := 337) hx hb dL_law_330 (by decide) (fun c9 => absurd c9 (by decide)) (fun _ => ?_)
    refine lv_iconst (v := 1) hx hb dL_law_333 (by decide) ?_
    refine lv_goto (tgt := 338) hx hb dL_law_334 (by decide) ?_
    refine va_forget (fun q hq => by have := hS.2.2 q hq; unfold xA at this; omega) ?_
    exact W.widen (k := 868585) (n := 6495942) (by omega) (by omega) (lw_ret hx hb hr hlocks dL_law_338)
  | succ n ih =>
    intro k H locs cells slots ls E σ nC nV nG mf hnk hcn hsn hLw hW hS hl
    obtain ⟨hO, hI, hg, hma, hm, hne⟩ := hLw
    have hG12 := hO.nums.2.2.2.2.2
    refine lv_iload hx hb dL_law_57 (lv_at hl 5 rfl) ?_
    refine lv_bipush (v := 90) hx hb dL_law_59 (by decide) ?_
    refine lv_icmp_ge (tgt := 312) hx hb dL_law_61 (by decide) (fun c9 => False.elim (by exact nI_ge (b := 90) (by omega) (by omega) c9)) (fun c61 => ?_)
    refine lv_iload hx hb dL_law_64 (lv_at hl 4 rfl) ?_
    refine lv_if_eq (tgt := 312) hx hb dL_law_66 (by decide) (fun c9 => absurd c9 (by decide)) (fun _ => ?_)
    refine lv_aload_n hx hb dL_law_69 rfl (lv_at hl 0 rfl) ?_
    refine lv_iconst (v := 2) hx hb dL_law_70 (by decide) ?_
    refine lv_iload hx hb dL_law_71 (lv_at hl 5 rfl) ?_
    refine lv_imul hx hb dL_law_73 ?_
    rw [show ((2 : Int32) * (nI k) : Int32) = nI (2 * k) from pk_mul 2 k]
    refine x_callSi (va_runS (As := [.ref b, .int (nI (2 * k))]) (rest := []) ⟨hx, hb, hml, hown, hts⟩ ((kL_cell l (b := b) (L := L) (xs := xs) (k := 2 * k) (by omega) hL)) (va_cwS 2 hts gL_law_L_cell rfl rfl rfl (by decide +kernel) ⟨Nat.le_of_ble_eq_true rfl, Nat.le_of_ble_eq_true rfl⟩) (x_preC hXs hbl hbA hS) rfl rfl hl.1 rfl (lv_room (Nat.le_of_ble_eq_true rfl)) dL_law_74 ⟨by show _ ≤ 868585; omega, by show _ ≤ 6495942; omega⟩) (fun xx hxx => ?_)
    refine lv_istore (lv' := [(6, .int xx), (0, .ref b), (1, .ref o), (2, .ref ga), (3, .ref ma), (4, .int 1), (5, .int (nI k))]) hx hb dL_law_77 hl (by decide) rfl (fun ls hl => ?_)
    refine lv_aload_n hx hb dL_law_79 rfl (lv_at hl 1 rfl) ?_
    refine lv_iconst (v := 2) hx hb dL_law_80 (by decide) ?_
    refine lv_iload hx hb dL_law_81 (lv_at hl 6 rfl) ?_
    refine lv_imul hx hb dL_law_83 ?_
    refine lv_iconst (v := 1) hx hb dL_law_84 (by decide) ?_
    refine lv_iadd hx hb dL_law_85 ?_
    rw [show (((2 : Int32) * (nI k)) + 1 : Int32) = nI (2 * k + 1) from (by rw [show (2 : Int32) * nI k = nI (2 * k) from pk_mul 2 k]; exact nI_1 _)]
    refine x_callSi (va_runS (As := [.ref b, .int (nI (2 * k + 1))]) (rest := []) ⟨hx, hb, hml, hown, hts⟩ ((kL_cell l (b := b) (L := L) (xs := xs) (k := 2 * k + 1) (by omega) hL)) (va_cwS 2 hts gL_law_L_cell rfl rfl rfl (by decide +kernel) ⟨Nat.le_of_ble_eq_true rfl, Nat.le_of_ble_eq_true rfl⟩) (x_preC hXs hbl hbA hS) rfl rfl hl.1 rfl (lv_room (Nat.le_of_ble_eq_true rfl)) dL_law_86 ⟨by show _ ≤ 868585; omega, by show _ ≤ 6495942; omega⟩) (fun zz hzz => ?_)
    refine lv_istore (lv' := [(7, .int zz), (6, .int xx), (0, .ref b), (1, .ref o), (2, .ref ga), (3, .ref ma), (4, .int 1), (5, .int (nI k))]) hx hb dL_law_89 hl (by decide) rfl (fun ls hl => ?_)
    refine lv_iload hx hb dL_law_91 (lv_at hl 1 rfl) ?_
    refine lv_bipush (v := 16) hx hb dL_law_93 (by decide) ?_
    refine x_callSi (va_runS (As := [.int xx, .int 16]) (rest := []) ⟨hx, hb, hml, hown, hts⟩ (kS l xx (N := 16) (by omega) (by omega)) (va_cwS 2 hts gL_law_L_some rfl rfl rfl (by decide +kernel) ⟨Nat.le_of_ble_eq_true rfl, Nat.le_of_ble_eq_true rfl⟩) x_preT rfl rfl hl.1 rfl (lv_room (Nat.le_of_ble_eq_true rfl)) dL_law_95 ⟨by show _ ≤ 868585; omega, by show _ ≤ 6495942; omega⟩) (fun vj95 hvj95 => ?_)
    obtain ⟨j95, hj95, ej95, xj95⟩ := hvj95
    rw [ej95]
    have J258 : ∀ (H : Heap) (locs : List Loc) (cells1 slots1 : Nat) (ls : Array Slot) (E : xE) (σ : xSg) (nC nV nG : Nat) (mf : Nat → Int32), cells1 ≤ cells + 2300 → slots1 ≤ slots + 14600 → pLw G E o ga ma σ nC nV nG mf → xW G E H → va_S (xA G) s.heap H locs → lv_has ls 10 [(0, .ref b), (1, .ref o), (2, .ref ga), (3, .ref ma), (4, .int 1), (5, .int (nI k)), (6, .int xx), (7, .int zz)] → W p l e room_1 s m #[Value.ref b] below meth c H locs cells1 slots1 (lw_Z below #[Value.ref b] s) (F0 m 258 ls []) := by
      intro H locs cells1 slots1 ls E σ nC nV nG mf hc1 hs1 hLw hW hS hl
      obtain ⟨hO, hI, hg, hma, hm, hne⟩ := hLw
      refine lv_iload hx hb dL_law_258 (lv_at hl 4 rfl) ?_
      refine lv_if_eq (tgt := 303) hx hb dL_law_260 (by decide) (fun c9 => absurd c9 (by decide)) (fun _ => ?_)
      refine lv_aload_n hx hb dL_law_263 rfl (lv_at hl 1 rfl) ?_
      refine lv_aload_n hx hb dL_law_264 rfl (lv_at hl 3 rfl) ?_
      refine lv_aload_n hx hb dL_law_265 rfl (lv_at hl 2 rfl) ?_
      refine lv_iload hx hb dL_law_266 (lv_at hl 7 rfl) ?_
      refine lv_iconst (v := 2) hx hb dL_law_268 (by decide) ?_
      refine lv_ishr hx hb dL_law_269 ?_
      refine lv_iload hx hb dL_law_270 (lv_at hl 6 rfl) ?_
      refine lv_iconst (v := 5) hx hb dL_law_272 (by decide) ?_
      refine lv_imul hx hb dL_law_273 ?_
      refine lv_iload hx hb dL_law_274 (lv_at hl 7 rfl) ?_
      refine lv_iadd hx hb dL_law_276 ?_
      refine p_wr (vx_runS (As := [.ref o, .ref ma, .ref ga, .int (zz >>> (2 &&& 31)), .int ((xx * 5) + zz)]) (rest := []) ⟨hx, hb, hml, hown, hts⟩ (kL_plays l hl9 G E o ga nC nV nG σ hO hI hg (zz >>> (2 &&& 31)) ((xx * 5) + zz) ma mf hma hm) (va_cwS 5 hts gL_law_L_plays rfl rfl rfl (by decide +kernel) ⟨Nat.le_of_ble_eq_true rfl, Nat.le_of_ble_eq_true rfl⟩) (x_preS2 hX hNc hS hW) rfl rfl hl.1 rfl (lv_room (Nat.le_of_ble_eq_true rfl)) dL_law_277 ⟨by show _ ≤ 868585; omega, by show _ ≤ 6495942; omega⟩) hS (fun r277 E1 H locs hq hW hS => ?_)
      obtain ⟨hr9, σ1, nC1, nV1, nG1, hO1, hI1, hg1, hF1, hR1⟩ := hq
      rw [hr9]
      have hma1 : E1 ma = _ := hF1 _ _ hma rfl hne
      have hm1 : ∀ k, k < nG1 → mf k = σ1 11 k := by rw [hR1.1, hR1.2]; exact hm
      refine lv_if_eq (tgt := 303) hx hb dL_law_280 (by decide) (fun c9 => absurd c9 (by decide)) (fun _ => ?_)
      refine lv_iload hx hb dL_law_283 (lv_at hl 5 rfl) ?_
      refine lv_bipush (v := 9) hx hb dL_law_285 (by decide) ?_
      refine lv_irem hx hb dL_law_287 (by decide) ?_
      refine lv_if_gt (tgt := 299) hx hb dL_law_288 (by decide) (fun c288 => ?_) (fun c288 => ?_)
      · refine lv_iconst (v := 1) hx hb dL_law_299 (by decide) ?_
        refine lv_goto (tgt := 304) hx hb dL_law_300 (by decide) ?_
        refine lv_istore (lv' := [(4, .int 1), (0, .ref b), (1, .ref o), (2, .ref ga), (3, .ref ma), (5, .int (nI k)), (6, .int xx), (7, .int zz)]) hx hb dL_law_304 hl (by decide) rfl (fun ls hl => ?_)
        refine lv_iinc (v := nI (k + 1)) (lv' := [(5, .int (nI (k + 1))), (4, .int 1), (0, .ref b), (1, .ref o), (2, .ref ga), (3, .ref ma), (6, .int xx), (7, .int zz)]) hx hb dL_law_306 hl (k := 5) rfl (nI_1 _) (by decide) rfl (fun ls hl => ?_)
        refine lv_goto (tgt := 57) hx hb dL_law_309 (by decide) ?_
        exact ih (k + 1) _ _ _ _ ls E1 σ1 nC1 nV1 nG1 mf (by omega) (by omega) (by omega) ⟨hO1, hI1, hg1, hma1, hm1, hne⟩ hW hS (lv_sub hl [2, 3, 4, 5, 1, 0] rfl)
      · refine lv_aload_n hx hb dL_law_291 rfl (lv_at hl 1 rfl) ?_
        refine lv_aload_n hx hb dL_law_292 rfl (lv_at hl 2 rfl) ?_
        refine p_rd (x := 1) (vx_runS (As := [.ref o, .ref ga]) (rest := []) ⟨hx, hb, hml, hown, hts⟩ (kL_kept l hl9 G E1 o ga nC1 nV1 nG1 σ1 hO1 hI1 hg1) (va_cwS 2 hts gL_law_L_kept rfl rfl rfl (by decide +kernel) ⟨Nat.le_of_ble_eq_true rfl, Nat.le_of_ble_eq_true rfl⟩) (x_preS2 hX hNc hS hW) rfl rfl hl.1 rfl (lv_room (Nat.le_of_ble_eq_true rfl)) dL_law_293 ⟨by show _ ≤ 868585; omega, by show _ ≤ 6495942; omega⟩) hS (fun H locs hW hS => ?_)
        refine lv_if_eq (tgt := 303) hx hb dL_law_296 (by decide) (fun c9 => absurd c9 (by decide)) (fun _ => ?_)
        refine lv_iconst (v := 1) hx hb dL_law_299 (by decide) ?_
        refine lv_goto (tgt := 304) hx hb dL_law_300 (by decide) ?_
        refine lv_istore (lv' := [(4, .int 1), (0, .ref b), (1, .ref o), (2, .ref ga), (3, .ref ma), (5, .int (nI k)), (6, .int xx), (7, .int zz)]) hx hb dL_law_304 hl (by decide) rfl (fun ls hl => ?_)
        refine lv_iinc (v := nI (k + 1)) (lv' := [(5, .int (nI (k + 1))), (4, .int 1), (0, .ref b), (1, .ref o), (2, .ref ga), (3, .ref ma), (6, .int xx), (7, .int zz)]) hx hb dL_law_306 hl (k := 5) rfl (nI_1 _) (by decide) rfl (fun ls hl => ?_)
        refine lv_goto (tgt := 57) hx hb dL_law_309 (by decide) ?_
        exact ih (k + 1) _ _ _ _ ls E1 σ1 nC1 nV1 nG1 mf (by omega) (by omega) (by omega) ⟨hO1, hI1, hg1, hma1, hm1, hne⟩ hW hS (lv_sub hl [2, 3, 4, 5, 1, 0] rfl)
    refine lv_istore (lv' := [(8, .int (nI j95)), (7, .int zz), (6, .int xx), (0, .ref b), (1, .ref o), (2, .ref ga), (3, .ref ma), (4, .int 1), (5, .int (nI k))]) hx hb dL_law_98 hl (by decide) rfl (fun ls hl => ?_)
    refine lv_iload hx hb dL_law_100 (lv_at hl 0 rfl) ?_
    refine lv_iconst (v := 3) hx hb dL_law_102 (by decide) ?_
    refine p_jn 112 (ls' := ls) (rest' := []) ?_ (fun J112 => ?_)
    · refine lv_aload_n hx hb dL_law_112 rfl (lv_at hl 4 rfl) ?_
      refine lv_aload_n hx hb dL_law_113 rfl (lv_at hl 5 rfl) ?_
      refine lv_iload hx hb dL_law_114 (lv_at hl 8 rfl) ?_
      refine lv_iconst (v := 3) hx hb dL_law_116 (by decide) ?_
      refine p_jk (P := fun _ => True) (F := fun v : Int32 => F0 m 139 ls [.int v, .ref ga, .ref o]) (fun v _ => ?_) (fun J139 => ?_)
      · refine lv_iload hx hb dL_law_139 (lv_at hl 1 rfl) ?_
        refine p_wr (vx_runS (As := [.ref o, .ref ga, .int v, .int zz]) (rest := []) ⟨hx, hb, hml, hown, hts⟩ (kL_makes l hl9 G E o ga nC nV nG σ hO hI hg v zz) (va_cwS 4 hts gL_law_L_makes rfl rfl rfl (by decide +kernel) ⟨Nat.le_of_ble_eq_true rfl, Nat.le_of_ble_eq_true rfl⟩) (x_preS2 hX hNc hS hW) rfl rfl hl.1 rfl (lv_room (Nat.le_of_ble_eq_true rfl)) dL_law_141 ⟨by show _ ≤ 868585; omega, by show _ ≤ 6495942; omega⟩) hS (fun r141 E5 H locs hq hW hS => ?_)
        obtain ⟨hr9, σ5, nC5, nV5, nG5, hO5, hI5, hg5, hF5, hR5⟩ := hq
        rw [hr9]
        have hma5 : E5 ma = _ := hF5 _ _ hma rfl hne
        have hm5 : ∀ k, k < nG5 → mf k = σ5 11 k := by rw [hR5.1, hR5.2]; exact hm
        refine lv_istore (lv' := [(4, .int 1), (8, .int (nI j95)), (7, .int zz), (6, .int xx), (0, .ref b), (1, .ref o), (2, .ref ga), (3, .ref ma), (5, .int (nI k))]) hx hb dL_law_144 hl (by decide) rfl (fun ls hl => ?_)
        refine lv_goto (tgt := 258) hx hb dL_law_146 (by decide) ?_
        exact J258 _ _ _ _ ls E5 σ5 nC5 nV5 nG5 mf (by omega) (by omega) ⟨hO5, hI5, hg5, hma5, hm5, hne⟩ hW hS (lv_sub hl [4, 5, 6, 7, 0, 8, 3, 2] rfl)
      · refine lv_icmp_ge (tgt := 124) hx hb dL_law_117 (by decide) (fun c117 => ?_) (fun c117 => ?_)
        · refine lv_iload hx hb dL_law_124 (lv_at hl 8 rfl) ?_
          refine lv_iconst (v := 5) hx hb dL_law_126 (by decide) ?_
          refine lv_icmp_ge (tgt := 135) hx hb dL_law_127 (by decide) (fun c127 => ?_) (fun c127 => ?_)
          · refine lv_iload hx hb dL_law_135 (lv_at hl 2 rfl) ?_
            refine lv_iconst (v := 3) hx hb dL_law_137 (by decide) ?_
            refine lv_ishr hx hb dL_law_138 ?_
            exact J139 _ trivial
          · refine lv_bipush (v := 8) hx hb dL_law_130 (by decide) ?_
            refine lv_goto (tgt := 139) hx hb dL_law_132 (by decide) ?_
            exact J139 _ trivial
        · refine lv_iconst (v := 0) hx hb dL_law_120 (by decide) ?_
          refine lv_goto (tgt := 139) hx hb dL_law_121 (by decide) ?_
          exact J139 _ trivial
    · refine lv_icmp_lt (tgt := 112) hx hb dL_law_103 (by decide) (fun c103 => ?_) (fun c103 => ?_)
      · exact J112
      · refine lv_iload hx hb dL_law_106 (lv_at hl 8 rfl) ?_
        refine lv_iconst (v := 5) hx hb dL_law_108 (by decide) ?_
        refine lv_icmp_ge (tgt := 149) hx hb dL_law_109 (by decide) (fun c109 => ?_) (fun c109 => ?_)
        · refine lv_iload hx hb dL_law_149 (lv_at hl 0 rfl) ?_
          refine lv_iconst (v := 5) hx hb dL_law_151 (by decide) ?_
          refine p_jn 206 (ls' := ls) (rest' := []) ?_ (fun J206 => ?_)
          · refine lv_iload hx hb dL_law_206 (lv_at hl 0 rfl) ?_
            refine lv_bipush (v := 7) hx hb dL_law_208 (by decide) ?_
            refine lv_icmp_ge (tgt := 227) hx hb dL_law_210 (by decide) (fun c210 => ?_) (fun c210 => ?_)
            · refine lv_iload hx hb dL_law_227 (lv_at hl 0 rfl) ?_
              refine lv_bipush (v := 15) hx hb dL_law_229 (by decide) ?_
              refine lv_icmp_ge (tgt := 251) hx hb dL_law_231 (by decide) (fun c231 => ?_) (fun c231 => ?_)
              · refine lv_aload_n hx hb dL_law_251 rfl (lv_at hl 4 rfl) ?_
                refine lv_aload_n hx hb dL_law_252 rfl (lv_at hl 5 rfl) ?_
                refine p_rd (x := 1) (vx_runS (As := [.ref o, .ref ga]) (rest := []) ⟨hx, hb, hml, hown, hts⟩ (kL_refused l hl9 G E o ga nC nV nG σ hO hI hg) (va_cwS 2 hts gL_law_L_refused rfl rfl rfl (by decide +kernel) ⟨Nat.le_of_ble_eq_true rfl, Nat.le_of_ble_eq_true rfl⟩) (x_preS2 hX hNc hS hW) rfl rfl hl.1 rfl (lv_room (Nat.le_of_ble_eq_true rfl)) dL_law_253 ⟨by show _ ≤ 868585; omega, by show _ ≤ 6495942; omega⟩) hS (fun H locs hW hS => ?_)
                refine lv_istore (lv' := [(4, .int 1), (8, .int (nI j95)), (7, .int zz), (6, .int xx), (0, .ref b), (1, .ref o), (2, .ref ga), (3, .ref ma), (5, .int (nI k))]) hx hb dL_law_256 hl (by decide) rfl (fun ls hl => ?_)
                exact J258 _ _ _ _ ls E σ nC nV nG mf (by omega) (by omega) ⟨hO, hI, hg, hma, hm, hne⟩ hW hS (lv_sub hl [4, 5, 6, 7, 0, 8, 3, 2] rfl)
              · refine lv_aload_n hx hb dL_law_234 rfl (lv_at hl 4 rfl) ?_
                refine lv_aload_n hx hb dL_law_235 rfl (lv_at hl 6 rfl) ?_
                refine lv_aload_n hx hb dL_law_236 rfl (lv_at hl 5 rfl) ?_
                refine lv_iload hx hb dL_law_237 (lv_at hl 2 rfl) ?_
                refine lv_iconst (v := 3) hx hb dL_law_239 (by decide) ?_
                refine lv_ishr hx hb dL_law_240 ?_
                refine lv_iload hx hb dL_law_241 (lv_at hl 1 rfl) ?_
                refine p_wr (vx_runS (As := [.ref o, .ref ma, .ref ga, .int (xx >>> (3 &&& 31)), .int zz]) (rest := []) ⟨hx, hb, hml, hown, hts⟩ (kL_plays l hl9 G E o ga nC nV nG σ hO hI hg (xx >>> (3 &&& 31)) zz ma mf hma hm) (va_cwS 5 hts gL_law_L_plays rfl rfl rfl (by decide +kernel) ⟨Nat.le_of_ble_eq_true rfl, Nat.le_of_ble_eq_true rfl⟩) (x_preS2 hX hNc hS hW) rfl rfl hl.1 rfl (lv_room (Nat.le_of_ble_eq_true rfl)) dL_law_243 ⟨by show _ ≤ 868585; omega, by show _ ≤ 6495942; omega⟩) hS (fun r243 E3 H locs hq hW hS => ?_)
                obtain ⟨hr9, σ3, nC3, nV3, nG3, hO3, hI3, hg3, hF3, hR3⟩ := hq
                rw [hr9]
                have hma3 : E3 ma = _ := hF3 _ _ hma rfl hne
                have hm3 : ∀ k, k < nG3 → mf k = σ3 11 k := by rw [hR3.1, hR3.2]; exact hm
                refine lv_istore (lv' := [(4, .int 1), (8, .int (nI j95)), (7, .int zz), (6, .int xx), (0, .ref b), (1, .ref o), (2, .ref ga), (3, .ref ma), (5, .int (nI k))]) hx hb dL_law_246 hl (by decide) rfl (fun ls hl => ?_)
                refine lv_goto (tgt := 258) hx hb dL_law_248 (by decide) ?_
                exact J258 _ _ _ _ ls E3 σ3 nC3 nV3 nG3 mf (by omega) (by omega) ⟨hO3, hI3, hg3, hma3, hm3, hne⟩ hW hS (lv_sub hl [4, 5, 6, 7, 0, 8, 3, 2] rfl)
            · refine lv_aload_n hx hb dL_law_213 rfl (lv_at hl 4 rfl) ?_
              refine lv_aload_n hx hb dL_law_214 rfl (lv_at hl 5 rfl) ?_
              refine lv_iload hx hb dL_law_215 (lv_at hl 2 rfl) ?_
              refine lv_iconst (v := 3) hx hb dL_law_217 (by decide) ?_
              refine lv_ishr hx hb dL_law_218 ?_
              refine p_wr (vx_runS (As := [.ref o, .ref ga, .int (xx >>> (3 &&& 31))]) (rest := []) ⟨hx, hb, hml, hown, hts⟩ (kL_votes l hl9 G E o ga nC nV nG σ hO hI hg (xx >>> (3 &&& 31))) (va_cwS 3 hts gL_law_L_votes rfl rfl rfl (by decide +kernel) ⟨Nat.le_of_ble_eq_true rfl, Nat.le_of_ble_eq_true rfl⟩) (x_preS2 hX hNc hS hW) rfl rfl hl.1 rfl (lv_room (Nat.le_of_ble_eq_true rfl)) dL_law_219 ⟨by show _ ≤ 868585; omega, by show _ ≤ 6495942; omega⟩) hS (fun r219 E4 H locs hq hW hS => ?_)
              obtain ⟨hr9, σ4, nC4, nV4, nG4, hO4, hI4, hg4, hF4, hR4⟩ := hq
              rw [hr9]
              have hma4 : E4 ma = _ := hF4 _ _ hma rfl hne
              have hm4 : ∀ k, k < nG4 → mf k = σ4 11 k := by rw [hR4.1, hR4.2]; exact hm
              refine lv_istore (lv' := [(4, .int 1), (8, .int (nI j95)), (7, .int zz), (6, .int xx), (0, .ref b), (1, .ref o), (2, .ref ga), (3, .ref ma), (5, .int (nI k))]) hx hb dL_law_222 hl (by decide) rfl (fun ls hl => ?_)
              refine lv_goto (tgt := 258) hx hb dL_law_224 (by decide) ?_
              exact J258 _ _ _ _ ls E4 σ4 nC4 nV4 nG4 mf (by omega) (by omega) ⟨hO4, hI4, hg4, hma4, hm4, hne⟩ hW hS (lv_sub hl [4, 5, 6, 7, 0, 8, 3, 2] rfl)
          · refine lv_icmp_ge (tgt := 206) hx hb dL_law_152 (by decide) (fun c152 => ?_) (fun c152 => ?_)
            · exact J206
            · refine lv_aload_n hx hb dL_law_155 rfl (lv_at hl 5 rfl) ?_
              refine lv_iconst (v := 2) hx hb dL_law_156 (by decide) ?_
              refine p_ild (k := 2) (v := nI nG) hx hb hX.1 hW hg (show vp_in (nI 2) 3 from vp_in_nI (by omega) (by omega)) rfl rfl dL_law_157 ?_
              refine lv_bipush (v := 12) hx hb dL_law_158 (by decide) ?_
              refine lv_icmp_ge (tgt := 206) hx hb dL_law_160 (by decide) (fun c160 => ?_) (fun c160 => ?_)
              · exact J206
              · refine lv_aload_n hx hb dL_law_163 rfl (lv_at hl 5 rfl) ?_
                refine lv_iconst (v := 2) hx hb dL_law_164 (by decide) ?_
                refine p_ild (k := 2) (v := nI nG) hx hb hX.1 hW hg (show vp_in (nI 2) 3 from vp_in_nI (by omega) (by omega)) rfl rfl dL_law_165 ?_
                refine lv_istore (lv' := [(9, .int (nI nG)), (8, .int (nI j95)), (7, .int zz), (6, .int xx), (0, .ref b), (1, .ref o), (2, .ref ga), (3, .ref ma), (4, .int 1), (5, .int (nI k))]) hx hb dL_law_166 hl (by decide) rfl (fun ls hl => ?_)
                refine lv_aload_n hx hb dL_law_168 rfl (lv_at hl 5 rfl) ?_
                refine lv_aload_n hx hb dL_law_169 rfl (lv_at hl 6 rfl) ?_
                refine lv_iload hx hb dL_law_170 (lv_at hl 3 rfl) ?_
                refine lv_iconst (v := 3) hx hb dL_law_172 (by decide) ?_
                refine lv_ishr hx hb dL_law_173 ?_
                refine lv_iload hx hb dL_law_174 (lv_at hl 2 rfl) ?_
                refine p_wr (vx_runS (As := [.ref o, .ref ga, .int (xx >>> (3 &&& 31)), .int zz]) (rest := []) ⟨hx, hb, hml, hown, hts⟩ (kL_begins l hl9 G E o ga nC nV nG σ hO hI hg (xx >>> (3 &&& 31)) zz) (va_cwS 4 hts gL_law_L_begins rfl rfl rfl (by decide +kernel) ⟨Nat.le_of_ble_eq_true rfl, Nat.le_of_ble_eq_true rfl⟩) (x_preS2 hX hNc hS hW) rfl rfl hl.1 rfl (lv_room (Nat.le_of_ble_eq_true rfl)) dL_law_176 ⟨by show _ ≤ 868585; omega, by show _ ≤ 6495942; omega⟩) hS (fun r176 E2 H locs hq hW hS => ?_)
                obtain ⟨hr9, σ2, nC2, nV2, nG2, hO2, hI2, hg2, hF2, hR2⟩ := hq
                rw [hr9]
                have hma2 : E2 ma = _ := hF2 _ _ hma rfl hne
                refine lv_istore (lv' := [(4, .int 1), (9, .int (nI nG)), (8, .int (nI j95)), (7, .int zz), (6, .int xx), (0, .ref b), (1, .ref o), (2, .ref ga), (3, .ref ma), (5, .int (nI k))]) hx hb dL_law_179 hl (by decide) rfl (fun ls hl => ?_)
                rcases hR2 with ⟨hz1, hz2⟩ | ⟨hz1, hz2, hz3, hz4, hz5⟩
                · have hmA : ∀ k, k < nG2 → mf k = σ2 11 k := by rw [hz1, hz2]; exact hm
                  refine lv_aload_n hx hb dL_law_181 rfl (lv_at hl 7 rfl) ?_
                  refine lv_iconst (v := 2) hx hb dL_law_182 (by decide) ?_
                  refine p_ild (k := 2) (v := nI nG2) hx hb hX.1 hW hg2 (show vp_in (nI 2) 3 from vp_in_nI (by omega) (by omega)) rfl rfl dL_law_183 ?_
                  refine lv_iload hx hb dL_law_184 (lv_at hl 1 rfl) ?_
                  refine lv_icmp_le (tgt := 203) hx hb dL_law_186 (by decide) (fun c186 => ?_) (fun c9 => False.elim (by exact c9 (by rw [hz1]; exact nI_le (Nat.le_refl _) (by omega))))
                  refine lv_goto (tgt := 258) hx hb dL_law_203 (by decide) ?_
                  exact J258 _ _ _ _ ls E2 σ2 nC2 nV2 nG2 mf (by omega) (by omega) ⟨hO2, hI2, hg2, hma2, hmA, hne⟩ hW hS (lv_sub hl [5, 6, 7, 8, 0, 9, 4, 3] rfl)
                · have hV4 := hO2.nums.2.2.2.2.1
                  have hGx := hO2.nums.2.2.2.2.2
                  refine lv_aload_n hx hb dL_law_181 rfl (lv_at hl 7 rfl) ?_
                  refine lv_iconst (v := 2) hx hb dL_law_182 (by decide) ?_
                  refine p_ild (k := 2) (v := nI nG2) hx hb hX.1 hW hg2 (show vp_in (nI 2) 3 from vp_in_nI (by omega) (by omega)) rfl rfl dL_law_183 ?_
                  refine lv_iload hx hb dL_law_184 (lv_at hl 1 rfl) ?_
                  refine lv_icmp_le (tgt := 203) hx hb dL_law_186 (by decide) (fun c9 => False.elim (by exact nI_ge (a := nG) (b := nG2) (by omega) (by omega) c9)) (fun c186 => ?_)
                  refine lv_aload_n hx hb dL_law_189 rfl (lv_at hl 8 rfl) ?_
                  refine lv_iload hx hb dL_law_190 (lv_at hl 1 rfl) ?_
                  refine lv_iload hx hb dL_law_192 (lv_at hl 4 rfl) ?_
                  refine lv_iconst (v := 3) hx hb dL_law_194 (by decide) ?_
                  refine lv_ishr hx hb dL_law_195 ?_
                  refine lv_aload_n hx hb dL_law_196 rfl (lv_at hl 7 rfl) ?_
                  refine lv_iconst (v := 1) hx hb dL_law_197 (by decide) ?_
                  refine p_ild (k := 1) (v := nI nV2) hx hb hX.1 hW hg2 (show vp_in (nI 1) 3 from vp_in_nI (by omega) (by omega)) rfl rfl dL_law_198 ?_
                  refine x_callSe (va_runS (As := [.int (xx >>> (3 &&& 31)), .int (nI nV2)]) (rest := [.int (nI nG), .ref ma]) ⟨hx, hb, hml, hown, hts⟩ (kL_some l (xx >>> (3 &&& 31)) (nI nV2) (nI_ne0 (by omega) (by omega))) (va_cwS 2 hts gL_law_L_some rfl rfl rfl (by decide +kernel) ⟨Nat.le_of_ble_eq_true rfl, Nat.le_of_ble_eq_true rfl⟩) x_preT rfl rfl hl.1 rfl (lv_room (Nat.le_of_ble_eq_true rfl)) dL_law_199 ⟨by show _ ≤ 868585; omega, by show _ ≤ 6495942; omega⟩) ?_
                  refine x_iast (G := G) hx hb hX.1 hW hS hma2 (vp_in_nI (by omega) (by omega)) dL_law_202 (fun H locs hW hS => ?_)
                  rw [show (nI nG).toNatClampNeg = nG from nI_clamp (by omega)] at hW
                  obtain ⟨E2s, eE2s⟩ : ∃ q, q = xU E2 ma (.inl (G.2.1 0, 12, .inl (upd mf nG (fL_some (xx >>> (3 &&& 31)) (nI nV2))))) := ⟨_, rfl⟩
                  rw [← eE2s] at hW
                  have hO9 := hO2.fr (by rw [eE2s]; exact xFr_put xFr_rf hma2 rfl _ : xFr tM _ E2s)
                  have hg9 : E2s ga = some (.inl (G.2.1 0, 3, .inl (gF nC2 nV2 nG2))) := by rw [eE2s]; exact (xU_ne _ _ (Ne.symm hne)).trans hg2
                  have hma9 : E2s ma = some (.inl (G.2.1 0, 12, .inl (upd mf nG (fL_some (xx >>> (3 &&& 31)) (nI nV2))))) := by rw [eE2s]; exact xU_self _ _ _
                  have hm9 : ∀ k, k < nG2 → upd mf nG (fL_some (xx >>> (3 &&& 31)) (nI nV2)) k = σ2 11 k := fun k hk => by
                    by_cases hq : k = nG
                    · rw [hq, upd_s, hz5, hz3]
                    · rw [upd_n _ _ hq, hm k (by omega), hz4 k (by omega)]
                  refine lv_goto (tgt := 258) hx hb dL_law_203 (by decide) ?_
                  exact J258 _ _ _ _ ls E2s σ2 nC2 nV2 nG2 (upd mf nG (fL_some (xx >>> (3 &&& 31)) (nI nV2))) (by omega) (by omega) ⟨hO9, hI2, hg9, hma9, hm9, hne⟩ hW hS (lv_sub hl [5, 6, 7, 8, 0, 9, 4, 3] rfl)
        · exact J112
set_option maxHeartbeats 4000000 in
set_option maxRecDepth 100000 in
theorem law_go {p : Program} {l : Launch} {e : Env} {s : State} {m : MethodId} {b : Nat} {below : List Frame} {meth : Method} {c : Code} (hl9 : l.stackTraces = false) (hx : p.tables.exec = Jvm.exec) (hb : c.code = cL_law) (hr : meth.sig.returnType = ret) (hlocks : meth.locks = false) (hml : c.maxLocals = 10) (hown : s.vm.findClass RL = some m.cls) (hts : ∀ w ∈ wsL_law, w.before #[Value.ref b] s = true) {G : xG} (hX : xS G s) (hNc : xNc s) (hG : G.2.2 = s.heap.size) {L : Nat} {xs : Nat → Int32} (hXs : va_X b L xs s s.heap) (hbl : b < s.heap.size) (hbA : ¬ xA G b) (hL : L ≤ 260) {o ga ma : Nat} (H : Heap) (locs : List Loc) (cells slots : Nat) (ls : Array Slot) (E : xE) (σ : xSg) (nC nV nG : Nat) (mf : Nat → Int32) (hc0 : cells ≤ 100) (hs0 : slots ≤ 1000) (hLw : pLw G E o ga ma σ nC nV nG mf) (hW : xW G E H) (hS : va_S (xA G) s.heap H locs) (hl : lv_has ls 10 [(0, .ref b), (1, .ref o), (2, .ref ga), (3, .ref ma)]) : W p l e room_1 s m #[Value.ref b] below meth c H locs cells slots (lw_Z below #[Value.ref b] s) (F0 m 17 ls []) := by
  obtain ⟨hO, hI, hg, hma, hm, hne⟩ := hLw
  refine lv_aload_n hx hb dL_law_17 rfl (lv_at hl 1 rfl) ?_
  refine lv_aload_n hx hb dL_law_18 rfl (lv_at hl 2 rfl) ?_
  refine p_rdl (x := pAll σ nV nG) (vx_runS (As := [.ref o, .ref ga]) (rest := []) ⟨hx, hb, hml, hown, hts⟩ (kL_all l hl9 G E o ga nC nV nG σ hO hI hg) (va_cwS 2 hts gL_law_L_all rfl rfl rfl (by decide +kernel) ⟨Nat.le_of_ble_eq_true rfl, Nat.le_of_ble_eq_true rfl⟩) (x_preS2 hX hNc hS hW) rfl rfl hl.1 rfl (lv_room (Nat.le_of_ble_eq_true rfl)) dL_law_19 ⟨by show _ ≤ 868585; omega, by show _ ≤ 6495942; omega⟩) hS (fun H locs hW hS => ?_)
  refine lv_aload_n hx hb dL_law_22 rfl (lv_at hl 1 rfl) ?_
  refine lv_aload_n hx hb dL_law_23 rfl (lv_at hl 2 rfl) ?_
  refine p_rdl (x := pAll σ nV nG) (vx_runS (As := [.ref o, .ref ga]) (rest := [.long (pAll σ nV nG)]) ⟨hx, hb, hml, hown, hts⟩ (kL_all l hl9 G E o ga nC nV nG σ hO hI hg) (va_cwS 2 hts gL_law_L_all rfl rfl rfl (by decide +kernel) ⟨Nat.le_of_ble_eq_true rfl, Nat.le_of_ble_eq_true rfl⟩) (x_preS2 hX hNc hS hW) rfl rfl hl.1 rfl (lv_room (Nat.le_of_ble_eq_true rfl)) dL_law_24 ⟨by show _ ≤ 868585; omega, by show _ ≤ 6495942; omega⟩) hS (fun H locs hW hS => ?_)
  refine W.lcmp hx hb dL_law_27 ?_
  refine lv_if_ne (tgt := 51) hx hb dL_law_28 (by decide) (fun c9 => False.elim (by exact c9 (lg_cmp_self _))) (fun c28 => ?_)
  refine lv_aload_n hx hb dL_law_31 rfl (lv_at hl 1 rfl) ?_
  refine lv_aload_n hx hb dL_law_32 rfl (lv_at hl 2 rfl) ?_
  refine p_rd (x := 1) (vx_runS (As := [.ref o, .ref ga]) (rest := []) ⟨hx, hb, hml, hown, hts⟩ (kL_kept l hl9 G E o ga nC nV nG σ hO hI hg) (va_cwS 2 hts gL_law_L_kept rfl rfl rfl (by decide +kernel) ⟨Nat.le_of_ble_eq_true rfl, Nat.le_of_ble_eq_true rfl⟩) (x_preS2 hX hNc hS hW) rfl rfl hl.1 rfl (lv_room (Nat.le_of_ble_eq_true rfl)) dL_law_33 ⟨by show _ ≤ 868585; omega, by show _ ≤ 6495942; omega⟩) hS (fun H locs hW hS => ?_)
  refine lv_if_eq (tgt := 51) hx hb dL_law_36 (by decide) (fun c9 => absurd c9 (by decide)) (fun _ => ?_)
  refine lv_aload_n hx hb dL_law_39 rfl (lv_at hl 1 rfl) ?_
  refine lv_aload_n hx hb dL_law_40 rfl (lv_at hl 2 rfl) ?_
  refine p_rd (x := 1) (vx_runS (As := [.ref o, .ref ga]) (rest := []) ⟨hx, hb, hml, hown, hts⟩ (kL_refused l hl9 G E o ga nC nV nG σ hO hI hg) (va_cwS 2 hts gL_law_L_refused rfl rfl rfl (by decide +kernel) ⟨Nat.le_of_ble_eq_true rfl, Nat.le_of_ble_eq_true rfl⟩) (x_preS2 hX hNc hS hW) rfl rfl hl.1 rfl (lv_room (Nat.le_of_ble_eq_true rfl)) dL_law_41 ⟨by show _ ≤ 868585; omega, by show _ ≤ 6495942; omega⟩) hS (fun H locs hW hS => ?_)
  refine lv_if_eq (tgt := 51) hx hb dL_law_44 (by decide) (fun c9 => absurd c9 (by decide)) (fun _ => ?_)
  refine lv_iconst (v := 1) hx hb dL_law_47 (by decide) ?_
  refine lv_goto (tgt := 52) hx hb dL_law_48 (by decide) ?_
  refine lv_istore (lv' := [(4, .int 1), (0, .ref b), (1, .ref o), (2, .ref ga), (3, .ref ma)]) hx hb dL_law_52 hl (by decide) rfl (fun ls hl => ?_)
  refine lv_iconst (v := 0) hx hb dL_law_54 (by decide) ?_
  refine lv_istore (lv' := [(5, .int 0), (4, .int 1), (0, .ref b), (1, .ref o), (2, .ref ga), (3, .ref ma)]) hx hb dL_law_55 hl (by decide) rfl (fun ls hl => ?_)
  exact law_loop hl9 hx hb hr hlocks hml hown hts hX hNc hG hXs hbl hbA hL 90 0 _ _ _ _ ls E σ nC nV nG mf (by omega) (by omega) (by omega) ⟨hO, hI, hg, hma, hm, hne⟩ hW hS (lv_sub hl [2, 3, 4, 5, 1, 0] rfl)
