section
/-! ===== BEGIN words of one list among another's, by their places ===== -/
theorem goodIn_r {big : List Cond} (ws : List Cond) (ps : List Nat) (hp : ws = ps.filterMap (fun i => big[i]?)) (h : ws.all goodWord = true) : GoodIn big ws := by
  intro w hw
  have h1 := List.all_eq_true.mp h w hw
  rw [hp] at hw
  obtain ⟨i, -, hi⟩ := List.mem_filterMap.mp hw
  have hm : w ∈ big := by first | exact List.mem_of_getElem? hi | exact List.getElem?_mem hi
  exact ⟨hm, good_of_word h1⟩
theorem goodIn_app {big a b : List Cond} (ha : GoodIn big a) (hb : GoodIn big b) : GoodIn big (a ++ b) := fun w h => (List.mem_append.mp h).elim (ha w) (hb w)
theorem goodIn_ca {big a b : List Cond} {c : Cond} (ha : GoodIn big (c :: a)) (hb : GoodIn big b) : GoodIn big (c :: (a ++ b)) := fun w h => (List.mem_cons.mp h).elim (fun e => ha w (List.mem_cons.mpr (Or.inl e))) (fun h => (List.mem_append.mp h).elim (fun h => ha w (List.mem_cons.mpr (Or.inr h))) (hb w))
theorem goodIn_sub {big ws : List Cond} (hm : ∀ w ∈ ws, w ∈ big) (h : ws.all goodWord = true) : GoodIn big ws := fun w hw => ⟨hm w hw, good_of_word (List.all_eq_true.mp h w hw)⟩
/-! ===== END ===== -/

/-! ===== BEGIN exceptions that leave a method, and their catching by the caller (launches without stack traces) ===== -/
section VXA
/-! The laws vx_back, vx_callV, vx_callS, vx_callSW, vx_throw0, vx_throwS follow proofs of the library, with one case more: JvmDerived/Free/Laws.lean (Back.of_free), Shelf42/LK1.lean (callV, callS), Shelf/KitTraced.lean (throwNew0V, throwNewS). -/
/-- where a method has thrown q: the class by its name, the cell, what was written, the world -/
def vx_T (XC : String → State → State → Prop) (st : State) (q : Addr) (t : State) (mc ms : Nat) (free : Addr → Prop) : Prop :=
  ∃ (E : String) (ce : Cell) (L : List Loc), XC E st t ∧ t.heap[q]? = some ce ∧ ce.vm = .none ∧ st.vm.findClass E = some ce.cls ∧ st.WarmedH t.vm ∧ st.sameButNew ({ t with vm := st.vm } : State) L mc ms ∧ ∀ z ∈ L, free z.base
def vx_Q (Qc : Array Value → State → Outcome → State → Prop) (XC : String → State → State → Prop) (mc ms : Nat) (free : Addr → Prop) : Array Value → State → Outcome → State → Prop := fun a st o t =>
  (Qc a st o t ∧ ∃ L, FrameEnd st o t L mc ms ∧ ∀ q ∈ L, free q.base) ∨ ∃ q, o = .threw q ∧ vx_T XC st q t mc ms free
/-- a callee that returns or throws -/
def vx_Met (l : Launch) (y : MethodName) (ws : List Cond) (rm : Room) (Pc : Array Value → State → Prop) (Qc : Array Value → State → Outcome → State → Prop) (XC : String → State → State → Prop) (mc ms : Nat) (free : Addr → Prop) : Prop :=
  MetFree l y (headSpec ws rm) Pc (fun _ _ _ _ _ => True) (vx_Q Qc XC mc ms free)
def vx_Post (XC : String → State → State → Prop) (mc ms : Nat) (free : Addr → Prop) : Pt → Array Value → Addr → Pt → Prop := fun A a q B =>
  ∃ (g : JFrame) (mk : MethodId) (t : State) (L : List Loc) (E : String) (ce : Cell), B.U.heap = t.heap ∧ B.U.vm = t.vm ∧ XC E (A.U.calling g mk a) t ∧ t.heap[q]? = some ce ∧ ce.vm = .none ∧ A.U.vm.findClass E = some ce.cls ∧ B.locs = A.locs ++ L ∧ (∀ z ∈ L, free z.base) ∧ B.cells = A.cells + mc ∧ B.slots = A.slots + ms
def vx_Back (l : Launch) (R : Room) (p : Program) (e : Env) (below : List Frame) (s : State) (sargs : Array Value) (y : MethodName) (len W9 : Nat)
    (Pre : Pt → Array Value → Prop) (Post : Pt → Array Value → Option Value → Pt → Prop) (PostX : Pt → Array Value → Addr → Pt → Prop) : Prop :=
  ∀ (m : MethodId) (meth : Method) (c : Code) (A : Pt) (g : JFrame) (ig : Instr) (mk : MethodId) (a : Array Value),
    Stand p l e R s m sargs below meth c A.U A.locs A.cells A.slots → g.method = m → g.locals.size = c.maxLocals → decode c.code g.pc = .ok (ig, len) →
    2 * g.monitorRoom + (g.stack.map fun v => v.category).sum ≤ W9 → A.U.methodNamed? y = some mk → Pre A a →
    (∃ (v : Option Value) (B : Pt), Stand p l e R s m sargs below meth c B.U B.locs B.cells B.slots ∧ Post A a v B ∧
      Steps p.tables e below (doInvoke e (A.U.setTop g) [] mk a).1 (B.U.setTop { g with pc := g.pc + len, stack := v.toList ++ g.stack })) ∨
    (∃ (q : Addr) (B : Pt), Stand p l e R s m sargs below meth c B.U B.locs B.cells B.slots ∧ PostX A a q B ∧
      Steps p.tables e below (doInvoke e (A.U.setTop g) [] mk a).1 ((B.U.setTop g).pushFrame (.throwing q)))
section Payer
variable {l : Launch} {R : Room} {p : Program} {e : Env} {below : List Frame} {s : State} {sargs : Array Value} {y : MethodName} {len W9 : Nat}
theorem vx_back {ws : List Cond} {rm : Room} {Pc : Array Value → State → Prop} {Qc : Array Value → State → Outcome → State → Prop} {XC : String → State → State → Prop} {mc ms : Nat} {free : Addr → Prop} {bytes : ByteArray} {maxL : Nat} {ret : Option FieldType}
    (hM : vx_Met l y ws rm Pc Qc XC mc ms free) (hblind : FrameBlind Pc) (hrc : rm.cells = mc) (hrs : rm.slots = ms)
    (hframes : rm.frames + 1 ≤ R.frames) (hlocals : W9 + (maxL + 11) + rm.locals ≤ R.locals)
    (hws : ∀ w ∈ ws, ∀ a' U, s.WarmedH U.vm → w.before a' U = true) (hcode : Cond.code y bytes maxL ret ∈ ws) (hinit : ∀ a' U, s.WarmedH U.vm → (Cond.initialized y.cls).before a' U = true) :
    vx_Back l R p e below s sargs y len W9 (PreOf R mc ms Pc) (PostOf Qc mc ms free) (vx_Post XC mc ms free) := by
  intro m meth c A g ig mk a X hg hsize hdg hW hn hp
  have h1 : (headSpec ws rm).pre.before a A.U = true := atoms_intro fun w hw => hws w hw _ _ X.warmed
  have h2 : (Cond.code y bytes maxL ret).before a A.U = true := hws _ hcode _ _ X.warmed
  have h3 : (Cond.initialized y.cls).before a A.U = true := hinit _ _ X.warmed
  have h4 : A.cells + (headSpec ws rm).room.cells ≤ R.cells := by rw [show (headSpec ws rm).room.cells = mc from hrc]; exact hp.1
  have h5 : A.slots + (headSpec ws rm).room.slots ≤ R.slots := by rw [show (headSpec ws rm).room.slots = ms from hrs]; exact hp.2.1
  have hPc : Pc a (A.U.calling g mk a) := hblind _ _ _ _ hp.2.2
  obtain ⟨U, Ls, c0, s0⟩ := A
  dsimp only [Pt.U, Pt.locs, Pt.cells, Pt.slots] at h1 h2 h3 h4 h5 X hn hPc ⊢
  obtain ⟨methY, cY, hmY, hcY, -, hlY, -, -, -, -⟩ := Cond.code_spec hn h2
  obtain ⟨kY, hkY, -⟩ := className_of_methodNamed hn
  have hinitY : kY.init = .initialized := Cond.initialized_spec (findClass_of_methodNamed hn) hkY h3
  have h : At U g.method c below := by rw [hg]; exact X.here
  have hlocals9 : W9 + (maxL + 11) + (headSpec ws rm).room.locals ≤ R.locals := hlocals
  have happ : (headSpec ws rm).appliesLoose y e.platform (U.calling g mk a) = true :=
    Spec.appliesLoose_calling (g := g) h hdg hn hkY hinitY
      (X.room_calling (g := g) (R' := (headSpec ws rm).room) hsize hmY hcY hframes (by rw [hlY]; omega) h4 h5) h1
  obtain ⟨mid, hmid⟩ := h.above
  have hfr : (U.setTop g).frames = (.java g :: mid) ++ below := by rw [State.frames_setTop' g h.top, hmid]; rfl
  obtain ⟨o, s₂, hsteps, -, hend, hq⟩ := Steps.callFree hM p X.admits X.cas X.clock (acts := []) hfr happ hPc trivial
  have hq' : vx_Q Qc XC mc ms free a (U.calling g mk a) o s₂ := hq
  rw [State.frames_setTop' g h.top] at hend
  obtain ⟨g₀, hg0⟩ := Option.isSome_iff_exists.mp h.top
  obtain ⟨r, hr⟩ := State.topJava?_eq_some.mp hg0
  have hr' : (({ U with heap := s₂.heap, slotsUsed := s₂.slotsUsed } : State).setVm s₂.vm).frames = .java g₀ :: r := hr
  rcases hq' with ⟨hqc, L, hfe, hL⟩ | ⟨q, rfl, E, ce, L, hx, hce, hcv, hcl, hW₂, hsm, hL⟩
  · obtain ⟨⟨v, rfl⟩, hW₂, e2, q2, q3, q4, q5, q6⟩ := id hfe
    have e3 : s₂ = ({ (U.calling g mk a).setFrames s₂.frames with heap := s₂.heap, slotsUsed := s₂.slotsUsed } : State).setVm s₂.vm := by
      have : s₂ = ({ s₂ with vm := (U.calling g mk a).vm } : State).setVm s₂.vm := rfl
      rw [e2] at this
      exact this
    obtain ⟨c₂, i₂, len₂, hc₂, hd₂, hf₂⟩ := hend
    have hW' : U.WarmedH s₂.vm := hW₂
    have hcc : c₂ = c := by
      have h1 : s₂.code? g.method = U.code? g.method := by
        rw [State.code?_eq, State.code?_eq, hW'.alike.method?]
      exact Option.some.inj (hc₂.symm.trans (h1.trans h.code))
    subst hcc
    have hlen : len₂ = len := by rw [hdg] at hd₂; cases hd₂; rfl
    subst hlen
    have hs₂ : s₂ = (({ U with heap := s₂.heap, slotsUsed := s₂.slotsUsed } : State).setVm s₂.vm).setTop { g with pc := g.pc + len₂, stack := v.toList ++ g.stack } := by
      refine e3.trans ?_
      rw [hf₂, State.calling_eq h.top, State.setFrames_setFrames, State.setTop_of_frames _ hr', hr]
      rfl
    have hsame : U.sameButNew ({ U with heap := s₂.heap, slotsUsed := s₂.slotsUsed } : State) L mc ms := by
      refine ⟨?_, q2, q3, q4, q5, q6⟩
      obtain ⟨t, ht, -⟩ := State.frames_cons hr
      show ({ U with heap := s₂.heap, slotsUsed := s₂.slotsUsed } : State) = { U.setFrames U.frames with heap := s₂.heap, slotsUsed := s₂.slotsUsed }
      rw [State.setFrames_self ht]
    subst hg
    refine Or.inl ⟨v, ⟨(({ U with heap := s₂.heap, slotsUsed := s₂.slotsUsed } : State).setVm s₂.vm), Ls ++ L, c0 + mc, s0 + ms⟩,
      ⟨X.admits, X.cas, X.clock, X.frames, X.room, X.hears, X.method, X.code, (X.here.setHeapUsed s₂.heap s₂.slotsUsed).setVm hW'.alike, X.tail, State.WarmedH.trans X.warmed hW', X.limits, X.bytes, X.same.trans (hsame.setVm s.vm)⟩,
      ⟨g, mk, s₂, L, rfl, rfl, hqc, rfl, hL, rfl, rfl⟩, ?_⟩
    show Steps p.tables e below _ ((({ U with heap := s₂.heap, slotsUsed := s₂.slotsUsed } : State).setVm s₂.vm).setTop { g with pc := g.pc + len₂, stack := v.toList ++ g.stack })
    rw [← hs₂]
    exact hsteps
  · obtain ⟨e2, q2, q3, q4, q5, q6⟩ := id hsm
    have e3 : s₂ = ({ (U.calling g mk a).setFrames s₂.frames with heap := s₂.heap, slotsUsed := s₂.slotsUsed } : State).setVm s₂.vm := by
      have : s₂ = ({ s₂ with vm := (U.calling g mk a).vm } : State).setVm s₂.vm := rfl
      rw [e2] at this
      exact this
    have hf₂ : s₂.frames = .throwing q :: .java g :: U.frames.tail := hend
    have hW' : U.WarmedH s₂.vm := hW₂
    have hs₂ : s₂ = ((({ U with heap := s₂.heap, slotsUsed := s₂.slotsUsed } : State).setVm s₂.vm).setTop g).pushFrame (.throwing q) := by
      refine e3.trans ?_
      rw [hf₂, State.calling_eq h.top, State.setFrames_setFrames, State.pushFrame, State.frames_setTop _ hr', State.setTop_of_frames _ hr', State.setFrames_setFrames, hr]
      rfl
    have hsame : U.sameButNew ({ U with heap := s₂.heap, slotsUsed := s₂.slotsUsed } : State) L mc ms := by
      refine ⟨?_, q2, q3, q4, q5, q6⟩
      obtain ⟨t, ht, -⟩ := State.frames_cons hr
      show ({ U with heap := s₂.heap, slotsUsed := s₂.slotsUsed } : State) = { U.setFrames U.frames with heap := s₂.heap, slotsUsed := s₂.slotsUsed }
      rw [State.setFrames_self ht]
    subst hg
    refine Or.inr ⟨q, ⟨(({ U with heap := s₂.heap, slotsUsed := s₂.slotsUsed } : State).setVm s₂.vm), Ls ++ L, c0 + mc, s0 + ms⟩,
      ⟨X.admits, X.cas, X.clock, X.frames, X.room, X.hears, X.method, X.code, (X.here.setHeapUsed s₂.heap s₂.slotsUsed).setVm hW'.alike, X.tail, State.WarmedH.trans X.warmed hW', X.limits, X.bytes, X.same.trans (hsame.setVm s.vm)⟩,
      ⟨g, mk, s₂, L, E, ce, rfl, rfl, hx, hce, hcv, hcl, rfl, hL, rfl, rfl⟩, ?_⟩
    show Steps p.tables e below _ (((({ U with heap := s₂.heap, slotsUsed := s₂.slotsUsed } : State).setVm s₂.vm).setTop g).pushFrame (.throwing q))
    rw [← hs₂]
    exact hsteps
end Payer
section Calls
variable {p : Program} {l : Launch} {e : Env} {R : Room} {s : State} {m : MethodId} {args : Array Value} {below : List Frame} {meth : Method} {c : Code} {T : State} {locs : List Loc} {cells slots : Nat}
theorem vx_callV (X : Stand p l e R s m args below meth c T locs cells slots) (hexec : p.tables.exec = Jvm.exec) {own C : String} {index : Nat} {y : MethodName} {bytes : ByteArray} {maxL : Nat} {ret : Option FieldType}
    (hown : s.vm.findClass own = some m.cls) (hlink : (Cond.methodLink own index y).before args s = true) (hinst : (Cond.instanceMethod y).before args s = true) (hsel : (Cond.selects C y y).before args s = true)
    (hcode : (Cond.code y bytes maxL ret).before args s = true) (hy : y.cls ≠ "java/lang/invoke/MethodHandle" ∧ y.cls ≠ "java/lang/invoke/VarHandle")
    {W9 : Nat} {Pre : Pt → Array Value → Prop} {Post : Pt → Array Value → Option Value → Pt → Prop} {PostX : Pt → Array Value → Addr → Pt → Prop} (hK : vx_Back l R p e below s args y 3 W9 Pre Post PostX)
    {b : Addr} {cellB : Cell} (hcell : T.heap[b]? = some cellB) (hobj : cellB.vm.isStatics = false) (hcls : s.vm.findClass C = some cellB.cls)
    {g : JFrame} (hg : g.method = m) (hsize : g.locals.size = c.maxLocals) {argsL rest : List Value} (hlen : ∀ sig, parseMethodDescriptor y.desc = some sig → argsL.length = sig.parameters.length)
    (hstack : g.stack = argsL.reverse ++ .ref b :: rest) (hW : 2 * g.monitorRoom + (rest.map fun v => v.category).sum ≤ W9) (hdg : decode c.code g.pc = .ok (.invokevirtual index, 3))
    (hpre : ∀ vm₁, s.WarmedH vm₁ → Pre ⟨T.setVm vm₁, locs, cells, slots⟩ (Value.ref b :: argsL).toArray) :
    (∃ (v : Option Value) (vm₁ : Vm) (B : Pt), s.WarmedH vm₁ ∧ Stand p l e R s m args below meth c B.U B.locs B.cells B.slots ∧ Post ⟨T.setVm vm₁, locs, cells, slots⟩ (Value.ref b :: argsL).toArray v B ∧
      ∀ target, Steps p.tables e below (B.U.setTop { g with pc := g.pc + 3, stack := v.toList ++ rest }) target → Steps p.tables e below (T.setTop g) target) ∨
    (∃ (q : Addr) (vm₁ : Vm) (B : Pt), s.WarmedH vm₁ ∧ Stand p l e R s m args below meth c B.U B.locs B.cells B.slots ∧ PostX ⟨T.setVm vm₁, locs, cells, slots⟩ (Value.ref b :: argsL).toArray q B ∧
      Steps p.tables e below (T.setTop g) ((B.U.setTop { g with stack := rest }).pushFrame (.throwing q))) := by
  obtain ⟨mk, methM, hnamed, hmethM, hstM, habM⟩ := Cond.instanceMethod_spec hinst
  obtain ⟨methM', cM, hmethM', -, -, -, -, -, -, hsigM⟩ := Cond.code_spec hnamed hcode
  cases hmethM.symm.trans hmethM'
  obtain ⟨c2, r2, m2, q1, q2, q3, q4, kP, hkP, hkPi⟩ := Cond.selects_spec hsel
  cases hcls.symm.trans q1
  cases (State.methodFound?_of_named hnamed hy).symm.trans q2
  cases hnamed.symm.trans q3
  have hselP : selectMethod e.platform s.vm cellB.cls mk = .method mk := by rw [Launch.admits_selectMethod X.admits]; exact q4
  obtain ⟨vm₁, X₁, hstep₁⟩ := X.invokevirtual hexec hown hlink hnamed hmethM hstM hkP hkPi hy (a := b) (cell := cellB) hcell
    (fun z h => by rw [h] at hobj; cases hobj) hselP hmethM habM hkP hkPi (g := g) hg (argsL := argsL) (rest := rest) (hlen _ hsigM) hstack hdg
  rcases hK m meth c ⟨T.setVm vm₁, locs, cells, slots⟩ { g with stack := rest } (.invokevirtual index) mk (Value.ref b :: argsL).toArray X₁ hg hsize hdg hW (X₁.named hnamed) (hpre vm₁ X₁.warmed) with ⟨v, B, X', hpost, hsteps⟩ | ⟨q, B, X', hpost, hsteps⟩
  · exact Or.inl ⟨v, vm₁, B, X₁.warmed, X', hpost, fun target h => hstep₁ _ fun acts => by rw [doInvoke_state]; exact hsteps.trans h⟩
  · exact Or.inr ⟨q, vm₁, B, X₁.warmed, X', hpost, hstep₁ _ fun acts => by rw [doInvoke_state]; exact hsteps⟩
theorem vx_callS (X : Stand p l e R s m args below meth c T locs cells slots) (hexec : p.tables.exec = Jvm.exec) {own : String} {index : Nat} {y : MethodName} {bytes : ByteArray} {maxL : Nat} {ret : Option FieldType}
    (hown : s.vm.findClass own = some m.cls) (hlink : (Cond.methodLink own index y).before args s = true) (hstat : (Cond.static y).before args s = true) (hinit : (Cond.initialized y.cls).before args s = true)
    (hcode : (Cond.code y bytes maxL ret).before args s = true) (hy : y.cls ≠ "java/lang/invoke/MethodHandle" ∧ y.cls ≠ "java/lang/invoke/VarHandle")
    {W9 : Nat} {Pre : Pt → Array Value → Prop} {Post : Pt → Array Value → Option Value → Pt → Prop} {PostX : Pt → Array Value → Addr → Pt → Prop} (hK : vx_Back l R p e below s args y 3 W9 Pre Post PostX)
    {g : JFrame} (hg : g.method = m) (hsize : g.locals.size = c.maxLocals) {argsL rest : List Value} (hlen : ∀ sig, parseMethodDescriptor y.desc = some sig → argsL.length = sig.parameters.length)
    (hstack : g.stack = argsL.reverse ++ rest) (hW : 2 * g.monitorRoom + (rest.map fun v => v.category).sum ≤ W9) (hdg : decode c.code g.pc = .ok (.invokestatic index, 3))
    (hpre : ∀ vm₁, s.WarmedH vm₁ → Pre ⟨T.setVm vm₁, locs, cells, slots⟩ argsL.toArray) :
    (∃ (v : Option Value) (vm₁ : Vm) (B : Pt), s.WarmedH vm₁ ∧ Stand p l e R s m args below meth c B.U B.locs B.cells B.slots ∧ Post ⟨T.setVm vm₁, locs, cells, slots⟩ argsL.toArray v B ∧
      ∀ target, Steps p.tables e below (B.U.setTop { g with pc := g.pc + 3, stack := v.toList ++ rest }) target → Steps p.tables e below (T.setTop g) target) ∨
    (∃ (q : Addr) (vm₁ : Vm) (B : Pt), s.WarmedH vm₁ ∧ Stand p l e R s m args below meth c B.U B.locs B.cells B.slots ∧ PostX ⟨T.setVm vm₁, locs, cells, slots⟩ argsL.toArray q B ∧
      Steps p.tables e below (T.setTop g) ((B.U.setTop { g with stack := rest }).pushFrame (.throwing q))) := by
  obtain ⟨mk, hnamed⟩ := Cond.code_named hcode
  obtain ⟨methM, cM, hmethM, -, -, -, -, -, -, hsigM⟩ := Cond.code_spec hnamed hcode
  have hstatic : methM.isStatic = true := Cond.static_spec hnamed hmethM hstat
  obtain ⟨kP, hkP, -⟩ := className_of_methodNamed hnamed
  have hinitP : kP.init = .initialized := Cond.initialized_spec (findClass_of_methodNamed hnamed) hkP hinit
  obtain ⟨vm₁, X₁, hstep₁⟩ := X.invokestatic hexec hown hlink hnamed hmethM hstatic hkP hinitP hy (g := g) hg (argsL := argsL) (rest := rest) (hlen _ hsigM) hstack hdg
  rcases hK m meth c ⟨T.setVm vm₁, locs, cells, slots⟩ { g with stack := rest } (.invokestatic index) mk argsL.toArray X₁ hg hsize hdg hW (X₁.named hnamed) (hpre vm₁ X₁.warmed) with ⟨v, B, X', hpost, hsteps⟩ | ⟨q, B, X', hpost, hsteps⟩
  · exact Or.inl ⟨v, vm₁, B, X₁.warmed, X', hpost, fun target h => hstep₁ _ fun acts => by rw [doInvoke_state]; exact hsteps.trans h⟩
  · exact Or.inr ⟨q, vm₁, B, X₁.warmed, X', hpost, hstep₁ _ fun acts => by rw [doInvoke_state]; exact hsteps⟩
end Calls
theorem vx_cls {s : State} {T : State} {vm₁ : Vm} {E : String} {k : ClassId} (hW : s.WarmedH vm₁) (h : (T.setVm vm₁).vm.findClass E = some k) : s.vm.findClass E = some k := by
  have h1 : vm₁.findClass E = some k := h
  rw [hW.alike.findClass] at h1
  exact h1
/-- the method's frame g, with q thrown over it -/
def vx_W (p : Program) (l : Launch) (e : Env) (R : Room) (s : State) (m : MethodId) (args : Array Value) (below : List Frame) (meth : Method) (c : Code) (H : Heap) (locs : List Loc) (cells slots : Nat) (Q : State → Prop) (g : JFrame) (q : Addr) : Prop :=
  ∀ T : State, T.heap = H → Stand p l e R s m args below meth c T locs cells slots → ∃ t, Steps p.tables e below ((T.setTop g).pushFrame (.throwing q)) t ∧ Q t
def vx_Run (p : Program) (l : Launch) (e : Env) (R : Room) (s : State) (m : MethodId) (args : Array Value) (below : List Frame) (meth : Method) (c : Code) (H : Heap) (locs : List Loc) (cells slots mc ms : Nat) (g : JFrame) (rest : List Value) (Qa : State → Outcome → State → Prop) (XC : String → State → State → Prop) (free : Addr → Prop) : Prop :=
  ∀ T : State, T.heap = H → Stand p l e R s m args below meth c T locs cells slots →
    (∃ (v : Option Value) (st₀ t T' : State) (L : List Loc), st₀.heap = H ∧ Stand p l e R s m args below meth c T' (locs ++ L) (cells + mc) (slots + ms) ∧ (∀ q ∈ L, free q.base) ∧ T'.heap = t.heap ∧ T'.vm = t.vm ∧ Qa st₀ (.returned v) t ∧
      Goes p e below T g T' { g with pc := g.pc + 3, stack := v.toList ++ rest }) ∨
    (∃ (q : Addr) (st₀ t T' : State) (L : List Loc) (E : String) (ce : Cell), st₀.heap = H ∧ Stand p l e R s m args below meth c T' (locs ++ L) (cells + mc) (slots + ms) ∧ (∀ z ∈ L, free z.base) ∧ T'.heap = t.heap ∧ T'.vm = t.vm ∧ XC E st₀ t ∧ t.heap[q]? = some ce ∧ ce.vm = .none ∧ s.vm.findClass E = some ce.cls ∧
      Steps p.tables e below (T.setTop g) ((T'.setTop { g with stack := rest }).pushFrame (.throwing q)))
def vx_X {S : Type} (px : S → Prop) (B : String → S → State → Prop) (A : Nat → Prop) : String → State → State → Prop := fun E st t => ∃ u : S, px u ∧ B E u t ∧ va_F A st t
section Runs
variable {p : Program} {l : Launch} {e : Env} {R : Room} {s : State} {m : MethodId} {args : Array Value} {below : List Frame} {meth : Method} {c : Code} {H : Heap} {locs : List Loc} {cells slots : Nat}
variable {y : MethodName} {bytes cc : ByteArray} {maxL nL mc ms n index : Nat} {ret : Option FieldType} {ws : List Cond} {rm : Room} {Pc : Array Value → State → Prop} {Qc : Array Value → State → Outcome → State → Prop} {XC : String → State → State → Prop} {free : Addr → Prop} {Ts : List Cond} {own C : String} {b : Addr} {As rest : List Value} {g : JFrame}
theorem vx_callBack (cb : CallB R s args own index y bytes maxL ret ws rm mc ms n) (hM : vx_Met l y ws rm Pc Qc XC mc ms free) (hbl : FrameBlind Pc) : vx_Back l R p e below s args y 3 8 (PreOf R mc ms Pc) (PostOf Qc mc ms free) (vx_Post XC mc ms free) := by
  obtain ⟨hrc, hrs, hfr, hlo, hws, hcw, -, hini, -⟩ := cb
  exact vx_back (bytes := bytes) (maxL := maxL) (ret := ret) hM hbl hrc hrs hfr hlo hws hcw (fun a' U hW => word_at hW (Or.inl (by first | rfl | simp [Cond.onTables, Cond.keeps, Cond.steady])) hini)
theorem vx_runV (S : CallFix p m c cc nL s args Ts own) (hM : vx_Met l y ws rm Pc Qc XC mc ms free) (cw : CallW R s args own C index y bytes maxL ret ws rm mc ms n) (hp : PreV s H C b Pc As)
    (hg : g.method = m) (hn : As.length = n) (hsize : g.locals.size = nL) (hstack : g.stack = As.reverse ++ .ref b :: rest) (hW : 2 * g.monitorRoom + (rest.map fun v => v.category).sum ≤ 8) (hdg : decode cc g.pc = .ok (.invokevirtual index, 3)) (hf : cells + mc ≤ R.cells ∧ slots + ms ≤ R.slots) :
    vx_Run p l e R s m args below meth c H locs cells slots mc ms g rest (Qc (Value.ref b :: As).toArray) XC free := by
  have hK : vx_Back l R p e below s args y 3 8 (PreOf R mc ms Pc) (PostOf Qc mc ms free) (vx_Post XC mc ms free) := vx_callBack cw.1 hM hp.1
  obtain ⟨⟨-, -, -, -, -, -, hcode, -, hy, hlen, hl⟩, hin, hse⟩ := cw
  obtain ⟨hx, hb, hml, ho, -⟩ := S
  obtain ⟨-, ⟨cellB, hcB, hoB, hclB⟩, hPc⟩ := hp
  intro T hT X
  rcases vx_callV X hx (C := C) (bytes := bytes) (maxL := maxL) (ret := ret) ho hl hin hse hcode hy hK (by rw [hT]; exact hcB) hoB hclB hg (hsize.trans hml.symm) (argsL := As) (rest := rest) (fun sig h => hn.trans (hlen sig h)) hstack hW (by rw [hb]; exact hdg)
    (fun vm₁ hW₁ => ⟨hf.1, hf.2, hPc (T.setVm vm₁) hT hW₁⟩) with ⟨v, vm₁, ⟨U', l2, c2, s2⟩, hW₁, X', ⟨g', mk, t, L, e1, e2, hq, h1, hL, h2, h3⟩, st⟩ | ⟨q, vm₁, ⟨U', l2, c2, s2⟩, hW₁, X', ⟨g', mk, t, L, E, ce, e1, e2, hq, hce, hcv, hcl, h1, hL, h2, h3⟩, st⟩
  · dsimp only [Pt.U, Pt.locs, Pt.cells, Pt.slots] at X' e1 e2 h1 h2 h3 st
    subst h1; subst h2; subst h3
    exact Or.inl ⟨v, (T.setVm vm₁).calling g' mk (Value.ref b :: As).toArray, t, U', L, hT, X', hL, e1, e2, hq, st⟩
  · dsimp only [Pt.U, Pt.locs, Pt.cells, Pt.slots] at X' e1 e2 h1 h2 h3 st hcl
    subst h1; subst h2; subst h3
    exact Or.inr ⟨q, (T.setVm vm₁).calling g' mk (Value.ref b :: As).toArray, t, U', L, E, ce, hT, X', hL, e1, e2, hq, hce, hcv, vx_cls hW₁ hcl, st⟩
theorem vx_runS (S : CallFix p m c cc nL s args Ts own) (hM : vx_Met l y ws rm Pc Qc XC mc ms free) (cw : CallB R s args own index y bytes maxL ret ws rm mc ms n ∧ (Cond.static y).before args s = true) (hp : PreS s H Pc As)
    (hg : g.method = m) (hn : As.length = n) (hsize : g.locals.size = nL) (hstack : g.stack = As.reverse ++ rest) (hW : 2 * g.monitorRoom + (rest.map fun v => v.category).sum ≤ 8) (hdg : decode cc g.pc = .ok (.invokestatic index, 3)) (hf : cells + mc ≤ R.cells ∧ slots + ms ≤ R.slots) :
    vx_Run p l e R s m args below meth c H locs cells slots mc ms g rest (Qc As.toArray) XC free := by
  have hK : vx_Back l R p e below s args y 3 8 (PreOf R mc ms Pc) (PostOf Qc mc ms free) (vx_Post XC mc ms free) := vx_callBack cw.1 hM hp.1
  obtain ⟨⟨-, -, -, -, -, -, hcode, hini, hy, hlen, hl⟩, hstt⟩ := cw
  obtain ⟨hx, hb, hml, ho, -⟩ := S
  intro T hT X
  rcases vx_callS X hx (bytes := bytes) (maxL := maxL) (ret := ret) ho hl hstt hini hcode hy hK hg (hsize.trans hml.symm) (argsL := As) (rest := rest) (fun sig h => hn.trans (hlen sig h)) hstack hW (by rw [hb]; exact hdg)
    (fun vm₁ hW₁ => ⟨hf.1, hf.2, hp.2 (T.setVm vm₁) hT hW₁⟩) with ⟨v, vm₁, ⟨U', l2, c2, s2⟩, hW₁, X', ⟨g', mk, t, L, e1, e2, hq, h1, hL, h2, h3⟩, st⟩ | ⟨q, vm₁, ⟨U', l2, c2, s2⟩, hW₁, X', ⟨g', mk, t, L, E, ce, e1, e2, hq, hce, hcv, hcl, h1, hL, h2, h3⟩, st⟩
  · dsimp only [Pt.U, Pt.locs, Pt.cells, Pt.slots] at X' e1 e2 h1 h2 h3 st
    subst h1; subst h2; subst h3
    exact Or.inl ⟨v, (T.setVm vm₁).calling g' mk As.toArray, t, U', L, hT, X', hL, e1, e2, hq, st⟩
  · dsimp only [Pt.U, Pt.locs, Pt.cells, Pt.slots] at X' e1 e2 h1 h2 h3 st hcl
    subst h1; subst h2; subst h3
    exact Or.inr ⟨q, (T.setVm vm₁).calling g' mk As.toArray, t, U', L, E, ce, hT, X', hL, e1, e2, hq, hce, hcv, vx_cls hW₁ hcl, st⟩
end Runs
section Rows
variable {p : Program} {l : Launch} {e : Env} {R : Room} {s : State} {m : MethodId} {args : Array Value} {below : List Frame} {meth : Method} {c : Code} {H : Heap} {locs : List Loc} {cells slots : Nat} {Q : State → Prop}
variable {mc ms : Nat} {free : Addr → Prop} {A0 A1 : Nat → Prop} {H0 : Heap} {a : Array Value} {pc : Nat} {ls : Array Slot} {st0 rest : List Value}
theorem vx_keep {st₀ t T' : State} {L : List Loc} (h0 : st₀.heap = H) (e1 : T'.heap = t.heap) (hS : va_S A0 H0 H locs) (hA : ∀ q, q < H.size → A1 q → A0 q) (hf : ∀ q, free q → A0 q) (hL : ∀ q ∈ L, free q.base) (hF : va_F A1 st₀ t) :
    H.size ≤ T'.heap.size ∧ (∀ q : Nat, q < H.size → ¬ A1 q → T'.heap[q]? = H[q]?) ∧ va_S A0 H0 T'.heap (locs ++ L) := by
  obtain ⟨hz, hk⟩ := hF
  rw [h0] at hz hk
  exact ⟨by rw [e1]; exact hz, fun q h1 h2 => by rw [e1]; exact hk q h1 h2,
    ⟨Nat.le_trans hS.1 (by rw [e1]; exact hz), fun q h1 h2 => by rw [e1, hk q (Nat.lt_of_lt_of_le h1 hS.1) (fun z => h2 (hA q (Nat.lt_of_lt_of_le h1 hS.1) z))]; exact hS.2.1 q h1 h2, fun q hq => by
      rcases List.mem_append.mp hq with h | h
      · exact hS.2.2 q h
      · exact hf _ (hL q h)⟩⟩
theorem vx_calli {S SX : Type} {post : Int32 → S → Prop} {px : SX → Prop} {B : S → State → Prop} {BX : String → SX → State → Prop} {AX : Nat → Prop} (hr : vx_Run p l e R s m args below meth c H locs cells slots mc ms (F0 m pc ls st0) rest (va_Qi post B A1 a) (vx_X px BX AX) free) (hS : va_S A0 H0 H locs) (hA : ∀ q, q < H.size → A1 q → A0 q) (hf : ∀ q, free q → A0 q) (hAX : ∀ q, q < H.size → AX q → A0 q)
    (kx : ∀ (E : String) (ce : Cell) (q9 : Addr) (u : SX) (t : State) (H1 : Heap) (locs1 : List Loc), t.heap = H1 → s.vm.Alike t.vm → px u → BX E u t → H.size ≤ H1.size → (∀ q : Nat, q < H.size → ¬ AX q → H1[q]? = H[q]?) → va_S A0 H0 H1 locs1 → H1[q9]? = some ce → ce.vm = .none → s.vm.findClass E = some ce.cls → vx_W p l e R s m args below meth c H1 locs1 (cells + mc) (slots + ms) Q (F0 m pc ls rest) q9)
    (kk : ∀ (r : Int32) (u : S) (t : State) (H1 : Heap) (locs1 : List Loc), t.heap = H1 → s.vm.Alike t.vm → post r u → B u t → H.size ≤ H1.size → (∀ q : Nat, q < H.size → ¬ A1 q → H1[q]? = H[q]?) → va_S A0 H0 H1 locs1 → W p l e R s m args below meth c H1 locs1 (cells + mc) (slots + ms) Q (F0 m (pc + 3) ls (.int r :: rest))) : W p l e R s m args below meth c H locs cells slots Q (F0 m pc ls st0) := by
  intro T hT X
  rcases hr T hT X with ⟨v, st₀, t, T', L, h0, X', hL, e1, e2, ⟨⟨r, u, hv, hp, hb⟩, hF⟩, st⟩ | ⟨q, st₀, t, T', L, E, ce, h0, X', hL, e1, e2, ⟨u, hp, hb, hF⟩, hce, hcv, hcl, st⟩
  · cases hv
    obtain ⟨k1, k2, k3⟩ := vx_keep h0 e1 hS hA hf hL hF
    obtain ⟨t2, a1, b1⟩ := kk r u t T'.heap (locs ++ L) e1.symm (by rw [← e2]; exact X'.warmed.alike) hp hb k1 k2 k3 T' rfl X'
    exact ⟨t2, st t2 a1, b1⟩
  · obtain ⟨k1, k2, k3⟩ := vx_keep h0 e1 hS hAX hf hL hF
    obtain ⟨t2, a1, b1⟩ := kx E ce q u t T'.heap (locs ++ L) e1.symm (by rw [← e2]; exact X'.warmed.alike) hp hb k1 k2 k3 (by rw [e1]; exact hce) hcv hcl T' rfl X'
    exact ⟨t2, st.trans a1, b1⟩
theorem vx_calll {S SX : Type} {post : Int64 → S → Prop} {px : SX → Prop} {B : S → State → Prop} {BX : String → SX → State → Prop} {AX : Nat → Prop} (hr : vx_Run p l e R s m args below meth c H locs cells slots mc ms (F0 m pc ls st0) rest (va_Ql post B A1 a) (vx_X px BX AX) free) (hS : va_S A0 H0 H locs) (hA : ∀ q, q < H.size → A1 q → A0 q) (hf : ∀ q, free q → A0 q) (hAX : ∀ q, q < H.size → AX q → A0 q)
    (kx : ∀ (E : String) (ce : Cell) (q9 : Addr) (u : SX) (t : State) (H1 : Heap) (locs1 : List Loc), t.heap = H1 → s.vm.Alike t.vm → px u → BX E u t → H.size ≤ H1.size → (∀ q : Nat, q < H.size → ¬ AX q → H1[q]? = H[q]?) → va_S A0 H0 H1 locs1 → H1[q9]? = some ce → ce.vm = .none → s.vm.findClass E = some ce.cls → vx_W p l e R s m args below meth c H1 locs1 (cells + mc) (slots + ms) Q (F0 m pc ls rest) q9)
    (kk : ∀ (r : Int64) (u : S) (t : State) (H1 : Heap) (locs1 : List Loc), t.heap = H1 → s.vm.Alike t.vm → post r u → B u t → H.size ≤ H1.size → (∀ q : Nat, q < H.size → ¬ A1 q → H1[q]? = H[q]?) → va_S A0 H0 H1 locs1 → W p l e R s m args below meth c H1 locs1 (cells + mc) (slots + ms) Q (F0 m (pc + 3) ls (.long r :: rest))) : W p l e R s m args below meth c H locs cells slots Q (F0 m pc ls st0) := by
  intro T hT X
  rcases hr T hT X with ⟨v, st₀, t, T', L, h0, X', hL, e1, e2, ⟨⟨r, u, hv, hp, hb⟩, hF⟩, st⟩ | ⟨q, st₀, t, T', L, E, ce, h0, X', hL, e1, e2, ⟨u, hp, hb, hF⟩, hce, hcv, hcl, st⟩
  · cases hv
    obtain ⟨k1, k2, k3⟩ := vx_keep h0 e1 hS hA hf hL hF
    obtain ⟨t2, a1, b1⟩ := kk r u t T'.heap (locs ++ L) e1.symm (by rw [← e2]; exact X'.warmed.alike) hp hb k1 k2 k3 T' rfl X'
    exact ⟨t2, st t2 a1, b1⟩
  · obtain ⟨k1, k2, k3⟩ := vx_keep h0 e1 hS hAX hf hL hF
    obtain ⟨t2, a1, b1⟩ := kx E ce q u t T'.heap (locs ++ L) e1.symm (by rw [← e2]; exact X'.warmed.alike) hp hb k1 k2 k3 (by rw [e1]; exact hce) hcv hcl T' rfl X'
    exact ⟨t2, st.trans a1, b1⟩
theorem vx_callf {S SX : Type} {post : UInt32 → S → Prop} {px : SX → Prop} {B : S → State → Prop} {BX : String → SX → State → Prop} {AX : Nat → Prop} (hr : vx_Run p l e R s m args below meth c H locs cells slots mc ms (F0 m pc ls st0) rest (va_Qf post B A1 a) (vx_X px BX AX) free) (hS : va_S A0 H0 H locs) (hA : ∀ q, q < H.size → A1 q → A0 q) (hf : ∀ q, free q → A0 q) (hAX : ∀ q, q < H.size → AX q → A0 q)
    (kx : ∀ (E : String) (ce : Cell) (q9 : Addr) (u : SX) (t : State) (H1 : Heap) (locs1 : List Loc), t.heap = H1 → s.vm.Alike t.vm → px u → BX E u t → H.size ≤ H1.size → (∀ q : Nat, q < H.size → ¬ AX q → H1[q]? = H[q]?) → va_S A0 H0 H1 locs1 → H1[q9]? = some ce → ce.vm = .none → s.vm.findClass E = some ce.cls → vx_W p l e R s m args below meth c H1 locs1 (cells + mc) (slots + ms) Q (F0 m pc ls rest) q9)
    (kk : ∀ (r : UInt32) (u : S) (t : State) (H1 : Heap) (locs1 : List Loc), t.heap = H1 → s.vm.Alike t.vm → post r u → B u t → H.size ≤ H1.size → (∀ q : Nat, q < H.size → ¬ A1 q → H1[q]? = H[q]?) → va_S A0 H0 H1 locs1 → W p l e R s m args below meth c H1 locs1 (cells + mc) (slots + ms) Q (F0 m (pc + 3) ls (.float r :: rest))) : W p l e R s m args below meth c H locs cells slots Q (F0 m pc ls st0) := by
  intro T hT X
  rcases hr T hT X with ⟨v, st₀, t, T', L, h0, X', hL, e1, e2, ⟨⟨r, u, hv, hp, hb⟩, hF⟩, st⟩ | ⟨q, st₀, t, T', L, E, ce, h0, X', hL, e1, e2, ⟨u, hp, hb, hF⟩, hce, hcv, hcl, st⟩
  · cases hv
    obtain ⟨k1, k2, k3⟩ := vx_keep h0 e1 hS hA hf hL hF
    obtain ⟨t2, a1, b1⟩ := kk r u t T'.heap (locs ++ L) e1.symm (by rw [← e2]; exact X'.warmed.alike) hp hb k1 k2 k3 T' rfl X'
    exact ⟨t2, st t2 a1, b1⟩
  · obtain ⟨k1, k2, k3⟩ := vx_keep h0 e1 hS hAX hf hL hF
    obtain ⟨t2, a1, b1⟩ := kx E ce q u t T'.heap (locs ++ L) e1.symm (by rw [← e2]; exact X'.warmed.alike) hp hb k1 k2 k3 (by rw [e1]; exact hce) hcv hcl T' rfl X'
    exact ⟨t2, st.trans a1, b1⟩
theorem vx_calld {S SX : Type} {post : UInt64 → S → Prop} {px : SX → Prop} {B : S → State → Prop} {BX : String → SX → State → Prop} {AX : Nat → Prop} (hr : vx_Run p l e R s m args below meth c H locs cells slots mc ms (F0 m pc ls st0) rest (va_Qd post B A1 a) (vx_X px BX AX) free) (hS : va_S A0 H0 H locs) (hA : ∀ q, q < H.size → A1 q → A0 q) (hf : ∀ q, free q → A0 q) (hAX : ∀ q, q < H.size → AX q → A0 q)
    (kx : ∀ (E : String) (ce : Cell) (q9 : Addr) (u : SX) (t : State) (H1 : Heap) (locs1 : List Loc), t.heap = H1 → s.vm.Alike t.vm → px u → BX E u t → H.size ≤ H1.size → (∀ q : Nat, q < H.size → ¬ AX q → H1[q]? = H[q]?) → va_S A0 H0 H1 locs1 → H1[q9]? = some ce → ce.vm = .none → s.vm.findClass E = some ce.cls → vx_W p l e R s m args below meth c H1 locs1 (cells + mc) (slots + ms) Q (F0 m pc ls rest) q9)
    (kk : ∀ (r : UInt64) (u : S) (t : State) (H1 : Heap) (locs1 : List Loc), t.heap = H1 → s.vm.Alike t.vm → post r u → B u t → H.size ≤ H1.size → (∀ q : Nat, q < H.size → ¬ A1 q → H1[q]? = H[q]?) → va_S A0 H0 H1 locs1 → W p l e R s m args below meth c H1 locs1 (cells + mc) (slots + ms) Q (F0 m (pc + 3) ls (.double r :: rest))) : W p l e R s m args below meth c H locs cells slots Q (F0 m pc ls st0) := by
  intro T hT X
  rcases hr T hT X with ⟨v, st₀, t, T', L, h0, X', hL, e1, e2, ⟨⟨r, u, hv, hp, hb⟩, hF⟩, st⟩ | ⟨q, st₀, t, T', L, E, ce, h0, X', hL, e1, e2, ⟨u, hp, hb, hF⟩, hce, hcv, hcl, st⟩
  · cases hv
    obtain ⟨k1, k2, k3⟩ := vx_keep h0 e1 hS hA hf hL hF
    obtain ⟨t2, a1, b1⟩ := kk r u t T'.heap (locs ++ L) e1.symm (by rw [← e2]; exact X'.warmed.alike) hp hb k1 k2 k3 T' rfl X'
    exact ⟨t2, st t2 a1, b1⟩
  · obtain ⟨k1, k2, k3⟩ := vx_keep h0 e1 hS hAX hf hL hF
    obtain ⟨t2, a1, b1⟩ := kx E ce q u t T'.heap (locs ++ L) e1.symm (by rw [← e2]; exact X'.warmed.alike) hp hb k1 k2 k3 (by rw [e1]; exact hce) hcv hcl T' rfl X'
    exact ⟨t2, st.trans a1, b1⟩
theorem vx_callv {S SX : Type} {post : S → Prop} {px : SX → Prop} {B : S → State → Prop} {BX : String → SX → State → Prop} {AX : Nat → Prop} (hr : vx_Run p l e R s m args below meth c H locs cells slots mc ms (F0 m pc ls st0) rest (va_Qv post B A1 a) (vx_X px BX AX) free) (hS : va_S A0 H0 H locs) (hA : ∀ q, q < H.size → A1 q → A0 q) (hf : ∀ q, free q → A0 q) (hAX : ∀ q, q < H.size → AX q → A0 q)
    (kx : ∀ (E : String) (ce : Cell) (q9 : Addr) (u : SX) (t : State) (H1 : Heap) (locs1 : List Loc), t.heap = H1 → s.vm.Alike t.vm → px u → BX E u t → H.size ≤ H1.size → (∀ q : Nat, q < H.size → ¬ AX q → H1[q]? = H[q]?) → va_S A0 H0 H1 locs1 → H1[q9]? = some ce → ce.vm = .none → s.vm.findClass E = some ce.cls → vx_W p l e R s m args below meth c H1 locs1 (cells + mc) (slots + ms) Q (F0 m pc ls rest) q9)
    (kk : ∀ (u : S) (t : State) (H1 : Heap) (locs1 : List Loc), t.heap = H1 → s.vm.Alike t.vm → post u → B u t → H.size ≤ H1.size → (∀ q : Nat, q < H.size → ¬ A1 q → H1[q]? = H[q]?) → va_S A0 H0 H1 locs1 → W p l e R s m args below meth c H1 locs1 (cells + mc) (slots + ms) Q (F0 m (pc + 3) ls (rest))) : W p l e R s m args below meth c H locs cells slots Q (F0 m pc ls st0) := by
  intro T hT X
  rcases hr T hT X with ⟨v, st₀, t, T', L, h0, X', hL, e1, e2, ⟨⟨u, hv, hp, hb⟩, hF⟩, st⟩ | ⟨q, st₀, t, T', L, E, ce, h0, X', hL, e1, e2, ⟨u, hp, hb, hF⟩, hce, hcv, hcl, st⟩
  · cases hv
    obtain ⟨k1, k2, k3⟩ := vx_keep h0 e1 hS hA hf hL hF
    obtain ⟨t2, a1, b1⟩ := kk u t T'.heap (locs ++ L) e1.symm (by rw [← e2]; exact X'.warmed.alike) hp hb k1 k2 k3 T' rfl X'
    exact ⟨t2, st t2 a1, b1⟩
  · obtain ⟨k1, k2, k3⟩ := vx_keep h0 e1 hS hAX hf hL hF
    obtain ⟨t2, a1, b1⟩ := kx E ce q u t T'.heap (locs ++ L) e1.symm (by rw [← e2]; exact X'.warmed.alike) hp hb k1 k2 k3 (by rw [e1]; exact hce) hcv hcl T' rfl X'
    exact ⟨t2, st.trans a1, b1⟩
/-- caught by the row x of this method's table; the rows ahead don't take it -/
theorem vx_catch {own name : String} {E : String} {ce : Cell} {q : Addr} (hown : s.vm.findClass own = some m.cls) (pre : List ExceptionTableEntry) (x : ExceptionTableEntry) (suf : List ExceptionTableEntry) (hsplit : c.exceptionTable.toList = pre ++ x :: suf)
    (hpass : ∀ z ∈ pre, covers z pc = false ∨ (z.catchType ≠ 0 ∧ ∃ nm : String, (Cond.classLink own z.catchType nm).before args s = true ∧ va_Nc E nm s)) (hx : covers x pc = true) (h0 : x.catchType ≠ 0)
    (hlink : (Cond.classLink own x.catchType name).before args s = true) (hcast : (Cond.castable E name).before args s = true) (hcell : H[q]? = some ce) (hv : ce.vm = .none) (hcl : s.vm.findClass E = some ce.cls)
    (kk : W p l e R s m args below meth c H locs cells slots Q (F0 m x.handlerPc ls [.ref q])) : vx_W p l e R s m args below meth c H locs cells slots Q (F0 m pc ls rest) q := by
  intro T hT X
  have hpl : e.platform.magicAccessors = ({} : Platform).magicAccessors := by rw [X.admits.platform]
  obtain ⟨c3, c4, hc3, hc4, hasg⟩ := Cond.castable_spec hcast
  cases Option.some.inj (hc3.symm.trans hcl)
  obtain ⟨c5, hc5, hcl5⟩ := Cond.classLink_spec hown hlink e.platform hpl
  cases Option.some.inj (hc4.symm.trans hc5)
  obtain ⟨vm', X', st⟩ := X.thenCaughtThrough q (g := F0 m pc ls rest) rfl (Steps.refl _) (by rw [hT]; exact hcell) (by rw [hv]; rfl) (by obtain ⟨k9, h9, -⟩ := Vm.findClass_spec hcl; exact ⟨k9, h9⟩) pre x suf hsplit
    (fun z hz => by
      rcases hpass z hz with h | ⟨hz0, nm, hl1, hn1⟩
      · exact Or.inl h
      · obtain ⟨c6, hc6, hcl6⟩ := Cond.classLink_spec hown hl1 e.platform hpl
        obtain ⟨a8, b8, h1, h2, h3⟩ := hn1
        cases Option.some.inj (h1.symm.trans hcl)
        cases Option.some.inj (h2.symm.trans hc6)
        exact Or.inr ⟨hz0, _, hcl6, h3⟩) hx (Or.inr ⟨h0, c4, hcl5, hasg⟩)
  obtain ⟨t, a1, b1⟩ := kk (T.setVm vm') hT X'
  exact ⟨t, st.trans a1, b1⟩
end Rows
section Ends
variable {p : Program} {l : Launch} {e : Env} {R : Room} {s : State} {m : MethodId} {args : Array Value} {below : List Frame} {meth : Method} {c : Code} {H : Heap} {locs : List Loc} {cells slots : Nat} {Q : State → Prop}
variable {mc ms : Nat} {free : Addr → Prop} {A0 A1 : Nat → Prop} {H0 : Heap} {a : Array Value} {ls : Array Slot} {st0 rest : List Value}
variable {Qc : Array Value → State → Outcome → State → Prop} {XC : String → State → State → Prop}
/-- what a body that may throw owes at its end -/
def vx_MQ (below : List Frame) (Qc : Array Value → State → Outcome → State → Prop) (XC : String → State → State → Prop) (a : Array Value) (s : State) (mc ms : Nat) (free : Addr → Prop) : State → Prop := fun t =>
  ∃ o, t.status = .running ∧ Ended t below o ∧ vx_Q Qc XC mc ms free a s o t
theorem vx_ret {g : JFrame} {mc ms : Nat} (k : W p l e R s m args below meth c H locs cells slots (MQ below Qc args s mc ms free) g) : W p l e R s m args below meth c H locs cells slots (vx_MQ below Qc XC args s mc ms free) g := by
  intro T hT X
  obtain ⟨t, a1, o, b1, b2, b3, b4⟩ := k T hT X
  exact ⟨t, a1, o, b1, b2, Or.inl ⟨b3, b4⟩⟩
/-- not caught here: it goes on to the caller -/
theorem vx_widen {g : JFrame} {q : Addr} {k n : Nat} (h1 : cells ≤ k) (h2 : slots ≤ n) (kk : vx_W p l e R s m args below meth c H locs k n Q g q) : vx_W p l e R s m args below meth c H locs cells slots Q g q := fun T hT X => kk T hT (stand_widen X h1 h2)
theorem vx_out {pc : Nat} {E : String} {ce : Cell} {q : Addr} {mc ms : Nat} (hout : ∀ x ∈ c.exceptionTable.toList, covers x pc = false) (hlocks : meth.locks = false) (hcell : H[q]? = some ce) (hv : ce.vm = .none) (hcl : s.vm.findClass E = some ce.cls)
    (hx : ∀ t : State, t.heap = H → s.vm.Alike t.vm → XC E s t) (hf : ∀ z ∈ locs, free z.base) (hc : cells ≤ mc) (hs : slots ≤ ms) :
    vx_W p l e R s m args below meth c H locs cells slots (vx_MQ below Qc XC args s mc ms free) (F0 m pc ls rest) q := by
  intro T hT X
  obtain ⟨st1, hrun, hend, hW, hsm⟩ := X.leaveThrown q (g := F0 m pc ls rest) rfl rfl rfl hout hlocks
  have hcell9 : (T.setFrames (.throwing q :: below)).heap[q]? = some ce := by
    show T.heap[q]? = some ce
    rw [hT]; exact hcell
  exact ⟨_, st1, .threw q, hrun, hend, Or.inr ⟨q, rfl, E, ce, locs, hx _ hT hW.alike, hcell9, hv, hcl, hW, hsm.mono hc hs, hf⟩⟩
theorem vx_frame {U : State} {k n : Nat} (h : s.sameButNew ({ U with vm := s.vm } : State) locs k n) : s.heap.size ≤ U.heap.size ∧ ∀ q : Nat, q < s.heap.size → (∀ z ∈ locs, z.base ≠ q) → U.heap[q]? = s.heap[q]? := by
  obtain ⟨-, h2, -, -, -, h6⟩ := h
  refine ⟨h2, fun q hq hz => ?_⟩
  obtain ⟨c9, e1, e2, e3, e4⟩ := h6 q _ (Array.getElem?_eq_getElem hq)
  have hs : c9.slots = (s.heap[q]).slots := Array.ext_getElem? fun i => e4 i fun hm => hz _ hm rfl
  have h9 : c9 = s.heap[q] := by
    rw [hs] at e2
    exact e2
  have e5 : U.heap[q]? = some c9 := e1
  rw [e5, h9, Array.getElem?_eq_getElem hq]
/-- the words of a throw but the four that speak of the heap -/
def vx_no (w : Cond) : Bool := decide (w ≠ .isRef (.static Bundle.tN "UNASSIGNED_STACK" Bundle.steD)) && decide (w ≠ .isRef (.static Bundle.tN "SUPPRESSED_SENTINEL" Bundle.listD)) && decide (w ≠ .laysStatic Bundle.tN "UNASSIGNED_STACK" Bundle.steD) && decide (w ≠ .laysStatic Bundle.tN "SUPPRESSED_SENTINEL" Bundle.listD)
def vx_at0 (own : String) (ic : Nat) (X : String) (names : List String) : List Cond := (Bundle.ownAtoms0 own ic X names).filter vx_no
def vx_atS (own : String) (ic : Nat) (X : String) (names : List String) : List Cond := (Bundle.ownAtoms own ic X names).filter vx_no
/-- a word that the tables alone decide, or a good one -/
def vx_ot (w : Cond) : Bool := w.onTables || goodWord w
theorem vx_ot_at {args a' : Array Value} {s U : State} {w : Cond} (hW : s.WarmedH U.vm) (hvm : s.vm = U.vm) (hg : vx_ot w = true) (h : w.before args s = true) : w.before a' U = true := by
  simp only [vx_ot, Bool.or_eq_true] at hg
  rcases hg with hg | hg
  · exact va_tabs hg hvm h
  · exact word_at hW (good_of_word hg) h
/-- a list's words: the good ones out of the method's own list, the others by premises of their own -/
theorem vx_hat {args : Array Value} {s : State} {L B : List Cond} (h1 : ∀ w ∈ L.filter goodWord, w.before args s = true) (h2 : ∀ w ∈ L.filter (fun w => !goodWord w), w ∈ B) (h3 : ∀ w ∈ B, w.before args s = true) : ∀ w ∈ L, w.before args s = true := by
  intro w hw
  by_cases g : goodWord w = true
  · exact h1 w (List.mem_filter.mpr ⟨hw, g⟩)
  · refine h3 w (h2 w (List.mem_filter.mpr ⟨hw, ?_⟩))
    show (!goodWord w) = true
    cases hgw : goodWord w
    · rfl
    · exact absurd hgw g
theorem vx_c {args : Array Value} {s : State} {w : Cond} {B : List Cond} (h : w.before args s = true) (t : ∀ w ∈ B, w.before args s = true) : ∀ w' ∈ w :: B, w'.before args s = true := fun w' h' => (List.mem_cons.mp h').elim (fun e => by rw [e]; exact h) (t w')
theorem vx_n {args : Array Value} {s : State} : ∀ w ∈ ([] : List Cond), w.before args s = true := fun _ h => nomatch h
theorem vx_own {args : Array Value} {s : State} {L : List Cond} (h1 : ∀ w ∈ L.filter vx_no, w.before args s = true)
    (hU : (Cond.isRef (.static Bundle.tN "UNASSIGNED_STACK" Bundle.steD)).before args s = true) (hN : (Cond.isRef (.static Bundle.tN "SUPPRESSED_SENTINEL" Bundle.listD)).before args s = true)
    (lU : (Cond.laysStatic Bundle.tN "UNASSIGNED_STACK" Bundle.steD).before args s = true) (lN : (Cond.laysStatic Bundle.tN "SUPPRESSED_SENTINEL" Bundle.listD).before args s = true) : ∀ w ∈ L, w.before args s = true := by
  intro w hw
  by_cases e1 : w = .isRef (.static Bundle.tN "UNASSIGNED_STACK" Bundle.steD)
  · rw [e1]; exact hU
  · by_cases e2 : w = .isRef (.static Bundle.tN "SUPPRESSED_SENTINEL" Bundle.listD)
    · rw [e2]; exact hN
    · by_cases e3 : w = .laysStatic Bundle.tN "UNASSIGNED_STACK" Bundle.steD
      · rw [e3]; exact lU
      · by_cases e4 : w = .laysStatic Bundle.tN "SUPPRESSED_SENTINEL" Bundle.listD
        · rw [e4]; exact lN
        · exact h1 w (List.mem_filter.mpr ⟨hw, by unfold vx_no; rw [decide_eq_true e1, decide_eq_true e2, decide_eq_true e3, decide_eq_true e4]; rfl⟩)
/-- where a static field lies, its class's statics cell in H -/
def vx_L (C n d : String) (A : Nat → Prop) (U : State) (H : Heap) : Prop := ∃ (c : ClassId) (k : Class) (i : Nat) (f : Field) (a : Nat) (cell : Cell), U.vm.findClass C = some c ∧ U.fieldFound? C n d = some (c, k, i, f) ∧ f.isStatic = true ∧ k.statics = some a ∧ H[a]? = some cell ∧ cell.vm.isStatics = true ∧ cell.cls = c ∧ f.slot < cell.slots.size ∧ k.staticTypes[f.slot]? = some f.type ∧ ¬ A a
theorem vx_L.moved {C n d : String} {A : Nat → Prop} {u U : State} {H : Heap} (hvm : u.vm.Alike U.vm) (h : vx_L C n d A u H) : vx_L C n d A U H := by
  obtain ⟨c, k, i, f, a, cell, h1, h2, h3, h4, h5, h6, h7, h8, h9, h10⟩ := h
  obtain ⟨k', hi', he⟩ := State.fieldFound?_setVm hvm h2
  exact ⟨c, k', i, f, a, cell, by rw [hvm.findClass]; exact h1, hi', h3, by rw [he]; exact h4, h5, h6, h7, h8, by rw [he]; exact h9, h10⟩
theorem vx_L.kept {C n d : String} {A : Nat → Prop} {U : State} {H H1 : Heap} (h : vx_L C n d A U H) (hq : ∀ a : Nat, a < H.size → ¬ A a → H1[a]? = H[a]?) : vx_L C n d A U H1 := by
  obtain ⟨c, k, i, f, a, cell, h1, h2, h3, h4, h5, h6, h7, h8, h9, h10⟩ := h
  exact ⟨c, k, i, f, a, cell, h1, h2, h3, h4, by rw [hq a (Array.getElem?_eq_some_iff.mp h5).1 h10]; exact h5, h6, h7, h8, h9, h10⟩
theorem vx_L.narrow {C n d : String} {A B : Nat → Prop} {U : State} {H : Heap} (h : vx_L C n d A U H) (hAB : ∀ q, B q → A q) : vx_L C n d B U H := by
  obtain ⟨c, k, i, f, a, cell, h1, h2, h3, h4, h5, h6, h7, h8, h9, h10⟩ := h
  exact ⟨c, k, i, f, a, cell, h1, h2, h3, h4, h5, h6, h7, h8, h9, fun z => h10 (hAB _ z)⟩
theorem vx_L.word {C n d : String} {A : Nat → Prop} {s : State} {args : Array Value} (h : vx_L C n d A s s.heap) : (Cond.laysStatic C n d).before args s = true := by
  obtain ⟨c, k, i, f, a, cell, h1, h2, h3, h4, h5, h6, h7, h8, h9, -⟩ := h
  show (Cond.laysStatic C n d).holds args s none s [] = true
  exact Cond.laysStatic_of h1 h2 h3 h4 h5 h6 h7 h8 h9
/-- .. and what it holds: null or some reference -/
def vx_Zq (C n d : String) (A : Nat → Prop) (U : State) (H : Heap) : Prop := va_Zq C n d A U H ∧ vx_L C n d A U H
theorem vx_Zq.moved {C n d : String} {A : Nat → Prop} {u U : State} {H : Heap} (hvm : u.vm.Alike U.vm) (h : vx_Zq C n d A u H) : vx_Zq C n d A U H := ⟨va_Zq.moved hvm h.1, vx_L.moved hvm h.2⟩
theorem vx_Zq.kept {C n d : String} {A : Nat → Prop} {U : State} {H H1 : Heap} (h : vx_Zq C n d A U H) (hq : ∀ a : Nat, a < H.size → ¬ A a → H1[a]? = H[a]?) : vx_Zq C n d A U H1 := ⟨va_Zq.kept h.1 hq, vx_L.kept h.2 hq⟩
theorem vx_Zq.narrow {C n d : String} {A B : Nat → Prop} {U : State} {H : Heap} (h : vx_Zq C n d A U H) (hAB : ∀ q, B q → A q) : vx_Zq C n d B U H := ⟨va_Zq.narrow h.1 hAB, vx_L.narrow h.2 hAB⟩
theorem vx_Zqof {args : Array Value} {s : State} {C n d : String} {A : Nat → Prop} (hl : (Cond.laysStatic C n d).before args s = true) (hini : (Cond.initialized C).before args s = true) (h : (Cond.isRef (.static C n d)).before args s = true) (hA : ∀ a : Nat, a < s.heap.size → ¬ A a) : vx_Zq C n d A s s.heap := by
  refine ⟨va_Zqof hl hini h hA, ?_⟩
  obtain ⟨c, k, i, f, a, cell, h1, h2, h3, h4, h5, h6, h7, h8, h9⟩ := Cond.laysStatic_spec hl
  exact ⟨c, k, i, f, a, cell, h1, h2, h3, h4, h5, h6, h7, h8, h9, hA a (Array.getElem?_eq_some_iff.mp h5).1⟩
theorem vx_isRef {C n d : String} {v : Value} {A : Nat → Prop} {s : State} {args : Array Value} (h : va_Z C n d v A s s.heap) (hv : v.isRef = true) : (Cond.isRef (.static C n d)).before args s = true := by
  obtain ⟨cf, kf, fi, f, a, cell, h1, h2, h3, h4, h5, h6, h7, -⟩ := h
  have he : (Term.static C n d).eval args s none [] s = some v := by
    simp [Term.eval, State.fieldNamed?, h1, h2, h4, h5, h6, h7]
  simp only [Cond.before, Cond.holds, Cond.value, he]
  cases v <;> simp_all [Value.isRef]
theorem vx_isRefq {C n d : String} {A : Nat → Prop} {s : State} {args : Array Value} (h : va_Zq C n d A s s.heap) : (Cond.isRef (.static C n d)).before args s = true := by
  rcases h with h | ⟨t, h⟩
  · exact vx_isRef h rfl
  · exact vx_isRef h rfl
/-- the same frame, seen from here: as if the method were called anew in this heap -/
theorem vx_rebase {T : State} (X : Stand p l e R s m args below meth c T locs cells slots) {R' : Room} (hf : R'.frames ≤ R.frames) (hl : R'.locals ≤ R.locals) (hc : cells + R'.cells ≤ R.cells) (hs : slots + R'.slots ≤ R.slots) :
    Stand p l e R' ((T.setVm s.vm).setFrames (.invoking m args :: below)) m args below meth c T [] 0 0 := by
  have htop : (T.setVm s.vm).topJava?.isSome := X.here.top
  have hF : ((T.setVm s.vm).setFrames (.invoking m args :: below)).frames = .invoking m args :: below := State.frames_setFrames _ (State.cur_lt_of_top htop)
  obtain ⟨g₀, hg0⟩ := Option.isSome_iff_exists.mp htop
  obtain ⟨r, hr⟩ := State.topJava?_eq_some.mp hg0
  have hl9 : e.platform.stackLimits (T.setVm s.vm).me = e.platform.stackLimits s.me := X.limits
  have hb9 : (T.setVm s.vm).me.stackBytes = s.me.stackBytes := X.bytes
  refine ⟨X.admits, X.cas, X.clock, hF, ?_, X.hears, X.method, X.code, X.here, X.tail, X.warmed, ?_, ?_, ?_⟩
  · have h := X.room
    have hU : ((T.setVm s.vm).setFrames (.invoking m args :: below)).localsInUse = s.localsInUse := by
      rw [State.localsInUse_invoking hF (meth := meth) (c := c) X.method X.code, State.localsInUse_invoking X.frames X.method X.code]
    simp only [State.hasRoom, Bool.and_eq_true, decide_eq_true_eq] at h ⊢
    obtain ⟨⟨⟨⟨h1, h2, h3, h4, h5, h6⟩, h7⟩, h8⟩, h9⟩ := h
    rw [X.frames, List.length_cons] at h2 h3
    have q1 := X.heapSize
    have q2 := X.used
    simp only [hF, hU, List.length_cons, State.stackLimits_setFrames, State.stackBytes_setFrames, hl9, hb9]
    refine ⟨⟨⟨⟨by omega, by omega, by omega, by omega, by omega, h6⟩, ?_⟩, ?_⟩, X.book⟩
    · show T.heap.size + R'.cells ≤ e.platform.maxCells
      omega
    · show T.slotsUsed + R'.slots ≤ e.platform.maxSlots
      omega
  · rw [State.stackLimits_setFrames]; rfl
  · rw [State.stackBytes_setFrames]; rfl
  · refine ⟨?_, Nat.le_refl _, Nat.le_refl _, ?_, ?_, fun a c9 h9 => ⟨c9, h9, rfl, rfl, fun _ _ => rfl⟩⟩
    · obtain ⟨t, ht, -⟩ := State.frames_cons hr
      show T.setVm s.vm = { ((T.setVm s.vm).setFrames (.invoking m args :: below)).setFrames (T.setVm s.vm).frames with heap := T.heap, slotsUsed := T.slotsUsed }
      rw [State.setFrames_setFrames, State.setFrames_self ht]
      rfl
    · show T.slotsUsed = T.slotsUsed + ((T.heap.toList.drop T.heap.size).map (·.slots.size)).sum
      rw [List.drop_eq_nil_of_le (Nat.le_of_eq Array.length_toList)]
      rfl
    · show ((T.heap.toList.drop T.heap.size).map (·.slots.size)).sum ≤ 0
      rw [List.drop_eq_nil_of_le (Nat.le_of_eq Array.length_toList)]
      exact Nat.le_refl _
/-- 'throw new E()': new; dup; invokespecial; athrow -/
theorem vx_throw0 {cc : ByteArray} {pc : Nat} (hexec : p.tables.exec = Jvm.exec) (hb : c.code = cc) (hl : l.stackTraces = false) {own cls : String} {names : List String} {ik ic mc ms : Nat} {A : Nat → Prop}
    (hown : s.vm.findClass own = some m.cls) (hcls : Bundle.fit cls = true) (hnames : ∀ n ∈ names, Bundle.fit n = true)
    (hk : (Cond.classLink own ik cls).before args s = true) (hini : (Cond.initialized cls).before args s = true) (hat : ∀ w ∈ vx_at0 own ic cls names, w.before args s = true)
    (hgood : ∀ w ∈ Cond.classLink own ik cls :: Cond.initialized cls :: vx_at0 own ic cls names, vx_ot w = true)
    (hU : vx_Zq Bundle.tN "UNASSIGNED_STACK" Bundle.steD A s s.heap) (hN : vx_Zq Bundle.tN "SUPPRESSED_SENTINEL" Bundle.listD A s s.heap) (hS : va_S A s.heap H locs) (hsize : ls.size = c.maxLocals)
    (d0 : decode cc pc = .ok (.new ik, 3)) (d3 : decode cc (pc + 3) = .ok (.dup, 1)) (d4 : decode cc (pc + 4) = .ok (.invokespecial ic, 3)) (d7 : decode cc (pc + 7) = .ok (.athrow, 1))
    (hout : ∀ x ∈ c.exceptionTable.toList, covers x (pc + 7) = false)
    (hRframes : names.length + 3 < R.frames) (hRlocals : (rest.map fun v => v.category).sum + (13 * (names.length + 1) + 42) ≤ R.locals) (hRcells : cells + 1 ≤ R.cells) (hRslots : slots + 6 ≤ R.slots) (hlocks : meth.locks = false)
    (hx : ∀ t : State, s.vm.Alike t.vm → H.size ≤ t.heap.size → (∀ q : Nat, q < H.size → t.heap[q]? = H[q]?) → XC cls s t)
    (hf : ∀ z ∈ locs, free z.base) (hc : cells + 1 ≤ mc) (hs : slots + 6 ≤ ms) :
    W p l e R s m args below meth c H locs cells slots (vx_MQ below Qc XC args s mc ms free) (F0 m pc ls rest) := by
  intro T hT X
  have htr : e.platform.stackTraces = false := (show e.platform.stackTraces = l.stackTraces by rw [X.admits.platform]).trans hl
  have Y := vx_rebase X (R' := { frames := R.frames, locals := R.locals, cells := 1, slots := 6 }) (Nat.le_refl _) (Nat.le_refl _) hRcells hRslots
  obtain ⟨s', hA⟩ : ∃ z, z = (T.setVm s.vm).setFrames (.invoking m args :: below) := ⟨_, rfl⟩
  rw [← hA] at Y
  have hvm : s'.vm = s.vm := by rw [hA]; rfl
  have hhp : s'.heap = H := by rw [hA]; exact hT
  have hW0 : s.WarmedH s'.vm := by rw [hvm]; exact State.WarmedH.refl s
  have hat' : ∀ w ∈ vx_at0 own ic cls names, w.before args s' = true := fun w hw => vx_ot_at hW0 hvm.symm (hgood w (List.mem_cons_of_mem _ (List.mem_cons_of_mem _ hw))) (hat w hw)
  have hk' : (Cond.classLink own ik cls).before args s' = true := vx_ot_at hW0 hvm.symm (hgood _ List.mem_cons_self) hk
  have hini' : (Cond.initialized cls).before args s' = true := vx_ot_at hW0 hvm.symm (hgood _ (List.mem_cons_of_mem _ List.mem_cons_self)) hini
  have hU' : vx_Zq Bundle.tN "UNASSIGNED_STACK" Bundle.steD A s' s'.heap := by rw [hhp]; exact vx_Zq.moved hW0.alike (hU.kept hS.2.1)
  have hN' : vx_Zq Bundle.tN "SUPPRESSED_SENTINEL" Bundle.listD A s' s'.heap := by rw [hhp]; exact vx_Zq.moved hW0.alike (hN.kept hS.2.1)
  have h : ∀ w ∈ Bundle.ownAtoms0 own ic cls names, w.before args s' = true := vx_own hat' (vx_isRefq hU'.1) (vx_isRefq hN'.1) hU'.2.word hN'.2.word
  have hown' : s'.vm.findClass own = some m.cls := by rw [hvm]; exact hown
  have hins : (Cond.instantiable cls 6).before args s' = true := h _ (by simp [Bundle.ownAtoms0])
  obtain ⟨vm₁, cX, kX, hfX, hkX, -, -, X₁, st1⟩ := Y.newCold hexec (own := own) (C := cls) (index := ik) (n := 6) hown' hk' hins hini'
    (g := F0 m pc ls rest) rfl (by rw [hb]; exact d0) (Nat.le_refl _) (Nat.le_refl _)
  generalize hT1 : (T.setVm vm₁).pushCell { cls := cX, slots := kX.instanceTypes.map defaultValue, vm := .none } = T1 at X₁ st1
  have hcat : (Value.ref T.heap.size).category = 1 := rfl
  have hcellA : T1.heap[T.heap.size]? = some (freshCell cX kX) := by rw [← hT1]; exact State.heap_pushCell_size _ _
  have d3' : decode c.code (pc + 3) = .ok (.dup, 1) := by rw [hb]; exact d3
  obtain ⟨U, hsteps, hrun, hend, hW, hsame, ce, hce, hO⟩ := X₁.ctorThrow0 hexec htr (own := own) (cls := cls) (names := names) (ic := ic) hown' hcls hnames h (fun x hx => nomatch hx) hfX hkX hcellA (by rw [hhp, hT]; exact Nat.le_refl _)
    (g := { method := m, pc := pc + 4, locals := ls, stack := .ref T.heap.size :: .ref T.heap.size :: rest, locked := none }) rfl hsize rfl rfl (rest := rest) rfl
    (by rw [hb]; exact d4) (by rw [hb]; exact d7) hout hRframes (by simp only [List.map_cons, List.sum_cons, hcat]; omega) hlocks
  obtain ⟨f1, f2⟩ := vx_frame hsame
  rw [hhp] at f1 f2
  have hWs : s.WarmedH U.vm := State.WarmedH.trans hW0 hW
  have hcl : s.vm.findClass cls = some ce.cls := by
    have h9 := hO.cls
    rw [hvm] at h9
    exact h9
  have hall : s.sameButNew ({ U with vm := s.vm } : State) locs mc ms := by
    subst hA
    obtain ⟨e1, e2⟩ := hsame
    rw [State.setFrames_setFrames] at e1
    have h2 : (T.setVm s.vm).sameButNew ({ U with vm := s.vm } : State) [] (0 + 1) (0 + 6) := ⟨e1, e2⟩
    have h3 := X.same.trans h2
    rw [List.append_nil] at h3
    exact h3.mono hc hs
  refine ⟨U, ?_, .threw T.heap.size, hrun, hend, Or.inr ⟨T.heap.size, rfl, cls, ce, locs, hx U hWs.alike f1 (fun q hq => f2 q hq (fun z hz => nomatch hz)), hce, hO.vm, hcl, hWs, hall, hf⟩⟩
  refine st1 _ ?_
  show Steps p.tables e below (T1.setTop { method := m, pc := pc + 3, locals := ls, stack := .ref T.heap.size :: rest, locked := none }) _
  jvm_step X₁.here [X₁.here.top, hexec, d3', Value.category]
  exact hsteps
/-- 'throw new E("text")': new; dup; ldc; invokespecial; athrow -/
theorem vx_throwS {cc : ByteArray} {pc : Nat} (hexec : p.tables.exec = Jvm.exec) (hb : c.code = cc) (hl : l.stackTraces = false) {own cls text : String} {names : List String} {ik is ic mc ms sa : Nat} {A : Nat → Prop}
    (hown : s.vm.findClass own = some m.cls) (hcls : Bundle.fit cls = true) (hnames : ∀ n ∈ names, Bundle.fit n = true)
    (hk : (Cond.classLink own ik cls).before args s = true) (hini : (Cond.initialized cls).before args s = true) (hstr : vk_R own is text sa s) (hat : ∀ w ∈ vx_atS own ic cls names, w.before args s = true)
    (hgood : ∀ w ∈ Cond.classLink own ik cls :: Cond.initialized cls :: vx_atS own ic cls names, vx_ot w = true)
    (hU : vx_Zq Bundle.tN "UNASSIGNED_STACK" Bundle.steD A s s.heap) (hN : vx_Zq Bundle.tN "SUPPRESSED_SENTINEL" Bundle.listD A s s.heap) (hS : va_S A s.heap H locs) (hsize : ls.size = c.maxLocals)
    (d0 : decode cc pc = .ok (.new ik, 3)) (d3 : decode cc (pc + 3) = .ok (.dup, 1)) (d4 : decode cc (pc + 4) = .ok (.ldc is, 2)) (d6 : decode cc (pc + 6) = .ok (.invokespecial ic, 3)) (d9 : decode cc (pc + 9) = .ok (.athrow, 1))
    (hout : ∀ x ∈ c.exceptionTable.toList, covers x (pc + 9) = false)
    (hRframes : names.length + 3 < R.frames) (hRlocals : (rest.map fun v => v.category).sum + (13 * (names.length + 1) + 43) ≤ R.locals) (hRcells : cells + 1 ≤ R.cells) (hRslots : slots + 6 ≤ R.slots) (hlocks : meth.locks = false)
    (hx : ∀ t : State, s.vm.Alike t.vm → H.size ≤ t.heap.size → (∀ q : Nat, q < H.size → t.heap[q]? = H[q]?) → XC cls s t)
    (hf : ∀ z ∈ locs, free z.base) (hc : cells + 1 ≤ mc) (hs : slots + 6 ≤ ms) :
    W p l e R s m args below meth c H locs cells slots (vx_MQ below Qc XC args s mc ms free) (F0 m pc ls rest) := by
  intro T hT X
  have htr : e.platform.stackTraces = false := (show e.platform.stackTraces = l.stackTraces by rw [X.admits.platform]).trans hl
  have Y := vx_rebase X (R' := { frames := R.frames, locals := R.locals, cells := 1, slots := 6 }) (Nat.le_refl _) (Nat.le_refl _) hRcells hRslots
  obtain ⟨s', hA⟩ : ∃ z, z = (T.setVm s.vm).setFrames (.invoking m args :: below) := ⟨_, rfl⟩
  rw [← hA] at Y
  have hvm : s'.vm = s.vm := by rw [hA]; rfl
  have hhp : s'.heap = H := by rw [hA]; exact hT
  have hW0 : s.WarmedH s'.vm := by rw [hvm]; exact State.WarmedH.refl s
  have hat' : ∀ w ∈ vx_atS own ic cls names, w.before args s' = true := fun w hw => vx_ot_at hW0 hvm.symm (hgood w (List.mem_cons_of_mem _ (List.mem_cons_of_mem _ hw))) (hat w hw)
  have hk' : (Cond.classLink own ik cls).before args s' = true := vx_ot_at hW0 hvm.symm (hgood _ List.mem_cons_self) hk
  have hini' : (Cond.initialized cls).before args s' = true := vx_ot_at hW0 hvm.symm (hgood _ (List.mem_cons_of_mem _ List.mem_cons_self)) hini
  have hU' : vx_Zq Bundle.tN "UNASSIGNED_STACK" Bundle.steD A s' s'.heap := by rw [hhp]; exact vx_Zq.moved hW0.alike (hU.kept hS.2.1)
  have hN' : vx_Zq Bundle.tN "SUPPRESSED_SENTINEL" Bundle.listD A s' s'.heap := by rw [hhp]; exact vx_Zq.moved hW0.alike (hN.kept hS.2.1)
  have h : ∀ w ∈ Bundle.ownAtoms own ic cls names, w.before args s' = true := vx_own hat' (vx_isRefq hU'.1) (vx_isRefq hN'.1) hU'.2.word hN'.2.word
  have hown' : s'.vm.findClass own = some m.cls := by rw [hvm]; exact hown
  have hins : (Cond.instantiable cls 6).before args s' = true := h _ (by simp [Bundle.ownAtoms])
  obtain ⟨vm₁, cX, kX, hfX, hkX, -, -, X₁, st1⟩ := Y.newCold hexec (own := own) (C := cls) (index := ik) (n := 6) hown' hk' hins hini'
    (g := F0 m pc ls rest) rfl (by rw [hb]; exact d0) (Nat.le_refl _) (Nat.le_refl _)
  generalize hT1 : (T.setVm vm₁).pushCell { cls := cX, slots := kX.instanceTypes.map defaultValue, vm := .none } = T1 at X₁ st1
  have hcat : (Value.ref T.heap.size).category = 1 := rfl
  have hcellA : T1.heap[T.heap.size]? = some (freshCell cX kX) := by rw [← hT1]; exact State.heap_pushCell_size _ _
  have d3' : decode c.code (pc + 3) = .ok (.dup, 1) := by rw [hb]; exact d3
  have d4' : decode c.code (pc + 4) = .ok (.ldc is, 2) := by rw [hb]; exact d4
  have hstr' : vk_R own is text sa s' := vk_R.warm hW0 hstr
  obtain ⟨U, hsteps, hrun, hend, hW, hsame, ce, hce, hO⟩ := X₁.ctorThrowS hexec htr (own := own) (cls := cls) (names := names) (ic := ic) hown' hcls hnames h (fun x hx => nomatch hx) hfX hkX hcellA (by rw [hhp, hT]; exact Nat.le_refl _) (msg := .ref sa) rfl
    (g := { method := m, pc := pc + 6, locals := ls, stack := .ref sa :: .ref T.heap.size :: .ref T.heap.size :: rest, locked := none }) rfl hsize rfl rfl (rest := rest) rfl
    (by rw [hb]; exact d6) (by rw [hb]; exact d9) hout hRframes (by simp only [List.map_cons, List.sum_cons, hcat]; omega) hlocks
  obtain ⟨f1, f2⟩ := vx_frame hsame
  rw [hhp] at f1 f2
  have hWs : s.WarmedH U.vm := State.WarmedH.trans hW0 hW
  have hcl : s.vm.findClass cls = some ce.cls := by
    have h9 := hO.cls
    rw [hvm] at h9
    exact h9
  have hall : s.sameButNew ({ U with vm := s.vm } : State) locs mc ms := by
    subst hA
    obtain ⟨e1, e2⟩ := hsame
    rw [State.setFrames_setFrames] at e1
    have h2 : (T.setVm s.vm).sameButNew ({ U with vm := s.vm } : State) [] (0 + 1) (0 + 6) := ⟨e1, e2⟩
    have h3 := X.same.trans h2
    rw [List.append_nil] at h3
    exact h3.mono hc hs
  refine ⟨U, ?_, .threw T.heap.size, hrun, hend, Or.inr ⟨T.heap.size, rfl, cls, ce, locs, hx U hWs.alike f1 (fun q hq => f2 q hq (fun z hz => nomatch hz)), hce, hO.vm, hcl, hWs, hall, hf⟩⟩
  refine st1 _ ?_
  show Steps p.tables e below (T1.setTop { method := m, pc := pc + 3, locals := ls, stack := .ref T.heap.size :: rest, locked := none }) _
  jvm_step X₁.here [X₁.here.top, hexec, d3', Value.category]
  exact X₁.ldcString hexec (own := own) (text := text) (index := is) (a := sa) hown' hstr'.1 hstr'.2
    (g := { method := m, pc := pc + 4, locals := ls, stack := .ref T.heap.size :: .ref T.heap.size :: rest, locked := none }) rfl d4' _ hsteps
/-- 'throw new E("text")', the text by a wide index -/
theorem vx_throwSW {cc : ByteArray} {pc : Nat} (hexec : p.tables.exec = Jvm.exec) (hb : c.code = cc) (hl : l.stackTraces = false) {own cls text : String} {names : List String} {ik is ic mc ms sa : Nat} {A : Nat → Prop}
    (hown : s.vm.findClass own = some m.cls) (hcls : Bundle.fit cls = true) (hnames : ∀ n ∈ names, Bundle.fit n = true)
    (hk : (Cond.classLink own ik cls).before args s = true) (hini : (Cond.initialized cls).before args s = true) (hstr : vk_R own is text sa s) (hat : ∀ w ∈ vx_atS own ic cls names, w.before args s = true)
    (hgood : ∀ w ∈ Cond.classLink own ik cls :: Cond.initialized cls :: vx_atS own ic cls names, vx_ot w = true)
    (hU : vx_Zq Bundle.tN "UNASSIGNED_STACK" Bundle.steD A s s.heap) (hN : vx_Zq Bundle.tN "SUPPRESSED_SENTINEL" Bundle.listD A s s.heap) (hS : va_S A s.heap H locs) (hsize : ls.size = c.maxLocals)
    (d0 : decode cc pc = .ok (.new ik, 3)) (d3 : decode cc (pc + 3) = .ok (.dup, 1)) (d4 : decode cc (pc + 4) = .ok (.ldc_w is, 3)) (d7 : decode cc (pc + 7) = .ok (.invokespecial ic, 3)) (d10 : decode cc (pc + 10) = .ok (.athrow, 1))
    (hout : ∀ x ∈ c.exceptionTable.toList, covers x (pc + 10) = false)
    (hRframes : names.length + 3 < R.frames) (hRlocals : (rest.map fun v => v.category).sum + (13 * (names.length + 1) + 43) ≤ R.locals) (hRcells : cells + 1 ≤ R.cells) (hRslots : slots + 6 ≤ R.slots) (hlocks : meth.locks = false)
    (hx : ∀ t : State, s.vm.Alike t.vm → H.size ≤ t.heap.size → (∀ q : Nat, q < H.size → t.heap[q]? = H[q]?) → XC cls s t)
    (hf : ∀ z ∈ locs, free z.base) (hc : cells + 1 ≤ mc) (hs : slots + 6 ≤ ms) :
    W p l e R s m args below meth c H locs cells slots (vx_MQ below Qc XC args s mc ms free) (F0 m pc ls rest) := by
  intro T hT X
  have htr : e.platform.stackTraces = false := (show e.platform.stackTraces = l.stackTraces by rw [X.admits.platform]).trans hl
  have Y := vx_rebase X (R' := { frames := R.frames, locals := R.locals, cells := 1, slots := 6 }) (Nat.le_refl _) (Nat.le_refl _) hRcells hRslots
  obtain ⟨s', hA⟩ : ∃ z, z = (T.setVm s.vm).setFrames (.invoking m args :: below) := ⟨_, rfl⟩
  rw [← hA] at Y
  have hvm : s'.vm = s.vm := by rw [hA]; rfl
  have hhp : s'.heap = H := by rw [hA]; exact hT
  have hW0 : s.WarmedH s'.vm := by rw [hvm]; exact State.WarmedH.refl s
  have hat' : ∀ w ∈ vx_atS own ic cls names, w.before args s' = true := fun w hw => vx_ot_at hW0 hvm.symm (hgood w (List.mem_cons_of_mem _ (List.mem_cons_of_mem _ hw))) (hat w hw)
  have hk' : (Cond.classLink own ik cls).before args s' = true := vx_ot_at hW0 hvm.symm (hgood _ List.mem_cons_self) hk
  have hini' : (Cond.initialized cls).before args s' = true := vx_ot_at hW0 hvm.symm (hgood _ (List.mem_cons_of_mem _ List.mem_cons_self)) hini
  have hU' : vx_Zq Bundle.tN "UNASSIGNED_STACK" Bundle.steD A s' s'.heap := by rw [hhp]; exact vx_Zq.moved hW0.alike (hU.kept hS.2.1)
  have hN' : vx_Zq Bundle.tN "SUPPRESSED_SENTINEL" Bundle.listD A s' s'.heap := by rw [hhp]; exact vx_Zq.moved hW0.alike (hN.kept hS.2.1)
  have h : ∀ w ∈ Bundle.ownAtoms own ic cls names, w.before args s' = true := vx_own hat' (vx_isRefq hU'.1) (vx_isRefq hN'.1) hU'.2.word hN'.2.word
  have hown' : s'.vm.findClass own = some m.cls := by rw [hvm]; exact hown
  have hins : (Cond.instantiable cls 6).before args s' = true := h _ (by simp [Bundle.ownAtoms])
  obtain ⟨vm₁, cX, kX, hfX, hkX, -, -, X₁, st1⟩ := Y.newCold hexec (own := own) (C := cls) (index := ik) (n := 6) hown' hk' hins hini'
    (g := F0 m pc ls rest) rfl (by rw [hb]; exact d0) (Nat.le_refl _) (Nat.le_refl _)
  generalize hT1 : (T.setVm vm₁).pushCell { cls := cX, slots := kX.instanceTypes.map defaultValue, vm := .none } = T1 at X₁ st1
  have hcat : (Value.ref T.heap.size).category = 1 := rfl
  have hcellA : T1.heap[T.heap.size]? = some (freshCell cX kX) := by rw [← hT1]; exact State.heap_pushCell_size _ _
  have d3' : decode c.code (pc + 3) = .ok (.dup, 1) := by rw [hb]; exact d3
  have d4' : decode c.code (pc + 4) = .ok (.ldc_w is, 3) := by rw [hb]; exact d4
  have hstr' : vk_R own is text sa s' := vk_R.warm hW0 hstr
  obtain ⟨U, hsteps, hrun, hend, hW, hsame, ce, hce, hO⟩ := X₁.ctorThrowS hexec htr (own := own) (cls := cls) (names := names) (ic := ic) hown' hcls hnames h (fun x hx => nomatch hx) hfX hkX hcellA (by rw [hhp, hT]; exact Nat.le_refl _) (msg := .ref sa) rfl
    (g := { method := m, pc := pc + 7, locals := ls, stack := .ref sa :: .ref T.heap.size :: .ref T.heap.size :: rest, locked := none }) rfl hsize rfl rfl (rest := rest) rfl
    (by rw [hb]; exact d7) (by rw [hb]; exact d10) hout hRframes (by simp only [List.map_cons, List.sum_cons, hcat]; omega) hlocks
  obtain ⟨f1, f2⟩ := vx_frame hsame
  rw [hhp] at f1 f2
  have hWs : s.WarmedH U.vm := State.WarmedH.trans hW0 hW
  have hcl : s.vm.findClass cls = some ce.cls := by
    have h9 := hO.cls
    rw [hvm] at h9
    exact h9
  have hall : s.sameButNew ({ U with vm := s.vm } : State) locs mc ms := by
    subst hA
    obtain ⟨e1, e2⟩ := hsame
    rw [State.setFrames_setFrames] at e1
    have h2 : (T.setVm s.vm).sameButNew ({ U with vm := s.vm } : State) [] (0 + 1) (0 + 6) := ⟨e1, e2⟩
    have h3 := X.same.trans h2
    rw [List.append_nil] at h3
    exact h3.mono hc hs
  refine ⟨U, ?_, .threw T.heap.size, hrun, hend, Or.inr ⟨T.heap.size, rfl, cls, ce, locs, hx U hWs.alike f1 (fun q hq => f2 q hq (fun z hz => nomatch hz)), hce, hO.vm, hcl, hWs, hall, hf⟩⟩
  refine st1 _ ?_
  show Steps p.tables e below (T1.setTop { method := m, pc := pc + 3, locals := ls, stack := .ref T.heap.size :: rest, locked := none }) _
  jvm_step X₁.here [X₁.here.top, hexec, d3', Value.category]
  exact X₁.ldcStringW hexec (own := own) (text := text) (index := is) (a := sa) hown' hstr'.1 hstr'.2
    (g := { method := m, pc := pc + 4, locals := ls, stack := .ref T.heap.size :: .ref T.heap.size :: rest, locked := none }) rfl d4' _ hsteps
end Ends
section Bodies
variable {l : Launch}
theorem vx_ofW {y : MethodName} {ws ws' : List Cond} {rm : Room} {Pc : Array Value → State → Prop} {Qc : Array Value → State → Outcome → State → Prop} {XC : String → State → State → Prop} {mc ms : Nat} {free : Addr → Prop} {cc : ByteArray} {maxL : Nat} {ret : Option FieldType}
    (hy : plainName y.cls = true) (hw : ws = Cond.code y cc maxL ret :: ws')
    (body : ∀ p e s m args below meth c s₁, BodyLoose p l y (headSpec ws rm) cc maxL ret e s m args below meth c s₁ → c.maxLocals = maxL → (∀ x ∈ c.exceptionTable.toList, False) → Pc args s →
      W p l e (headSpec ws rm).room s m args below meth c s.heap [] 0 0 (vx_MQ below Qc XC args s mc ms free) (entryFrame m args maxL)) : vx_Met l y ws rm Pc Qc XC mc ms free := by
  refine MetFree.of_bodyS (code := cc) (maxLocals := maxL) (ret := ret) hy ?_ ?_
  · intro args s m h hn
    obtain ⟨meth, c, h1, h2, h3, h4, h5, h6, -, -⟩ := Cond.code_spec hn (atoms_spec (ws := ws) h _ (by rw [hw]; exact List.mem_cons_self))
    exact ⟨meth, c, h1, h2, h3, h4, h5, h6⟩
  · intro p e s m args below meth c s₁ B hml hP _
    have hh0 : s₁.heap = s.heap := by rw [B.state]; rfl
    have ht : ∀ x ∈ c.exceptionTable.toList, False := by
      obtain ⟨meth9, c9, h1, h2, -, -, -, -, h7, -⟩ := Cond.code_spec B.named (atoms_spec (ws := ws) B.pre _ (by rw [hw]; exact List.mem_cons_self))
      cases Option.some.inj (h1.symm.trans B.method)
      cases Option.some.inj (h2.symm.trans (Stand.of_body B).code)
      intro x hx
      rw [Array.isEmpty_iff.mp h7] at hx
      cases hx
    obtain ⟨t, a1, o, b1, b2, b3⟩ := body p e s m args below meth c s₁ B hml ht hP s₁ hh0 (Stand.of_body B)
    exact ⟨t, o, a1, b1, b2, b3⟩
/-- the table of a body with handlers -/
theorem vx_table {p : Program} {x y : MethodName} {S : Spec} {cc bytes : ByteArray} {maxL maxL' : Nat} {ret ret' : Option FieldType} {e : Env} {s s₁ : State} {m : MethodId} {args : Array Value} {below : List Frame} {meth : Method} {c : Code} {hh : List (Nat × Nat × Nat × Nat)}
    (B : BodyLoose p l y S cc maxL ret e s m args below meth c s₁) (h : (Cond.codeWith y bytes maxL' ret' hh).before args s = true) : c.exceptionTable.toList = tableOf hh := by
  obtain ⟨m9, meth9, c9, hn9, h1, h2, -, -, h6, -⟩ := Cond.codeWith_spec h
  cases Option.some.inj (hn9.symm.trans B.named)
  cases Option.some.inj (h1.symm.trans B.method)
  cases Option.some.inj (h2.symm.trans (Stand.of_body B).code)
  rw [← h6, table_eq]
end Bodies
end VXA
/-! ===== END ===== -/
/-! ===== BEGIN a static call of a method with an exception table ===== -/
section VXS
variable {p : Program} {l : Launch} {e : Env} {R : Room} {s : State} {m : MethodId} {args : Array Value} {below : List Frame} {meth : Method} {c : Code} {T : State} {H : Heap} {locs : List Loc} {cells slots : Nat}
abbrev vx_CSW (R : Room) (s : State) (args : Array Value) (own : String) (index : Nat) (y : MethodName) (bytes : ByteArray) (maxL : Nat) (ret : Option FieldType) (hh : List (Nat × Nat × Nat × Nat)) (ws : List Cond) (rm : Room) (mc ms n : Nat) : Prop :=
  (rm.cells = mc ∧ rm.slots = ms ∧ rm.frames + 1 ≤ R.frames ∧ 8 + (maxL + 11) + rm.locals ≤ R.locals ∧ (∀ w ∈ ws, ∀ (a' : Array Value) (U : State), s.WarmedH U.vm → w.before a' U = true) ∧ Cond.codeWith y bytes maxL ret hh ∈ ws) ∧
  (Cond.codeWith y bytes maxL ret hh).before args s = true ∧ (Cond.initialized y.cls).before args s = true ∧ (y.cls ≠ "java/lang/invoke/MethodHandle" ∧ y.cls ≠ "java/lang/invoke/VarHandle") ∧
  (∀ sig, parseMethodDescriptor y.desc = some sig → n = sig.parameters.length) ∧ (Cond.methodLink own index y).before args s = true ∧ (Cond.static y).before args s = true
theorem vx_cwSW {own : String} {index maxL mc ms : Nat} {y : MethodName} {bytes : ByteArray} {ret : Option FieldType} {hh : List (Nat × Nat × Nat × Nat)} {Ts ws ws' : List Cond} {rm : Room} (n : Nat) (ht : ∀ w ∈ Ts, w.before args s = true) (hT : GoodIn Ts (va_wsS own index y ws)) (hw : ws = Cond.codeWith y bytes maxL ret hh :: ws') (hrc : rm.cells = mc) (hrs : rm.slots = ms)
    (hd : y.cls ≠ "java/lang/invoke/MethodHandle" ∧ y.cls ≠ "java/lang/invoke/VarHandle" ∧ (parseMethodDescriptor y.desc).map (fun d => d.parameters.length) = some n) (hR : rm.frames + 1 ≤ R.frames ∧ 8 + (maxL + 11) + rm.locals ≤ R.locals) :
    vx_CSW R s args own index y bytes maxL ret hh ws rm mc ms n := by
  have ok : ∀ w ∈ va_wsS own index y ws, w.before args s = true := fun w h => ht w (hT w h).1
  have hG : GoodIn Ts ws := fun w h => hT w (by unfold va_wsS; exact List.mem_append_right _ h)
  have hc : Cond.codeWith y bytes maxL ret hh ∈ ws := by rw [hw]; exact List.mem_cons_self
  refine ⟨⟨hrc, hrs, hR.1, hR.2, pay_in ht hG, hc⟩, ht _ (hG _ hc).1, ok _ (by simp [va_wsS]), ⟨hd.1, hd.2.1⟩, fun sig h => ?_, ok _ (by simp [va_wsS]), ok _ (by simp [va_wsS])⟩
  have h2 := hd.2.2
  rw [h] at h2
  exact (Option.some.inj h2).symm
theorem vx_callSW (X : Stand p l e R s m args below meth c T locs cells slots) (hexec : p.tables.exec = Jvm.exec) {own : String} {index : Nat} {y : MethodName} {bytes : ByteArray} {maxL : Nat} {ret : Option FieldType} {hh : List (Nat × Nat × Nat × Nat)}
    (hown : s.vm.findClass own = some m.cls) (hlink : (Cond.methodLink own index y).before args s = true) (hstat : (Cond.static y).before args s = true) (hinit : (Cond.initialized y.cls).before args s = true)
    (hcode : (Cond.codeWith y bytes maxL ret hh).before args s = true) (hy : y.cls ≠ "java/lang/invoke/MethodHandle" ∧ y.cls ≠ "java/lang/invoke/VarHandle")
    {W9 : Nat} {Pre : Pt → Array Value → Prop} {Post : Pt → Array Value → Option Value → Pt → Prop} (hK : Back l R p e below s args y 3 W9 Pre Post)
    {g : JFrame} (hg : g.method = m) (hsize : g.locals.size = c.maxLocals) {argsL rest : List Value} (hlen : ∀ sig, parseMethodDescriptor y.desc = some sig → argsL.length = sig.parameters.length)
    (hstack : g.stack = argsL.reverse ++ rest) (hW : 2 * g.monitorRoom + (rest.map fun v => v.category).sum ≤ W9) (hdg : decode c.code g.pc = .ok (.invokestatic index, 3))
    (hpre : ∀ vm₁, s.WarmedH vm₁ → Pre ⟨T.setVm vm₁, locs, cells, slots⟩ argsL.toArray) :
    ∃ (v : Option Value) (vm₁ : Vm) (B : Pt), s.WarmedH vm₁ ∧ Stand p l e R s m args below meth c B.U B.locs B.cells B.slots ∧ Post ⟨T.setVm vm₁, locs, cells, slots⟩ argsL.toArray v B ∧
      ∀ target, Steps p.tables e below (B.U.setTop { g with pc := g.pc + 3, stack := v.toList ++ rest }) target → Steps p.tables e below (T.setTop g) target := by
  obtain ⟨mk, methM, cM, hnamed, hmethM, -, -, -, -, -, -, hsigM⟩ := Cond.codeWith_spec hcode
  have hstatic : methM.isStatic = true := Cond.static_spec hnamed hmethM hstat
  obtain ⟨kP, hkP, -⟩ := className_of_methodNamed hnamed
  have hinitP : kP.init = .initialized := Cond.initialized_spec (findClass_of_methodNamed hnamed) hkP hinit
  obtain ⟨vm₁, X₁, hstep₁⟩ := X.invokestatic hexec hown hlink hnamed hmethM hstatic hkP hinitP hy (g := g) hg (argsL := argsL) (rest := rest) (hlen _ hsigM) hstack hdg
  obtain ⟨v, B, X', hpost, hsteps⟩ := hK m meth c ⟨T.setVm vm₁, locs, cells, slots⟩ { g with stack := rest } (.invokestatic index) mk argsL.toArray X₁ hg hsize hdg hW (X₁.named hnamed) (hpre vm₁ X₁.warmed)
  exact ⟨v, vm₁, B, X₁.warmed, X', hpost, fun target h => hstep₁ _ fun acts => by rw [doInvoke_state]; exact hsteps.trans h⟩
theorem vx_runSW {y : MethodName} {bytes cc : ByteArray} {maxL nL mc ms n index : Nat} {ret : Option FieldType} {hh : List (Nat × Nat × Nat × Nat)} {ws : List Cond} {rm : Room} {Pc : Array Value → State → Prop} {Qc : Array Value → State → Outcome → State → Prop} {free : Addr → Prop} {Ts : List Cond} {own : String} {As rest : List Value} {g : JFrame}
    (S : CallFix p m c cc nL s args Ts own) (hM : Met l y ws rm Pc Qc mc ms free) (cw : vx_CSW R s args own index y bytes maxL ret hh ws rm mc ms n) (hp : PreS s H Pc As)
    (hg : g.method = m) (hn : As.length = n) (hsize : g.locals.size = nL) (hstack : g.stack = As.reverse ++ rest) (hW : 2 * g.monitorRoom + (rest.map fun v => v.category).sum ≤ 8) (hdg : decode cc g.pc = .ok (.invokestatic index, 3)) (hf : cells + mc ≤ R.cells ∧ slots + ms ≤ R.slots) :
    va_Run p l e R s m args below meth c H locs cells slots mc ms g rest (Qc As.toArray) (free) := by
  obtain ⟨⟨hrc, hrs, hfr, hlo, hws, hcw⟩, hcode, hini, hy, hlen, hl, hstt⟩ := cw
  have hK : Back l R p e below s args y 3 8 (PreOf R mc ms Pc) (PostOf Qc mc ms free) := va_backW (hh := hh) (bytes := bytes) (maxL := maxL) (ret := ret) hM hp.1 hrc hrs hfr hlo hws hcw (fun a' U hW => word_at hW (Or.inl (by first | rfl | simp [Cond.onTables, Cond.keeps, Cond.steady])) hini)
  obtain ⟨hx, hb, hml, ho, -⟩ := S
  intro T hT X
  obtain ⟨v, vm₁, ⟨U', l2, c2, s2⟩, hW₁, X', ⟨g', mk, t, L, e1, e2, hq, h1, hL, h2, h3⟩, st⟩ := vx_callSW X hx (hh := hh) (bytes := bytes) (maxL := maxL) (ret := ret) ho hl hstt hini hcode hy hK hg (hsize.trans hml.symm) (argsL := As) (rest := rest) (fun sig h => hn.trans (hlen sig h)) hstack hW (by rw [hb]; exact hdg)
    (fun vm₁ hW₁ => ⟨hf.1, hf.2, hp.2 (T.setVm vm₁) hT hW₁⟩)
  dsimp only [Pt.U, Pt.locs, Pt.cells, Pt.slots] at X' e1 e2 h1 h2 h3 st
  subst h1; subst h2; subst h3
  exact ⟨v, (T.setVm vm₁).calling g' mk As.toArray, t, U', L, hT, X', hL, e1, e2, hq, st⟩
/-- not caught here, past rows that name other classes: it goes on to the caller -/
theorem vx_outP {p : Program} {l : Launch} {e : Env} {R : Room} {s : State} {m : MethodId} {args : Array Value} {below : List Frame} {meth : Method} {c : Code} {H : Heap} {locs : List Loc} {cells slots : Nat} {free : Addr → Prop} {ls : Array Slot} {rest : List Value} {Qc : Array Value → State → Outcome → State → Prop} {XC : String → State → State → Prop}
    {pc : Nat} {own E : String} {ce : Cell} {q : Addr} {mc ms : Nat} (hown : s.vm.findClass own = some m.cls) (hlocks : meth.locks = false)
    (hpass : ∀ z ∈ c.exceptionTable.toList, covers z pc = false ∨ (z.catchType ≠ 0 ∧ ∃ nm : String, (Cond.classLink own z.catchType nm).before args s = true ∧ va_Nc E nm s)) (hcell : H[q]? = some ce) (hv : ce.vm = .none) (hcl : s.vm.findClass E = some ce.cls)
    (hx : ∀ t : State, t.heap = H → s.vm.Alike t.vm → XC E s t) (hf : ∀ z ∈ locs, free z.base) (hc : cells ≤ mc) (hs : slots ≤ ms) :
    vx_W p l e R s m args below meth c H locs cells slots (vx_MQ below Qc XC args s mc ms free) (F0 m pc ls rest) q := by
  intro T hT X
  have hpl : e.platform.magicAccessors = ({} : Platform).magicAccessors := by rw [X.admits.platform]
  obtain ⟨vm', hW', X', st⟩ := X.outThrough hlocks q (g := F0 m pc ls rest) rfl rfl rfl (cell := ce) (by rw [hT]; exact hcell) (by rw [hv]; rfl)
    (by obtain ⟨k9, h9, -⟩ := Vm.findClass_spec hcl; exact ⟨k9, h9⟩) (fun z hz => by
      rcases hpass z hz with h | ⟨hz0, nm, hl1, hn1⟩
      · exact Or.inl h
      · obtain ⟨c6, hc6, hcl6⟩ := Cond.classLink_spec hown hl1 e.platform hpl
        obtain ⟨a8, b8, h1, h2, h3⟩ := hn1
        cases Option.some.inj (h1.symm.trans hcl)
        cases Option.some.inj (h2.symm.trans hc6)
        exact Or.inr ⟨hz0, _, hcl6, h3⟩)
  obtain ⟨g₀, hfr⟩ := X'.frames_eq
  have hcell9 : ((T.setVm vm').setFrames (.throwing q :: below)).heap[q]? = some ce := by
    show T.heap[q]? = some ce
    rw [hT]; exact hcell
  have hend : Ended ((T.setVm vm').setFrames (.throwing q :: below)) below (.threw q) := State.frames_setFrames _ (State.cur_lt_of_frames hfr)
  refine ⟨(T.setVm vm').setFrames (.throwing q :: below), ?_, .threw q, X'.here.running, hend, Or.inr ⟨q, rfl, E, ce, locs, hx _ hT (X'.ends _).1.alike, hcell9, hv, hcl, (X'.ends _).1, (X'.ends _).2.mono hc hs, hf⟩⟩
  rw [X.pushThrowing_eq]
  exact st
/-- a thing of a world lies in the heap -/
theorem vx_lt {D : va_G} {cl : List vw_C} {ws : va_W} {H1 : Heap} (h : va_P D cl ws H1) {k : Nat} {q : Nat × va_E} (hk : ws[k]? = some q) : q.1 < H1.size := (h k q hk).lt
end VXS
/-! ===== END ===== -/
/-! ===== BEGIN methods with a table of their own: called by a name, returning or throwing ===== -/
section VXH
/-! vx_backW, vx_callVX, vx_callSX, vx_callVW, vx_runVW, vx_runVX, vx_runSX, vx_ofWH follow the same proofs as their sisters above (Free/Laws.lean, Shelf42/LK1.lean); vx_outP calls Shelf42/NT130.lean (outThrough). -/
section
variable {l : Launch} {R : Room} {p : Program} {e : Env} {below : List Frame} {s : State} {sargs : Array Value} {y : MethodName} {len W9 : Nat}
theorem vx_backW {ws : List Cond} {rm : Room} {Pc : Array Value → State → Prop} {Qc : Array Value → State → Outcome → State → Prop} {XC : String → State → State → Prop} {mc ms : Nat} {free : Addr → Prop} {bytes : ByteArray} {maxL : Nat} {ret : Option FieldType} {hh : List (Nat × Nat × Nat × Nat)}
    (hM : vx_Met l y ws rm Pc Qc XC mc ms free) (hblind : FrameBlind Pc) (hrc : rm.cells = mc) (hrs : rm.slots = ms)
    (hframes : rm.frames + 1 ≤ R.frames) (hlocals : W9 + (maxL + 11) + rm.locals ≤ R.locals)
    (hws : ∀ w ∈ ws, ∀ a' U, s.WarmedH U.vm → w.before a' U = true) (hcode : Cond.codeWith y bytes maxL ret hh ∈ ws) (hinit : ∀ a' U, s.WarmedH U.vm → (Cond.initialized y.cls).before a' U = true) :
    vx_Back l R p e below s sargs y len W9 (PreOf R mc ms Pc) (PostOf Qc mc ms free) (vx_Post XC mc ms free) := by
  intro m meth c A g ig mk a X hg hsize hdg hW hn hp
  have h1 : (headSpec ws rm).pre.before a A.U = true := atoms_intro fun w hw => hws w hw _ _ X.warmed
  have h2 : (Cond.codeWith y bytes maxL ret hh).before a A.U = true := hws _ hcode _ _ X.warmed
  have h3 : (Cond.initialized y.cls).before a A.U = true := hinit _ _ X.warmed
  have h4 : A.cells + (headSpec ws rm).room.cells ≤ R.cells := by rw [show (headSpec ws rm).room.cells = mc from hrc]; exact hp.1
  have h5 : A.slots + (headSpec ws rm).room.slots ≤ R.slots := by rw [show (headSpec ws rm).room.slots = ms from hrs]; exact hp.2.1
  have hPc : Pc a (A.U.calling g mk a) := hblind _ _ _ _ hp.2.2
  obtain ⟨U, Ls, c0, s0⟩ := A
  dsimp only [Pt.U, Pt.locs, Pt.cells, Pt.slots] at h1 h2 h3 h4 h5 X hn hPc ⊢
  obtain ⟨m9, methY, cY, hn9, hmY, hcY, -, hlY, -⟩ := Cond.codeWith_spec h2
  cases Option.some.inj (hn9.symm.trans hn)
  obtain ⟨kY, hkY, -⟩ := className_of_methodNamed hn
  have hinitY : kY.init = .initialized := Cond.initialized_spec (findClass_of_methodNamed hn) hkY h3
  have h : At U g.method c below := by rw [hg]; exact X.here
  have hlocals9 : W9 + (maxL + 11) + (headSpec ws rm).room.locals ≤ R.locals := hlocals
  have happ : (headSpec ws rm).appliesLoose y e.platform (U.calling g mk a) = true :=
    Spec.appliesLoose_calling (g := g) h hdg hn hkY hinitY
      (X.room_calling (g := g) (R' := (headSpec ws rm).room) hsize hmY hcY hframes (by rw [hlY]; omega) h4 h5) h1
  obtain ⟨mid, hmid⟩ := h.above
  have hfr : (U.setTop g).frames = (.java g :: mid) ++ below := by rw [State.frames_setTop' g h.top, hmid]; rfl
  obtain ⟨o, s₂, hsteps, -, hend, hq⟩ := Steps.callFree hM p X.admits X.cas X.clock (acts := []) hfr happ hPc trivial
  have hq' : vx_Q Qc XC mc ms free a (U.calling g mk a) o s₂ := hq
  rw [State.frames_setTop' g h.top] at hend
  obtain ⟨g₀, hg0⟩ := Option.isSome_iff_exists.mp h.top
  obtain ⟨r, hr⟩ := State.topJava?_eq_some.mp hg0
  have hr' : (({ U with heap := s₂.heap, slotsUsed := s₂.slotsUsed } : State).setVm s₂.vm).frames = .java g₀ :: r := hr
  rcases hq' with ⟨hqc, L, hfe, hL⟩ | ⟨q, rfl, E, ce, L, hx, hce, hcv, hcl, hW₂, hsm, hL⟩
  · obtain ⟨⟨v, rfl⟩, hW₂, e2, q2, q3, q4, q5, q6⟩ := id hfe
    have e3 : s₂ = ({ (U.calling g mk a).setFrames s₂.frames with heap := s₂.heap, slotsUsed := s₂.slotsUsed } : State).setVm s₂.vm := by
      have : s₂ = ({ s₂ with vm := (U.calling g mk a).vm } : State).setVm s₂.vm := rfl
      rw [e2] at this
      exact this
    obtain ⟨c₂, i₂, len₂, hc₂, hd₂, hf₂⟩ := hend
    have hW' : U.WarmedH s₂.vm := hW₂
    have hcc : c₂ = c := by
      have h1 : s₂.code? g.method = U.code? g.method := by
        rw [State.code?_eq, State.code?_eq, hW'.alike.method?]
      exact Option.some.inj (hc₂.symm.trans (h1.trans h.code))
    subst hcc
    have hlen : len₂ = len := by rw [hdg] at hd₂; cases hd₂; rfl
    subst hlen
    have hs₂ : s₂ = (({ U with heap := s₂.heap, slotsUsed := s₂.slotsUsed } : State).setVm s₂.vm).setTop { g with pc := g.pc + len₂, stack := v.toList ++ g.stack } := by
      refine e3.trans ?_
      rw [hf₂, State.calling_eq h.top, State.setFrames_setFrames, State.setTop_of_frames _ hr', hr]
      rfl
    have hsame : U.sameButNew ({ U with heap := s₂.heap, slotsUsed := s₂.slotsUsed } : State) L mc ms := by
      refine ⟨?_, q2, q3, q4, q5, q6⟩
      obtain ⟨t, ht, -⟩ := State.frames_cons hr
      show ({ U with heap := s₂.heap, slotsUsed := s₂.slotsUsed } : State) = { U.setFrames U.frames with heap := s₂.heap, slotsUsed := s₂.slotsUsed }
      rw [State.setFrames_self ht]
    subst hg
    refine Or.inl ⟨v, ⟨(({ U with heap := s₂.heap, slotsUsed := s₂.slotsUsed } : State).setVm s₂.vm), Ls ++ L, c0 + mc, s0 + ms⟩,
      ⟨X.admits, X.cas, X.clock, X.frames, X.room, X.hears, X.method, X.code, (X.here.setHeapUsed s₂.heap s₂.slotsUsed).setVm hW'.alike, X.tail, State.WarmedH.trans X.warmed hW', X.limits, X.bytes, X.same.trans (hsame.setVm s.vm)⟩,
      ⟨g, mk, s₂, L, rfl, rfl, hqc, rfl, hL, rfl, rfl⟩, ?_⟩
    show Steps p.tables e below _ ((({ U with heap := s₂.heap, slotsUsed := s₂.slotsUsed } : State).setVm s₂.vm).setTop { g with pc := g.pc + len₂, stack := v.toList ++ g.stack })
    rw [← hs₂]
    exact hsteps
  · obtain ⟨e2, q2, q3, q4, q5, q6⟩ := id hsm
    have e3 : s₂ = ({ (U.calling g mk a).setFrames s₂.frames with heap := s₂.heap, slotsUsed := s₂.slotsUsed } : State).setVm s₂.vm := by
      have : s₂ = ({ s₂ with vm := (U.calling g mk a).vm } : State).setVm s₂.vm := rfl
      rw [e2] at this
      exact this
    have hf₂ : s₂.frames = .throwing q :: .java g :: U.frames.tail := hend
    have hW' : U.WarmedH s₂.vm := hW₂
    have hs₂ : s₂ = ((({ U with heap := s₂.heap, slotsUsed := s₂.slotsUsed } : State).setVm s₂.vm).setTop g).pushFrame (.throwing q) := by
      refine e3.trans ?_
      rw [hf₂, State.calling_eq h.top, State.setFrames_setFrames, State.pushFrame, State.frames_setTop _ hr', State.setTop_of_frames _ hr', State.setFrames_setFrames, hr]
      rfl
    have hsame : U.sameButNew ({ U with heap := s₂.heap, slotsUsed := s₂.slotsUsed } : State) L mc ms := by
      refine ⟨?_, q2, q3, q4, q5, q6⟩
      obtain ⟨t, ht, -⟩ := State.frames_cons hr
      show ({ U with heap := s₂.heap, slotsUsed := s₂.slotsUsed } : State) = { U.setFrames U.frames with heap := s₂.heap, slotsUsed := s₂.slotsUsed }
      rw [State.setFrames_self ht]
    subst hg
    refine Or.inr ⟨q, ⟨(({ U with heap := s₂.heap, slotsUsed := s₂.slotsUsed } : State).setVm s₂.vm), Ls ++ L, c0 + mc, s0 + ms⟩,
      ⟨X.admits, X.cas, X.clock, X.frames, X.room, X.hears, X.method, X.code, (X.here.setHeapUsed s₂.heap s₂.slotsUsed).setVm hW'.alike, X.tail, State.WarmedH.trans X.warmed hW', X.limits, X.bytes, X.same.trans (hsame.setVm s.vm)⟩,
      ⟨g, mk, s₂, L, E, ce, rfl, rfl, hx, hce, hcv, hcl, rfl, hL, rfl, rfl⟩, ?_⟩
    show Steps p.tables e below _ (((({ U with heap := s₂.heap, slotsUsed := s₂.slotsUsed } : State).setVm s₂.vm).setTop g).pushFrame (.throwing q))
    rw [← hs₂]
    exact hsteps
end
variable {p : Program} {l : Launch} {e : Env} {R : Room} {s : State} {m : MethodId} {args : Array Value} {below : List Frame} {meth : Method} {c : Code} {T : State} {H : Heap} {locs : List Loc} {cells slots : Nat}
theorem vx_callVX (X : Stand p l e R s m args below meth c T locs cells slots) (hexec : p.tables.exec = Jvm.exec) {own C : String} {index : Nat} {y : MethodName} {bytes : ByteArray} {maxL : Nat} {ret : Option FieldType} {hh : List (Nat × Nat × Nat × Nat)}
    (hown : s.vm.findClass own = some m.cls) (hlink : (Cond.methodLink own index y).before args s = true) (hinst : (Cond.instanceMethod y).before args s = true) (hsel : (Cond.selects C y y).before args s = true)
    (hcode : (Cond.codeWith y bytes maxL ret hh).before args s = true) (hy : y.cls ≠ "java/lang/invoke/MethodHandle" ∧ y.cls ≠ "java/lang/invoke/VarHandle")
    {W9 : Nat} {Pre : Pt → Array Value → Prop} {Post : Pt → Array Value → Option Value → Pt → Prop} {PostX : Pt → Array Value → Addr → Pt → Prop} (hK : vx_Back l R p e below s args y 3 W9 Pre Post PostX)
    {b : Addr} {cellB : Cell} (hcell : T.heap[b]? = some cellB) (hobj : cellB.vm.isStatics = false) (hcls : s.vm.findClass C = some cellB.cls)
    {g : JFrame} (hg : g.method = m) (hsize : g.locals.size = c.maxLocals) {argsL rest : List Value} (hlen : ∀ sig, parseMethodDescriptor y.desc = some sig → argsL.length = sig.parameters.length)
    (hstack : g.stack = argsL.reverse ++ .ref b :: rest) (hW : 2 * g.monitorRoom + (rest.map fun v => v.category).sum ≤ W9) (hdg : decode c.code g.pc = .ok (.invokevirtual index, 3))
    (hpre : ∀ vm₁, s.WarmedH vm₁ → Pre ⟨T.setVm vm₁, locs, cells, slots⟩ (Value.ref b :: argsL).toArray) :
    (∃ (v : Option Value) (vm₁ : Vm) (B : Pt), s.WarmedH vm₁ ∧ Stand p l e R s m args below meth c B.U B.locs B.cells B.slots ∧ Post ⟨T.setVm vm₁, locs, cells, slots⟩ (Value.ref b :: argsL).toArray v B ∧
      ∀ target, Steps p.tables e below (B.U.setTop { g with pc := g.pc + 3, stack := v.toList ++ rest }) target → Steps p.tables e below (T.setTop g) target) ∨
    (∃ (q : Addr) (vm₁ : Vm) (B : Pt), s.WarmedH vm₁ ∧ Stand p l e R s m args below meth c B.U B.locs B.cells B.slots ∧ PostX ⟨T.setVm vm₁, locs, cells, slots⟩ (Value.ref b :: argsL).toArray q B ∧
      Steps p.tables e below (T.setTop g) ((B.U.setTop { g with stack := rest }).pushFrame (.throwing q))) := by
  obtain ⟨mk, methM, hnamed, hmethM, hstM, habM⟩ := Cond.instanceMethod_spec hinst
  obtain ⟨m8, methM', cM, hn8, hmethM', -, -, -, -, -, -, hsigM⟩ := Cond.codeWith_spec hcode
  cases Option.some.inj (hn8.symm.trans hnamed)
  cases hmethM.symm.trans hmethM'
  obtain ⟨c2, r2, m2, q1, q2, q3, q4, kP, hkP, hkPi⟩ := Cond.selects_spec hsel
  cases hcls.symm.trans q1
  cases (State.methodFound?_of_named hnamed hy).symm.trans q2
  cases hnamed.symm.trans q3
  have hselP : selectMethod e.platform s.vm cellB.cls mk = .method mk := by rw [Launch.admits_selectMethod X.admits]; exact q4
  obtain ⟨vm₁, X₁, hstep₁⟩ := X.invokevirtual hexec hown hlink hnamed hmethM hstM hkP hkPi hy (a := b) (cell := cellB) hcell
    (fun z h => by rw [h] at hobj; cases hobj) hselP hmethM habM hkP hkPi (g := g) hg (argsL := argsL) (rest := rest) (hlen _ hsigM) hstack hdg
  rcases hK m meth c ⟨T.setVm vm₁, locs, cells, slots⟩ { g with stack := rest } (.invokevirtual index) mk (Value.ref b :: argsL).toArray X₁ hg hsize hdg hW (X₁.named hnamed) (hpre vm₁ X₁.warmed) with ⟨v, B, X', hpost, hsteps⟩ | ⟨q, B, X', hpost, hsteps⟩
  · exact Or.inl ⟨v, vm₁, B, X₁.warmed, X', hpost, fun target h => hstep₁ _ fun acts => by rw [doInvoke_state]; exact hsteps.trans h⟩
  · exact Or.inr ⟨q, vm₁, B, X₁.warmed, X', hpost, hstep₁ _ fun acts => by rw [doInvoke_state]; exact hsteps⟩
theorem vx_callSX (X : Stand p l e R s m args below meth c T locs cells slots) (hexec : p.tables.exec = Jvm.exec) {own : String} {index : Nat} {y : MethodName} {bytes : ByteArray} {maxL : Nat} {ret : Option FieldType} {hh : List (Nat × Nat × Nat × Nat)}
    (hown : s.vm.findClass own = some m.cls) (hlink : (Cond.methodLink own index y).before args s = true) (hstat : (Cond.static y).before args s = true) (hinit : (Cond.initialized y.cls).before args s = true)
    (hcode : (Cond.codeWith y bytes maxL ret hh).before args s = true) (hy : y.cls ≠ "java/lang/invoke/MethodHandle" ∧ y.cls ≠ "java/lang/invoke/VarHandle")
    {W9 : Nat} {Pre : Pt → Array Value → Prop} {Post : Pt → Array Value → Option Value → Pt → Prop} {PostX : Pt → Array Value → Addr → Pt → Prop} (hK : vx_Back l R p e below s args y 3 W9 Pre Post PostX)
    {g : JFrame} (hg : g.method = m) (hsize : g.locals.size = c.maxLocals) {argsL rest : List Value} (hlen : ∀ sig, parseMethodDescriptor y.desc = some sig → argsL.length = sig.parameters.length)
    (hstack : g.stack = argsL.reverse ++ rest) (hW : 2 * g.monitorRoom + (rest.map fun v => v.category).sum ≤ W9) (hdg : decode c.code g.pc = .ok (.invokestatic index, 3))
    (hpre : ∀ vm₁, s.WarmedH vm₁ → Pre ⟨T.setVm vm₁, locs, cells, slots⟩ argsL.toArray) :
    (∃ (v : Option Value) (vm₁ : Vm) (B : Pt), s.WarmedH vm₁ ∧ Stand p l e R s m args below meth c B.U B.locs B.cells B.slots ∧ Post ⟨T.setVm vm₁, locs, cells, slots⟩ argsL.toArray v B ∧
      ∀ target, Steps p.tables e below (B.U.setTop { g with pc := g.pc + 3, stack := v.toList ++ rest }) target → Steps p.tables e below (T.setTop g) target) ∨
    (∃ (q : Addr) (vm₁ : Vm) (B : Pt), s.WarmedH vm₁ ∧ Stand p l e R s m args below meth c B.U B.locs B.cells B.slots ∧ PostX ⟨T.setVm vm₁, locs, cells, slots⟩ argsL.toArray q B ∧
      Steps p.tables e below (T.setTop g) ((B.U.setTop { g with stack := rest }).pushFrame (.throwing q))) := by
  obtain ⟨mk, methM, cM, hnamed, hmethM, -, -, -, -, -, -, hsigM⟩ := Cond.codeWith_spec hcode
  have hstatic : methM.isStatic = true := Cond.static_spec hnamed hmethM hstat
  obtain ⟨kP, hkP, -⟩ := className_of_methodNamed hnamed
  have hinitP : kP.init = .initialized := Cond.initialized_spec (findClass_of_methodNamed hnamed) hkP hinit
  obtain ⟨vm₁, X₁, hstep₁⟩ := X.invokestatic hexec hown hlink hnamed hmethM hstatic hkP hinitP hy (g := g) hg (argsL := argsL) (rest := rest) (hlen _ hsigM) hstack hdg
  rcases hK m meth c ⟨T.setVm vm₁, locs, cells, slots⟩ { g with stack := rest } (.invokestatic index) mk argsL.toArray X₁ hg hsize hdg hW (X₁.named hnamed) (hpre vm₁ X₁.warmed) with ⟨v, B, X', hpost, hsteps⟩ | ⟨q, B, X', hpost, hsteps⟩
  · exact Or.inl ⟨v, vm₁, B, X₁.warmed, X', hpost, fun target h => hstep₁ _ fun acts => by rw [doInvoke_state]; exact hsteps.trans h⟩
  · exact Or.inr ⟨q, vm₁, B, X₁.warmed, X', hpost, hstep₁ _ fun acts => by rw [doInvoke_state]; exact hsteps⟩
theorem vx_callVW (X : Stand p l e R s m args below meth c T locs cells slots) (hexec : p.tables.exec = Jvm.exec) {own C : String} {index : Nat} {y : MethodName} {bytes : ByteArray} {maxL : Nat} {ret : Option FieldType} {hh : List (Nat × Nat × Nat × Nat)}
    (hown : s.vm.findClass own = some m.cls) (hlink : (Cond.methodLink own index y).before args s = true) (hinst : (Cond.instanceMethod y).before args s = true) (hsel : (Cond.selects C y y).before args s = true)
    (hcode : (Cond.codeWith y bytes maxL ret hh).before args s = true) (hy : y.cls ≠ "java/lang/invoke/MethodHandle" ∧ y.cls ≠ "java/lang/invoke/VarHandle")
    {W9 : Nat} {Pre : Pt → Array Value → Prop} {Post : Pt → Array Value → Option Value → Pt → Prop} (hK : Back l R p e below s args y 3 W9 Pre Post)
    {b : Addr} {cellB : Cell} (hcell : T.heap[b]? = some cellB) (hobj : cellB.vm.isStatics = false) (hcls : s.vm.findClass C = some cellB.cls)
    {g : JFrame} (hg : g.method = m) (hsize : g.locals.size = c.maxLocals) {argsL rest : List Value} (hlen : ∀ sig, parseMethodDescriptor y.desc = some sig → argsL.length = sig.parameters.length)
    (hstack : g.stack = argsL.reverse ++ .ref b :: rest) (hW : 2 * g.monitorRoom + (rest.map fun v => v.category).sum ≤ W9) (hdg : decode c.code g.pc = .ok (.invokevirtual index, 3))
    (hpre : ∀ vm₁, s.WarmedH vm₁ → Pre ⟨T.setVm vm₁, locs, cells, slots⟩ (Value.ref b :: argsL).toArray) :
    ∃ (v : Option Value) (vm₁ : Vm) (B : Pt), s.WarmedH vm₁ ∧ Stand p l e R s m args below meth c B.U B.locs B.cells B.slots ∧ Post ⟨T.setVm vm₁, locs, cells, slots⟩ (Value.ref b :: argsL).toArray v B ∧
      ∀ target, Steps p.tables e below (B.U.setTop { g with pc := g.pc + 3, stack := v.toList ++ rest }) target → Steps p.tables e below (T.setTop g) target := by
  obtain ⟨mk, methM, hnamed, hmethM, hstM, habM⟩ := Cond.instanceMethod_spec hinst
  obtain ⟨m8, methM', cM, hn8, hmethM', -, -, -, -, -, -, hsigM⟩ := Cond.codeWith_spec hcode
  cases Option.some.inj (hn8.symm.trans hnamed)
  cases hmethM.symm.trans hmethM'
  obtain ⟨c2, r2, m2, q1, q2, q3, q4, kP, hkP, hkPi⟩ := Cond.selects_spec hsel
  cases hcls.symm.trans q1
  cases (State.methodFound?_of_named hnamed hy).symm.trans q2
  cases hnamed.symm.trans q3
  have hselP : selectMethod e.platform s.vm cellB.cls mk = .method mk := by rw [Launch.admits_selectMethod X.admits]; exact q4
  obtain ⟨vm₁, X₁, hstep₁⟩ := X.invokevirtual hexec hown hlink hnamed hmethM hstM hkP hkPi hy (a := b) (cell := cellB) hcell
    (fun z h => by rw [h] at hobj; cases hobj) hselP hmethM habM hkP hkPi (g := g) hg (argsL := argsL) (rest := rest) (hlen _ hsigM) hstack hdg
  obtain ⟨v, B, X', hpost, hsteps⟩ := hK m meth c ⟨T.setVm vm₁, locs, cells, slots⟩ { g with stack := rest } (.invokevirtual index) mk (Value.ref b :: argsL).toArray X₁ hg hsize hdg hW (X₁.named hnamed) (hpre vm₁ X₁.warmed)
  exact ⟨v, vm₁, B, X₁.warmed, X', hpost, fun target h => hstep₁ _ fun acts => by rw [doInvoke_state]; exact hsteps.trans h⟩
abbrev vx_CVW (R : Room) (s : State) (args : Array Value) (own C : String) (index : Nat) (y : MethodName) (bytes : ByteArray) (maxL : Nat) (ret : Option FieldType) (hh : List (Nat × Nat × Nat × Nat)) (ws : List Cond) (rm : Room) (mc ms n : Nat) : Prop :=
  (rm.cells = mc ∧ rm.slots = ms ∧ rm.frames + 1 ≤ R.frames ∧ 8 + (maxL + 11) + rm.locals ≤ R.locals ∧ (∀ w ∈ ws, ∀ (a' : Array Value) (U : State), s.WarmedH U.vm → w.before a' U = true) ∧ Cond.codeWith y bytes maxL ret hh ∈ ws) ∧
  (Cond.codeWith y bytes maxL ret hh).before args s = true ∧ (Cond.initialized y.cls).before args s = true ∧ (y.cls ≠ "java/lang/invoke/MethodHandle" ∧ y.cls ≠ "java/lang/invoke/VarHandle") ∧
  (∀ sig, parseMethodDescriptor y.desc = some sig → n = sig.parameters.length) ∧ (Cond.methodLink own index y).before args s = true ∧ (Cond.instanceMethod y).before args s = true ∧ (Cond.selects C y y).before args s = true
theorem vx_cwVW {own C : String} {index maxL mc ms : Nat} {y : MethodName} {bytes : ByteArray} {ret : Option FieldType} {hh : List (Nat × Nat × Nat × Nat)} {Ts ws ws' : List Cond} {rm : Room} (n : Nat) (ht : ∀ w ∈ Ts, w.before args s = true) (hT : GoodIn Ts (wsV own index C y ws)) (hw : ws = Cond.codeWith y bytes maxL ret hh :: ws') (hrc : rm.cells = mc) (hrs : rm.slots = ms)
    (hd : y.cls = C ∧ y.cls ≠ "java/lang/invoke/MethodHandle" ∧ y.cls ≠ "java/lang/invoke/VarHandle" ∧ (parseMethodDescriptor y.desc).map (fun d => d.parameters.length) = some n) (hR : rm.frames + 1 ≤ R.frames ∧ 8 + (maxL + 11) + rm.locals ≤ R.locals) :
    vx_CVW R s args own C index y bytes maxL ret hh ws rm mc ms n := by
  obtain ⟨hC, hd⟩ := hd
  subst hC
  have ok : ∀ w ∈ wsV own index y.cls y ws, w.before args s = true := fun w h => ht w (hT w h).1
  have hG : GoodIn Ts ws := fun w h => hT w (by unfold wsV; exact List.mem_append_right _ h)
  have hc : Cond.codeWith y bytes maxL ret hh ∈ ws := by rw [hw]; exact List.mem_cons_self
  refine ⟨⟨hrc, hrs, hR.1, hR.2, pay_in ht hG, hc⟩, ht _ (hG _ hc).1, ok _ (by simp [wsV]), ⟨hd.1, hd.2.1⟩, fun sig h => ?_, ok _ (by simp [wsV]), ok _ (by simp [wsV]), ok _ (by simp [wsV])⟩
  have h2 := hd.2.2
  rw [h] at h2
  exact (Option.some.inj h2).symm
theorem vx_runVW {y : MethodName} {bytes cc : ByteArray} {maxL nL mc ms n index : Nat} {ret : Option FieldType} {hh : List (Nat × Nat × Nat × Nat)} {ws : List Cond} {rm : Room} {Pc : Array Value → State → Prop} {Qc : Array Value → State → Outcome → State → Prop} {free : Addr → Prop} {Ts : List Cond} {own C : String} {b : Addr} {As rest : List Value} {g : JFrame}
    (S : CallFix p m c cc nL s args Ts own) (hM : Met l y ws rm Pc Qc mc ms free) (cw : vx_CVW R s args own C index y bytes maxL ret hh ws rm mc ms n) (hp : PreV s H C b Pc As)
    (hg : g.method = m) (hn : As.length = n) (hsize : g.locals.size = nL) (hstack : g.stack = As.reverse ++ .ref b :: rest) (hW : 2 * g.monitorRoom + (rest.map fun v => v.category).sum ≤ 8) (hdg : decode cc g.pc = .ok (.invokevirtual index, 3)) (hf : cells + mc ≤ R.cells ∧ slots + ms ≤ R.slots) :
    va_Run p l e R s m args below meth c H locs cells slots mc ms g rest (Qc (Value.ref b :: As).toArray) free := by
  obtain ⟨⟨hrc, hrs, hfr, hlo, hws, hcw⟩, hcode, hini, hy, hlen, hl, hin, hse⟩ := cw
  have hK : Back l R p e below s args y 3 8 (PreOf R mc ms Pc) (PostOf Qc mc ms free) := va_backW (hh := hh) (bytes := bytes) (maxL := maxL) (ret := ret) hM hp.1 hrc hrs hfr hlo hws hcw (fun a' U hW => word_at hW (Or.inl (by first | rfl | simp [Cond.onTables, Cond.keeps, Cond.steady])) hini)
  obtain ⟨hx, hb, hml, ho, -⟩ := S
  obtain ⟨-, ⟨cellB, hcB, hoB, hclB⟩, hPc⟩ := hp
  intro T hT X
  obtain ⟨v, vm₁, ⟨U', l2, c2, s2⟩, hW₁, X', ⟨g', mk, t, L, e1, e2, hq, h1, hL, h2, h3⟩, st⟩ := vx_callVW X hx (C := C) (hh := hh) (bytes := bytes) (maxL := maxL) (ret := ret) ho hl hin hse hcode hy hK (by rw [hT]; exact hcB) hoB hclB hg (hsize.trans hml.symm) (argsL := As) (rest := rest) (fun sig h => hn.trans (hlen sig h)) hstack hW (by rw [hb]; exact hdg)
    (fun vm₁ hW₁ => ⟨hf.1, hf.2, hPc (T.setVm vm₁) hT hW₁⟩)
  dsimp only [Pt.U, Pt.locs, Pt.cells, Pt.slots] at X' e1 e2 h1 h2 h3 st
  subst h1; subst h2; subst h3
  exact ⟨v, (T.setVm vm₁).calling g' mk (Value.ref b :: As).toArray, t, U', L, hT, X', hL, e1, e2, hq, st⟩
section
variable {y : MethodName} {bytes cc : ByteArray} {maxL nL mc ms n index : Nat} {ret : Option FieldType} {ws : List Cond} {rm : Room} {Pc : Array Value → State → Prop} {Qc : Array Value → State → Outcome → State → Prop} {XC : String → State → State → Prop} {free : Addr → Prop} {Ts : List Cond} {own C : String} {b : Addr} {As rest : List Value} {g : JFrame}
theorem vx_runVX {hh : List (Nat × Nat × Nat × Nat)} (S : CallFix p m c cc nL s args Ts own) (hM : vx_Met l y ws rm Pc Qc XC mc ms free) (cw : vx_CVW R s args own C index y bytes maxL ret hh ws rm mc ms n) (hp : PreV s H C b Pc As)
    (hg : g.method = m) (hn : As.length = n) (hsize : g.locals.size = nL) (hstack : g.stack = As.reverse ++ .ref b :: rest) (hW : 2 * g.monitorRoom + (rest.map fun v => v.category).sum ≤ 8) (hdg : decode cc g.pc = .ok (.invokevirtual index, 3)) (hf : cells + mc ≤ R.cells ∧ slots + ms ≤ R.slots) :
    vx_Run p l e R s m args below meth c H locs cells slots mc ms g rest (Qc (Value.ref b :: As).toArray) XC free := by
  obtain ⟨⟨hrc, hrs, hfr, hlo, hws, hcw⟩, hcode, hini, hy, hlen, hl, hin, hse⟩ := cw
  have hK : vx_Back l R p e below s args y 3 8 (PreOf R mc ms Pc) (PostOf Qc mc ms free) (vx_Post XC mc ms free) := vx_backW (hh := hh) (bytes := bytes) (maxL := maxL) (ret := ret) hM hp.1 hrc hrs hfr hlo hws hcw (fun a' U hW => word_at hW (Or.inl (by first | rfl | simp [Cond.onTables, Cond.keeps, Cond.steady])) hini)
  obtain ⟨hx, hb, hml, ho, -⟩ := S
  obtain ⟨-, ⟨cellB, hcB, hoB, hclB⟩, hPc⟩ := hp
  intro T hT X
  rcases vx_callVX X hx (C := C) (hh := hh) (bytes := bytes) (maxL := maxL) (ret := ret) ho hl hin hse hcode hy hK (by rw [hT]; exact hcB) hoB hclB hg (hsize.trans hml.symm) (argsL := As) (rest := rest) (fun sig h => hn.trans (hlen sig h)) hstack hW (by rw [hb]; exact hdg)
    (fun vm₁ hW₁ => ⟨hf.1, hf.2, hPc (T.setVm vm₁) hT hW₁⟩) with ⟨v, vm₁, ⟨U', l2, c2, s2⟩, hW₁, X', ⟨g', mk, t, L, e1, e2, hq, h1, hL, h2, h3⟩, st⟩ | ⟨q, vm₁, ⟨U', l2, c2, s2⟩, hW₁, X', ⟨g', mk, t, L, E, ce, e1, e2, hq, hce, hcv, hcl, h1, hL, h2, h3⟩, st⟩
  · dsimp only [Pt.U, Pt.locs, Pt.cells, Pt.slots] at X' e1 e2 h1 h2 h3 st
    subst h1; subst h2; subst h3
    exact Or.inl ⟨v, (T.setVm vm₁).calling g' mk (Value.ref b :: As).toArray, t, U', L, hT, X', hL, e1, e2, hq, st⟩
  · dsimp only [Pt.U, Pt.locs, Pt.cells, Pt.slots] at X' e1 e2 h1 h2 h3 st hcl
    subst h1; subst h2; subst h3
    exact Or.inr ⟨q, (T.setVm vm₁).calling g' mk (Value.ref b :: As).toArray, t, U', L, E, ce, hT, X', hL, e1, e2, hq, hce, hcv, vx_cls hW₁ hcl, st⟩
theorem vx_runSX {hh : List (Nat × Nat × Nat × Nat)} (S : CallFix p m c cc nL s args Ts own) (hM : vx_Met l y ws rm Pc Qc XC mc ms free) (cw : vx_CSW R s args own index y bytes maxL ret hh ws rm mc ms n) (hp : PreS s H Pc As)
    (hg : g.method = m) (hn : As.length = n) (hsize : g.locals.size = nL) (hstack : g.stack = As.reverse ++ rest) (hW : 2 * g.monitorRoom + (rest.map fun v => v.category).sum ≤ 8) (hdg : decode cc g.pc = .ok (.invokestatic index, 3)) (hf : cells + mc ≤ R.cells ∧ slots + ms ≤ R.slots) :
    vx_Run p l e R s m args below meth c H locs cells slots mc ms g rest (Qc As.toArray) XC free := by
  obtain ⟨⟨hrc, hrs, hfr, hlo, hws, hcw⟩, hcode, hini, hy, hlen, hl, hstt⟩ := cw
  have hK : vx_Back l R p e below s args y 3 8 (PreOf R mc ms Pc) (PostOf Qc mc ms free) (vx_Post XC mc ms free) := vx_backW (hh := hh) (bytes := bytes) (maxL := maxL) (ret := ret) hM hp.1 hrc hrs hfr hlo hws hcw (fun a' U hW => word_at hW (Or.inl (by first | rfl | simp [Cond.onTables, Cond.keeps, Cond.steady])) hini)
  obtain ⟨hx, hb, hml, ho, -⟩ := S
  intro T hT X
  rcases vx_callSX X hx (hh := hh) (bytes := bytes) (maxL := maxL) (ret := ret) ho hl hstt hini hcode hy hK hg (hsize.trans hml.symm) (argsL := As) (rest := rest) (fun sig h => hn.trans (hlen sig h)) hstack hW (by rw [hb]; exact hdg)
    (fun vm₁ hW₁ => ⟨hf.1, hf.2, hp.2 (T.setVm vm₁) hT hW₁⟩) with ⟨v, vm₁, ⟨U', l2, c2, s2⟩, hW₁, X', ⟨g', mk, t, L, e1, e2, hq, h1, hL, h2, h3⟩, st⟩ | ⟨q, vm₁, ⟨U', l2, c2, s2⟩, hW₁, X', ⟨g', mk, t, L, E, ce, e1, e2, hq, hce, hcv, hcl, h1, hL, h2, h3⟩, st⟩
  · dsimp only [Pt.U, Pt.locs, Pt.cells, Pt.slots] at X' e1 e2 h1 h2 h3 st
    subst h1; subst h2; subst h3
    exact Or.inl ⟨v, (T.setVm vm₁).calling g' mk As.toArray, t, U', L, hT, X', hL, e1, e2, hq, st⟩
  · dsimp only [Pt.U, Pt.locs, Pt.cells, Pt.slots] at X' e1 e2 h1 h2 h3 st hcl
    subst h1; subst h2; subst h3
    exact Or.inr ⟨q, (T.setVm vm₁).calling g' mk As.toArray, t, U', L, E, ce, hT, X', hL, e1, e2, hq, hce, hcv, vx_cls hW₁ hcl, st⟩
end
end VXH
theorem vx_ofWH {l : Launch} {y : MethodName} {ws ws' : List Cond} {rm : Room} {Pc : Array Value → State → Prop} {Qc : Array Value → State → Outcome → State → Prop} {XC : String → State → State → Prop} {mc ms : Nat} {free : Addr → Prop} {cc : ByteArray} {maxL : Nat} {ret : Option FieldType} {hh : List (Nat × Nat × Nat × Nat)}
    (hy : plainName y.cls = true) (hw : ws = Cond.codeWith y cc maxL ret hh :: ws')
    (body : ∀ p e s m args below meth c s₁, BodyLoose p l y (headSpec ws rm) cc maxL ret e s m args below meth c s₁ → c.maxLocals = maxL → Pc args s →
      W p l e (headSpec ws rm).room s m args below meth c s.heap [] 0 0 (vx_MQ below Qc XC args s mc ms free) (entryFrame m args maxL)) : vx_Met l y ws rm Pc Qc XC mc ms free := by
  refine MetFree.of_bodyS (code := cc) (maxLocals := maxL) (ret := ret) hy ?_ ?_
  · intro args s m h hn
    obtain ⟨m9, meth, c, hn9, h1, h2, h3, h4, -, h5, h6, -⟩ := Cond.codeWith_spec (atoms_spec (ws := ws) h _ (by rw [hw]; exact List.mem_cons_self))
    cases hn.symm.trans hn9
    exact ⟨meth, c, h1, h2, h3, h4, h5, h6⟩
  · intro p e s m args below meth c s₁ B hml hP _
    have hh0 : s₁.heap = s.heap := by rw [B.state]; rfl
    obtain ⟨t, a1, o, b1, b2, b3⟩ := body p e s m args below meth c s₁ B hml hP s₁ hh0 (Stand.of_body B)
    exact ⟨t, o, a1, b1, b2, b3⟩
/-! ===== END ===== -/
end
section
-- ===== PART A: goes FIRST, ahead of the names: the tables' words, and 'selects' of the private methods out of them =====
/-- a private method of a class that the tables say can be made, by its rows of tables_1 -/
def lw_okq (q : MethodName × Nat) : Prop := (q.1.cls ≠ "java/lang/invoke/MethodHandle" ∧ q.1.cls ≠ "java/lang/invoke/VarHandle") ∧ Cond.instantiable q.1.cls q.2 ∈ tables_1 ∧ Cond.privateMethod q.1 ∈ tables_1 ∧ Cond.instanceMethod q.1 ∈ tables_1
theorem lw_p0 : lw_okq (⟨"java/lang/Throwable", "fillInStackTrace", "(I)Ljava/lang/Throwable;"⟩, 6) := ⟨⟨by decide +kernel, by decide +kernel⟩, List.mem_of_getElem? (i := 99) (by decide +kernel), List.mem_of_getElem? (i := 97) (by decide +kernel), List.mem_of_getElem? (i := 98) (by decide +kernel)⟩
theorem lw_p1 : lw_okq (⟨"VariantMill", "isSetOfCards", "(I)Z"⟩, 6) := ⟨⟨by decide +kernel, by decide +kernel⟩, List.mem_of_getElem? (i := 16) (by decide +kernel), List.mem_of_getElem? (i := 171) (by decide +kernel), List.mem_of_getElem? (i := 172) (by decide +kernel)⟩
theorem lw_p2 : lw_okq (⟨"VariantMill", "variantAt", "(I)LVariantMill$Variant;"⟩, 6) := ⟨⟨by decide +kernel, by decide +kernel⟩, List.mem_of_getElem? (i := 16) (by decide +kernel), List.mem_of_getElem? (i := 223) (by decide +kernel), List.mem_of_getElem? (i := 224) (by decide +kernel)⟩
theorem lw_p3 : lw_okq (⟨"VariantMill", "gameAt", "(I)LVariantMill$Game;"⟩, 6) := ⟨⟨by decide +kernel, by decide +kernel⟩, List.mem_of_getElem? (i := 16) (by decide +kernel), List.mem_of_getElem? (i := 346) (by decide +kernel), List.mem_of_getElem? (i := 347) (by decide +kernel)⟩
theorem lw_p4 : lw_okq (⟨"VariantMillModel", "asks", "(Z)Z"⟩, 20) := ⟨⟨by decide +kernel, by decide +kernel⟩, List.mem_of_getElem? (i := 505) (by decide +kernel), List.mem_of_getElem? (i := 584) (by decide +kernel), List.mem_of_getElem? (i := 585) (by decide +kernel)⟩
theorem lw_p5 : lw_okq (⟨"VariantMillModel", "fails", "(I)I"⟩, 20) := ⟨⟨by decide +kernel, by decide +kernel⟩, List.mem_of_getElem? (i := 505) (by decide +kernel), List.mem_of_getElem? (i := 588) (by decide +kernel), List.mem_of_getElem? (i := 589) (by decide +kernel)⟩
theorem lw_p6 : lw_okq (⟨"VariantMillModel", "areCards", "(I)Z"⟩, 20) := ⟨⟨by decide +kernel, by decide +kernel⟩, List.mem_of_getElem? (i := 505) (by decide +kernel), List.mem_of_getElem? (i := 597) (by decide +kernel), List.mem_of_getElem? (i := 598) (by decide +kernel)⟩
theorem lw_p7 : lw_okq (⟨"VariantMillModel", "isVariant", "(I)Z"⟩, 20) := ⟨⟨by decide +kernel, by decide +kernel⟩, List.mem_of_getElem? (i := 505) (by decide +kernel), List.mem_of_getElem? (i := 605) (by decide +kernel), List.mem_of_getElem? (i := 606) (by decide +kernel)⟩
theorem lw_p8 : lw_okq (⟨"VariantMillModel", "arePieces", "(II)Z"⟩, 20) := ⟨⟨by decide +kernel, by decide +kernel⟩, List.mem_of_getElem? (i := 505) (by decide +kernel), List.mem_of_getElem? (i := 616) (by decide +kernel), List.mem_of_getElem? (i := 617) (by decide +kernel)⟩
theorem lw_p9 : lw_okq (⟨"VariantMillModel", "isBannedNow", "(I)Z"⟩, 20) := ⟨⟨by decide +kernel, by decide +kernel⟩, List.mem_of_getElem? (i := 505) (by decide +kernel), List.mem_of_getElem? (i := 623) (by decide +kernel), List.mem_of_getElem? (i := 624) (by decide +kernel)⟩
theorem lw_p10 : lw_okq (⟨"VariantMillModel", "moves", "(IIIIZ)Z"⟩, 20) := ⟨⟨by decide +kernel, by decide +kernel⟩, List.mem_of_getElem? (i := 505) (by decide +kernel), List.mem_of_getElem? (i := 627) (by decide +kernel), List.mem_of_getElem? (i := 628) (by decide +kernel)⟩
theorem lw_p11 : lw_okq (⟨"VariantMillModel", "goes", "(IIIIZI)I"⟩, 20) := ⟨⟨by decide +kernel, by decide +kernel⟩, List.mem_of_getElem? (i := 505) (by decide +kernel), List.mem_of_getElem? (i := 631) (by decide +kernel), List.mem_of_getElem? (i := 632) (by decide +kernel)⟩
theorem lw_p12 : lw_okq (⟨"VariantMillModel", "by", "(IIIIZI)I"⟩, 20) := ⟨⟨by decide +kernel, by decide +kernel⟩, List.mem_of_getElem? (i := 505) (by decide +kernel), List.mem_of_getElem? (i := 635) (by decide +kernel), List.mem_of_getElem? (i := 636) (by decide +kernel)⟩
theorem lw_p13 : lw_okq (⟨"VariantMillModel", "isGame", "(I)Z"⟩, 20) := ⟨⟨by decide +kernel, by decide +kernel⟩, List.mem_of_getElem? (i := 505) (by decide +kernel), List.mem_of_getElem? (i := 643) (by decide +kernel), List.mem_of_getElem? (i := 644) (by decide +kernel)⟩
theorem lw_p14 : lw_okq (⟨"VariantMillModel", "canNow", "(III)Z"⟩, 20) := ⟨⟨by decide +kernel, by decide +kernel⟩, List.mem_of_getElem? (i := 505) (by decide +kernel), List.mem_of_getElem? (i := 650) (by decide +kernel), List.mem_of_getElem? (i := 651) (by decide +kernel)⟩
theorem lw_p15 : lw_okq (⟨"VariantMillModel", "piecesOf", "(IZ)I"⟩, 20) := ⟨⟨by decide +kernel, by decide +kernel⟩, List.mem_of_getElem? (i := 505) (by decide +kernel), List.mem_of_getElem? (i := 654) (by decide +kernel), List.mem_of_getElem? (i := 655) (by decide +kernel)⟩
def lw_privs_1 : List (MethodName × Nat) := [(⟨"java/lang/Throwable", "fillInStackTrace", "(I)Ljava/lang/Throwable;"⟩, 6), (⟨"VariantMill", "isSetOfCards", "(I)Z"⟩, 6), (⟨"VariantMill", "variantAt", "(I)LVariantMill$Variant;"⟩, 6), (⟨"VariantMill", "gameAt", "(I)LVariantMill$Game;"⟩, 6), (⟨"VariantMillModel", "asks", "(Z)Z"⟩, 20), (⟨"VariantMillModel", "fails", "(I)I"⟩, 20), (⟨"VariantMillModel", "areCards", "(I)Z"⟩, 20), (⟨"VariantMillModel", "isVariant", "(I)Z"⟩, 20), (⟨"VariantMillModel", "arePieces", "(II)Z"⟩, 20), (⟨"VariantMillModel", "isBannedNow", "(I)Z"⟩, 20), (⟨"VariantMillModel", "moves", "(IIIIZ)Z"⟩, 20), (⟨"VariantMillModel", "goes", "(IIIIZI)I"⟩, 20), (⟨"VariantMillModel", "by", "(IIIIZI)I"⟩, 20), (⟨"VariantMillModel", "isGame", "(I)Z"⟩, 20), (⟨"VariantMillModel", "canNow", "(III)Z"⟩, 20), (⟨"VariantMillModel", "piecesOf", "(IZ)I"⟩, 20)]
theorem lw_r1 : ∀ q ∈ lw_privs_1, lw_okq q := List.forall_mem_cons.mpr ⟨lw_p0, List.forall_mem_cons.mpr ⟨lw_p1, List.forall_mem_cons.mpr ⟨lw_p2, List.forall_mem_cons.mpr ⟨lw_p3, List.forall_mem_cons.mpr ⟨lw_p4, List.forall_mem_cons.mpr ⟨lw_p5, List.forall_mem_cons.mpr ⟨lw_p6, List.forall_mem_cons.mpr ⟨lw_p7, List.forall_mem_cons.mpr ⟨lw_p8, List.forall_mem_cons.mpr ⟨lw_p9, List.forall_mem_cons.mpr ⟨lw_p10, List.forall_mem_cons.mpr ⟨lw_p11, List.forall_mem_cons.mpr ⟨lw_p12, List.forall_mem_cons.mpr ⟨lw_p13, List.forall_mem_cons.mpr ⟨lw_p14, List.forall_mem_cons.mpr ⟨lw_p15, fun _ h => absurd h List.not_mem_nil⟩⟩⟩⟩⟩⟩⟩⟩⟩⟩⟩⟩⟩⟩⟩⟩
theorem lw_p16 : lw_okq (⟨"VariantMillModel", "isSecondsTurn", "(I)Z"⟩, 20) := ⟨⟨by decide +kernel, by decide +kernel⟩, List.mem_of_getElem? (i := 505) (by decide +kernel), List.mem_of_getElem? (i := 658) (by decide +kernel), List.mem_of_getElem? (i := 659) (by decide +kernel)⟩
theorem lw_p17 : lw_okq (⟨"VariantMillModel", "at", "(I)I"⟩, 20) := ⟨⟨by decide +kernel, by decide +kernel⟩, List.mem_of_getElem? (i := 505) (by decide +kernel), List.mem_of_getElem? (i := 662) (by decide +kernel), List.mem_of_getElem? (i := 663) (by decide +kernel)⟩
theorem lw_p18 : lw_okq (⟨"VariantMillModel", "times", "(I)I"⟩, 20) := ⟨⟨by decide +kernel, by decide +kernel⟩, List.mem_of_getElem? (i := 505) (by decide +kernel), List.mem_of_getElem? (i := 674) (by decide +kernel), List.mem_of_getElem? (i := 675) (by decide +kernel)⟩
theorem lw_p19 : lw_okq (⟨"VariantMillModel", "asksValue", "(II)I"⟩, 20) := ⟨⟨by decide +kernel, by decide +kernel⟩, List.mem_of_getElem? (i := 505) (by decide +kernel), List.mem_of_getElem? (i := 694) (by decide +kernel), List.mem_of_getElem? (i := 695) (by decide +kernel)⟩
theorem lw_p20 : lw_okq (⟨"VariantMillModel", "valueAt", "(II)I"⟩, 20) := ⟨⟨by decide +kernel, by decide +kernel⟩, List.mem_of_getElem? (i := 505) (by decide +kernel), List.mem_of_getElem? (i := 698) (by decide +kernel), List.mem_of_getElem? (i := 699) (by decide +kernel)⟩
theorem lw_p21 : lw_okq (⟨"VariantMillModel", "standing", "(IIIZ)I"⟩, 20) := ⟨⟨by decide +kernel, by decide +kernel⟩, List.mem_of_getElem? (i := 505) (by decide +kernel), List.mem_of_getElem? (i := 702) (by decide +kernel), List.mem_of_getElem? (i := 703) (by decide +kernel)⟩
theorem lw_p22 : lw_okq (⟨"VariantMillModel", "onward", "(IIIZ)I"⟩, 20) := ⟨⟨by decide +kernel, by decide +kernel⟩, List.mem_of_getElem? (i := 505) (by decide +kernel), List.mem_of_getElem? (i := 706) (by decide +kernel), List.mem_of_getElem? (i := 707) (by decide +kernel)⟩
theorem lw_p23 : lw_okq (⟨"VariantMillModel", "farther", "(IIIZ)I"⟩, 20) := ⟨⟨by decide +kernel, by decide +kernel⟩, List.mem_of_getElem? (i := 505) (by decide +kernel), List.mem_of_getElem? (i := 710) (by decide +kernel), List.mem_of_getElem? (i := 711) (by decide +kernel)⟩
def lw_privs_2 : List (MethodName × Nat) := [(⟨"VariantMillModel", "isSecondsTurn", "(I)Z"⟩, 20), (⟨"VariantMillModel", "at", "(I)I"⟩, 20), (⟨"VariantMillModel", "times", "(I)I"⟩, 20), (⟨"VariantMillModel", "asksValue", "(II)I"⟩, 20), (⟨"VariantMillModel", "valueAt", "(II)I"⟩, 20), (⟨"VariantMillModel", "standing", "(IIIZ)I"⟩, 20), (⟨"VariantMillModel", "onward", "(IIIZ)I"⟩, 20), (⟨"VariantMillModel", "farther", "(IIIZ)I"⟩, 20)]
theorem lw_r2 : ∀ q ∈ lw_privs_2, lw_okq q := List.forall_mem_cons.mpr ⟨lw_p16, List.forall_mem_cons.mpr ⟨lw_p17, List.forall_mem_cons.mpr ⟨lw_p18, List.forall_mem_cons.mpr ⟨lw_p19, List.forall_mem_cons.mpr ⟨lw_p20, List.forall_mem_cons.mpr ⟨lw_p21, List.forall_mem_cons.mpr ⟨lw_p22, List.forall_mem_cons.mpr ⟨lw_p23, fun _ h => absurd h List.not_mem_nil⟩⟩⟩⟩⟩⟩⟩⟩
def lw_privs : List (MethodName × Nat) := lw_privs_1 ++ (lw_privs_2)
def lw_tbl : List Cond := k2_sels lw_privs ++ tables_1
theorem lw_privs_ok : ∀ q ∈ lw_privs, lw_okq q := by
  show ∀ q ∈ lw_privs_1 ++ (lw_privs_2), lw_okq q
  exact List.forall_mem_append.mpr ⟨lw_r1, lw_r2⟩
/-! ===== BEGIN printed: names, fields, word lists, decode rows ===== -/
def RX0 : String := "VariantMill$Card"
def TX0 : u_T := fun k => match k with
  | 0 => ("VariantMill$Card", "kind", "I", true)
  | 1 => ("VariantMill$Card", "dx", "I", true)
  | 2 => ("VariantMill$Card", "dy", "I", true)
  | _ => ("VariantMill$Card", "reach", "I", true)
def tyX0 : Nat → FieldType := fun k => match k with
  | 0 => .int
  | 1 => .int
  | 2 => .int
  | _ => .int
abbrev wsX00 : List Cond := u_ws RX0 TX0 4
theorem nmX0 : ∀ a, a < 4 → ∀ b, b < 4 → a ≠ b → (TX0 a).2.1 ≠ (TX0 b).2.1 := by decide +kernel
theorem tyX0_ok : ∀ k, k < 4 → parseFieldDescriptor (TX0 k).2.2.1 = some (tyX0 k) := by decide +kernel
abbrev cX0_init : ByteArray := prog_2_method_1_code
def yX0_init : MethodName := ⟨RX0, "<init>", "(IIII)V"⟩
abbrev cX0_rows : ByteArray := prog_2_method_2_code
def yX0_rows : MethodName := ⟨RX0, "rows", "(Z)I"⟩
abbrev cX0_endsFrom : ByteArray := prog_2_method_3_code
def yX0_endsFrom : MethodName := ⟨RX0, "endsFrom", "(IIIZ)I"⟩
abbrev cX0_leads : ByteArray := prog_2_method_4_code
def yX0_leads : MethodName := ⟨RX0, "leads", "(IIIIZ)Z"⟩
abbrev cX0_isRightPath : ByteArray := prog_2_method_5_code
def yX0_isRightPath : MethodName := ⟨RX0, "isRightPath", "(III)Z"⟩
def RX1 : String := "VariantMill$Game"
def TX1 : u_T := fun k => match k with
  | 0 => ("VariantMill$Game", "variant", "LVariantMill$Variant;", true)
  | 1 => ("VariantMill$Game", "rules", "LVariantMill$Rules;", true)
  | 2 => ("VariantMill$Game", "first", "I", true)
  | 3 => ("VariantMill$Game", "second", "I", true)
  | 4 => ("VariantMill$Game", "seen", "[J", true)
  | 5 => ("VariantMill$Game", "ofFirst", "I", false)
  | 6 => ("VariantMill$Game", "ofSecond", "I", false)
  | 7 => ("VariantMill$Game", "made", "I", false)
  | _ => ("VariantMill$Game", "state", "I", false)
def tyX1 : Nat → FieldType := fun k => match k with
  | 0 => .object "VariantMill$Variant"
  | 1 => .object "VariantMill$Rules"
  | 2 => .int
  | 3 => .int
  | 4 => .array .long
  | 5 => .int
  | 6 => .int
  | 7 => .int
  | _ => .int
abbrev wsX10 : List Cond := u_ws RX1 TX1 9
theorem nmX1 : ∀ a, a < 9 → ∀ b, b < 9 → a ≠ b → (TX1 a).2.1 ≠ (TX1 b).2.1 := by decide +kernel
theorem tyX1_ok : ∀ k, k < 9 → parseFieldDescriptor (TX1 k).2.2.1 = some (tyX1 k) := by decide +kernel
abbrev cX1_init : ByteArray := prog_3_method_1_code
def yX1_init : MethodName := ⟨RX1, "<init>", "(LVariantMill$Variant;IIII)V"⟩
abbrev cX1_placing : ByteArray := prog_3_method_2_code
def yX1_placing : MethodName := ⟨RX1, "placing", "(IIZ)J"⟩
abbrev cX1_isSecondToMove : ByteArray := prog_3_method_3_code
def yX1_isSecondToMove : MethodName := ⟨RX1, "isSecondToMove", "()Z"⟩
abbrev cX1_ofMover : ByteArray := prog_3_method_4_code
def yX1_ofMover : MethodName := ⟨RX1, "ofMover", "()I"⟩
abbrev cX1_ofWaiting : ByteArray := prog_3_method_5_code
def yX1_ofWaiting : MethodName := ⟨RX1, "ofWaiting", "()I"⟩
abbrev cX1_allows : ByteArray := prog_3_method_6_code
def yX1_allows : MethodName := ⟨RX1, "allows", "(II)Z"⟩
abbrev cX1_go : ByteArray := prog_3_method_7_code
def yX1_go : MethodName := ⟨RX1, "go", "(II)V"⟩
abbrev cX1_settle : ByteArray := prog_3_method_8_code
def yX1_settle : MethodName := ⟨RX1, "settle", "()V"⟩
abbrev cX1_timesSeen : ByteArray := prog_3_method_9_code
def yX1_timesSeen : MethodName := ⟨RX1, "timesSeen", "()I"⟩
abbrev cX1_pointsFor : ByteArray := prog_3_method_10_code
def yX1_pointsFor : MethodName := ⟨RX1, "pointsFor", "(I)I"⟩
def RX2 : String := "VariantMill$Rules"
def TX2 : u_T := fun k => match k with
  | 0 => ("VariantMill$Rules", "table", "[LVariantMill$Card;", true)
  | 1 => ("VariantMill$Rules", "cards", "I", true)
  | _ => ("VariantMill$Rules", "holes", "I", true)
def tyX2 : Nat → FieldType := fun k => match k with
  | 0 => .array (.object "VariantMill$Card")
  | 1 => .int
  | _ => .int
abbrev wsX20 : List Cond := u_ws RX2 TX2 3
theorem nmX2 : ∀ a, a < 3 → ∀ b, b < 3 → a ≠ b → (TX2 a).2.1 ≠ (TX2 b).2.1 := by decide +kernel
theorem tyX2_ok : ∀ k, k < 3 → parseFieldDescriptor (TX2 k).2.2.1 = some (tyX2 k) := by decide +kernel
abbrev cX2_init : ByteArray := prog_4_method_1_code
def yX2_init : MethodName := ⟨RX2, "<init>", "([LVariantMill$Card;II)V"⟩
abbrev cX2_canHold : ByteArray := prog_4_method_2_code
def yX2_canHold : MethodName := ⟨RX2, "canHold", "(I)Z"⟩
abbrev cX2_endsFrom : ByteArray := prog_4_method_3_code
def yX2_endsFrom : MethodName := ⟨RX2, "endsFrom", "(IIIZ)I"⟩
abbrev cX2_hasMove : ByteArray := prog_4_method_4_code
def yX2_hasMove : MethodName := ⟨RX2, "hasMove", "(IIZ)Z"⟩
abbrev cX2_someCardLeads : ByteArray := prog_4_method_5_code
def yX2_someCardLeads : MethodName := ⟨RX2, "someCardLeads", "(IIIZ)Z"⟩
def RX3 : String := "VariantMill$Variant"
def TX3 : u_T := fun k => match k with
  | 0 => ("VariantMill$Variant", "rules", "LVariantMill$Rules;", false)
  | 1 => ("VariantMill$Variant", "voters", "I", false)
  | _ => ("VariantMill$Variant", "endlessGames", "I", false)
def tyX3 : Nat → FieldType := fun k => match k with
  | 0 => .object "VariantMill$Rules"
  | 1 => .int
  | _ => .int
abbrev wsX30 : List Cond := u_ws RX3 TX3 3
theorem nmX3 : ∀ a, a < 3 → ∀ b, b < 3 → a ≠ b → (TX3 a).2.1 ≠ (TX3 b).2.1 := by decide +kernel
theorem tyX3_ok : ∀ k, k < 3 → parseFieldDescriptor (TX3 k).2.2.1 = some (tyX3 k) := by decide +kernel
abbrev cX3_init : ByteArray := prog_5_method_1_code
def yX3_init : MethodName := ⟨RX3, "<init>", "(LVariantMill$Rules;)V"⟩
abbrev cX3_isOut : ByteArray := prog_5_method_2_code
def yX3_isOut : MethodName := ⟨RX3, "isOut", "()Z"⟩
def RX4 : String := "VariantMill"
def TX4 : u_T := fun k => match k with
  | 0 => ("VariantMill", "cardTable", "[LVariantMill$Card;", true)
  | 1 => ("VariantMill", "variants", "[LVariantMill$Variant;", true)
  | 2 => ("VariantMill", "games", "[LVariantMill$Game;", true)
  | 3 => ("VariantMill", "cardCount", "I", false)
  | 4 => ("VariantMill", "variantCount", "I", false)
  | _ => ("VariantMill", "gameCount", "I", false)
def tyX4 : Nat → FieldType := fun k => match k with
  | 0 => .array (.object "VariantMill$Card")
  | 1 => .array (.object "VariantMill$Variant")
  | 2 => .array (.object "VariantMill$Game")
  | 3 => .int
  | 4 => .int
  | _ => .int
abbrev wsX40 : List Cond := u_ws RX4 TX4 6
theorem nmX4 : ∀ a, a < 6 → ∀ b, b < 6 → a ≠ b → (TX4 a).2.1 ≠ (TX4 b).2.1 := by decide +kernel
theorem tyX4_ok : ∀ k, k < 6 → parseFieldDescriptor (TX4 k).2.2.1 = some (tyX4 k) := by decide +kernel
abbrev cX4_init : ByteArray := prog_1_method_1_code
def yX4_init : MethodName := ⟨RX4, "<init>", "()V"⟩
abbrev cX4_card : ByteArray := prog_1_method_2_code
def yX4_card : MethodName := ⟨RX4, "card", "(IIII)I"⟩
abbrev cX4_variant : ByteArray := prog_1_method_3_code
def yX4_variant : MethodName := ⟨RX4, "variant", "(II)I"⟩
abbrev cX4_setCards : ByteArray := prog_1_method_4_code
def yX4_setCards : MethodName := ⟨RX4, "setCards", "(II)I"⟩
abbrev cX4_begin : ByteArray := prog_1_method_5_code
def yX4_begin : MethodName := ⟨RX4, "begin", "(IIIII)I"⟩
abbrev cX4_can : ByteArray := prog_1_method_6_code
def yX4_can : MethodName := ⟨RX4, "can", "(III)Z"⟩
abbrev cX4_canByAll : ByteArray := prog_1_method_7_code
def yX4_canByAll : MethodName := ⟨RX4, "canByAll", "(III)Z"⟩
abbrev cX4_move : ByteArray := prog_1_method_8_code
def yX4_move : MethodName := ⟨RX4, "move", "(III)I"⟩
abbrev cX4_state : ByteArray := prog_1_method_9_code
def yX4_state : MethodName := ⟨RX4, "state", "(I)I"⟩
abbrev cX4_pieces : ByteArray := prog_1_method_10_code
def yX4_pieces : MethodName := ⟨RX4, "pieces", "(IZ)I"⟩
abbrev cX4_made : ByteArray := prog_1_method_11_code
def yX4_made : MethodName := ⟨RX4, "made", "(I)I"⟩
abbrev cX4_value : ByteArray := prog_1_method_12_code
def yX4_value : MethodName := ⟨RX4, "value", "(II)I"⟩
abbrev cX4_valueByAll : ByteArray := prog_1_method_13_code
def yX4_valueByAll : MethodName := ⟨RX4, "valueByAll", "(II)I"⟩
abbrev cX4_vote : ByteArray := prog_1_method_14_code
def yX4_vote : MethodName := ⟨RX4, "vote", "(II)I"⟩
abbrev cX4_isBanned : ByteArray := prog_1_method_15_code
def yX4_isBanned : MethodName := ⟨RX4, "isBanned", "(I)Z"⟩
abbrev cX4_endless : ByteArray := prog_1_method_16_code
def yX4_endless : MethodName := ⟨RX4, "endless", "(I)I"⟩
abbrev cX4_points : ByteArray := prog_1_method_17_code
def yX4_points : MethodName := ⟨RX4, "points", "(II)I"⟩
abbrev cX4_variantAt : ByteArray := prog_1_method_18_code
def yX4_variantAt : MethodName := ⟨RX4, "variantAt", "(I)LVariantMill$Variant;"⟩
abbrev cX4_gameAt : ByteArray := prog_1_method_19_code
def yX4_gameAt : MethodName := ⟨RX4, "gameAt", "(I)LVariantMill$Game;"⟩
abbrev cX4_checkPlayer : ByteArray := prog_1_method_20_code
def yX4_checkPlayer : MethodName := ⟨RX4, "checkPlayer", "(I)V"⟩
abbrev cX4_checkCell : ByteArray := prog_1_method_21_code
def yX4_checkCell : MethodName := ⟨RX4, "checkCell", "(I)V"⟩
abbrev cX4_checkDepth : ByteArray := prog_1_method_22_code
def yX4_checkDepth : MethodName := ⟨RX4, "checkDepth", "(I)V"⟩
abbrev cX4_isStep : ByteArray := prog_1_method_23_code
def yX4_isStep : MethodName := ⟨RX4, "isStep", "(II)Z"⟩
abbrev cX4_isSetOfCards : ByteArray := prog_1_method_24_code
def yX4_isSetOfCards : MethodName := ⟨RX4, "isSetOfCards", "(I)Z"⟩
abbrev cX4_isIn : ByteArray := prog_1_method_25_code
def yX4_isIn : MethodName := ⟨RX4, "isIn", "(II)Z"⟩
abbrev cX4_cellAhead : ByteArray := prog_1_method_26_code
def yX4_cellAhead : MethodName := ⟨RX4, "cellAhead", "(III)I"⟩
abbrev cX4_isAmongAllMoves : ByteArray := prog_1_method_27_code
def yX4_isAmongAllMoves : MethodName := ⟨RX4, "isAmongAllMoves", "(LVariantMill$Game;II)Z"⟩
abbrev cX4_searchWithCuts : ByteArray := prog_1_method_28_code
def yX4_searchWithCuts : MethodName := ⟨RX4, "searchWithCuts", "(LVariantMill$Rules;IIZIII)I"⟩
abbrev cX4_searchAll : ByteArray := prog_1_method_29_code
def yX4_searchAll : MethodName := ⟨RX4, "searchAll", "(LVariantMill$Rules;IIZI)I"⟩
abbrev cX4_moved : ByteArray := prog_1_method_30_code
def yX4_moved : MethodName := ⟨RX4, "moved", "(III)I"⟩
def RX5 : String := "VariantMillModel"
def TX5 : u_T := fun k => match k with
  | 0 => ("VariantMillModel", "cards", "I", false)
  | 1 => ("VariantMillModel", "kind", "[I", true)
  | 2 => ("VariantMillModel", "dx", "[I", true)
  | 3 => ("VariantMillModel", "dy", "[I", true)
  | 4 => ("VariantMillModel", "reach", "[I", true)
  | 5 => ("VariantMillModel", "variants", "I", false)
  | 6 => ("VariantMillModel", "holes", "[I", true)
  | 7 => ("VariantMillModel", "has", "[I", true)
  | 8 => ("VariantMillModel", "votes", "[I", true)
  | 9 => ("VariantMillModel", "endless", "[I", true)
  | 10 => ("VariantMillModel", "games", "I", false)
  | 11 => ("VariantMillModel", "variant", "[I", true)
  | 12 => ("VariantMillModel", "plays", "[I", true)
  | 13 => ("VariantMillModel", "first", "[I", true)
  | 14 => ("VariantMillModel", "second", "[I", true)
  | 15 => ("VariantMillModel", "state", "[I", true)
  | 16 => ("VariantMillModel", "made", "[I", true)
  | 17 => ("VariantMillModel", "ones", "[I", true)
  | 18 => ("VariantMillModel", "others", "[I", true)
  | _ => ("VariantMillModel", "thrown", "I", false)
def tyX5 : Nat → FieldType := fun k => match k with
  | 0 => .int
  | 1 => .array .int
  | 2 => .array .int
  | 3 => .array .int
  | 4 => .array .int
  | 5 => .int
  | 6 => .array .int
  | 7 => .array .int
  | 8 => .array .int
  | 9 => .array .int
  | 10 => .int
  | 11 => .array .int
  | 12 => .array .int
  | 13 => .array .int
  | 14 => .array .int
  | 15 => .array .int
  | 16 => .array .int
  | 17 => .array .int
  | 18 => .array .int
  | _ => .int
abbrev wsX50 : List Cond := u_ws RX5 TX5 20
theorem nmX5 : ∀ a, a < 20 → ∀ b, b < 20 → a ≠ b → (TX5 a).2.1 ≠ (TX5 b).2.1 := by decide +kernel
theorem tyX5_ok : ∀ k, k < 20 → parseFieldDescriptor (TX5 k).2.2.1 = some (tyX5 k) := by decide +kernel
abbrev cX5_init : ByteArray := prog_7_method_1_code
def yX5_init : MethodName := ⟨RX5, "<init>", "()V"⟩
abbrev cX5_thrown : ByteArray := prog_7_method_2_code
def yX5_thrown : MethodName := ⟨RX5, "thrown", "()I"⟩
abbrev cX5_fails : ByteArray := prog_7_method_3_code
def yX5_fails : MethodName := ⟨RX5, "fails", "(I)I"⟩
abbrev cX5_asks : ByteArray := prog_7_method_4_code
def yX5_asks : MethodName := ⟨RX5, "asks", "(Z)Z"⟩
abbrev cX5_in : ByteArray := prog_7_method_5_code
def yX5_in : MethodName := ⟨RX5, "in", "(III)Z"⟩
abbrev cX5_isVariant : ByteArray := prog_7_method_6_code
def yX5_isVariant : MethodName := ⟨RX5, "isVariant", "(I)Z"⟩
abbrev cX5_isPlayer : ByteArray := prog_7_method_7_code
def yX5_isPlayer : MethodName := ⟨RX5, "isPlayer", "(I)Z"⟩
abbrev cX5_isGame : ByteArray := prog_7_method_8_code
def yX5_isGame : MethodName := ⟨RX5, "isGame", "(I)Z"⟩
abbrev cX5_isCell : ByteArray := prog_7_method_9_code
def yX5_isCell : MethodName := ⟨RX5, "isCell", "(I)Z"⟩
abbrev cX5_size : ByteArray := prog_7_method_10_code
def yX5_size : MethodName := ⟨RX5, "size", "(I)I"⟩
abbrev cX5_card : ByteArray := prog_7_method_11_code
def yX5_card : MethodName := ⟨RX5, "card", "(IIII)I"⟩
abbrev cX5_areCards : ByteArray := prog_7_method_12_code
def yX5_areCards : MethodName := ⟨RX5, "areCards", "(I)Z"⟩
abbrev cX5_variant : ByteArray := prog_7_method_13_code
def yX5_variant : MethodName := ⟨RX5, "variant", "(II)I"⟩
abbrev cX5_setCards : ByteArray := prog_7_method_14_code
def yX5_setCards : MethodName := ⟨RX5, "setCards", "(II)I"⟩
abbrev cX5_by : ByteArray := prog_7_method_15_code
def yX5_by : MethodName := ⟨RX5, "by", "(IIIIZI)I"⟩
abbrev cX5_goes : ByteArray := prog_7_method_16_code
def yX5_goes : MethodName := ⟨RX5, "goes", "(IIIIZI)I"⟩
abbrev cX5_moves : ByteArray := prog_7_method_17_code
def yX5_moves : MethodName := ⟨RX5, "moves", "(IIIIZ)Z"⟩
abbrev cX5_arePieces : ByteArray := prog_7_method_18_code
def yX5_arePieces : MethodName := ⟨RX5, "arePieces", "(II)Z"⟩
abbrev cX5_isBannedNow : ByteArray := prog_7_method_19_code
def yX5_isBannedNow : MethodName := ⟨RX5, "isBannedNow", "(I)Z"⟩
abbrev cX5_begin : ByteArray := prog_7_method_20_code
def yX5_begin : MethodName := ⟨RX5, "begin", "(IIIII)I"⟩
abbrev cX5_at : ByteArray := prog_7_method_21_code
def yX5_at : MethodName := ⟨RX5, "at", "(I)I"⟩
abbrev cX5_isSecondsTurn : ByteArray := prog_7_method_22_code
def yX5_isSecondsTurn : MethodName := ⟨RX5, "isSecondsTurn", "(I)Z"⟩
abbrev cX5_piecesOf : ByteArray := prog_7_method_23_code
def yX5_piecesOf : MethodName := ⟨RX5, "piecesOf", "(IZ)I"⟩
abbrev cX5_canNow : ByteArray := prog_7_method_24_code
def yX5_canNow : MethodName := ⟨RX5, "canNow", "(III)Z"⟩
abbrev cX5_can : ByteArray := prog_7_method_25_code
def yX5_can : MethodName := ⟨RX5, "can", "(III)Z"⟩
abbrev cX5_canByAll : ByteArray := prog_7_method_26_code
def yX5_canByAll : MethodName := ⟨RX5, "canByAll", "(III)Z"⟩
abbrev cX5_times : ByteArray := prog_7_method_27_code
def yX5_times : MethodName := ⟨RX5, "times", "(I)I"⟩
abbrev cX5_move : ByteArray := prog_7_method_28_code
def yX5_move : MethodName := ⟨RX5, "move", "(III)I"⟩
abbrev cX5_state : ByteArray := prog_7_method_29_code
def yX5_state : MethodName := ⟨RX5, "state", "(I)I"⟩
abbrev cX5_pieces : ByteArray := prog_7_method_30_code
def yX5_pieces : MethodName := ⟨RX5, "pieces", "(IZ)I"⟩
abbrev cX5_made : ByteArray := prog_7_method_31_code
def yX5_made : MethodName := ⟨RX5, "made", "(I)I"⟩
abbrev cX5_standing : ByteArray := prog_7_method_32_code
def yX5_standing : MethodName := ⟨RX5, "standing", "(IIIZ)I"⟩
abbrev cX5_onward : ByteArray := prog_7_method_33_code
def yX5_onward : MethodName := ⟨RX5, "onward", "(IIIZ)I"⟩
abbrev cX5_farther : ByteArray := prog_7_method_34_code
def yX5_farther : MethodName := ⟨RX5, "farther", "(IIIZ)I"⟩
abbrev cX5_valueAt : ByteArray := prog_7_method_35_code
def yX5_valueAt : MethodName := ⟨RX5, "valueAt", "(II)I"⟩
abbrev cX5_asksValue : ByteArray := prog_7_method_36_code
def yX5_asksValue : MethodName := ⟨RX5, "asksValue", "(II)I"⟩
abbrev cX5_value : ByteArray := prog_7_method_37_code
def yX5_value : MethodName := ⟨RX5, "value", "(II)I"⟩
abbrev cX5_valueByAll : ByteArray := prog_7_method_38_code
def yX5_valueByAll : MethodName := ⟨RX5, "valueByAll", "(II)I"⟩
abbrev cX5_vote : ByteArray := prog_7_method_39_code
def yX5_vote : MethodName := ⟨RX5, "vote", "(II)I"⟩
abbrev cX5_isBanned : ByteArray := prog_7_method_40_code
def yX5_isBanned : MethodName := ⟨RX5, "isBanned", "(I)Z"⟩
abbrev cX5_endless : ByteArray := prog_7_method_41_code
def yX5_endless : MethodName := ⟨RX5, "endless", "(I)I"⟩
abbrev cX5_points : ByteArray := prog_7_method_42_code
def yX5_points : MethodName := ⟨RX5, "points", "(II)I"⟩
def RJ6 : String := "java/lang/Integer"
def TJ6 : u_T := fun k => match k with
  | _ => ("", "", "", false)
def tyJ6 : Nat → FieldType := fun k => match k with
  | _ => .int
abbrev wsJ60 : List Cond := u_ws RJ6 TJ6 0
theorem nmJ6 : ∀ a, a < 0 → ∀ b, b < 0 → a ≠ b → (TJ6 a).2.1 ≠ (TJ6 b).2.1 := by decide +kernel
theorem tyJ6_ok : ∀ k, k < 0 → parseFieldDescriptor (TJ6 k).2.2.1 = some (tyJ6 k) := by decide +kernel
abbrev cJ6_bitCount_0f7a4 : ByteArray := prog_12_method_49_code
def yJ6_bitCount_0f7a4 : MethodName := ⟨RJ6, "bitCount", "(I)I"⟩
def RJ9 : String := "java/lang/Math"
def TJ9 : u_T := fun k => match k with
  | _ => ("", "", "", false)
def tyJ9 : Nat → FieldType := fun k => match k with
  | _ => .int
abbrev wsJ90 : List Cond := u_ws RJ9 TJ9 0
theorem nmJ9 : ∀ a, a < 0 → ∀ b, b < 0 → a ≠ b → (TJ9 a).2.1 ≠ (TJ9 b).2.1 := by decide +kernel
theorem tyJ9_ok : ∀ k, k < 0 → parseFieldDescriptor (TJ9 k).2.2.1 = some (tyJ9 k) := by decide +kernel
abbrev cJ9_max_7cf53 : ByteArray := prog_13_method_65_code
def yJ9_max_7cf53 : MethodName := ⟨RJ9, "max", "(II)I"⟩
def RJ0 : String := "java/lang/String"
def TJ0 : u_T := fun k => match k with
  | _ => ("", "", "", false)
def tyJ0 : Nat → FieldType := fun k => match k with
  | _ => .int
abbrev wsJ00 : List Cond := u_ws RJ0 TJ0 0
theorem nmJ0 : ∀ a, a < 0 → ∀ b, b < 0 → a ≠ b → (TJ0 a).2.1 ≠ (TJ0 b).2.1 := by decide +kernel
theorem tyJ0_ok : ∀ k, k < 0 → parseFieldDescriptor (TJ0 k).2.2.1 = some (tyJ0 k) := by decide +kernel
def RL : String := "VariantMillLaw"
abbrev cL_card : ByteArray := method_3_code
def yL_card : MethodName := ⟨RL, "card", "(LVariantMill;IIII[J)I"⟩
abbrev cL_variant : ByteArray := method_4_code
def yL_variant : MethodName := ⟨RL, "variant", "(LVariantMill;II[J)I"⟩
abbrev cL_setCards : ByteArray := method_5_code
def yL_setCards : MethodName := ⟨RL, "setCards", "(LVariantMill;II[J)I"⟩
abbrev cL_begin : ByteArray := method_6_code
def yL_begin : MethodName := ⟨RL, "begin", "(LVariantMill;IIIII[J)I"⟩
abbrev cL_can : ByteArray := method_7_code
def yL_can : MethodName := ⟨RL, "can", "(LVariantMill;III[J)I"⟩
abbrev cL_canByAll : ByteArray := method_8_code
def yL_canByAll : MethodName := ⟨RL, "canByAll", "(LVariantMill;III[J)I"⟩
abbrev cL_move : ByteArray := method_9_code
def yL_move : MethodName := ⟨RL, "move", "(LVariantMill;III[J)I"⟩
abbrev cL_state : ByteArray := method_10_code
def yL_state : MethodName := ⟨RL, "state", "(LVariantMill;I[J)I"⟩
abbrev cL_pieces : ByteArray := method_11_code
def yL_pieces : MethodName := ⟨RL, "pieces", "(LVariantMill;IZ[J)I"⟩
abbrev cL_made : ByteArray := method_12_code
def yL_made : MethodName := ⟨RL, "made", "(LVariantMill;I[J)I"⟩
abbrev cL_value : ByteArray := method_13_code
def yL_value : MethodName := ⟨RL, "value", "(LVariantMill;II[J)I"⟩
abbrev cL_valueByAll : ByteArray := method_14_code
def yL_valueByAll : MethodName := ⟨RL, "valueByAll", "(LVariantMill;II[J)I"⟩
abbrev cL_vote : ByteArray := method_15_code
def yL_vote : MethodName := ⟨RL, "vote", "(LVariantMill;II[J)I"⟩
abbrev cL_isBanned : ByteArray := method_16_code
def yL_isBanned : MethodName := ⟨RL, "isBanned", "(LVariantMill;I[J)I"⟩
abbrev cL_endless : ByteArray := method_17_code
def yL_endless : MethodName := ⟨RL, "endless", "(LVariantMill;I[J)I"⟩
abbrev cL_points : ByteArray := method_18_code
def yL_points : MethodName := ⟨RL, "points", "(LVariantMill;II[J)I"⟩
abbrev cL_law : ByteArray := code
def yL_law : MethodName := ⟨RL, "law", "([I)Z"⟩
def wsX0_init : List Cond := .code yX0_init cX0_init 5 none :: ([.methodLink RX0 3 objectInit, .instanceMethod objectInit, .code objectInit ⟨#[0xb1]⟩ 1 none, .fieldLink RX0 9 "VariantMill$Card" "kind" "I", .fieldLink RX0 15 "VariantMill$Card" "dx" "I", .fieldLink RX0 18 "VariantMill$Card" "dy" "I", .fieldLink RX0 21 "VariantMill$Card" "reach" "I"] ++ wsX00)
def wsX0_rows : List Cond := .code yX0_rows cX0_rows 2 (some .int) :: ([.fieldLink RX0 18 "VariantMill$Card" "dy" "I"] ++ wsX00)
def wsX4_cellAhead : List Cond := .code yX4_cellAhead cX4_cellAhead 6 (some .int) :: ([])
def wsX4_isIn : List Cond := .code yX4_isIn cX4_isIn 2 (some .boolean) :: ([])
def wsX0_endsFrom : List Cond := .code yX0_endsFrom cX0_endsFrom 10 (some .int) :: ([.fieldLink RX0 9 "VariantMill$Card" "kind" "I", .fieldLink RX0 21 "VariantMill$Card" "reach" "I", .fieldLink RX0 15 "VariantMill$Card" "dx" "I", .methodLink RX0 24 yX0_rows, .instanceMethod yX0_rows, .selects RX0 yX0_rows yX0_rows, .initialized RX0, .code yX0_rows cX0_rows 2 (some .int), .fieldLink RX0 18 "VariantMill$Card" "dy" "I", .static yX4_cellAhead, .initialized RX4, .code yX4_cellAhead cX4_cellAhead 6 (some .int), .static yX4_isIn, .code yX4_isIn cX4_isIn 2 (some .boolean)] ++ wsX00)
def wsX0_isRightPath : List Cond := .code yX0_isRightPath cX0_isRightPath 5 (some .boolean) :: ([.fieldLink RX0 9 "VariantMill$Card" "kind" "I"] ++ wsX00)
def wsX0_leads : List Cond := .code yX0_leads cX0_leads 10 (some .boolean) :: ([.fieldLink RX0 21 "VariantMill$Card" "reach" "I", .fieldLink RX0 15 "VariantMill$Card" "dx" "I", .methodLink RX0 24 yX0_rows, .instanceMethod yX0_rows, .selects RX0 yX0_rows yX0_rows, .initialized RX0, .code yX0_rows cX0_rows 2 (some .int), .fieldLink RX0 18 "VariantMill$Card" "dy" "I", .static yX4_cellAhead, .initialized RX4, .code yX4_cellAhead cX4_cellAhead 6 (some .int), .static yX4_isIn, .code yX4_isIn cX4_isIn 2 (some .boolean), .methodLink RX0 36 yX0_isRightPath, .instanceMethod yX0_isRightPath, .selects RX0 yX0_isRightPath yX0_isRightPath, .code yX0_isRightPath cX0_isRightPath 5 (some .boolean), .fieldLink RX0 9 "VariantMill$Card" "kind" "I"] ++ wsX00)
def wsX1_placing : List Cond := .code yX1_placing cX1_placing 5 (some .long) :: ([])
def wsX1_init : List Cond := .code yX1_init cX1_init 6 none :: ([.methodLink RX1 3 objectInit, .instanceMethod objectInit, .code objectInit ⟨#[0xb1]⟩ 1 none, .fieldLink RX1 9 "VariantMill$Game" "variant" "LVariantMill$Variant;", .fieldLink RX1 15 "VariantMill$Variant" "rules" "LVariantMill$Rules;", .fieldLink RX1 21 "VariantMill$Game" "rules" "LVariantMill$Rules;", .fieldLink RX1 22 "VariantMill$Game" "first" "I", .fieldLink RX1 26 "VariantMill$Game" "second" "I", .fieldLink RX1 29 "VariantMill$Game" "ofFirst" "I", .fieldLink RX1 32 "VariantMill$Game" "ofSecond" "I", .fieldLink RX1 35 "VariantMill$Game" "state" "I", .arrayClass .long, .fieldLink RX1 38 "VariantMill$Game" "seen" "[J", .methodLink RX1 42 yX1_placing, .static yX1_placing, .initialized RX1, .code yX1_placing cX1_placing 5 (some .long)] ++ wsX10 ++ wsX30)
def wsX1_isSecondToMove : List Cond := .code yX1_isSecondToMove cX1_isSecondToMove 1 (some .boolean) :: ([.fieldLink RX1 46 "VariantMill$Game" "made" "I"] ++ wsX10)
def wsX1_ofMover : List Cond := .code yX1_ofMover cX1_ofMover 1 (some .int) :: ([.fieldLink RX1 32 "VariantMill$Game" "ofSecond" "I", .fieldLink RX1 29 "VariantMill$Game" "ofFirst" "I", .methodLink RX1 49 yX1_isSecondToMove, .instanceMethod yX1_isSecondToMove, .selects RX1 yX1_isSecondToMove yX1_isSecondToMove, .initialized RX1, .code yX1_isSecondToMove cX1_isSecondToMove 1 (some .boolean), .fieldLink RX1 46 "VariantMill$Game" "made" "I"] ++ wsX10)
def wsX1_ofWaiting : List Cond := .code yX1_ofWaiting cX1_ofWaiting 1 (some .int) :: ([.fieldLink RX1 29 "VariantMill$Game" "ofFirst" "I", .fieldLink RX1 32 "VariantMill$Game" "ofSecond" "I", .methodLink RX1 49 yX1_isSecondToMove, .instanceMethod yX1_isSecondToMove, .selects RX1 yX1_isSecondToMove yX1_isSecondToMove, .initialized RX1, .code yX1_isSecondToMove cX1_isSecondToMove 1 (some .boolean), .fieldLink RX1 46 "VariantMill$Game" "made" "I"] ++ wsX10)
def wsX2_someCardLeads_r1 : List Cond := [Cond.fieldLink RX2 9 "VariantMill$Rules" "table" "[LVariantMill$Card;", Cond.fieldLink RX2 15 "VariantMill$Rules" "cards" "I", Cond.fieldLink RX2 19 "VariantMill$Rules" "holes" "I", Cond.static yX4_isIn, Cond.initialized RX4, Cond.code yX4_isIn cX4_isIn 2 (some .boolean), Cond.methodLink RX2 40 yX0_leads, Cond.instanceMethod yX0_leads, Cond.selects RX0 yX0_leads yX0_leads, Cond.initialized RX0, Cond.code yX0_leads cX0_leads 10 (some .boolean), Cond.fieldLink RX0 21 "VariantMill$Card" "reach" "I", Cond.fieldLink RX0 15 "VariantMill$Card" "dx" "I", Cond.methodLink RX0 24 yX0_rows, Cond.instanceMethod yX0_rows, Cond.selects RX0 yX0_rows yX0_rows, Cond.code yX0_rows cX0_rows 2 (some .int), Cond.fieldLink RX0 18 "VariantMill$Card" "dy" "I", Cond.static yX4_cellAhead, Cond.code yX4_cellAhead cX4_cellAhead 6 (some .int), Cond.methodLink RX0 36 yX0_isRightPath, Cond.instanceMethod yX0_isRightPath, Cond.selects RX0 yX0_isRightPath yX0_isRightPath, Cond.code yX0_isRightPath cX0_isRightPath 5 (some .boolean)]
def wsX2_someCardLeads_r2 : List Cond := [Cond.fieldLink RX0 9 "VariantMill$Card" "kind" "I"]
def wsX2_someCardLeads : List Cond := .code yX2_someCardLeads cX2_someCardLeads 7 (some .boolean) :: ((wsX2_someCardLeads_r1 ++ wsX2_someCardLeads_r2) ++ wsX20 ++ wsX00)
def wsX1_allows_r1 : List Cond := [Cond.fieldLink RX1 35 "VariantMill$Game" "state" "I", Cond.fieldLink RX1 21 "VariantMill$Game" "rules" "LVariantMill$Rules;", Cond.fieldLink RX1 29 "VariantMill$Game" "ofFirst" "I", Cond.fieldLink RX1 32 "VariantMill$Game" "ofSecond" "I", Cond.methodLink RX1 53 yX1_ofMover, Cond.instanceMethod yX1_ofMover, Cond.selects RX1 yX1_ofMover yX1_ofMover, Cond.initialized RX1, Cond.code yX1_ofMover cX1_ofMover 1 (some .int), Cond.methodLink RX1 49 yX1_isSecondToMove, Cond.instanceMethod yX1_isSecondToMove, Cond.selects RX1 yX1_isSecondToMove yX1_isSecondToMove, Cond.code yX1_isSecondToMove cX1_isSecondToMove 1 (some .boolean), Cond.fieldLink RX1 46 "VariantMill$Game" "made" "I", Cond.static yX4_isIn, Cond.initialized RX4, Cond.code yX4_isIn cX4_isIn 2 (some .boolean), Cond.methodLink RX1 61 yX2_someCardLeads, Cond.instanceMethod yX2_someCardLeads, Cond.selects RX2 yX2_someCardLeads yX2_someCardLeads, Cond.initialized RX2, Cond.code yX2_someCardLeads cX2_someCardLeads 7 (some .boolean), Cond.fieldLink RX2 9 "VariantMill$Rules" "table" "[LVariantMill$Card;", Cond.fieldLink RX2 15 "VariantMill$Rules" "cards" "I"]
def wsX1_allows_r2 : List Cond := [Cond.fieldLink RX2 19 "VariantMill$Rules" "holes" "I", Cond.methodLink RX2 40 yX0_leads, Cond.instanceMethod yX0_leads, Cond.selects RX0 yX0_leads yX0_leads, Cond.initialized RX0, Cond.code yX0_leads cX0_leads 10 (some .boolean), Cond.fieldLink RX0 21 "VariantMill$Card" "reach" "I", Cond.fieldLink RX0 15 "VariantMill$Card" "dx" "I", Cond.methodLink RX0 24 yX0_rows, Cond.instanceMethod yX0_rows, Cond.selects RX0 yX0_rows yX0_rows, Cond.code yX0_rows cX0_rows 2 (some .int), Cond.fieldLink RX0 18 "VariantMill$Card" "dy" "I", Cond.static yX4_cellAhead, Cond.code yX4_cellAhead cX4_cellAhead 6 (some .int), Cond.methodLink RX0 36 yX0_isRightPath, Cond.instanceMethod yX0_isRightPath, Cond.selects RX0 yX0_isRightPath yX0_isRightPath, Cond.code yX0_isRightPath cX0_isRightPath 5 (some .boolean), Cond.fieldLink RX0 9 "VariantMill$Card" "kind" "I"]
def wsX1_allows : List Cond := .code yX1_allows cX1_allows 3 (some .boolean) :: ((wsX1_allows_r1 ++ wsX1_allows_r2) ++ wsX10 ++ wsX20 ++ wsX00)
def wsX4_moved : List Cond := .code yX4_moved cX4_moved 3 (some .int) :: ([])
def wsX1_go : List Cond := .code yX1_go cX1_go 5 none :: ([.fieldLink RX1 29 "VariantMill$Game" "ofFirst" "I", .fieldLink RX1 32 "VariantMill$Game" "ofSecond" "I", .fieldLink RX1 46 "VariantMill$Game" "made" "I", .fieldLink RX1 38 "VariantMill$Game" "seen" "[J", .methodLink RX1 53 yX1_ofMover, .instanceMethod yX1_ofMover, .selects RX1 yX1_ofMover yX1_ofMover, .initialized RX1, .code yX1_ofMover cX1_ofMover 1 (some .int), .methodLink RX1 49 yX1_isSecondToMove, .instanceMethod yX1_isSecondToMove, .selects RX1 yX1_isSecondToMove yX1_isSecondToMove, .code yX1_isSecondToMove cX1_isSecondToMove 1 (some .boolean), .static yX4_moved, .initialized RX4, .code yX4_moved cX4_moved 3 (some .int), .methodLink RX1 71 yX1_ofWaiting, .instanceMethod yX1_ofWaiting, .selects RX1 yX1_ofWaiting yX1_ofWaiting, .code yX1_ofWaiting cX1_ofWaiting 1 (some .int), .methodLink RX1 42 yX1_placing, .static yX1_placing, .code yX1_placing cX1_placing 5 (some .long)] ++ wsX10)
def wsX2_endsFrom : List Cond := .code yX2_endsFrom cX2_endsFrom 8 (some .int) :: ([.fieldLink RX2 9 "VariantMill$Rules" "table" "[LVariantMill$Card;", .fieldLink RX2 15 "VariantMill$Rules" "cards" "I", .fieldLink RX2 19 "VariantMill$Rules" "holes" "I", .static yX4_isIn, .initialized RX4, .code yX4_isIn cX4_isIn 2 (some .boolean), .methodLink RX2 33 yX0_endsFrom, .instanceMethod yX0_endsFrom, .selects RX0 yX0_endsFrom yX0_endsFrom, .initialized RX0, .code yX0_endsFrom cX0_endsFrom 10 (some .int), .fieldLink RX0 9 "VariantMill$Card" "kind" "I", .fieldLink RX0 21 "VariantMill$Card" "reach" "I", .fieldLink RX0 15 "VariantMill$Card" "dx" "I", .methodLink RX0 24 yX0_rows, .instanceMethod yX0_rows, .selects RX0 yX0_rows yX0_rows, .code yX0_rows cX0_rows 2 (some .int), .fieldLink RX0 18 "VariantMill$Card" "dy" "I", .static yX4_cellAhead, .code yX4_cellAhead cX4_cellAhead 6 (some .int)] ++ wsX20 ++ wsX00)
def wsX2_hasMove_r1 : List Cond := [Cond.methodLink RX2 39 yX2_endsFrom, Cond.instanceMethod yX2_endsFrom, Cond.selects RX2 yX2_endsFrom yX2_endsFrom, Cond.initialized RX2, Cond.code yX2_endsFrom cX2_endsFrom 8 (some .int), Cond.fieldLink RX2 9 "VariantMill$Rules" "table" "[LVariantMill$Card;", Cond.fieldLink RX2 15 "VariantMill$Rules" "cards" "I", Cond.fieldLink RX2 19 "VariantMill$Rules" "holes" "I", Cond.static yX4_isIn, Cond.initialized RX4, Cond.code yX4_isIn cX4_isIn 2 (some .boolean), Cond.methodLink RX2 33 yX0_endsFrom, Cond.instanceMethod yX0_endsFrom, Cond.selects RX0 yX0_endsFrom yX0_endsFrom, Cond.initialized RX0, Cond.code yX0_endsFrom cX0_endsFrom 10 (some .int), Cond.fieldLink RX0 9 "VariantMill$Card" "kind" "I", Cond.fieldLink RX0 21 "VariantMill$Card" "reach" "I", Cond.fieldLink RX0 15 "VariantMill$Card" "dx" "I", Cond.methodLink RX0 24 yX0_rows, Cond.instanceMethod yX0_rows, Cond.selects RX0 yX0_rows yX0_rows, Cond.code yX0_rows cX0_rows 2 (some .int), Cond.fieldLink RX0 18 "VariantMill$Card" "dy" "I"]
def wsX2_hasMove_r2 : List Cond := [Cond.static yX4_cellAhead, Cond.code yX4_cellAhead cX4_cellAhead 6 (some .int)]
def wsX2_hasMove : List Cond := .code yX2_hasMove cX2_hasMove 5 (some .boolean) :: ((wsX2_hasMove_r1 ++ wsX2_hasMove_r2) ++ wsX20 ++ wsX00)
def wsX1_timesSeen : List Cond := .code yX1_timesSeen cX1_timesSeen 5 (some .int) :: ([.fieldLink RX1 29 "VariantMill$Game" "ofFirst" "I", .fieldLink RX1 32 "VariantMill$Game" "ofSecond" "I", .fieldLink RX1 46 "VariantMill$Game" "made" "I", .fieldLink RX1 38 "VariantMill$Game" "seen" "[J", .methodLink RX1 49 yX1_isSecondToMove, .instanceMethod yX1_isSecondToMove, .selects RX1 yX1_isSecondToMove yX1_isSecondToMove, .initialized RX1, .code yX1_isSecondToMove cX1_isSecondToMove 1 (some .boolean), .methodLink RX1 42 yX1_placing, .static yX1_placing, .code yX1_placing cX1_placing 5 (some .long)] ++ wsX10)
def wsX1_settle_r1 : List Cond := [Cond.fieldLink RX1 21 "VariantMill$Game" "rules" "LVariantMill$Rules;", Cond.fieldLink RX1 35 "VariantMill$Game" "state" "I", Cond.fieldLink RX1 9 "VariantMill$Game" "variant" "LVariantMill$Variant;", Cond.fieldLink RX1 81 "VariantMill$Variant" "endlessGames" "I", Cond.fieldLink RX1 46 "VariantMill$Game" "made" "I", Cond.methodLink RX1 53 yX1_ofMover, Cond.instanceMethod yX1_ofMover, Cond.selects RX1 yX1_ofMover yX1_ofMover, Cond.initialized RX1, Cond.code yX1_ofMover cX1_ofMover 1 (some .int), Cond.fieldLink RX1 32 "VariantMill$Game" "ofSecond" "I", Cond.fieldLink RX1 29 "VariantMill$Game" "ofFirst" "I", Cond.methodLink RX1 49 yX1_isSecondToMove, Cond.instanceMethod yX1_isSecondToMove, Cond.selects RX1 yX1_isSecondToMove yX1_isSecondToMove, Cond.code yX1_isSecondToMove cX1_isSecondToMove 1 (some .boolean), Cond.methodLink RX1 71 yX1_ofWaiting, Cond.instanceMethod yX1_ofWaiting, Cond.selects RX1 yX1_ofWaiting yX1_ofWaiting, Cond.code yX1_ofWaiting cX1_ofWaiting 1 (some .int), Cond.methodLink RX1 74 yX2_hasMove, Cond.instanceMethod yX2_hasMove, Cond.selects RX2 yX2_hasMove yX2_hasMove, Cond.initialized RX2]
def wsX1_settle_r2 : List Cond := [Cond.code yX2_hasMove cX2_hasMove 5 (some .boolean), Cond.methodLink RX2 39 yX2_endsFrom, Cond.instanceMethod yX2_endsFrom, Cond.selects RX2 yX2_endsFrom yX2_endsFrom, Cond.code yX2_endsFrom cX2_endsFrom 8 (some .int), Cond.fieldLink RX2 9 "VariantMill$Rules" "table" "[LVariantMill$Card;", Cond.fieldLink RX2 15 "VariantMill$Rules" "cards" "I", Cond.fieldLink RX2 19 "VariantMill$Rules" "holes" "I", Cond.static yX4_isIn, Cond.initialized RX4, Cond.code yX4_isIn cX4_isIn 2 (some .boolean), Cond.methodLink RX2 33 yX0_endsFrom, Cond.instanceMethod yX0_endsFrom, Cond.selects RX0 yX0_endsFrom yX0_endsFrom, Cond.initialized RX0, Cond.code yX0_endsFrom cX0_endsFrom 10 (some .int), Cond.fieldLink RX0 9 "VariantMill$Card" "kind" "I", Cond.fieldLink RX0 21 "VariantMill$Card" "reach" "I", Cond.fieldLink RX0 15 "VariantMill$Card" "dx" "I", Cond.methodLink RX0 24 yX0_rows, Cond.instanceMethod yX0_rows, Cond.selects RX0 yX0_rows yX0_rows, Cond.code yX0_rows cX0_rows 2 (some .int), Cond.fieldLink RX0 18 "VariantMill$Card" "dy" "I"]
def wsX1_settle_r3 : List Cond := [Cond.static yX4_cellAhead, Cond.code yX4_cellAhead cX4_cellAhead 6 (some .int), Cond.methodLink RX1 78 yX1_timesSeen, Cond.instanceMethod yX1_timesSeen, Cond.selects RX1 yX1_timesSeen yX1_timesSeen, Cond.code yX1_timesSeen cX1_timesSeen 5 (some .int), Cond.fieldLink RX1 38 "VariantMill$Game" "seen" "[J", Cond.methodLink RX1 42 yX1_placing, Cond.static yX1_placing, Cond.code yX1_placing cX1_placing 5 (some .long)]
def wsX1_settle : List Cond := .code yX1_settle cX1_settle 1 none :: ((wsX1_settle_r1 ++ (wsX1_settle_r2 ++ wsX1_settle_r3)) ++ wsX10 ++ wsX30 ++ wsX20 ++ wsX00)
def wsX1_pointsFor : List Cond := .code yX1_pointsFor cX1_pointsFor 3 (some .int) :: ([.fieldLink RX1 35 "VariantMill$Game" "state" "I", .fieldLink RX1 22 "VariantMill$Game" "first" "I", .fieldLink RX1 26 "VariantMill$Game" "second" "I"] ++ wsX10)
def wsX2_init : List Cond := .code yX2_init cX2_init 4 none :: ([.methodLink RX2 3 objectInit, .instanceMethod objectInit, .code objectInit ⟨#[0xb1]⟩ 1 none, .fieldLink RX2 9 "VariantMill$Rules" "table" "[LVariantMill$Card;", .fieldLink RX2 15 "VariantMill$Rules" "cards" "I", .fieldLink RX2 19 "VariantMill$Rules" "holes" "I"] ++ wsX20)
def wsJ6_bitCount_0f7a4 : List Cond := .code yJ6_bitCount_0f7a4 cJ6_bitCount_0f7a4 1 (some .int) :: ([.constant RJ6 265 (1431655765), .constant RJ6 266 (858993459), .constant RJ6 267 (252645135)])
def wsX2_canHold : List Cond := .code yX2_canHold cX2_canHold 2 (some .boolean) :: ([.constant RX2 22 (33554431), .fieldLink RX2 19 "VariantMill$Rules" "holes" "I", .methodLink RX2 23 yJ6_bitCount_0f7a4, .static yJ6_bitCount_0f7a4, .initialized RJ6, .code yJ6_bitCount_0f7a4 cJ6_bitCount_0f7a4 1 (some .int), .constant RJ6 265 (1431655765), .constant RJ6 266 (858993459), .constant RJ6 267 (252645135)] ++ wsX20)
def wsX3_init : List Cond := .code yX3_init cX3_init 2 none :: ([.methodLink RX3 3 objectInit, .instanceMethod objectInit, .code objectInit ⟨#[0xb1]⟩ 1 none, .fieldLink RX3 9 "VariantMill$Variant" "rules" "LVariantMill$Rules;"] ++ wsX30)
def wsX3_isOut : List Cond := .code yX3_isOut cX3_isOut 1 (some .boolean) :: ([.fieldLink RX3 15 "VariantMill$Variant" "voters" "I", .fieldLink RX3 25 "VariantMill$Variant" "endlessGames" "I", .methodLink RX3 19 yJ6_bitCount_0f7a4, .static yJ6_bitCount_0f7a4, .initialized RJ6, .code yJ6_bitCount_0f7a4 cJ6_bitCount_0f7a4 1 (some .int), .constant RJ6 265 (1431655765), .constant RJ6 266 (858993459), .constant RJ6 267 (252645135)] ++ wsX30)
def wsX4_init : List Cond := .code yX4_init cX4_init 1 none :: ([.methodLink RX4 1 objectInit, .instanceMethod objectInit, .code objectInit ⟨#[0xb1]⟩ 1 none, .classLink RX4 9 RX0, .fieldLink RX4 11 "VariantMill" "cardTable" "[LVariantMill$Card;", .classLink RX4 15 RX3, .fieldLink RX4 17 "VariantMill" "variants" "[LVariantMill$Variant;", .classLink RX4 21 RX1, .fieldLink RX4 23 "VariantMill" "games" "[LVariantMill$Game;"] ++ wsX40)
def wsX4_isStep : List Cond := .code yX4_isStep cX4_isStep 3 (some .boolean) :: ([])
def wsX4_card : List Cond := .code yX4_card cX4_card 6 (some .int) :: ([.classLink RX4 31 "java/lang/IllegalArgumentException", .initialized "java/lang/IllegalArgumentException", .classLink RX4 42 "java/lang/IllegalStateException", .initialized "java/lang/IllegalStateException", .fieldLink RX4 38 "VariantMill" "cardCount" "I", .fieldLink RX4 11 "VariantMill" "cardTable" "[LVariantMill$Card;", .classLink RX4 9 RX0, .instantiable RX0 4, .initialized RX0, .methodLink RX4 27 yX4_isStep, .static yX4_isStep, .initialized RX4, .code yX4_isStep cX4_isStep 3 (some .boolean), .methodLink RX4 47 yX0_init, .instanceMethod yX0_init, .code yX0_init cX0_init 5 none, .methodLink RX0 3 objectInit, .instanceMethod objectInit, .code objectInit ⟨#[0xb1]⟩ 1 none, .fieldLink RX0 9 "VariantMill$Card" "kind" "I", .fieldLink RX0 15 "VariantMill$Card" "dx" "I", .fieldLink RX0 18 "VariantMill$Card" "dy" "I", .fieldLink RX0 21 "VariantMill$Card" "reach" "I"] ++ wsX40 ++ wsX00 ++ (vx_atS RX4 35 "java/lang/IllegalArgumentException" ["java/lang/RuntimeException", "java/lang/Exception"]).filter goodWord ++ (vx_atS RX4 46 "java/lang/IllegalStateException" ["java/lang/RuntimeException", "java/lang/Exception"]).filter goodWord)
def wsX4_isSetOfCards : List Cond := .code yX4_isSetOfCards cX4_isSetOfCards 2 (some .boolean) :: ([.fieldLink RX4 38 "VariantMill" "cardCount" "I"] ++ wsX40)
def wsX4_variant_r1 : List Cond := [Cond.classLink RX4 31 "java/lang/IllegalArgumentException", Cond.initialized "java/lang/IllegalArgumentException", Cond.classLink RX4 42 "java/lang/IllegalStateException", Cond.initialized "java/lang/IllegalStateException", Cond.constant RX4 50 (33554431), Cond.fieldLink RX4 57 "VariantMill" "variantCount" "I", Cond.fieldLink RX4 17 "VariantMill" "variants" "[LVariantMill$Variant;", Cond.classLink RX4 15 RX3, Cond.instantiable RX3 3, Cond.initialized RX3, Cond.classLink RX4 62 RX2, Cond.instantiable RX2 3, Cond.initialized RX2, Cond.fieldLink RX4 11 "VariantMill" "cardTable" "[LVariantMill$Card;", Cond.methodLink RX4 51 yX4_isSetOfCards, Cond.instanceMethod yX4_isSetOfCards, Cond.selects RX4 yX4_isSetOfCards yX4_isSetOfCards, Cond.initialized RX4, Cond.code yX4_isSetOfCards cX4_isSetOfCards 2 (some .boolean), Cond.fieldLink RX4 38 "VariantMill" "cardCount" "I", Cond.methodLink RX4 64 yX2_init, Cond.instanceMethod yX2_init, Cond.code yX2_init cX2_init 4 none, Cond.methodLink RX2 3 objectInit]
def wsX4_variant_r2 : List Cond := [Cond.instanceMethod objectInit, Cond.code objectInit ⟨#[0xb1]⟩ 1 none, Cond.fieldLink RX2 9 "VariantMill$Rules" "table" "[LVariantMill$Card;", Cond.fieldLink RX2 15 "VariantMill$Rules" "cards" "I", Cond.fieldLink RX2 19 "VariantMill$Rules" "holes" "I", Cond.methodLink RX4 67 yX3_init, Cond.instanceMethod yX3_init, Cond.code yX3_init cX3_init 2 none, Cond.methodLink RX3 3 objectInit, Cond.fieldLink RX3 9 "VariantMill$Variant" "rules" "LVariantMill$Rules;"]
def wsX4_variant : List Cond := .code yX4_variant cX4_variant 4 (some .int) :: ((wsX4_variant_r1 ++ wsX4_variant_r2) ++ wsX40 ++ wsX30 ++ wsX20 ++ (vx_atS RX4 35 "java/lang/IllegalArgumentException" ["java/lang/RuntimeException", "java/lang/Exception"]).filter goodWord ++ (vx_atS RX4 46 "java/lang/IllegalStateException" ["java/lang/RuntimeException", "java/lang/Exception"]).filter goodWord)
def wsX4_variantAt : List Cond := .code yX4_variantAt cX4_variantAt 3 (some (.object "VariantMill$Variant")) :: ([.classLink RX4 187 "java/lang/IndexOutOfBoundsException", .initialized "java/lang/IndexOutOfBoundsException", .fieldLink RX4 17 "VariantMill" "variants" "[LVariantMill$Variant;"] ++ wsX40 ++ (vx_atS RX4 191 "java/lang/IndexOutOfBoundsException" ["java/lang/RuntimeException", "java/lang/Exception"]).filter goodWord)
def wsX4_setCards_r1 : List Cond := [Cond.classLink RX4 31 "java/lang/IllegalArgumentException", Cond.initialized "java/lang/IllegalArgumentException", Cond.fieldLink RX4 76 "VariantMill$Variant" "rules" "LVariantMill$Rules;", Cond.classLink RX4 62 RX2, Cond.instantiable RX2 3, Cond.initialized RX2, Cond.fieldLink RX4 11 "VariantMill" "cardTable" "[LVariantMill$Card;", Cond.fieldLink RX4 80 "VariantMill$Rules" "holes" "I", Cond.fieldLink RX4 83 "VariantMill$Rules" "cards" "I", Cond.methodLink RX4 70 yX4_variantAt, Cond.instanceMethod yX4_variantAt, Cond.selects RX4 yX4_variantAt yX4_variantAt, Cond.initialized RX4, Cond.code yX4_variantAt cX4_variantAt 3 (some (.object "VariantMill$Variant")), Cond.classLink RX4 187 "java/lang/IndexOutOfBoundsException", Cond.initialized "java/lang/IndexOutOfBoundsException", Cond.fieldLink RX4 17 "VariantMill" "variants" "[LVariantMill$Variant;", Cond.methodLink RX4 51 yX4_isSetOfCards, Cond.instanceMethod yX4_isSetOfCards, Cond.selects RX4 yX4_isSetOfCards yX4_isSetOfCards, Cond.code yX4_isSetOfCards cX4_isSetOfCards 2 (some .boolean), Cond.fieldLink RX4 38 "VariantMill" "cardCount" "I", Cond.methodLink RX4 64 yX2_init, Cond.instanceMethod yX2_init]
def wsX4_setCards_r2 : List Cond := [Cond.code yX2_init cX2_init 4 none, Cond.methodLink RX2 3 objectInit, Cond.instanceMethod objectInit, Cond.code objectInit ⟨#[0xb1]⟩ 1 none, Cond.fieldLink RX2 9 "VariantMill$Rules" "table" "[LVariantMill$Card;", Cond.fieldLink RX2 15 "VariantMill$Rules" "cards" "I", Cond.fieldLink RX2 19 "VariantMill$Rules" "holes" "I"]
def wsX4_setCards : List Cond := .code yX4_setCards cX4_setCards 5 (some .int) :: ((wsX4_setCards_r1 ++ wsX4_setCards_r2) ++ wsX30 ++ wsX20 ++ wsX40 ++ (vx_atS RX4 35 "java/lang/IllegalArgumentException" ["java/lang/RuntimeException", "java/lang/Exception"]).filter goodWord ++ (vx_atS RX4 191 "java/lang/IndexOutOfBoundsException" ["java/lang/RuntimeException", "java/lang/Exception"]).filter goodWord)
def wsX4_checkPlayer : List Cond := .code yX4_checkPlayer cX4_checkPlayer 1 none :: ([.classLink RX4 187 "java/lang/IndexOutOfBoundsException", .initialized "java/lang/IndexOutOfBoundsException"] ++ (vx_atS RX4 191 "java/lang/IndexOutOfBoundsException" ["java/lang/RuntimeException", "java/lang/Exception"]).filter goodWord)
def wsX4_begin_r1 : List Cond := [Cond.classLink RX4 31 "java/lang/IllegalArgumentException", Cond.initialized "java/lang/IllegalArgumentException", Cond.classLink RX4 42 "java/lang/IllegalStateException", Cond.initialized "java/lang/IllegalStateException", Cond.fieldLink RX4 76 "VariantMill$Variant" "rules" "LVariantMill$Rules;", Cond.fieldLink RX4 99 "VariantMill" "gameCount" "I", Cond.fieldLink RX4 23 "VariantMill" "games" "[LVariantMill$Game;", Cond.classLink RX4 21 RX1, Cond.instantiable RX1 9, Cond.initialized RX1, Cond.methodLink RX4 70 yX4_variantAt, Cond.instanceMethod yX4_variantAt, Cond.selects RX4 yX4_variantAt yX4_variantAt, Cond.initialized RX4, Cond.code yX4_variantAt cX4_variantAt 3 (some (.object "VariantMill$Variant")), Cond.classLink RX4 187 "java/lang/IndexOutOfBoundsException", Cond.initialized "java/lang/IndexOutOfBoundsException", Cond.fieldLink RX4 17 "VariantMill" "variants" "[LVariantMill$Variant;", Cond.methodLink RX4 86 yX4_checkPlayer, Cond.static yX4_checkPlayer, Cond.code yX4_checkPlayer cX4_checkPlayer 1 none, Cond.methodLink RX4 90 yX2_canHold, Cond.instanceMethod yX2_canHold, Cond.selects RX2 yX2_canHold yX2_canHold]
def wsX4_begin_r2 : List Cond := [Cond.initialized RX2, Cond.code yX2_canHold cX2_canHold 2 (some .boolean), Cond.constant RX2 22 (33554431), Cond.fieldLink RX2 19 "VariantMill$Rules" "holes" "I", Cond.methodLink RX2 23 yJ6_bitCount_0f7a4, Cond.static yJ6_bitCount_0f7a4, Cond.initialized RJ6, Cond.code yJ6_bitCount_0f7a4 cJ6_bitCount_0f7a4 1 (some .int), Cond.constant RJ6 265 (1431655765), Cond.constant RJ6 266 (858993459), Cond.constant RJ6 267 (252645135), Cond.methodLink RX4 95 yX3_isOut, Cond.instanceMethod yX3_isOut, Cond.selects RX3 yX3_isOut yX3_isOut, Cond.initialized RX3, Cond.code yX3_isOut cX3_isOut 1 (some .boolean), Cond.fieldLink RX3 15 "VariantMill$Variant" "voters" "I", Cond.fieldLink RX3 25 "VariantMill$Variant" "endlessGames" "I", Cond.methodLink RX3 19 yJ6_bitCount_0f7a4, Cond.methodLink RX4 102 yX2_hasMove, Cond.instanceMethod yX2_hasMove, Cond.selects RX2 yX2_hasMove yX2_hasMove, Cond.code yX2_hasMove cX2_hasMove 5 (some .boolean), Cond.methodLink RX2 39 yX2_endsFrom]
def wsX4_begin_r3 : List Cond := [Cond.instanceMethod yX2_endsFrom, Cond.selects RX2 yX2_endsFrom yX2_endsFrom, Cond.code yX2_endsFrom cX2_endsFrom 8 (some .int), Cond.fieldLink RX2 9 "VariantMill$Rules" "table" "[LVariantMill$Card;", Cond.fieldLink RX2 15 "VariantMill$Rules" "cards" "I", Cond.static yX4_isIn, Cond.code yX4_isIn cX4_isIn 2 (some .boolean), Cond.methodLink RX2 33 yX0_endsFrom, Cond.instanceMethod yX0_endsFrom, Cond.selects RX0 yX0_endsFrom yX0_endsFrom, Cond.initialized RX0, Cond.code yX0_endsFrom cX0_endsFrom 10 (some .int), Cond.fieldLink RX0 9 "VariantMill$Card" "kind" "I", Cond.fieldLink RX0 21 "VariantMill$Card" "reach" "I", Cond.fieldLink RX0 15 "VariantMill$Card" "dx" "I", Cond.methodLink RX0 24 yX0_rows, Cond.instanceMethod yX0_rows, Cond.selects RX0 yX0_rows yX0_rows, Cond.code yX0_rows cX0_rows 2 (some .int), Cond.fieldLink RX0 18 "VariantMill$Card" "dy" "I", Cond.static yX4_cellAhead, Cond.code yX4_cellAhead cX4_cellAhead 6 (some .int), Cond.methodLink RX4 108 yX1_init, Cond.instanceMethod yX1_init]
def wsX4_begin_r4 : List Cond := [Cond.code yX1_init cX1_init 6 none, Cond.methodLink RX1 3 objectInit, Cond.instanceMethod objectInit, Cond.code objectInit ⟨#[0xb1]⟩ 1 none, Cond.fieldLink RX1 9 "VariantMill$Game" "variant" "LVariantMill$Variant;", Cond.fieldLink RX1 15 "VariantMill$Variant" "rules" "LVariantMill$Rules;", Cond.fieldLink RX1 21 "VariantMill$Game" "rules" "LVariantMill$Rules;", Cond.fieldLink RX1 22 "VariantMill$Game" "first" "I", Cond.fieldLink RX1 26 "VariantMill$Game" "second" "I", Cond.fieldLink RX1 29 "VariantMill$Game" "ofFirst" "I", Cond.fieldLink RX1 32 "VariantMill$Game" "ofSecond" "I", Cond.fieldLink RX1 35 "VariantMill$Game" "state" "I", Cond.arrayClass .long, Cond.fieldLink RX1 38 "VariantMill$Game" "seen" "[J", Cond.methodLink RX1 42 yX1_placing, Cond.static yX1_placing, Cond.code yX1_placing cX1_placing 5 (some .long)]
def wsX4_begin : List Cond := .code yX4_begin cX4_begin 9 (some .int) :: ((wsX4_begin_r1 ++ (wsX4_begin_r2 ++ (wsX4_begin_r3 ++ wsX4_begin_r4))) ++ wsX30 ++ wsX40 ++ wsX10 ++ wsX20 ++ wsX00 ++ (vx_atS RX4 35 "java/lang/IllegalArgumentException" ["java/lang/RuntimeException", "java/lang/Exception"]).filter goodWord ++ (vx_atS RX4 46 "java/lang/IllegalStateException" ["java/lang/RuntimeException", "java/lang/Exception"]).filter goodWord ++ (vx_atS RX4 191 "java/lang/IndexOutOfBoundsException" ["java/lang/RuntimeException", "java/lang/Exception"]).filter goodWord)
def wsX4_gameAt : List Cond := .code yX4_gameAt cX4_gameAt 3 (some (.object "VariantMill$Game")) :: ([.classLink RX4 187 "java/lang/IndexOutOfBoundsException", .initialized "java/lang/IndexOutOfBoundsException", .fieldLink RX4 23 "VariantMill" "games" "[LVariantMill$Game;"] ++ wsX40 ++ (vx_atS RX4 191 "java/lang/IndexOutOfBoundsException" ["java/lang/RuntimeException", "java/lang/Exception"]).filter goodWord)
def wsX4_checkCell : List Cond := .code yX4_checkCell cX4_checkCell 1 none :: ([.classLink RX4 187 "java/lang/IndexOutOfBoundsException", .initialized "java/lang/IndexOutOfBoundsException"] ++ (vx_atS RX4 191 "java/lang/IndexOutOfBoundsException" ["java/lang/RuntimeException", "java/lang/Exception"]).filter goodWord)
def wsX4_can_r1 : List Cond := [Cond.methodLink RX4 111 yX4_gameAt, Cond.instanceMethod yX4_gameAt, Cond.selects RX4 yX4_gameAt yX4_gameAt, Cond.initialized RX4, Cond.code yX4_gameAt cX4_gameAt 3 (some (.object "VariantMill$Game")), Cond.classLink RX4 187 "java/lang/IndexOutOfBoundsException", Cond.initialized "java/lang/IndexOutOfBoundsException", Cond.fieldLink RX4 23 "VariantMill" "games" "[LVariantMill$Game;", Cond.methodLink RX4 115 yX4_checkCell, Cond.static yX4_checkCell, Cond.code yX4_checkCell cX4_checkCell 1 none, Cond.methodLink RX4 118 yX1_allows, Cond.instanceMethod yX1_allows, Cond.selects RX1 yX1_allows yX1_allows, Cond.initialized RX1, Cond.code yX1_allows cX1_allows 3 (some .boolean), Cond.fieldLink RX1 35 "VariantMill$Game" "state" "I", Cond.fieldLink RX1 21 "VariantMill$Game" "rules" "LVariantMill$Rules;", Cond.fieldLink RX1 29 "VariantMill$Game" "ofFirst" "I", Cond.fieldLink RX1 32 "VariantMill$Game" "ofSecond" "I", Cond.methodLink RX1 53 yX1_ofMover, Cond.instanceMethod yX1_ofMover, Cond.selects RX1 yX1_ofMover yX1_ofMover, Cond.code yX1_ofMover cX1_ofMover 1 (some .int)]
def wsX4_can_r2 : List Cond := [Cond.methodLink RX1 49 yX1_isSecondToMove, Cond.instanceMethod yX1_isSecondToMove, Cond.selects RX1 yX1_isSecondToMove yX1_isSecondToMove, Cond.code yX1_isSecondToMove cX1_isSecondToMove 1 (some .boolean), Cond.fieldLink RX1 46 "VariantMill$Game" "made" "I", Cond.static yX4_isIn, Cond.code yX4_isIn cX4_isIn 2 (some .boolean), Cond.methodLink RX1 61 yX2_someCardLeads, Cond.instanceMethod yX2_someCardLeads, Cond.selects RX2 yX2_someCardLeads yX2_someCardLeads, Cond.initialized RX2, Cond.code yX2_someCardLeads cX2_someCardLeads 7 (some .boolean), Cond.fieldLink RX2 9 "VariantMill$Rules" "table" "[LVariantMill$Card;", Cond.fieldLink RX2 15 "VariantMill$Rules" "cards" "I", Cond.fieldLink RX2 19 "VariantMill$Rules" "holes" "I", Cond.methodLink RX2 40 yX0_leads, Cond.instanceMethod yX0_leads, Cond.selects RX0 yX0_leads yX0_leads, Cond.initialized RX0, Cond.code yX0_leads cX0_leads 10 (some .boolean), Cond.fieldLink RX0 21 "VariantMill$Card" "reach" "I", Cond.fieldLink RX0 15 "VariantMill$Card" "dx" "I", Cond.methodLink RX0 24 yX0_rows, Cond.instanceMethod yX0_rows]
def wsX4_can_r3 : List Cond := [Cond.selects RX0 yX0_rows yX0_rows, Cond.code yX0_rows cX0_rows 2 (some .int), Cond.fieldLink RX0 18 "VariantMill$Card" "dy" "I", Cond.static yX4_cellAhead, Cond.code yX4_cellAhead cX4_cellAhead 6 (some .int), Cond.methodLink RX0 36 yX0_isRightPath, Cond.instanceMethod yX0_isRightPath, Cond.selects RX0 yX0_isRightPath yX0_isRightPath, Cond.code yX0_isRightPath cX0_isRightPath 5 (some .boolean), Cond.fieldLink RX0 9 "VariantMill$Card" "kind" "I"]
def wsX4_can : List Cond := .code yX4_can cX4_can 5 (some .boolean) :: ((wsX4_can_r1 ++ (wsX4_can_r2 ++ wsX4_can_r3)) ++ wsX40 ++ wsX10 ++ wsX20 ++ wsX00 ++ (vx_atS RX4 191 "java/lang/IndexOutOfBoundsException" ["java/lang/RuntimeException", "java/lang/Exception"]).filter goodWord)
def wsX4_isAmongAllMoves_r1 : List Cond := [Cond.fieldLink RX4 153 "VariantMill$Game" "rules" "LVariantMill$Rules;", Cond.methodLink RX4 154 yX1_ofMover, Cond.instanceMethod yX1_ofMover, Cond.selects RX1 yX1_ofMover yX1_ofMover, Cond.initialized RX1, Cond.code yX1_ofMover cX1_ofMover 1 (some .int), Cond.fieldLink RX1 32 "VariantMill$Game" "ofSecond" "I", Cond.fieldLink RX1 29 "VariantMill$Game" "ofFirst" "I", Cond.methodLink RX1 49 yX1_isSecondToMove, Cond.instanceMethod yX1_isSecondToMove, Cond.selects RX1 yX1_isSecondToMove yX1_isSecondToMove, Cond.code yX1_isSecondToMove cX1_isSecondToMove 1 (some .boolean), Cond.fieldLink RX1 46 "VariantMill$Game" "made" "I", Cond.methodLink RX4 158 yX1_ofWaiting, Cond.instanceMethod yX1_ofWaiting, Cond.selects RX1 yX1_ofWaiting yX1_ofWaiting, Cond.code yX1_ofWaiting cX1_ofWaiting 1 (some .int), Cond.methodLink RX4 161 yX1_isSecondToMove, Cond.methodLink RX4 200 yX2_endsFrom, Cond.instanceMethod yX2_endsFrom, Cond.selects RX2 yX2_endsFrom yX2_endsFrom, Cond.initialized RX2, Cond.code yX2_endsFrom cX2_endsFrom 8 (some .int), Cond.fieldLink RX2 9 "VariantMill$Rules" "table" "[LVariantMill$Card;"]
def wsX4_isAmongAllMoves_r2 : List Cond := [Cond.fieldLink RX2 15 "VariantMill$Rules" "cards" "I", Cond.fieldLink RX2 19 "VariantMill$Rules" "holes" "I", Cond.static yX4_isIn, Cond.initialized RX4, Cond.code yX4_isIn cX4_isIn 2 (some .boolean), Cond.methodLink RX2 33 yX0_endsFrom, Cond.instanceMethod yX0_endsFrom, Cond.selects RX0 yX0_endsFrom yX0_endsFrom, Cond.initialized RX0, Cond.code yX0_endsFrom cX0_endsFrom 10 (some .int), Cond.fieldLink RX0 9 "VariantMill$Card" "kind" "I", Cond.fieldLink RX0 21 "VariantMill$Card" "reach" "I", Cond.fieldLink RX0 15 "VariantMill$Card" "dx" "I", Cond.methodLink RX0 24 yX0_rows, Cond.instanceMethod yX0_rows, Cond.selects RX0 yX0_rows yX0_rows, Cond.code yX0_rows cX0_rows 2 (some .int), Cond.fieldLink RX0 18 "VariantMill$Card" "dy" "I", Cond.static yX4_cellAhead, Cond.code yX4_cellAhead cX4_cellAhead 6 (some .int), Cond.methodLink RX4 204 yX4_isIn]
def wsX4_isAmongAllMoves : List Cond := .code yX4_isAmongAllMoves cX4_isAmongAllMoves 7 (some .boolean) :: ((wsX4_isAmongAllMoves_r1 ++ wsX4_isAmongAllMoves_r2) ++ wsX10 ++ wsX20 ++ wsX00)
def wsX4_canByAll_r1 : List Cond := [Cond.fieldLink RX4 121 "VariantMill$Game" "state" "I", Cond.methodLink RX4 111 yX4_gameAt, Cond.instanceMethod yX4_gameAt, Cond.selects RX4 yX4_gameAt yX4_gameAt, Cond.initialized RX4, Cond.code yX4_gameAt cX4_gameAt 3 (some (.object "VariantMill$Game")), Cond.classLink RX4 187 "java/lang/IndexOutOfBoundsException", Cond.initialized "java/lang/IndexOutOfBoundsException", Cond.fieldLink RX4 23 "VariantMill" "games" "[LVariantMill$Game;", Cond.methodLink RX4 115 yX4_checkCell, Cond.static yX4_checkCell, Cond.code yX4_checkCell cX4_checkCell 1 none, Cond.methodLink RX4 124 yX4_isAmongAllMoves, Cond.static yX4_isAmongAllMoves, Cond.code yX4_isAmongAllMoves cX4_isAmongAllMoves 7 (some .boolean), Cond.fieldLink RX4 153 "VariantMill$Game" "rules" "LVariantMill$Rules;", Cond.methodLink RX4 154 yX1_ofMover, Cond.instanceMethod yX1_ofMover, Cond.selects RX1 yX1_ofMover yX1_ofMover, Cond.initialized RX1, Cond.code yX1_ofMover cX1_ofMover 1 (some .int), Cond.fieldLink RX1 32 "VariantMill$Game" "ofSecond" "I", Cond.fieldLink RX1 29 "VariantMill$Game" "ofFirst" "I", Cond.methodLink RX1 49 yX1_isSecondToMove]
def wsX4_canByAll_r2 : List Cond := [Cond.instanceMethod yX1_isSecondToMove, Cond.selects RX1 yX1_isSecondToMove yX1_isSecondToMove, Cond.code yX1_isSecondToMove cX1_isSecondToMove 1 (some .boolean), Cond.fieldLink RX1 46 "VariantMill$Game" "made" "I", Cond.methodLink RX4 158 yX1_ofWaiting, Cond.instanceMethod yX1_ofWaiting, Cond.selects RX1 yX1_ofWaiting yX1_ofWaiting, Cond.code yX1_ofWaiting cX1_ofWaiting 1 (some .int), Cond.methodLink RX4 161 yX1_isSecondToMove, Cond.methodLink RX4 200 yX2_endsFrom, Cond.instanceMethod yX2_endsFrom, Cond.selects RX2 yX2_endsFrom yX2_endsFrom, Cond.initialized RX2, Cond.code yX2_endsFrom cX2_endsFrom 8 (some .int), Cond.fieldLink RX2 9 "VariantMill$Rules" "table" "[LVariantMill$Card;", Cond.fieldLink RX2 15 "VariantMill$Rules" "cards" "I", Cond.fieldLink RX2 19 "VariantMill$Rules" "holes" "I", Cond.static yX4_isIn, Cond.code yX4_isIn cX4_isIn 2 (some .boolean), Cond.methodLink RX2 33 yX0_endsFrom, Cond.instanceMethod yX0_endsFrom, Cond.selects RX0 yX0_endsFrom yX0_endsFrom, Cond.initialized RX0, Cond.code yX0_endsFrom cX0_endsFrom 10 (some .int)]
def wsX4_canByAll_r3 : List Cond := [Cond.fieldLink RX0 9 "VariantMill$Card" "kind" "I", Cond.fieldLink RX0 21 "VariantMill$Card" "reach" "I", Cond.fieldLink RX0 15 "VariantMill$Card" "dx" "I", Cond.methodLink RX0 24 yX0_rows, Cond.instanceMethod yX0_rows, Cond.selects RX0 yX0_rows yX0_rows, Cond.code yX0_rows cX0_rows 2 (some .int), Cond.fieldLink RX0 18 "VariantMill$Card" "dy" "I", Cond.static yX4_cellAhead, Cond.code yX4_cellAhead cX4_cellAhead 6 (some .int), Cond.methodLink RX4 204 yX4_isIn]
def wsX4_canByAll : List Cond := .code yX4_canByAll cX4_canByAll 5 (some .boolean) :: ((wsX4_canByAll_r1 ++ (wsX4_canByAll_r2 ++ wsX4_canByAll_r3)) ++ wsX10 ++ wsX40 ++ wsX20 ++ wsX00 ++ (vx_atS RX4 191 "java/lang/IndexOutOfBoundsException" ["java/lang/RuntimeException", "java/lang/Exception"]).filter goodWord)
def wsX4_move_r1 : List Cond := [Cond.classLink RX4 42 "java/lang/IllegalStateException", Cond.initialized "java/lang/IllegalStateException", Cond.fieldLink RX4 128 "VariantMill$Game" "variant" "LVariantMill$Variant;", Cond.fieldLink RX4 121 "VariantMill$Game" "state" "I", Cond.methodLink RX4 111 yX4_gameAt, Cond.instanceMethod yX4_gameAt, Cond.selects RX4 yX4_gameAt yX4_gameAt, Cond.initialized RX4, Cond.code yX4_gameAt cX4_gameAt 3 (some (.object "VariantMill$Game")), Cond.classLink RX4 187 "java/lang/IndexOutOfBoundsException", Cond.initialized "java/lang/IndexOutOfBoundsException", Cond.fieldLink RX4 23 "VariantMill" "games" "[LVariantMill$Game;", Cond.methodLink RX4 115 yX4_checkCell, Cond.static yX4_checkCell, Cond.code yX4_checkCell cX4_checkCell 1 none, Cond.methodLink RX4 95 yX3_isOut, Cond.instanceMethod yX3_isOut, Cond.selects RX3 yX3_isOut yX3_isOut, Cond.initialized RX3, Cond.code yX3_isOut cX3_isOut 1 (some .boolean), Cond.fieldLink RX3 15 "VariantMill$Variant" "voters" "I", Cond.fieldLink RX3 25 "VariantMill$Variant" "endlessGames" "I", Cond.methodLink RX3 19 yJ6_bitCount_0f7a4, Cond.static yJ6_bitCount_0f7a4]
def wsX4_move_r2 : List Cond := [Cond.initialized RJ6, Cond.code yJ6_bitCount_0f7a4 cJ6_bitCount_0f7a4 1 (some .int), Cond.constant RJ6 265 (1431655765), Cond.constant RJ6 266 (858993459), Cond.constant RJ6 267 (252645135), Cond.methodLink RX4 118 yX1_allows, Cond.instanceMethod yX1_allows, Cond.selects RX1 yX1_allows yX1_allows, Cond.initialized RX1, Cond.code yX1_allows cX1_allows 3 (some .boolean), Cond.fieldLink RX1 35 "VariantMill$Game" "state" "I", Cond.fieldLink RX1 21 "VariantMill$Game" "rules" "LVariantMill$Rules;", Cond.fieldLink RX1 29 "VariantMill$Game" "ofFirst" "I", Cond.fieldLink RX1 32 "VariantMill$Game" "ofSecond" "I", Cond.methodLink RX1 53 yX1_ofMover, Cond.instanceMethod yX1_ofMover, Cond.selects RX1 yX1_ofMover yX1_ofMover, Cond.code yX1_ofMover cX1_ofMover 1 (some .int), Cond.methodLink RX1 49 yX1_isSecondToMove, Cond.instanceMethod yX1_isSecondToMove, Cond.selects RX1 yX1_isSecondToMove yX1_isSecondToMove, Cond.code yX1_isSecondToMove cX1_isSecondToMove 1 (some .boolean), Cond.fieldLink RX1 46 "VariantMill$Game" "made" "I", Cond.static yX4_isIn]
def wsX4_move_r3 : List Cond := [Cond.code yX4_isIn cX4_isIn 2 (some .boolean), Cond.methodLink RX1 61 yX2_someCardLeads, Cond.instanceMethod yX2_someCardLeads, Cond.selects RX2 yX2_someCardLeads yX2_someCardLeads, Cond.initialized RX2, Cond.code yX2_someCardLeads cX2_someCardLeads 7 (some .boolean), Cond.fieldLink RX2 9 "VariantMill$Rules" "table" "[LVariantMill$Card;", Cond.fieldLink RX2 15 "VariantMill$Rules" "cards" "I", Cond.fieldLink RX2 19 "VariantMill$Rules" "holes" "I", Cond.methodLink RX2 40 yX0_leads, Cond.instanceMethod yX0_leads, Cond.selects RX0 yX0_leads yX0_leads, Cond.initialized RX0, Cond.code yX0_leads cX0_leads 10 (some .boolean), Cond.fieldLink RX0 21 "VariantMill$Card" "reach" "I", Cond.fieldLink RX0 15 "VariantMill$Card" "dx" "I", Cond.methodLink RX0 24 yX0_rows, Cond.instanceMethod yX0_rows, Cond.selects RX0 yX0_rows yX0_rows, Cond.code yX0_rows cX0_rows 2 (some .int), Cond.fieldLink RX0 18 "VariantMill$Card" "dy" "I", Cond.static yX4_cellAhead, Cond.code yX4_cellAhead cX4_cellAhead 6 (some .int), Cond.methodLink RX0 36 yX0_isRightPath]
def wsX4_move_r4 : List Cond := [Cond.instanceMethod yX0_isRightPath, Cond.selects RX0 yX0_isRightPath yX0_isRightPath, Cond.code yX0_isRightPath cX0_isRightPath 5 (some .boolean), Cond.fieldLink RX0 9 "VariantMill$Card" "kind" "I", Cond.methodLink RX4 134 yX1_go, Cond.instanceMethod yX1_go, Cond.selects RX1 yX1_go yX1_go, Cond.code yX1_go cX1_go 5 none, Cond.fieldLink RX1 38 "VariantMill$Game" "seen" "[J", Cond.static yX4_moved, Cond.code yX4_moved cX4_moved 3 (some .int), Cond.methodLink RX1 71 yX1_ofWaiting, Cond.instanceMethod yX1_ofWaiting, Cond.selects RX1 yX1_ofWaiting yX1_ofWaiting, Cond.code yX1_ofWaiting cX1_ofWaiting 1 (some .int), Cond.methodLink RX1 42 yX1_placing, Cond.static yX1_placing, Cond.code yX1_placing cX1_placing 5 (some .long), Cond.methodLink RX4 138 yX1_settle, Cond.instanceMethod yX1_settle, Cond.selects RX1 yX1_settle yX1_settle, Cond.code yX1_settle cX1_settle 1 none, Cond.fieldLink RX1 9 "VariantMill$Game" "variant" "LVariantMill$Variant;", Cond.fieldLink RX1 81 "VariantMill$Variant" "endlessGames" "I"]
def wsX4_move_r5 : List Cond := [Cond.methodLink RX1 74 yX2_hasMove, Cond.instanceMethod yX2_hasMove, Cond.selects RX2 yX2_hasMove yX2_hasMove, Cond.code yX2_hasMove cX2_hasMove 5 (some .boolean), Cond.methodLink RX2 39 yX2_endsFrom, Cond.instanceMethod yX2_endsFrom, Cond.selects RX2 yX2_endsFrom yX2_endsFrom, Cond.code yX2_endsFrom cX2_endsFrom 8 (some .int), Cond.methodLink RX2 33 yX0_endsFrom, Cond.instanceMethod yX0_endsFrom, Cond.selects RX0 yX0_endsFrom yX0_endsFrom, Cond.code yX0_endsFrom cX0_endsFrom 10 (some .int), Cond.methodLink RX1 78 yX1_timesSeen, Cond.instanceMethod yX1_timesSeen, Cond.selects RX1 yX1_timesSeen yX1_timesSeen, Cond.code yX1_timesSeen cX1_timesSeen 5 (some .int)]
def wsX4_move : List Cond := .code yX4_move cX4_move 5 (some .int) :: ((wsX4_move_r1 ++ (wsX4_move_r2 ++ (wsX4_move_r3 ++ (wsX4_move_r4 ++ wsX4_move_r5)))) ++ wsX10 ++ wsX40 ++ wsX30 ++ wsX20 ++ wsX00 ++ (vx_atS RX4 46 "java/lang/IllegalStateException" ["java/lang/RuntimeException", "java/lang/Exception"]).filter goodWord ++ (vx_atS RX4 191 "java/lang/IndexOutOfBoundsException" ["java/lang/RuntimeException", "java/lang/Exception"]).filter goodWord)
def wsX4_state : List Cond := .code yX4_state cX4_state 2 (some .int) :: ([.fieldLink RX4 121 "VariantMill$Game" "state" "I", .methodLink RX4 111 yX4_gameAt, .instanceMethod yX4_gameAt, .selects RX4 yX4_gameAt yX4_gameAt, .initialized RX4, .code yX4_gameAt cX4_gameAt 3 (some (.object "VariantMill$Game")), .classLink RX4 187 "java/lang/IndexOutOfBoundsException", .initialized "java/lang/IndexOutOfBoundsException", .fieldLink RX4 23 "VariantMill" "games" "[LVariantMill$Game;"] ++ wsX10 ++ wsX40 ++ (vx_atS RX4 191 "java/lang/IndexOutOfBoundsException" ["java/lang/RuntimeException", "java/lang/Exception"]).filter goodWord)
def wsX4_pieces : List Cond := .code yX4_pieces cX4_pieces 4 (some .int) :: ([.fieldLink RX4 141 "VariantMill$Game" "ofSecond" "I", .fieldLink RX4 144 "VariantMill$Game" "ofFirst" "I", .methodLink RX4 111 yX4_gameAt, .instanceMethod yX4_gameAt, .selects RX4 yX4_gameAt yX4_gameAt, .initialized RX4, .code yX4_gameAt cX4_gameAt 3 (some (.object "VariantMill$Game")), .classLink RX4 187 "java/lang/IndexOutOfBoundsException", .initialized "java/lang/IndexOutOfBoundsException", .fieldLink RX4 23 "VariantMill" "games" "[LVariantMill$Game;"] ++ wsX10 ++ wsX40 ++ (vx_atS RX4 191 "java/lang/IndexOutOfBoundsException" ["java/lang/RuntimeException", "java/lang/Exception"]).filter goodWord)
def wsX4_made : List Cond := .code yX4_made cX4_made 2 (some .int) :: ([.fieldLink RX4 147 "VariantMill$Game" "made" "I", .methodLink RX4 111 yX4_gameAt, .instanceMethod yX4_gameAt, .selects RX4 yX4_gameAt yX4_gameAt, .initialized RX4, .code yX4_gameAt cX4_gameAt 3 (some (.object "VariantMill$Game")), .classLink RX4 187 "java/lang/IndexOutOfBoundsException", .initialized "java/lang/IndexOutOfBoundsException", .fieldLink RX4 23 "VariantMill" "games" "[LVariantMill$Game;"] ++ wsX10 ++ wsX40 ++ (vx_atS RX4 191 "java/lang/IndexOutOfBoundsException" ["java/lang/RuntimeException", "java/lang/Exception"]).filter goodWord)
def wsX4_checkDepth : List Cond := .code yX4_checkDepth cX4_checkDepth 1 none :: ([.classLink RX4 31 "java/lang/IllegalArgumentException", .initialized "java/lang/IllegalArgumentException"] ++ (vx_atS RX4 35 "java/lang/IllegalArgumentException" ["java/lang/RuntimeException", "java/lang/Exception"]).filter goodWord)
def wsX4_searchWithCuts_r1 : List Cond := [Cond.methodLink RX4 211 Lib.Math.max.name, Cond.static Lib.Math.max.name, Cond.initialized "java/lang/Math", Cond.code Lib.Math.max.name Lib.Math.max.code 2 (some .int), Cond.methodLink RX4 102 yX2_hasMove, Cond.instanceMethod yX2_hasMove, Cond.selects RX2 yX2_hasMove yX2_hasMove, Cond.initialized RX2, Cond.code yX2_hasMove cX2_hasMove 5 (some .boolean), Cond.methodLink RX2 39 yX2_endsFrom, Cond.instanceMethod yX2_endsFrom, Cond.selects RX2 yX2_endsFrom yX2_endsFrom, Cond.code yX2_endsFrom cX2_endsFrom 8 (some .int), Cond.fieldLink RX2 9 "VariantMill$Rules" "table" "[LVariantMill$Card;", Cond.fieldLink RX2 15 "VariantMill$Rules" "cards" "I", Cond.fieldLink RX2 19 "VariantMill$Rules" "holes" "I", Cond.static yX4_isIn, Cond.initialized RX4, Cond.code yX4_isIn cX4_isIn 2 (some .boolean), Cond.methodLink RX2 33 yX0_endsFrom, Cond.instanceMethod yX0_endsFrom, Cond.selects RX0 yX0_endsFrom yX0_endsFrom, Cond.initialized RX0, Cond.code yX0_endsFrom cX0_endsFrom 10 (some .int)]
def wsX4_searchWithCuts_r2 : List Cond := [Cond.fieldLink RX0 9 "VariantMill$Card" "kind" "I", Cond.fieldLink RX0 21 "VariantMill$Card" "reach" "I", Cond.fieldLink RX0 15 "VariantMill$Card" "dx" "I", Cond.methodLink RX0 24 yX0_rows, Cond.instanceMethod yX0_rows, Cond.selects RX0 yX0_rows yX0_rows, Cond.code yX0_rows cX0_rows 2 (some .int), Cond.fieldLink RX0 18 "VariantMill$Card" "dy" "I", Cond.static yX4_cellAhead, Cond.code yX4_cellAhead cX4_cellAhead 6 (some .int), Cond.methodLink RX4 175 yJ6_bitCount_0f7a4, Cond.static yJ6_bitCount_0f7a4, Cond.initialized RJ6, Cond.code yJ6_bitCount_0f7a4 cJ6_bitCount_0f7a4 1 (some .int), Cond.constant RJ6 265 (1431655765), Cond.constant RJ6 266 (858993459), Cond.constant RJ6 267 (252645135), Cond.methodLink RX4 200 yX2_endsFrom, Cond.methodLink RX4 204 yX4_isIn, Cond.methodLink RX4 207 yX4_moved, Cond.static yX4_moved, Cond.code yX4_moved cX4_moved 3 (some .int), Cond.methodLink RX4 164 yX4_searchWithCuts, Cond.static yX4_searchWithCuts]
def wsX4_searchWithCuts : List Cond := .code yX4_searchWithCuts cX4_searchWithCuts 12 (some .int) :: ((wsX4_searchWithCuts_r1 ++ wsX4_searchWithCuts_r2) ++ wsX20 ++ wsX00)
def wsX4_value_r1 : List Cond := [Cond.fieldLink RX4 153 "VariantMill$Game" "rules" "LVariantMill$Rules;", Cond.methodLink RX4 111 yX4_gameAt, Cond.instanceMethod yX4_gameAt, Cond.selects RX4 yX4_gameAt yX4_gameAt, Cond.initialized RX4, Cond.code yX4_gameAt cX4_gameAt 3 (some (.object "VariantMill$Game")), Cond.classLink RX4 187 "java/lang/IndexOutOfBoundsException", Cond.initialized "java/lang/IndexOutOfBoundsException", Cond.fieldLink RX4 23 "VariantMill" "games" "[LVariantMill$Game;", Cond.methodLink RX4 150 yX4_checkDepth, Cond.static yX4_checkDepth, Cond.code yX4_checkDepth cX4_checkDepth 1 none, Cond.classLink RX4 31 "java/lang/IllegalArgumentException", Cond.initialized "java/lang/IllegalArgumentException", Cond.methodLink RX4 154 yX1_ofMover, Cond.instanceMethod yX1_ofMover, Cond.selects RX1 yX1_ofMover yX1_ofMover, Cond.initialized RX1, Cond.code yX1_ofMover cX1_ofMover 1 (some .int), Cond.fieldLink RX1 32 "VariantMill$Game" "ofSecond" "I", Cond.fieldLink RX1 29 "VariantMill$Game" "ofFirst" "I", Cond.methodLink RX1 49 yX1_isSecondToMove, Cond.instanceMethod yX1_isSecondToMove, Cond.selects RX1 yX1_isSecondToMove yX1_isSecondToMove]
def wsX4_value_r2 : List Cond := [Cond.code yX1_isSecondToMove cX1_isSecondToMove 1 (some .boolean), Cond.fieldLink RX1 46 "VariantMill$Game" "made" "I", Cond.methodLink RX4 158 yX1_ofWaiting, Cond.instanceMethod yX1_ofWaiting, Cond.selects RX1 yX1_ofWaiting yX1_ofWaiting, Cond.code yX1_ofWaiting cX1_ofWaiting 1 (some .int), Cond.methodLink RX4 161 yX1_isSecondToMove, Cond.methodLink RX4 164 yX4_searchWithCuts, Cond.static yX4_searchWithCuts, Cond.code yX4_searchWithCuts cX4_searchWithCuts 12 (some .int), Cond.methodLink RX4 211 Lib.Math.max.name, Cond.static Lib.Math.max.name, Cond.initialized "java/lang/Math", Cond.code Lib.Math.max.name Lib.Math.max.code 2 (some .int), Cond.methodLink RX4 102 yX2_hasMove, Cond.instanceMethod yX2_hasMove, Cond.selects RX2 yX2_hasMove yX2_hasMove, Cond.initialized RX2, Cond.code yX2_hasMove cX2_hasMove 5 (some .boolean), Cond.methodLink RX2 39 yX2_endsFrom, Cond.instanceMethod yX2_endsFrom, Cond.selects RX2 yX2_endsFrom yX2_endsFrom, Cond.code yX2_endsFrom cX2_endsFrom 8 (some .int), Cond.fieldLink RX2 9 "VariantMill$Rules" "table" "[LVariantMill$Card;"]
def wsX4_value_r3 : List Cond := [Cond.fieldLink RX2 15 "VariantMill$Rules" "cards" "I", Cond.fieldLink RX2 19 "VariantMill$Rules" "holes" "I", Cond.static yX4_isIn, Cond.code yX4_isIn cX4_isIn 2 (some .boolean), Cond.methodLink RX2 33 yX0_endsFrom, Cond.instanceMethod yX0_endsFrom, Cond.selects RX0 yX0_endsFrom yX0_endsFrom, Cond.initialized RX0, Cond.code yX0_endsFrom cX0_endsFrom 10 (some .int), Cond.fieldLink RX0 9 "VariantMill$Card" "kind" "I", Cond.fieldLink RX0 21 "VariantMill$Card" "reach" "I", Cond.fieldLink RX0 15 "VariantMill$Card" "dx" "I", Cond.methodLink RX0 24 yX0_rows, Cond.instanceMethod yX0_rows, Cond.selects RX0 yX0_rows yX0_rows, Cond.code yX0_rows cX0_rows 2 (some .int), Cond.fieldLink RX0 18 "VariantMill$Card" "dy" "I", Cond.static yX4_cellAhead, Cond.code yX4_cellAhead cX4_cellAhead 6 (some .int), Cond.methodLink RX4 175 yJ6_bitCount_0f7a4, Cond.static yJ6_bitCount_0f7a4, Cond.initialized RJ6, Cond.code yJ6_bitCount_0f7a4 cJ6_bitCount_0f7a4 1 (some .int), Cond.constant RJ6 265 (1431655765)]
def wsX4_value_r4 : List Cond := [Cond.constant RJ6 266 (858993459), Cond.constant RJ6 267 (252645135), Cond.methodLink RX4 200 yX2_endsFrom, Cond.methodLink RX4 204 yX4_isIn, Cond.methodLink RX4 207 yX4_moved, Cond.static yX4_moved, Cond.code yX4_moved cX4_moved 3 (some .int)]
def wsX4_value : List Cond := .code yX4_value cX4_value 4 (some .int) :: ((wsX4_value_r1 ++ (wsX4_value_r2 ++ (wsX4_value_r3 ++ wsX4_value_r4))) ++ wsX10 ++ wsX40 ++ wsX20 ++ wsX00 ++ (vx_atS RX4 191 "java/lang/IndexOutOfBoundsException" ["java/lang/RuntimeException", "java/lang/Exception"]).filter goodWord ++ (vx_atS RX4 35 "java/lang/IllegalArgumentException" ["java/lang/RuntimeException", "java/lang/Exception"]).filter goodWord)
def wsX4_searchAll_r1 : List Cond := [Cond.methodLink RX4 211 Lib.Math.max.name, Cond.static Lib.Math.max.name, Cond.initialized "java/lang/Math", Cond.code Lib.Math.max.name Lib.Math.max.code 2 (some .int), Cond.methodLink RX4 102 yX2_hasMove, Cond.instanceMethod yX2_hasMove, Cond.selects RX2 yX2_hasMove yX2_hasMove, Cond.initialized RX2, Cond.code yX2_hasMove cX2_hasMove 5 (some .boolean), Cond.methodLink RX2 39 yX2_endsFrom, Cond.instanceMethod yX2_endsFrom, Cond.selects RX2 yX2_endsFrom yX2_endsFrom, Cond.code yX2_endsFrom cX2_endsFrom 8 (some .int), Cond.fieldLink RX2 9 "VariantMill$Rules" "table" "[LVariantMill$Card;", Cond.fieldLink RX2 15 "VariantMill$Rules" "cards" "I", Cond.fieldLink RX2 19 "VariantMill$Rules" "holes" "I", Cond.static yX4_isIn, Cond.initialized RX4, Cond.code yX4_isIn cX4_isIn 2 (some .boolean), Cond.methodLink RX2 33 yX0_endsFrom, Cond.instanceMethod yX0_endsFrom, Cond.selects RX0 yX0_endsFrom yX0_endsFrom, Cond.initialized RX0, Cond.code yX0_endsFrom cX0_endsFrom 10 (some .int)]
def wsX4_searchAll_r2 : List Cond := [Cond.fieldLink RX0 9 "VariantMill$Card" "kind" "I", Cond.fieldLink RX0 21 "VariantMill$Card" "reach" "I", Cond.fieldLink RX0 15 "VariantMill$Card" "dx" "I", Cond.methodLink RX0 24 yX0_rows, Cond.instanceMethod yX0_rows, Cond.selects RX0 yX0_rows yX0_rows, Cond.code yX0_rows cX0_rows 2 (some .int), Cond.fieldLink RX0 18 "VariantMill$Card" "dy" "I", Cond.static yX4_cellAhead, Cond.code yX4_cellAhead cX4_cellAhead 6 (some .int), Cond.methodLink RX4 175 yJ6_bitCount_0f7a4, Cond.static yJ6_bitCount_0f7a4, Cond.initialized RJ6, Cond.code yJ6_bitCount_0f7a4 cJ6_bitCount_0f7a4 1 (some .int), Cond.constant RJ6 265 (1431655765), Cond.constant RJ6 266 (858993459), Cond.constant RJ6 267 (252645135), Cond.methodLink RX4 200 yX2_endsFrom, Cond.methodLink RX4 204 yX4_isIn, Cond.methodLink RX4 207 yX4_moved, Cond.static yX4_moved, Cond.code yX4_moved cX4_moved 3 (some .int), Cond.methodLink RX4 168 yX4_searchAll, Cond.static yX4_searchAll]
def wsX4_searchAll : List Cond := .code yX4_searchAll cX4_searchAll 9 (some .int) :: ((wsX4_searchAll_r1 ++ wsX4_searchAll_r2) ++ wsX20 ++ wsX00)
def wsX4_valueByAll_r1 : List Cond := [Cond.fieldLink RX4 153 "VariantMill$Game" "rules" "LVariantMill$Rules;", Cond.methodLink RX4 111 yX4_gameAt, Cond.instanceMethod yX4_gameAt, Cond.selects RX4 yX4_gameAt yX4_gameAt, Cond.initialized RX4, Cond.code yX4_gameAt cX4_gameAt 3 (some (.object "VariantMill$Game")), Cond.classLink RX4 187 "java/lang/IndexOutOfBoundsException", Cond.initialized "java/lang/IndexOutOfBoundsException", Cond.fieldLink RX4 23 "VariantMill" "games" "[LVariantMill$Game;", Cond.methodLink RX4 150 yX4_checkDepth, Cond.static yX4_checkDepth, Cond.code yX4_checkDepth cX4_checkDepth 1 none, Cond.classLink RX4 31 "java/lang/IllegalArgumentException", Cond.initialized "java/lang/IllegalArgumentException", Cond.methodLink RX4 154 yX1_ofMover, Cond.instanceMethod yX1_ofMover, Cond.selects RX1 yX1_ofMover yX1_ofMover, Cond.initialized RX1, Cond.code yX1_ofMover cX1_ofMover 1 (some .int), Cond.fieldLink RX1 32 "VariantMill$Game" "ofSecond" "I", Cond.fieldLink RX1 29 "VariantMill$Game" "ofFirst" "I", Cond.methodLink RX1 49 yX1_isSecondToMove, Cond.instanceMethod yX1_isSecondToMove, Cond.selects RX1 yX1_isSecondToMove yX1_isSecondToMove]
def wsX4_valueByAll_r2 : List Cond := [Cond.code yX1_isSecondToMove cX1_isSecondToMove 1 (some .boolean), Cond.fieldLink RX1 46 "VariantMill$Game" "made" "I", Cond.methodLink RX4 158 yX1_ofWaiting, Cond.instanceMethod yX1_ofWaiting, Cond.selects RX1 yX1_ofWaiting yX1_ofWaiting, Cond.code yX1_ofWaiting cX1_ofWaiting 1 (some .int), Cond.methodLink RX4 161 yX1_isSecondToMove, Cond.methodLink RX4 168 yX4_searchAll, Cond.static yX4_searchAll, Cond.code yX4_searchAll cX4_searchAll 9 (some .int), Cond.methodLink RX4 211 Lib.Math.max.name, Cond.static Lib.Math.max.name, Cond.initialized "java/lang/Math", Cond.code Lib.Math.max.name Lib.Math.max.code 2 (some .int), Cond.methodLink RX4 102 yX2_hasMove, Cond.instanceMethod yX2_hasMove, Cond.selects RX2 yX2_hasMove yX2_hasMove, Cond.initialized RX2, Cond.code yX2_hasMove cX2_hasMove 5 (some .boolean), Cond.methodLink RX2 39 yX2_endsFrom, Cond.instanceMethod yX2_endsFrom, Cond.selects RX2 yX2_endsFrom yX2_endsFrom, Cond.code yX2_endsFrom cX2_endsFrom 8 (some .int), Cond.fieldLink RX2 9 "VariantMill$Rules" "table" "[LVariantMill$Card;"]
def wsX4_valueByAll_r3 : List Cond := [Cond.fieldLink RX2 15 "VariantMill$Rules" "cards" "I", Cond.fieldLink RX2 19 "VariantMill$Rules" "holes" "I", Cond.static yX4_isIn, Cond.code yX4_isIn cX4_isIn 2 (some .boolean), Cond.methodLink RX2 33 yX0_endsFrom, Cond.instanceMethod yX0_endsFrom, Cond.selects RX0 yX0_endsFrom yX0_endsFrom, Cond.initialized RX0, Cond.code yX0_endsFrom cX0_endsFrom 10 (some .int), Cond.fieldLink RX0 9 "VariantMill$Card" "kind" "I", Cond.fieldLink RX0 21 "VariantMill$Card" "reach" "I", Cond.fieldLink RX0 15 "VariantMill$Card" "dx" "I", Cond.methodLink RX0 24 yX0_rows, Cond.instanceMethod yX0_rows, Cond.selects RX0 yX0_rows yX0_rows, Cond.code yX0_rows cX0_rows 2 (some .int), Cond.fieldLink RX0 18 "VariantMill$Card" "dy" "I", Cond.static yX4_cellAhead, Cond.code yX4_cellAhead cX4_cellAhead 6 (some .int), Cond.methodLink RX4 175 yJ6_bitCount_0f7a4, Cond.static yJ6_bitCount_0f7a4, Cond.initialized RJ6, Cond.code yJ6_bitCount_0f7a4 cJ6_bitCount_0f7a4 1 (some .int), Cond.constant RJ6 265 (1431655765)]
def wsX4_valueByAll_r4 : List Cond := [Cond.constant RJ6 266 (858993459), Cond.constant RJ6 267 (252645135), Cond.methodLink RX4 200 yX2_endsFrom, Cond.methodLink RX4 204 yX4_isIn, Cond.methodLink RX4 207 yX4_moved, Cond.static yX4_moved, Cond.code yX4_moved cX4_moved 3 (some .int)]
def wsX4_valueByAll : List Cond := .code yX4_valueByAll cX4_valueByAll 4 (some .int) :: ((wsX4_valueByAll_r1 ++ (wsX4_valueByAll_r2 ++ (wsX4_valueByAll_r3 ++ wsX4_valueByAll_r4))) ++ wsX10 ++ wsX40 ++ wsX20 ++ wsX00 ++ (vx_atS RX4 191 "java/lang/IndexOutOfBoundsException" ["java/lang/RuntimeException", "java/lang/Exception"]).filter goodWord ++ (vx_atS RX4 35 "java/lang/IllegalArgumentException" ["java/lang/RuntimeException", "java/lang/Exception"]).filter goodWord)
def wsX4_vote : List Cond := .code yX4_vote cX4_vote 4 (some .int) :: ([.fieldLink RX4 172 "VariantMill$Variant" "voters" "I", .methodLink RX4 86 yX4_checkPlayer, .static yX4_checkPlayer, .initialized RX4, .code yX4_checkPlayer cX4_checkPlayer 1 none, .classLink RX4 187 "java/lang/IndexOutOfBoundsException", .initialized "java/lang/IndexOutOfBoundsException", .methodLink RX4 70 yX4_variantAt, .instanceMethod yX4_variantAt, .selects RX4 yX4_variantAt yX4_variantAt, .code yX4_variantAt cX4_variantAt 3 (some (.object "VariantMill$Variant")), .fieldLink RX4 17 "VariantMill" "variants" "[LVariantMill$Variant;", .methodLink RX4 175 yJ6_bitCount_0f7a4, .static yJ6_bitCount_0f7a4, .initialized RJ6, .code yJ6_bitCount_0f7a4 cJ6_bitCount_0f7a4 1 (some .int), .constant RJ6 265 (1431655765), .constant RJ6 266 (858993459), .constant RJ6 267 (252645135)] ++ wsX30 ++ wsX40 ++ (vx_atS RX4 191 "java/lang/IndexOutOfBoundsException" ["java/lang/RuntimeException", "java/lang/Exception"]).filter goodWord)
def wsX4_isBanned : List Cond := .code yX4_isBanned cX4_isBanned 2 (some .boolean) :: ([.methodLink RX4 70 yX4_variantAt, .instanceMethod yX4_variantAt, .selects RX4 yX4_variantAt yX4_variantAt, .initialized RX4, .code yX4_variantAt cX4_variantAt 3 (some (.object "VariantMill$Variant")), .classLink RX4 187 "java/lang/IndexOutOfBoundsException", .initialized "java/lang/IndexOutOfBoundsException", .fieldLink RX4 17 "VariantMill" "variants" "[LVariantMill$Variant;", .methodLink RX4 95 yX3_isOut, .instanceMethod yX3_isOut, .selects RX3 yX3_isOut yX3_isOut, .initialized RX3, .code yX3_isOut cX3_isOut 1 (some .boolean), .fieldLink RX3 15 "VariantMill$Variant" "voters" "I", .fieldLink RX3 25 "VariantMill$Variant" "endlessGames" "I", .methodLink RX3 19 yJ6_bitCount_0f7a4, .static yJ6_bitCount_0f7a4, .initialized RJ6, .code yJ6_bitCount_0f7a4 cJ6_bitCount_0f7a4 1 (some .int), .constant RJ6 265 (1431655765), .constant RJ6 266 (858993459), .constant RJ6 267 (252645135)] ++ wsX40 ++ wsX30 ++ (vx_atS RX4 191 "java/lang/IndexOutOfBoundsException" ["java/lang/RuntimeException", "java/lang/Exception"]).filter goodWord)
def wsX4_endless : List Cond := .code yX4_endless cX4_endless 2 (some .int) :: ([.fieldLink RX4 181 "VariantMill$Variant" "endlessGames" "I", .methodLink RX4 70 yX4_variantAt, .instanceMethod yX4_variantAt, .selects RX4 yX4_variantAt yX4_variantAt, .initialized RX4, .code yX4_variantAt cX4_variantAt 3 (some (.object "VariantMill$Variant")), .classLink RX4 187 "java/lang/IndexOutOfBoundsException", .initialized "java/lang/IndexOutOfBoundsException", .fieldLink RX4 17 "VariantMill" "variants" "[LVariantMill$Variant;"] ++ wsX30 ++ wsX40 ++ (vx_atS RX4 191 "java/lang/IndexOutOfBoundsException" ["java/lang/RuntimeException", "java/lang/Exception"]).filter goodWord)
def wsX4_points_r1 : List Cond := [Cond.fieldLink RX4 23 "VariantMill" "games" "[LVariantMill$Game;", Cond.fieldLink RX4 128 "VariantMill$Game" "variant" "LVariantMill$Variant;", Cond.methodLink RX4 86 yX4_checkPlayer, Cond.static yX4_checkPlayer, Cond.initialized RX4, Cond.code yX4_checkPlayer cX4_checkPlayer 1 none, Cond.classLink RX4 187 "java/lang/IndexOutOfBoundsException", Cond.initialized "java/lang/IndexOutOfBoundsException", Cond.methodLink RX4 70 yX4_variantAt, Cond.instanceMethod yX4_variantAt, Cond.selects RX4 yX4_variantAt yX4_variantAt, Cond.code yX4_variantAt cX4_variantAt 3 (some (.object "VariantMill$Variant")), Cond.fieldLink RX4 17 "VariantMill" "variants" "[LVariantMill$Variant;", Cond.methodLink RX4 95 yX3_isOut, Cond.instanceMethod yX3_isOut, Cond.selects RX3 yX3_isOut yX3_isOut, Cond.initialized RX3, Cond.code yX3_isOut cX3_isOut 1 (some .boolean), Cond.fieldLink RX3 15 "VariantMill$Variant" "voters" "I", Cond.fieldLink RX3 25 "VariantMill$Variant" "endlessGames" "I", Cond.methodLink RX3 19 yJ6_bitCount_0f7a4, Cond.static yJ6_bitCount_0f7a4, Cond.initialized RJ6, Cond.code yJ6_bitCount_0f7a4 cJ6_bitCount_0f7a4 1 (some .int)]
def wsX4_points_r2 : List Cond := [Cond.constant RJ6 265 (1431655765), Cond.constant RJ6 266 (858993459), Cond.constant RJ6 267 (252645135), Cond.methodLink RX4 184 yX1_pointsFor, Cond.instanceMethod yX1_pointsFor, Cond.selects RX1 yX1_pointsFor yX1_pointsFor, Cond.initialized RX1, Cond.code yX1_pointsFor cX1_pointsFor 3 (some .int), Cond.fieldLink RX1 35 "VariantMill$Game" "state" "I", Cond.fieldLink RX1 22 "VariantMill$Game" "first" "I", Cond.fieldLink RX1 26 "VariantMill$Game" "second" "I"]
def wsX4_points : List Cond := .code yX4_points cX4_points 7 (some .int) :: ((wsX4_points_r1 ++ wsX4_points_r2) ++ wsX40 ++ wsX10 ++ wsX30 ++ (vx_atS RX4 191 "java/lang/IndexOutOfBoundsException" ["java/lang/RuntimeException", "java/lang/Exception"]).filter goodWord)
def wsX5_init : List Cond := .code yX5_init cX5_init 1 none :: ([.methodLink RX5 1 objectInit, .instanceMethod objectInit, .code objectInit ⟨#[0xb1]⟩ 1 none, .arrayClass .int, .fieldLink RX5 7 "VariantMillModel" "kind" "[I", .fieldLink RX5 13 "VariantMillModel" "dx" "[I", .fieldLink RX5 16 "VariantMillModel" "dy" "[I", .fieldLink RX5 19 "VariantMillModel" "reach" "[I", .fieldLink RX5 22 "VariantMillModel" "holes" "[I", .fieldLink RX5 25 "VariantMillModel" "has" "[I", .fieldLink RX5 28 "VariantMillModel" "votes" "[I", .fieldLink RX5 31 "VariantMillModel" "endless" "[I", .fieldLink RX5 34 "VariantMillModel" "variant" "[I", .fieldLink RX5 37 "VariantMillModel" "plays" "[I", .fieldLink RX5 40 "VariantMillModel" "first" "[I", .fieldLink RX5 43 "VariantMillModel" "second" "[I", .fieldLink RX5 46 "VariantMillModel" "state" "[I", .fieldLink RX5 49 "VariantMillModel" "made" "[I", .fieldLink RX5 52 "VariantMillModel" "ones" "[I", .fieldLink RX5 55 "VariantMillModel" "others" "[I"] ++ wsX50)
def wsX5_thrown : List Cond := .code yX5_thrown cX5_thrown 1 (some .int) :: ([.fieldLink RX5 58 "VariantMillModel" "thrown" "I"] ++ wsX50)
def wsX5_fails : List Cond := .code yX5_fails cX5_fails 2 (some .int) :: ([.fieldLink RX5 58 "VariantMillModel" "thrown" "I"] ++ wsX50)
def wsX5_asks : List Cond := .code yX5_asks cX5_asks 2 (some .boolean) :: ([.fieldLink RX5 58 "VariantMillModel" "thrown" "I"] ++ wsX50)
def wsX5_in : List Cond := .code yX5_in cX5_in 3 (some .boolean) :: ([])
def wsX5_isVariant : List Cond := .code yX5_isVariant cX5_isVariant 2 (some .boolean) :: ([.fieldLink RX5 62 "VariantMillModel" "variants" "I"] ++ wsX50)
def wsX5_isPlayer : List Cond := .code yX5_isPlayer cX5_isPlayer 1 (some .boolean) :: ([])
def wsX5_isGame : List Cond := .code yX5_isGame cX5_isGame 2 (some .boolean) :: ([.fieldLink RX5 65 "VariantMillModel" "games" "I"] ++ wsX50)
def wsX5_isCell : List Cond := .code yX5_isCell cX5_isCell 1 (some .boolean) :: ([])
def wsX5_size : List Cond := .code yX5_size cX5_size 3 (some .int) :: ([])
def wsX5_card : List Cond := .code yX5_card cX5_card 5 (some .int) :: ([.fieldLink RX5 76 "VariantMillModel" "cards" "I", .fieldLink RX5 7 "VariantMillModel" "kind" "[I", .fieldLink RX5 13 "VariantMillModel" "dx" "[I", .fieldLink RX5 16 "VariantMillModel" "dy" "[I", .fieldLink RX5 19 "VariantMillModel" "reach" "[I", .methodLink RX5 68 yX5_in, .static yX5_in, .initialized RX5, .code yX5_in cX5_in 3 (some .boolean), .methodLink RX5 72 yX5_asks, .instanceMethod yX5_asks, .selects RX5 yX5_asks yX5_asks, .code yX5_asks cX5_asks 2 (some .boolean), .fieldLink RX5 58 "VariantMillModel" "thrown" "I", .methodLink RX5 79 yX5_fails, .instanceMethod yX5_fails, .selects RX5 yX5_fails yX5_fails, .code yX5_fails cX5_fails 2 (some .int)] ++ wsX50)
def wsX5_areCards : List Cond := .code yX5_areCards cX5_areCards 2 (some .boolean) :: ([.fieldLink RX5 76 "VariantMillModel" "cards" "I"] ++ wsX50)
def wsX5_variant : List Cond := .code yX5_variant cX5_variant 3 (some .int) :: ([.constant RX5 83 (33554431), .fieldLink RX5 62 "VariantMillModel" "variants" "I", .fieldLink RX5 22 "VariantMillModel" "holes" "[I", .fieldLink RX5 25 "VariantMillModel" "has" "[I", .methodLink RX5 68 yX5_in, .static yX5_in, .initialized RX5, .code yX5_in cX5_in 3 (some .boolean), .methodLink RX5 84 yX5_areCards, .instanceMethod yX5_areCards, .selects RX5 yX5_areCards yX5_areCards, .code yX5_areCards cX5_areCards 2 (some .boolean), .fieldLink RX5 76 "VariantMillModel" "cards" "I", .methodLink RX5 72 yX5_asks, .instanceMethod yX5_asks, .selects RX5 yX5_asks yX5_asks, .code yX5_asks cX5_asks 2 (some .boolean), .fieldLink RX5 58 "VariantMillModel" "thrown" "I", .methodLink RX5 79 yX5_fails, .instanceMethod yX5_fails, .selects RX5 yX5_fails yX5_fails, .code yX5_fails cX5_fails 2 (some .int)] ++ wsX50)
def wsX5_setCards : List Cond := .code yX5_setCards cX5_setCards 4 (some .int) :: ([.fieldLink RX5 25 "VariantMillModel" "has" "[I", .methodLink RX5 88 yX5_isVariant, .instanceMethod yX5_isVariant, .selects RX5 yX5_isVariant yX5_isVariant, .initialized RX5, .code yX5_isVariant cX5_isVariant 2 (some .boolean), .fieldLink RX5 62 "VariantMillModel" "variants" "I", .methodLink RX5 72 yX5_asks, .instanceMethod yX5_asks, .selects RX5 yX5_asks yX5_asks, .code yX5_asks cX5_asks 2 (some .boolean), .fieldLink RX5 58 "VariantMillModel" "thrown" "I", .methodLink RX5 84 yX5_areCards, .instanceMethod yX5_areCards, .selects RX5 yX5_areCards yX5_areCards, .code yX5_areCards cX5_areCards 2 (some .boolean), .fieldLink RX5 76 "VariantMillModel" "cards" "I", .methodLink RX5 79 yX5_fails, .instanceMethod yX5_fails, .selects RX5 yX5_fails yX5_fails, .code yX5_fails cX5_fails 2 (some .int)] ++ wsX50)
def wsX5_by : List Cond := .code yX5_by cX5_by 15 (some .int) :: ([.fieldLink RX5 13 "VariantMillModel" "dx" "[I", .fieldLink RX5 16 "VariantMillModel" "dy" "[I", .fieldLink RX5 19 "VariantMillModel" "reach" "[I", .fieldLink RX5 7 "VariantMillModel" "kind" "[I", .methodLink RX5 68 yX5_in, .static yX5_in, .initialized RX5, .code yX5_in cX5_in 3 (some .boolean)] ++ wsX50)
def wsX5_goes : List Cond := .code yX5_goes cX5_goes 9 (some .int) :: ([.fieldLink RX5 76 "VariantMillModel" "cards" "I", .methodLink RX5 91 yX5_by, .instanceMethod yX5_by, .selects RX5 yX5_by yX5_by, .initialized RX5, .code yX5_by cX5_by 15 (some .int), .fieldLink RX5 13 "VariantMillModel" "dx" "[I", .fieldLink RX5 16 "VariantMillModel" "dy" "[I", .fieldLink RX5 19 "VariantMillModel" "reach" "[I", .fieldLink RX5 7 "VariantMillModel" "kind" "[I", .methodLink RX5 68 yX5_in, .static yX5_in, .code yX5_in cX5_in 3 (some .boolean)] ++ wsX50)
def wsX5_moves : List Cond := .code yX5_moves cX5_moves 8 (some .boolean) :: ([.methodLink RX5 95 yX5_goes, .instanceMethod yX5_goes, .selects RX5 yX5_goes yX5_goes, .initialized RX5, .code yX5_goes cX5_goes 9 (some .int), .fieldLink RX5 76 "VariantMillModel" "cards" "I", .methodLink RX5 91 yX5_by, .instanceMethod yX5_by, .selects RX5 yX5_by yX5_by, .code yX5_by cX5_by 15 (some .int), .fieldLink RX5 13 "VariantMillModel" "dx" "[I", .fieldLink RX5 16 "VariantMillModel" "dy" "[I", .fieldLink RX5 19 "VariantMillModel" "reach" "[I", .fieldLink RX5 7 "VariantMillModel" "kind" "[I", .methodLink RX5 68 yX5_in, .static yX5_in, .code yX5_in cX5_in 3 (some .boolean)] ++ wsX50)
def wsX5_arePieces : List Cond := .code yX5_arePieces cX5_arePieces 3 (some .boolean) :: ([.constant RX5 83 (33554431), .methodLink RX5 68 yX5_in, .static yX5_in, .initialized RX5, .code yX5_in cX5_in 3 (some .boolean), .methodLink RX5 98 yX5_size, .static yX5_size, .code yX5_size cX5_size 3 (some .int)])
def wsX5_isBannedNow : List Cond := .code yX5_isBannedNow cX5_isBannedNow 4 (some .boolean) :: ([.fieldLink RX5 28 "VariantMillModel" "votes" "[I", .fieldLink RX5 31 "VariantMillModel" "endless" "[I"] ++ wsX50)
def wsX5_begin_r1 : List Cond := [Cond.fieldLink RX5 22 "VariantMillModel" "holes" "[I", Cond.fieldLink RX5 65 "VariantMillModel" "games" "I", Cond.fieldLink RX5 25 "VariantMillModel" "has" "[I", Cond.fieldLink RX5 34 "VariantMillModel" "variant" "[I", Cond.fieldLink RX5 37 "VariantMillModel" "plays" "[I", Cond.fieldLink RX5 40 "VariantMillModel" "first" "[I", Cond.fieldLink RX5 43 "VariantMillModel" "second" "[I", Cond.fieldLink RX5 46 "VariantMillModel" "state" "[I", Cond.fieldLink RX5 49 "VariantMillModel" "made" "[I", Cond.fieldLink RX5 52 "VariantMillModel" "ones" "[I", Cond.fieldLink RX5 55 "VariantMillModel" "others" "[I", Cond.methodLink RX5 88 yX5_isVariant, Cond.instanceMethod yX5_isVariant, Cond.selects RX5 yX5_isVariant yX5_isVariant, Cond.initialized RX5, Cond.code yX5_isVariant cX5_isVariant 2 (some .boolean), Cond.fieldLink RX5 62 "VariantMillModel" "variants" "I", Cond.methodLink RX5 101 yX5_isPlayer, Cond.static yX5_isPlayer, Cond.code yX5_isPlayer cX5_isPlayer 1 (some .boolean), Cond.methodLink RX5 72 yX5_asks, Cond.instanceMethod yX5_asks, Cond.selects RX5 yX5_asks yX5_asks, Cond.code yX5_asks cX5_asks 2 (some .boolean)]
def wsX5_begin_r2 : List Cond := [Cond.fieldLink RX5 58 "VariantMillModel" "thrown" "I", Cond.methodLink RX5 104 yX5_arePieces, Cond.instanceMethod yX5_arePieces, Cond.selects RX5 yX5_arePieces yX5_arePieces, Cond.code yX5_arePieces cX5_arePieces 3 (some .boolean), Cond.constant RX5 83 (33554431), Cond.methodLink RX5 68 yX5_in, Cond.static yX5_in, Cond.code yX5_in cX5_in 3 (some .boolean), Cond.methodLink RX5 98 yX5_size, Cond.static yX5_size, Cond.code yX5_size cX5_size 3 (some .int), Cond.methodLink RX5 79 yX5_fails, Cond.instanceMethod yX5_fails, Cond.selects RX5 yX5_fails yX5_fails, Cond.code yX5_fails cX5_fails 2 (some .int), Cond.methodLink RX5 108 yX5_isBannedNow, Cond.instanceMethod yX5_isBannedNow, Cond.selects RX5 yX5_isBannedNow yX5_isBannedNow, Cond.code yX5_isBannedNow cX5_isBannedNow 4 (some .boolean), Cond.fieldLink RX5 28 "VariantMillModel" "votes" "[I", Cond.fieldLink RX5 31 "VariantMillModel" "endless" "[I", Cond.methodLink RX5 111 yX5_moves, Cond.instanceMethod yX5_moves]
def wsX5_begin_r3 : List Cond := [Cond.selects RX5 yX5_moves yX5_moves, Cond.code yX5_moves cX5_moves 8 (some .boolean), Cond.methodLink RX5 95 yX5_goes, Cond.instanceMethod yX5_goes, Cond.selects RX5 yX5_goes yX5_goes, Cond.code yX5_goes cX5_goes 9 (some .int), Cond.fieldLink RX5 76 "VariantMillModel" "cards" "I", Cond.methodLink RX5 91 yX5_by, Cond.instanceMethod yX5_by, Cond.selects RX5 yX5_by yX5_by, Cond.code yX5_by cX5_by 15 (some .int), Cond.fieldLink RX5 13 "VariantMillModel" "dx" "[I", Cond.fieldLink RX5 16 "VariantMillModel" "dy" "[I", Cond.fieldLink RX5 19 "VariantMillModel" "reach" "[I", Cond.fieldLink RX5 7 "VariantMillModel" "kind" "[I"]
def wsX5_begin : List Cond := .code yX5_begin cX5_begin 7 (some .int) :: ((wsX5_begin_r1 ++ (wsX5_begin_r2 ++ wsX5_begin_r3)) ++ wsX50)
def wsX5_at : List Cond := .code yX5_at cX5_at 2 (some .int) :: ([.fieldLink RX5 49 "VariantMillModel" "made" "[I"] ++ wsX50)
def wsX5_isSecondsTurn : List Cond := .code yX5_isSecondsTurn cX5_isSecondsTurn 2 (some .boolean) :: ([.fieldLink RX5 49 "VariantMillModel" "made" "[I"] ++ wsX50)
def wsX5_piecesOf : List Cond := .code yX5_piecesOf cX5_piecesOf 3 (some .int) :: ([.fieldLink RX5 55 "VariantMillModel" "others" "[I", .fieldLink RX5 52 "VariantMillModel" "ones" "[I", .methodLink RX5 115 yX5_isSecondsTurn, .instanceMethod yX5_isSecondsTurn, .selects RX5 yX5_isSecondsTurn yX5_isSecondsTurn, .initialized RX5, .code yX5_isSecondsTurn cX5_isSecondsTurn 2 (some .boolean), .fieldLink RX5 49 "VariantMillModel" "made" "[I", .methodLink RX5 118 yX5_at, .instanceMethod yX5_at, .selects RX5 yX5_at yX5_at, .code yX5_at cX5_at 2 (some .int)] ++ wsX50)
def wsX5_canNow_r1 : List Cond := [Cond.fieldLink RX5 46 "VariantMillModel" "state" "[I", Cond.fieldLink RX5 37 "VariantMillModel" "plays" "[I", Cond.fieldLink RX5 22 "VariantMillModel" "holes" "[I", Cond.fieldLink RX5 34 "VariantMillModel" "variant" "[I", Cond.methodLink RX5 121 yX5_piecesOf, Cond.instanceMethod yX5_piecesOf, Cond.selects RX5 yX5_piecesOf yX5_piecesOf, Cond.initialized RX5, Cond.code yX5_piecesOf cX5_piecesOf 3 (some .int), Cond.fieldLink RX5 55 "VariantMillModel" "others" "[I", Cond.fieldLink RX5 52 "VariantMillModel" "ones" "[I", Cond.methodLink RX5 115 yX5_isSecondsTurn, Cond.instanceMethod yX5_isSecondsTurn, Cond.selects RX5 yX5_isSecondsTurn yX5_isSecondsTurn, Cond.code yX5_isSecondsTurn cX5_isSecondsTurn 2 (some .boolean), Cond.fieldLink RX5 49 "VariantMillModel" "made" "[I", Cond.methodLink RX5 118 yX5_at, Cond.instanceMethod yX5_at, Cond.selects RX5 yX5_at yX5_at, Cond.code yX5_at cX5_at 2 (some .int), Cond.methodLink RX5 95 yX5_goes, Cond.instanceMethod yX5_goes, Cond.selects RX5 yX5_goes yX5_goes, Cond.code yX5_goes cX5_goes 9 (some .int)]
def wsX5_canNow_r2 : List Cond := [Cond.fieldLink RX5 76 "VariantMillModel" "cards" "I", Cond.methodLink RX5 91 yX5_by, Cond.instanceMethod yX5_by, Cond.selects RX5 yX5_by yX5_by, Cond.code yX5_by cX5_by 15 (some .int), Cond.fieldLink RX5 13 "VariantMillModel" "dx" "[I", Cond.fieldLink RX5 16 "VariantMillModel" "dy" "[I", Cond.fieldLink RX5 19 "VariantMillModel" "reach" "[I", Cond.fieldLink RX5 7 "VariantMillModel" "kind" "[I", Cond.methodLink RX5 68 yX5_in, Cond.static yX5_in, Cond.code yX5_in cX5_in 3 (some .boolean)]
def wsX5_canNow : List Cond := .code yX5_canNow cX5_canNow 5 (some .boolean) :: ((wsX5_canNow_r1 ++ wsX5_canNow_r2) ++ wsX50)
def wsX5_can_r1 : List Cond := [Cond.methodLink RX5 125 yX5_isGame, Cond.instanceMethod yX5_isGame, Cond.selects RX5 yX5_isGame yX5_isGame, Cond.initialized RX5, Cond.code yX5_isGame cX5_isGame 2 (some .boolean), Cond.fieldLink RX5 65 "VariantMillModel" "games" "I", Cond.methodLink RX5 128 yX5_isCell, Cond.static yX5_isCell, Cond.code yX5_isCell cX5_isCell 1 (some .boolean), Cond.methodLink RX5 72 yX5_asks, Cond.instanceMethod yX5_asks, Cond.selects RX5 yX5_asks yX5_asks, Cond.code yX5_asks cX5_asks 2 (some .boolean), Cond.fieldLink RX5 58 "VariantMillModel" "thrown" "I", Cond.methodLink RX5 131 yX5_canNow, Cond.instanceMethod yX5_canNow, Cond.selects RX5 yX5_canNow yX5_canNow, Cond.code yX5_canNow cX5_canNow 5 (some .boolean), Cond.fieldLink RX5 46 "VariantMillModel" "state" "[I", Cond.fieldLink RX5 37 "VariantMillModel" "plays" "[I", Cond.fieldLink RX5 22 "VariantMillModel" "holes" "[I", Cond.fieldLink RX5 34 "VariantMillModel" "variant" "[I", Cond.methodLink RX5 121 yX5_piecesOf, Cond.instanceMethod yX5_piecesOf]
def wsX5_can_r2 : List Cond := [Cond.selects RX5 yX5_piecesOf yX5_piecesOf, Cond.code yX5_piecesOf cX5_piecesOf 3 (some .int), Cond.fieldLink RX5 55 "VariantMillModel" "others" "[I", Cond.fieldLink RX5 52 "VariantMillModel" "ones" "[I", Cond.methodLink RX5 115 yX5_isSecondsTurn, Cond.instanceMethod yX5_isSecondsTurn, Cond.selects RX5 yX5_isSecondsTurn yX5_isSecondsTurn, Cond.code yX5_isSecondsTurn cX5_isSecondsTurn 2 (some .boolean), Cond.fieldLink RX5 49 "VariantMillModel" "made" "[I", Cond.methodLink RX5 118 yX5_at, Cond.instanceMethod yX5_at, Cond.selects RX5 yX5_at yX5_at, Cond.code yX5_at cX5_at 2 (some .int), Cond.methodLink RX5 95 yX5_goes, Cond.instanceMethod yX5_goes, Cond.selects RX5 yX5_goes yX5_goes, Cond.code yX5_goes cX5_goes 9 (some .int), Cond.fieldLink RX5 76 "VariantMillModel" "cards" "I", Cond.methodLink RX5 91 yX5_by, Cond.instanceMethod yX5_by, Cond.selects RX5 yX5_by yX5_by, Cond.code yX5_by cX5_by 15 (some .int), Cond.fieldLink RX5 13 "VariantMillModel" "dx" "[I", Cond.fieldLink RX5 16 "VariantMillModel" "dy" "[I"]
def wsX5_can_r3 : List Cond := [Cond.fieldLink RX5 19 "VariantMillModel" "reach" "[I", Cond.fieldLink RX5 7 "VariantMillModel" "kind" "[I", Cond.methodLink RX5 68 yX5_in, Cond.static yX5_in, Cond.code yX5_in cX5_in 3 (some .boolean)]
def wsX5_can : List Cond := .code yX5_can cX5_can 4 (some .boolean) :: ((wsX5_can_r1 ++ (wsX5_can_r2 ++ wsX5_can_r3)) ++ wsX50)
def wsX5_canByAll_r1 : List Cond := [Cond.methodLink RX5 125 yX5_isGame, Cond.instanceMethod yX5_isGame, Cond.selects RX5 yX5_isGame yX5_isGame, Cond.initialized RX5, Cond.code yX5_isGame cX5_isGame 2 (some .boolean), Cond.fieldLink RX5 65 "VariantMillModel" "games" "I", Cond.methodLink RX5 128 yX5_isCell, Cond.static yX5_isCell, Cond.code yX5_isCell cX5_isCell 1 (some .boolean), Cond.methodLink RX5 72 yX5_asks, Cond.instanceMethod yX5_asks, Cond.selects RX5 yX5_asks yX5_asks, Cond.code yX5_asks cX5_asks 2 (some .boolean), Cond.fieldLink RX5 58 "VariantMillModel" "thrown" "I", Cond.methodLink RX5 131 yX5_canNow, Cond.instanceMethod yX5_canNow, Cond.selects RX5 yX5_canNow yX5_canNow, Cond.code yX5_canNow cX5_canNow 5 (some .boolean), Cond.fieldLink RX5 46 "VariantMillModel" "state" "[I", Cond.fieldLink RX5 37 "VariantMillModel" "plays" "[I", Cond.fieldLink RX5 22 "VariantMillModel" "holes" "[I", Cond.fieldLink RX5 34 "VariantMillModel" "variant" "[I", Cond.methodLink RX5 121 yX5_piecesOf, Cond.instanceMethod yX5_piecesOf]
def wsX5_canByAll_r2 : List Cond := [Cond.selects RX5 yX5_piecesOf yX5_piecesOf, Cond.code yX5_piecesOf cX5_piecesOf 3 (some .int), Cond.fieldLink RX5 55 "VariantMillModel" "others" "[I", Cond.fieldLink RX5 52 "VariantMillModel" "ones" "[I", Cond.methodLink RX5 115 yX5_isSecondsTurn, Cond.instanceMethod yX5_isSecondsTurn, Cond.selects RX5 yX5_isSecondsTurn yX5_isSecondsTurn, Cond.code yX5_isSecondsTurn cX5_isSecondsTurn 2 (some .boolean), Cond.fieldLink RX5 49 "VariantMillModel" "made" "[I", Cond.methodLink RX5 118 yX5_at, Cond.instanceMethod yX5_at, Cond.selects RX5 yX5_at yX5_at, Cond.code yX5_at cX5_at 2 (some .int), Cond.methodLink RX5 95 yX5_goes, Cond.instanceMethod yX5_goes, Cond.selects RX5 yX5_goes yX5_goes, Cond.code yX5_goes cX5_goes 9 (some .int), Cond.fieldLink RX5 76 "VariantMillModel" "cards" "I", Cond.methodLink RX5 91 yX5_by, Cond.instanceMethod yX5_by, Cond.selects RX5 yX5_by yX5_by, Cond.code yX5_by cX5_by 15 (some .int), Cond.fieldLink RX5 13 "VariantMillModel" "dx" "[I", Cond.fieldLink RX5 16 "VariantMillModel" "dy" "[I"]
def wsX5_canByAll_r3 : List Cond := [Cond.fieldLink RX5 19 "VariantMillModel" "reach" "[I", Cond.fieldLink RX5 7 "VariantMillModel" "kind" "[I", Cond.methodLink RX5 68 yX5_in, Cond.static yX5_in, Cond.code yX5_in cX5_in 3 (some .boolean)]
def wsX5_canByAll : List Cond := .code yX5_canByAll cX5_canByAll 4 (some .boolean) :: ((wsX5_canByAll_r1 ++ (wsX5_canByAll_r2 ++ wsX5_canByAll_r3)) ++ wsX50)
def wsX5_times : List Cond := .code yX5_times cX5_times 4 (some .int) :: ([.fieldLink RX5 49 "VariantMillModel" "made" "[I", .fieldLink RX5 52 "VariantMillModel" "ones" "[I", .fieldLink RX5 55 "VariantMillModel" "others" "[I", .methodLink RX5 118 yX5_at, .instanceMethod yX5_at, .selects RX5 yX5_at yX5_at, .initialized RX5, .code yX5_at cX5_at 2 (some .int)] ++ wsX50)
def wsX5_move_r1 : List Cond := [Cond.fieldLink RX5 34 "VariantMillModel" "variant" "[I", Cond.fieldLink RX5 49 "VariantMillModel" "made" "[I", Cond.fieldLink RX5 52 "VariantMillModel" "ones" "[I", Cond.fieldLink RX5 55 "VariantMillModel" "others" "[I", Cond.fieldLink RX5 37 "VariantMillModel" "plays" "[I", Cond.fieldLink RX5 22 "VariantMillModel" "holes" "[I", Cond.fieldLink RX5 46 "VariantMillModel" "state" "[I", Cond.fieldLink RX5 31 "VariantMillModel" "endless" "[I", Cond.methodLink RX5 125 yX5_isGame, Cond.instanceMethod yX5_isGame, Cond.selects RX5 yX5_isGame yX5_isGame, Cond.initialized RX5, Cond.code yX5_isGame cX5_isGame 2 (some .boolean), Cond.fieldLink RX5 65 "VariantMillModel" "games" "I", Cond.methodLink RX5 128 yX5_isCell, Cond.static yX5_isCell, Cond.code yX5_isCell cX5_isCell 1 (some .boolean), Cond.methodLink RX5 72 yX5_asks, Cond.instanceMethod yX5_asks, Cond.selects RX5 yX5_asks yX5_asks, Cond.code yX5_asks cX5_asks 2 (some .boolean), Cond.fieldLink RX5 58 "VariantMillModel" "thrown" "I", Cond.methodLink RX5 108 yX5_isBannedNow, Cond.instanceMethod yX5_isBannedNow]
def wsX5_move_r2 : List Cond := [Cond.selects RX5 yX5_isBannedNow yX5_isBannedNow, Cond.code yX5_isBannedNow cX5_isBannedNow 4 (some .boolean), Cond.fieldLink RX5 28 "VariantMillModel" "votes" "[I", Cond.methodLink RX5 131 yX5_canNow, Cond.instanceMethod yX5_canNow, Cond.selects RX5 yX5_canNow yX5_canNow, Cond.code yX5_canNow cX5_canNow 5 (some .boolean), Cond.methodLink RX5 121 yX5_piecesOf, Cond.instanceMethod yX5_piecesOf, Cond.selects RX5 yX5_piecesOf yX5_piecesOf, Cond.code yX5_piecesOf cX5_piecesOf 3 (some .int), Cond.methodLink RX5 115 yX5_isSecondsTurn, Cond.instanceMethod yX5_isSecondsTurn, Cond.selects RX5 yX5_isSecondsTurn yX5_isSecondsTurn, Cond.code yX5_isSecondsTurn cX5_isSecondsTurn 2 (some .boolean), Cond.methodLink RX5 118 yX5_at, Cond.instanceMethod yX5_at, Cond.selects RX5 yX5_at yX5_at, Cond.code yX5_at cX5_at 2 (some .int), Cond.methodLink RX5 95 yX5_goes, Cond.instanceMethod yX5_goes, Cond.selects RX5 yX5_goes yX5_goes, Cond.code yX5_goes cX5_goes 9 (some .int), Cond.fieldLink RX5 76 "VariantMillModel" "cards" "I"]
def wsX5_move_r3 : List Cond := [Cond.methodLink RX5 91 yX5_by, Cond.instanceMethod yX5_by, Cond.selects RX5 yX5_by yX5_by, Cond.code yX5_by cX5_by 15 (some .int), Cond.fieldLink RX5 13 "VariantMillModel" "dx" "[I", Cond.fieldLink RX5 16 "VariantMillModel" "dy" "[I", Cond.fieldLink RX5 19 "VariantMillModel" "reach" "[I", Cond.fieldLink RX5 7 "VariantMillModel" "kind" "[I", Cond.methodLink RX5 68 yX5_in, Cond.static yX5_in, Cond.code yX5_in cX5_in 3 (some .boolean), Cond.methodLink RX5 79 yX5_fails, Cond.instanceMethod yX5_fails, Cond.selects RX5 yX5_fails yX5_fails, Cond.code yX5_fails cX5_fails 2 (some .int), Cond.methodLink RX5 111 yX5_moves, Cond.instanceMethod yX5_moves, Cond.selects RX5 yX5_moves yX5_moves, Cond.code yX5_moves cX5_moves 8 (some .boolean), Cond.methodLink RX5 134 yX5_times, Cond.instanceMethod yX5_times, Cond.selects RX5 yX5_times yX5_times, Cond.code yX5_times cX5_times 4 (some .int)]
def wsX5_move : List Cond := .code yX5_move cX5_move 7 (some .int) :: ((wsX5_move_r1 ++ (wsX5_move_r2 ++ wsX5_move_r3)) ++ wsX50)
def wsX5_state : List Cond := .code yX5_state cX5_state 2 (some .int) :: ([.fieldLink RX5 46 "VariantMillModel" "state" "[I", .methodLink RX5 125 yX5_isGame, .instanceMethod yX5_isGame, .selects RX5 yX5_isGame yX5_isGame, .initialized RX5, .code yX5_isGame cX5_isGame 2 (some .boolean), .fieldLink RX5 65 "VariantMillModel" "games" "I", .methodLink RX5 72 yX5_asks, .instanceMethod yX5_asks, .selects RX5 yX5_asks yX5_asks, .code yX5_asks cX5_asks 2 (some .boolean), .fieldLink RX5 58 "VariantMillModel" "thrown" "I"] ++ wsX50)
def wsX5_pieces : List Cond := .code yX5_pieces cX5_pieces 3 (some .int) :: ([.fieldLink RX5 55 "VariantMillModel" "others" "[I", .fieldLink RX5 52 "VariantMillModel" "ones" "[I", .methodLink RX5 125 yX5_isGame, .instanceMethod yX5_isGame, .selects RX5 yX5_isGame yX5_isGame, .initialized RX5, .code yX5_isGame cX5_isGame 2 (some .boolean), .fieldLink RX5 65 "VariantMillModel" "games" "I", .methodLink RX5 72 yX5_asks, .instanceMethod yX5_asks, .selects RX5 yX5_asks yX5_asks, .code yX5_asks cX5_asks 2 (some .boolean), .fieldLink RX5 58 "VariantMillModel" "thrown" "I", .methodLink RX5 118 yX5_at, .instanceMethod yX5_at, .selects RX5 yX5_at yX5_at, .code yX5_at cX5_at 2 (some .int), .fieldLink RX5 49 "VariantMillModel" "made" "[I"] ++ wsX50)
def wsX5_made : List Cond := .code yX5_made cX5_made 2 (some .int) :: ([.fieldLink RX5 49 "VariantMillModel" "made" "[I", .methodLink RX5 125 yX5_isGame, .instanceMethod yX5_isGame, .selects RX5 yX5_isGame yX5_isGame, .initialized RX5, .code yX5_isGame cX5_isGame 2 (some .boolean), .fieldLink RX5 65 "VariantMillModel" "games" "I", .methodLink RX5 72 yX5_asks, .instanceMethod yX5_asks, .selects RX5 yX5_asks yX5_asks, .code yX5_asks cX5_asks 2 (some .boolean), .fieldLink RX5 58 "VariantMillModel" "thrown" "I"] ++ wsX50)
def wsX5_standing_r1 : List Cond := [Cond.fieldLink RX5 37 "VariantMillModel" "plays" "[I", Cond.fieldLink RX5 22 "VariantMillModel" "holes" "[I", Cond.fieldLink RX5 34 "VariantMillModel" "variant" "[I", Cond.methodLink RX5 111 yX5_moves, Cond.instanceMethod yX5_moves, Cond.selects RX5 yX5_moves yX5_moves, Cond.initialized RX5, Cond.code yX5_moves cX5_moves 8 (some .boolean), Cond.methodLink RX5 95 yX5_goes, Cond.instanceMethod yX5_goes, Cond.selects RX5 yX5_goes yX5_goes, Cond.code yX5_goes cX5_goes 9 (some .int), Cond.fieldLink RX5 76 "VariantMillModel" "cards" "I", Cond.methodLink RX5 91 yX5_by, Cond.instanceMethod yX5_by, Cond.selects RX5 yX5_by yX5_by, Cond.code yX5_by cX5_by 15 (some .int), Cond.fieldLink RX5 13 "VariantMillModel" "dx" "[I", Cond.fieldLink RX5 16 "VariantMillModel" "dy" "[I", Cond.fieldLink RX5 19 "VariantMillModel" "reach" "[I", Cond.fieldLink RX5 7 "VariantMillModel" "kind" "[I", Cond.methodLink RX5 68 yX5_in, Cond.static yX5_in, Cond.code yX5_in cX5_in 3 (some .boolean)]
def wsX5_standing_r2 : List Cond := [Cond.methodLink RX5 98 yX5_size, Cond.static yX5_size, Cond.code yX5_size cX5_size 3 (some .int)]
def wsX5_standing : List Cond := .code yX5_standing cX5_standing 5 (some .int) :: ((wsX5_standing_r1 ++ wsX5_standing_r2) ++ wsX50)
def wsX5_onward_r1 : List Cond := [Cond.fieldLink RX5 37 "VariantMillModel" "plays" "[I", Cond.fieldLink RX5 22 "VariantMillModel" "holes" "[I", Cond.fieldLink RX5 34 "VariantMillModel" "variant" "[I", Cond.methodLink RX5 95 yX5_goes, Cond.instanceMethod yX5_goes, Cond.selects RX5 yX5_goes yX5_goes, Cond.initialized RX5, Cond.code yX5_goes cX5_goes 9 (some .int), Cond.fieldLink RX5 76 "VariantMillModel" "cards" "I", Cond.methodLink RX5 91 yX5_by, Cond.instanceMethod yX5_by, Cond.selects RX5 yX5_by yX5_by, Cond.code yX5_by cX5_by 15 (some .int), Cond.fieldLink RX5 13 "VariantMillModel" "dx" "[I", Cond.fieldLink RX5 16 "VariantMillModel" "dy" "[I", Cond.fieldLink RX5 19 "VariantMillModel" "reach" "[I", Cond.fieldLink RX5 7 "VariantMillModel" "kind" "[I", Cond.methodLink RX5 68 yX5_in, Cond.static yX5_in, Cond.code yX5_in cX5_in 3 (some .boolean), Cond.methodLink RX5 137 yX5_standing, Cond.instanceMethod yX5_standing, Cond.selects RX5 yX5_standing yX5_standing, Cond.code yX5_standing cX5_standing 5 (some .int)]
def wsX5_onward_r2 : List Cond := [Cond.methodLink RX5 111 yX5_moves, Cond.instanceMethod yX5_moves, Cond.selects RX5 yX5_moves yX5_moves, Cond.code yX5_moves cX5_moves 8 (some .boolean), Cond.methodLink RX5 98 yX5_size, Cond.static yX5_size, Cond.code yX5_size cX5_size 3 (some .int)]
def wsX5_onward : List Cond := .code yX5_onward cX5_onward 10 (some .int) :: ((wsX5_onward_r1 ++ wsX5_onward_r2) ++ wsX50)
def wsX5_farther_r1 : List Cond := [Cond.fieldLink RX5 37 "VariantMillModel" "plays" "[I", Cond.fieldLink RX5 22 "VariantMillModel" "holes" "[I", Cond.fieldLink RX5 34 "VariantMillModel" "variant" "[I", Cond.methodLink RX5 95 yX5_goes, Cond.instanceMethod yX5_goes, Cond.selects RX5 yX5_goes yX5_goes, Cond.initialized RX5, Cond.code yX5_goes cX5_goes 9 (some .int), Cond.fieldLink RX5 76 "VariantMillModel" "cards" "I", Cond.methodLink RX5 91 yX5_by, Cond.instanceMethod yX5_by, Cond.selects RX5 yX5_by yX5_by, Cond.code yX5_by cX5_by 15 (some .int), Cond.fieldLink RX5 13 "VariantMillModel" "dx" "[I", Cond.fieldLink RX5 16 "VariantMillModel" "dy" "[I", Cond.fieldLink RX5 19 "VariantMillModel" "reach" "[I", Cond.fieldLink RX5 7 "VariantMillModel" "kind" "[I", Cond.methodLink RX5 68 yX5_in, Cond.static yX5_in, Cond.code yX5_in cX5_in 3 (some .boolean), Cond.methodLink RX5 141 yX5_onward, Cond.instanceMethod yX5_onward, Cond.selects RX5 yX5_onward yX5_onward, Cond.code yX5_onward cX5_onward 10 (some .int)]
def wsX5_farther_r2 : List Cond := [Cond.methodLink RX5 137 yX5_standing, Cond.instanceMethod yX5_standing, Cond.selects RX5 yX5_standing yX5_standing, Cond.code yX5_standing cX5_standing 5 (some .int), Cond.methodLink RX5 111 yX5_moves, Cond.instanceMethod yX5_moves, Cond.selects RX5 yX5_moves yX5_moves, Cond.code yX5_moves cX5_moves 8 (some .boolean), Cond.methodLink RX5 98 yX5_size, Cond.static yX5_size, Cond.code yX5_size cX5_size 3 (some .int)]
def wsX5_farther : List Cond := .code yX5_farther cX5_farther 10 (some .int) :: ((wsX5_farther_r1 ++ wsX5_farther_r2) ++ wsX50)
def wsX5_valueAt_r1 : List Cond := [Cond.methodLink RX5 121 yX5_piecesOf, Cond.instanceMethod yX5_piecesOf, Cond.selects RX5 yX5_piecesOf yX5_piecesOf, Cond.initialized RX5, Cond.code yX5_piecesOf cX5_piecesOf 3 (some .int), Cond.fieldLink RX5 55 "VariantMillModel" "others" "[I", Cond.fieldLink RX5 52 "VariantMillModel" "ones" "[I", Cond.methodLink RX5 115 yX5_isSecondsTurn, Cond.instanceMethod yX5_isSecondsTurn, Cond.selects RX5 yX5_isSecondsTurn yX5_isSecondsTurn, Cond.code yX5_isSecondsTurn cX5_isSecondsTurn 2 (some .boolean), Cond.fieldLink RX5 49 "VariantMillModel" "made" "[I", Cond.methodLink RX5 118 yX5_at, Cond.instanceMethod yX5_at, Cond.selects RX5 yX5_at yX5_at, Cond.code yX5_at cX5_at 2 (some .int), Cond.methodLink RX5 137 yX5_standing, Cond.instanceMethod yX5_standing, Cond.selects RX5 yX5_standing yX5_standing, Cond.code yX5_standing cX5_standing 5 (some .int), Cond.fieldLink RX5 37 "VariantMillModel" "plays" "[I", Cond.fieldLink RX5 22 "VariantMillModel" "holes" "[I", Cond.fieldLink RX5 34 "VariantMillModel" "variant" "[I", Cond.methodLink RX5 111 yX5_moves]
def wsX5_valueAt_r2 : List Cond := [Cond.instanceMethod yX5_moves, Cond.selects RX5 yX5_moves yX5_moves, Cond.code yX5_moves cX5_moves 8 (some .boolean), Cond.methodLink RX5 95 yX5_goes, Cond.instanceMethod yX5_goes, Cond.selects RX5 yX5_goes yX5_goes, Cond.code yX5_goes cX5_goes 9 (some .int), Cond.fieldLink RX5 76 "VariantMillModel" "cards" "I", Cond.methodLink RX5 91 yX5_by, Cond.instanceMethod yX5_by, Cond.selects RX5 yX5_by yX5_by, Cond.code yX5_by cX5_by 15 (some .int), Cond.fieldLink RX5 13 "VariantMillModel" "dx" "[I", Cond.fieldLink RX5 16 "VariantMillModel" "dy" "[I", Cond.fieldLink RX5 19 "VariantMillModel" "reach" "[I", Cond.fieldLink RX5 7 "VariantMillModel" "kind" "[I", Cond.methodLink RX5 68 yX5_in, Cond.static yX5_in, Cond.code yX5_in cX5_in 3 (some .boolean), Cond.methodLink RX5 98 yX5_size, Cond.static yX5_size, Cond.code yX5_size cX5_size 3 (some .int), Cond.methodLink RX5 141 yX5_onward, Cond.instanceMethod yX5_onward]
def wsX5_valueAt_r3 : List Cond := [Cond.selects RX5 yX5_onward yX5_onward, Cond.code yX5_onward cX5_onward 10 (some .int), Cond.methodLink RX5 144 yX5_farther, Cond.instanceMethod yX5_farther, Cond.selects RX5 yX5_farther yX5_farther, Cond.code yX5_farther cX5_farther 10 (some .int)]
def wsX5_valueAt : List Cond := .code yX5_valueAt cX5_valueAt 6 (some .int) :: ((wsX5_valueAt_r1 ++ (wsX5_valueAt_r2 ++ wsX5_valueAt_r3)) ++ wsX50)
def wsX5_asksValue_r1 : List Cond := [Cond.methodLink RX5 125 yX5_isGame, Cond.instanceMethod yX5_isGame, Cond.selects RX5 yX5_isGame yX5_isGame, Cond.initialized RX5, Cond.code yX5_isGame cX5_isGame 2 (some .boolean), Cond.fieldLink RX5 65 "VariantMillModel" "games" "I", Cond.methodLink RX5 72 yX5_asks, Cond.instanceMethod yX5_asks, Cond.selects RX5 yX5_asks yX5_asks, Cond.code yX5_asks cX5_asks 2 (some .boolean), Cond.fieldLink RX5 58 "VariantMillModel" "thrown" "I", Cond.methodLink RX5 68 yX5_in, Cond.static yX5_in, Cond.code yX5_in cX5_in 3 (some .boolean), Cond.methodLink RX5 147 yX5_valueAt, Cond.instanceMethod yX5_valueAt, Cond.selects RX5 yX5_valueAt yX5_valueAt, Cond.code yX5_valueAt cX5_valueAt 6 (some .int), Cond.methodLink RX5 121 yX5_piecesOf, Cond.instanceMethod yX5_piecesOf, Cond.selects RX5 yX5_piecesOf yX5_piecesOf, Cond.code yX5_piecesOf cX5_piecesOf 3 (some .int), Cond.fieldLink RX5 55 "VariantMillModel" "others" "[I", Cond.fieldLink RX5 52 "VariantMillModel" "ones" "[I"]
def wsX5_asksValue_r2 : List Cond := [Cond.methodLink RX5 115 yX5_isSecondsTurn, Cond.instanceMethod yX5_isSecondsTurn, Cond.selects RX5 yX5_isSecondsTurn yX5_isSecondsTurn, Cond.code yX5_isSecondsTurn cX5_isSecondsTurn 2 (some .boolean), Cond.fieldLink RX5 49 "VariantMillModel" "made" "[I", Cond.methodLink RX5 118 yX5_at, Cond.instanceMethod yX5_at, Cond.selects RX5 yX5_at yX5_at, Cond.code yX5_at cX5_at 2 (some .int), Cond.methodLink RX5 137 yX5_standing, Cond.instanceMethod yX5_standing, Cond.selects RX5 yX5_standing yX5_standing, Cond.code yX5_standing cX5_standing 5 (some .int), Cond.fieldLink RX5 37 "VariantMillModel" "plays" "[I", Cond.fieldLink RX5 22 "VariantMillModel" "holes" "[I", Cond.fieldLink RX5 34 "VariantMillModel" "variant" "[I", Cond.methodLink RX5 111 yX5_moves, Cond.instanceMethod yX5_moves, Cond.selects RX5 yX5_moves yX5_moves, Cond.code yX5_moves cX5_moves 8 (some .boolean), Cond.methodLink RX5 95 yX5_goes, Cond.instanceMethod yX5_goes, Cond.selects RX5 yX5_goes yX5_goes, Cond.code yX5_goes cX5_goes 9 (some .int)]
def wsX5_asksValue_r3 : List Cond := [Cond.fieldLink RX5 76 "VariantMillModel" "cards" "I", Cond.methodLink RX5 91 yX5_by, Cond.instanceMethod yX5_by, Cond.selects RX5 yX5_by yX5_by, Cond.code yX5_by cX5_by 15 (some .int), Cond.fieldLink RX5 13 "VariantMillModel" "dx" "[I", Cond.fieldLink RX5 16 "VariantMillModel" "dy" "[I", Cond.fieldLink RX5 19 "VariantMillModel" "reach" "[I", Cond.fieldLink RX5 7 "VariantMillModel" "kind" "[I", Cond.methodLink RX5 98 yX5_size, Cond.static yX5_size, Cond.code yX5_size cX5_size 3 (some .int), Cond.methodLink RX5 141 yX5_onward, Cond.instanceMethod yX5_onward, Cond.selects RX5 yX5_onward yX5_onward, Cond.code yX5_onward cX5_onward 10 (some .int), Cond.methodLink RX5 144 yX5_farther, Cond.instanceMethod yX5_farther, Cond.selects RX5 yX5_farther yX5_farther, Cond.code yX5_farther cX5_farther 10 (some .int), Cond.methodLink RX5 79 yX5_fails, Cond.instanceMethod yX5_fails, Cond.selects RX5 yX5_fails yX5_fails, Cond.code yX5_fails cX5_fails 2 (some .int)]
def wsX5_asksValue : List Cond := .code yX5_asksValue cX5_asksValue 3 (some .int) :: ((wsX5_asksValue_r1 ++ (wsX5_asksValue_r2 ++ wsX5_asksValue_r3)) ++ wsX50)
def wsX5_value_r1 : List Cond := [Cond.methodLink RX5 151 yX5_asksValue, Cond.instanceMethod yX5_asksValue, Cond.selects RX5 yX5_asksValue yX5_asksValue, Cond.initialized RX5, Cond.code yX5_asksValue cX5_asksValue 3 (some .int), Cond.methodLink RX5 125 yX5_isGame, Cond.instanceMethod yX5_isGame, Cond.selects RX5 yX5_isGame yX5_isGame, Cond.code yX5_isGame cX5_isGame 2 (some .boolean), Cond.fieldLink RX5 65 "VariantMillModel" "games" "I", Cond.methodLink RX5 72 yX5_asks, Cond.instanceMethod yX5_asks, Cond.selects RX5 yX5_asks yX5_asks, Cond.code yX5_asks cX5_asks 2 (some .boolean), Cond.fieldLink RX5 58 "VariantMillModel" "thrown" "I", Cond.methodLink RX5 68 yX5_in, Cond.static yX5_in, Cond.code yX5_in cX5_in 3 (some .boolean), Cond.methodLink RX5 147 yX5_valueAt, Cond.instanceMethod yX5_valueAt, Cond.selects RX5 yX5_valueAt yX5_valueAt, Cond.code yX5_valueAt cX5_valueAt 6 (some .int), Cond.methodLink RX5 121 yX5_piecesOf, Cond.instanceMethod yX5_piecesOf]
def wsX5_value_r2 : List Cond := [Cond.selects RX5 yX5_piecesOf yX5_piecesOf, Cond.code yX5_piecesOf cX5_piecesOf 3 (some .int), Cond.fieldLink RX5 55 "VariantMillModel" "others" "[I", Cond.fieldLink RX5 52 "VariantMillModel" "ones" "[I", Cond.methodLink RX5 115 yX5_isSecondsTurn, Cond.instanceMethod yX5_isSecondsTurn, Cond.selects RX5 yX5_isSecondsTurn yX5_isSecondsTurn, Cond.code yX5_isSecondsTurn cX5_isSecondsTurn 2 (some .boolean), Cond.fieldLink RX5 49 "VariantMillModel" "made" "[I", Cond.methodLink RX5 118 yX5_at, Cond.instanceMethod yX5_at, Cond.selects RX5 yX5_at yX5_at, Cond.code yX5_at cX5_at 2 (some .int), Cond.methodLink RX5 137 yX5_standing, Cond.instanceMethod yX5_standing, Cond.selects RX5 yX5_standing yX5_standing, Cond.code yX5_standing cX5_standing 5 (some .int), Cond.fieldLink RX5 37 "VariantMillModel" "plays" "[I", Cond.fieldLink RX5 22 "VariantMillModel" "holes" "[I", Cond.fieldLink RX5 34 "VariantMillModel" "variant" "[I", Cond.methodLink RX5 111 yX5_moves, Cond.instanceMethod yX5_moves, Cond.selects RX5 yX5_moves yX5_moves, Cond.code yX5_moves cX5_moves 8 (some .boolean)]
def wsX5_value_r3 : List Cond := [Cond.methodLink RX5 95 yX5_goes, Cond.instanceMethod yX5_goes, Cond.selects RX5 yX5_goes yX5_goes, Cond.code yX5_goes cX5_goes 9 (some .int), Cond.fieldLink RX5 76 "VariantMillModel" "cards" "I", Cond.methodLink RX5 91 yX5_by, Cond.instanceMethod yX5_by, Cond.selects RX5 yX5_by yX5_by, Cond.code yX5_by cX5_by 15 (some .int), Cond.fieldLink RX5 13 "VariantMillModel" "dx" "[I", Cond.fieldLink RX5 16 "VariantMillModel" "dy" "[I", Cond.fieldLink RX5 19 "VariantMillModel" "reach" "[I", Cond.fieldLink RX5 7 "VariantMillModel" "kind" "[I", Cond.methodLink RX5 98 yX5_size, Cond.static yX5_size, Cond.code yX5_size cX5_size 3 (some .int), Cond.methodLink RX5 141 yX5_onward, Cond.instanceMethod yX5_onward, Cond.selects RX5 yX5_onward yX5_onward, Cond.code yX5_onward cX5_onward 10 (some .int), Cond.methodLink RX5 144 yX5_farther, Cond.instanceMethod yX5_farther, Cond.selects RX5 yX5_farther yX5_farther, Cond.code yX5_farther cX5_farther 10 (some .int)]
def wsX5_value_r4 : List Cond := [Cond.methodLink RX5 79 yX5_fails, Cond.instanceMethod yX5_fails, Cond.selects RX5 yX5_fails yX5_fails, Cond.code yX5_fails cX5_fails 2 (some .int)]
def wsX5_value : List Cond := .code yX5_value cX5_value 3 (some .int) :: ((wsX5_value_r1 ++ (wsX5_value_r2 ++ (wsX5_value_r3 ++ wsX5_value_r4))) ++ wsX50)
def wsX5_valueByAll_r1 : List Cond := [Cond.methodLink RX5 151 yX5_asksValue, Cond.instanceMethod yX5_asksValue, Cond.selects RX5 yX5_asksValue yX5_asksValue, Cond.initialized RX5, Cond.code yX5_asksValue cX5_asksValue 3 (some .int), Cond.methodLink RX5 125 yX5_isGame, Cond.instanceMethod yX5_isGame, Cond.selects RX5 yX5_isGame yX5_isGame, Cond.code yX5_isGame cX5_isGame 2 (some .boolean), Cond.fieldLink RX5 65 "VariantMillModel" "games" "I", Cond.methodLink RX5 72 yX5_asks, Cond.instanceMethod yX5_asks, Cond.selects RX5 yX5_asks yX5_asks, Cond.code yX5_asks cX5_asks 2 (some .boolean), Cond.fieldLink RX5 58 "VariantMillModel" "thrown" "I", Cond.methodLink RX5 68 yX5_in, Cond.static yX5_in, Cond.code yX5_in cX5_in 3 (some .boolean), Cond.methodLink RX5 147 yX5_valueAt, Cond.instanceMethod yX5_valueAt, Cond.selects RX5 yX5_valueAt yX5_valueAt, Cond.code yX5_valueAt cX5_valueAt 6 (some .int), Cond.methodLink RX5 121 yX5_piecesOf, Cond.instanceMethod yX5_piecesOf]
def wsX5_valueByAll_r2 : List Cond := [Cond.selects RX5 yX5_piecesOf yX5_piecesOf, Cond.code yX5_piecesOf cX5_piecesOf 3 (some .int), Cond.fieldLink RX5 55 "VariantMillModel" "others" "[I", Cond.fieldLink RX5 52 "VariantMillModel" "ones" "[I", Cond.methodLink RX5 115 yX5_isSecondsTurn, Cond.instanceMethod yX5_isSecondsTurn, Cond.selects RX5 yX5_isSecondsTurn yX5_isSecondsTurn, Cond.code yX5_isSecondsTurn cX5_isSecondsTurn 2 (some .boolean), Cond.fieldLink RX5 49 "VariantMillModel" "made" "[I", Cond.methodLink RX5 118 yX5_at, Cond.instanceMethod yX5_at, Cond.selects RX5 yX5_at yX5_at, Cond.code yX5_at cX5_at 2 (some .int), Cond.methodLink RX5 137 yX5_standing, Cond.instanceMethod yX5_standing, Cond.selects RX5 yX5_standing yX5_standing, Cond.code yX5_standing cX5_standing 5 (some .int), Cond.fieldLink RX5 37 "VariantMillModel" "plays" "[I", Cond.fieldLink RX5 22 "VariantMillModel" "holes" "[I", Cond.fieldLink RX5 34 "VariantMillModel" "variant" "[I", Cond.methodLink RX5 111 yX5_moves, Cond.instanceMethod yX5_moves, Cond.selects RX5 yX5_moves yX5_moves, Cond.code yX5_moves cX5_moves 8 (some .boolean)]
def wsX5_valueByAll_r3 : List Cond := [Cond.methodLink RX5 95 yX5_goes, Cond.instanceMethod yX5_goes, Cond.selects RX5 yX5_goes yX5_goes, Cond.code yX5_goes cX5_goes 9 (some .int), Cond.fieldLink RX5 76 "VariantMillModel" "cards" "I", Cond.methodLink RX5 91 yX5_by, Cond.instanceMethod yX5_by, Cond.selects RX5 yX5_by yX5_by, Cond.code yX5_by cX5_by 15 (some .int), Cond.fieldLink RX5 13 "VariantMillModel" "dx" "[I", Cond.fieldLink RX5 16 "VariantMillModel" "dy" "[I", Cond.fieldLink RX5 19 "VariantMillModel" "reach" "[I", Cond.fieldLink RX5 7 "VariantMillModel" "kind" "[I", Cond.methodLink RX5 98 yX5_size, Cond.static yX5_size, Cond.code yX5_size cX5_size 3 (some .int), Cond.methodLink RX5 141 yX5_onward, Cond.instanceMethod yX5_onward, Cond.selects RX5 yX5_onward yX5_onward, Cond.code yX5_onward cX5_onward 10 (some .int), Cond.methodLink RX5 144 yX5_farther, Cond.instanceMethod yX5_farther, Cond.selects RX5 yX5_farther yX5_farther, Cond.code yX5_farther cX5_farther 10 (some .int)]
def wsX5_valueByAll_r4 : List Cond := [Cond.methodLink RX5 79 yX5_fails, Cond.instanceMethod yX5_fails, Cond.selects RX5 yX5_fails yX5_fails, Cond.code yX5_fails cX5_fails 2 (some .int)]
def wsX5_valueByAll : List Cond := .code yX5_valueByAll cX5_valueByAll 3 (some .int) :: ((wsX5_valueByAll_r1 ++ (wsX5_valueByAll_r2 ++ (wsX5_valueByAll_r3 ++ wsX5_valueByAll_r4))) ++ wsX50)
def wsX5_vote : List Cond := .code yX5_vote cX5_vote 3 (some .int) :: ([.fieldLink RX5 28 "VariantMillModel" "votes" "[I", .methodLink RX5 101 yX5_isPlayer, .static yX5_isPlayer, .initialized RX5, .code yX5_isPlayer cX5_isPlayer 1 (some .boolean), .methodLink RX5 88 yX5_isVariant, .instanceMethod yX5_isVariant, .selects RX5 yX5_isVariant yX5_isVariant, .code yX5_isVariant cX5_isVariant 2 (some .boolean), .fieldLink RX5 62 "VariantMillModel" "variants" "I", .methodLink RX5 72 yX5_asks, .instanceMethod yX5_asks, .selects RX5 yX5_asks yX5_asks, .code yX5_asks cX5_asks 2 (some .boolean), .fieldLink RX5 58 "VariantMillModel" "thrown" "I", .methodLink RX5 98 yX5_size, .static yX5_size, .code yX5_size cX5_size 3 (some .int)] ++ wsX50)
def wsX5_isBanned : List Cond := .code yX5_isBanned cX5_isBanned 2 (some .boolean) :: ([.methodLink RX5 88 yX5_isVariant, .instanceMethod yX5_isVariant, .selects RX5 yX5_isVariant yX5_isVariant, .initialized RX5, .code yX5_isVariant cX5_isVariant 2 (some .boolean), .fieldLink RX5 62 "VariantMillModel" "variants" "I", .methodLink RX5 72 yX5_asks, .instanceMethod yX5_asks, .selects RX5 yX5_asks yX5_asks, .code yX5_asks cX5_asks 2 (some .boolean), .fieldLink RX5 58 "VariantMillModel" "thrown" "I", .methodLink RX5 108 yX5_isBannedNow, .instanceMethod yX5_isBannedNow, .selects RX5 yX5_isBannedNow yX5_isBannedNow, .code yX5_isBannedNow cX5_isBannedNow 4 (some .boolean), .fieldLink RX5 28 "VariantMillModel" "votes" "[I", .fieldLink RX5 31 "VariantMillModel" "endless" "[I"] ++ wsX50)
def wsX5_endless : List Cond := .code yX5_endless cX5_endless 2 (some .int) :: ([.fieldLink RX5 31 "VariantMillModel" "endless" "[I", .methodLink RX5 88 yX5_isVariant, .instanceMethod yX5_isVariant, .selects RX5 yX5_isVariant yX5_isVariant, .initialized RX5, .code yX5_isVariant cX5_isVariant 2 (some .boolean), .fieldLink RX5 62 "VariantMillModel" "variants" "I", .methodLink RX5 72 yX5_asks, .instanceMethod yX5_asks, .selects RX5 yX5_asks yX5_asks, .code yX5_asks cX5_asks 2 (some .boolean), .fieldLink RX5 58 "VariantMillModel" "thrown" "I"] ++ wsX50)
def wsX5_points_r1 : List Cond := [Cond.fieldLink RX5 65 "VariantMillModel" "games" "I", Cond.fieldLink RX5 46 "VariantMillModel" "state" "[I", Cond.fieldLink RX5 40 "VariantMillModel" "first" "[I", Cond.fieldLink RX5 43 "VariantMillModel" "second" "[I", Cond.fieldLink RX5 34 "VariantMillModel" "variant" "[I", Cond.methodLink RX5 101 yX5_isPlayer, Cond.static yX5_isPlayer, Cond.initialized RX5, Cond.code yX5_isPlayer cX5_isPlayer 1 (some .boolean), Cond.methodLink RX5 88 yX5_isVariant, Cond.instanceMethod yX5_isVariant, Cond.selects RX5 yX5_isVariant yX5_isVariant, Cond.code yX5_isVariant cX5_isVariant 2 (some .boolean), Cond.fieldLink RX5 62 "VariantMillModel" "variants" "I", Cond.methodLink RX5 72 yX5_asks, Cond.instanceMethod yX5_asks, Cond.selects RX5 yX5_asks yX5_asks, Cond.code yX5_asks cX5_asks 2 (some .boolean), Cond.fieldLink RX5 58 "VariantMillModel" "thrown" "I", Cond.methodLink RX5 108 yX5_isBannedNow, Cond.instanceMethod yX5_isBannedNow, Cond.selects RX5 yX5_isBannedNow yX5_isBannedNow, Cond.code yX5_isBannedNow cX5_isBannedNow 4 (some .boolean), Cond.fieldLink RX5 28 "VariantMillModel" "votes" "[I"]
def wsX5_points_r2 : List Cond := [Cond.fieldLink RX5 31 "VariantMillModel" "endless" "[I"]
def wsX5_points : List Cond := .code yX5_points cX5_points 7 (some .int) :: ((wsX5_points_r1 ++ wsX5_points_r2) ++ wsX50)
def wsJ9_max_7cf53 : List Cond := .code yJ9_max_7cf53 cJ9_max_7cf53 2 (some .int) :: ([])
def wsL_card_r1 : List Cond := [Cond.classLink RL 13 "java/lang/IllegalArgumentException", Cond.classLink RL 15 "java/lang/IllegalStateException", Cond.methodLink RL 7 yX4_card, Cond.instanceMethod yX4_card, Cond.selects RX4 yX4_card yX4_card, Cond.initialized RX4, Cond.code yX4_card cX4_card 6 (some .int), Cond.classLink RX4 31 "java/lang/IllegalArgumentException", Cond.initialized "java/lang/IllegalArgumentException", Cond.classLink RX4 42 "java/lang/IllegalStateException", Cond.initialized "java/lang/IllegalStateException", Cond.fieldLink RX4 38 "VariantMill" "cardCount" "I", Cond.fieldLink RX4 11 "VariantMill" "cardTable" "[LVariantMill$Card;", Cond.classLink RX4 9 RX0, Cond.instantiable RX0 4, Cond.initialized RX0, Cond.methodLink RX4 27 yX4_isStep, Cond.static yX4_isStep, Cond.code yX4_isStep cX4_isStep 3 (some .boolean), Cond.methodLink RX4 47 yX0_init, Cond.instanceMethod yX0_init, Cond.code yX0_init cX0_init 5 none, Cond.methodLink RX0 3 objectInit, Cond.instanceMethod objectInit]
def wsL_card_r2 : List Cond := [Cond.code objectInit ⟨#[0xb1]⟩ 1 none, Cond.fieldLink RX0 9 "VariantMill$Card" "kind" "I", Cond.fieldLink RX0 15 "VariantMill$Card" "dx" "I", Cond.fieldLink RX0 18 "VariantMill$Card" "dy" "I", Cond.fieldLink RX0 21 "VariantMill$Card" "reach" "I"]
def wsL_card : List Cond := .codeWith yL_card cL_card 7 (some .int) [(0, 14, 17, 13), (0, 14, 21, 15)] :: ((wsL_card_r1 ++ wsL_card_r2) ++ wsX40 ++ wsX00 ++ (vx_atS RX4 35 "java/lang/IllegalArgumentException" ["java/lang/RuntimeException", "java/lang/Exception"]).filter goodWord ++ (vx_atS RX4 46 "java/lang/IllegalStateException" ["java/lang/RuntimeException", "java/lang/Exception"]).filter goodWord)
def wsL_variant_r1 : List Cond := [Cond.classLink RL 13 "java/lang/IllegalArgumentException", Cond.classLink RL 15 "java/lang/IllegalStateException", Cond.methodLink RL 17 yX4_variant, Cond.instanceMethod yX4_variant, Cond.selects RX4 yX4_variant yX4_variant, Cond.initialized RX4, Cond.code yX4_variant cX4_variant 4 (some .int), Cond.classLink RX4 31 "java/lang/IllegalArgumentException", Cond.initialized "java/lang/IllegalArgumentException", Cond.classLink RX4 42 "java/lang/IllegalStateException", Cond.initialized "java/lang/IllegalStateException", Cond.constant RX4 50 (33554431), Cond.fieldLink RX4 57 "VariantMill" "variantCount" "I", Cond.fieldLink RX4 17 "VariantMill" "variants" "[LVariantMill$Variant;", Cond.classLink RX4 15 RX3, Cond.instantiable RX3 3, Cond.initialized RX3, Cond.classLink RX4 62 RX2, Cond.instantiable RX2 3, Cond.initialized RX2, Cond.fieldLink RX4 11 "VariantMill" "cardTable" "[LVariantMill$Card;", Cond.methodLink RX4 51 yX4_isSetOfCards, Cond.instanceMethod yX4_isSetOfCards, Cond.selects RX4 yX4_isSetOfCards yX4_isSetOfCards]
def wsL_variant_r2 : List Cond := [Cond.code yX4_isSetOfCards cX4_isSetOfCards 2 (some .boolean), Cond.fieldLink RX4 38 "VariantMill" "cardCount" "I", Cond.methodLink RX4 64 yX2_init, Cond.instanceMethod yX2_init, Cond.code yX2_init cX2_init 4 none, Cond.methodLink RX2 3 objectInit, Cond.instanceMethod objectInit, Cond.code objectInit ⟨#[0xb1]⟩ 1 none, Cond.fieldLink RX2 9 "VariantMill$Rules" "table" "[LVariantMill$Card;", Cond.fieldLink RX2 15 "VariantMill$Rules" "cards" "I", Cond.fieldLink RX2 19 "VariantMill$Rules" "holes" "I", Cond.methodLink RX4 67 yX3_init, Cond.instanceMethod yX3_init, Cond.code yX3_init cX3_init 2 none, Cond.methodLink RX3 3 objectInit, Cond.fieldLink RX3 9 "VariantMill$Variant" "rules" "LVariantMill$Rules;"]
def wsL_variant : List Cond := .codeWith yL_variant cL_variant 5 (some .int) [(0, 10, 13, 13), (0, 10, 17, 15)] :: ((wsL_variant_r1 ++ wsL_variant_r2) ++ wsX40 ++ wsX30 ++ wsX20 ++ (vx_atS RX4 35 "java/lang/IllegalArgumentException" ["java/lang/RuntimeException", "java/lang/Exception"]).filter goodWord ++ (vx_atS RX4 46 "java/lang/IllegalStateException" ["java/lang/RuntimeException", "java/lang/Exception"]).filter goodWord)
def wsL_setCards_r1 : List Cond := [Cond.classLink RL 24 "java/lang/IndexOutOfBoundsException", Cond.classLink RL 13 "java/lang/IllegalArgumentException", Cond.methodLink RL 21 yX4_setCards, Cond.instanceMethod yX4_setCards, Cond.selects RX4 yX4_setCards yX4_setCards, Cond.initialized RX4, Cond.code yX4_setCards cX4_setCards 5 (some .int), Cond.classLink RX4 31 "java/lang/IllegalArgumentException", Cond.initialized "java/lang/IllegalArgumentException", Cond.fieldLink RX4 76 "VariantMill$Variant" "rules" "LVariantMill$Rules;", Cond.classLink RX4 62 RX2, Cond.instantiable RX2 3, Cond.initialized RX2, Cond.fieldLink RX4 11 "VariantMill" "cardTable" "[LVariantMill$Card;", Cond.fieldLink RX4 80 "VariantMill$Rules" "holes" "I", Cond.fieldLink RX4 83 "VariantMill$Rules" "cards" "I", Cond.methodLink RX4 70 yX4_variantAt, Cond.instanceMethod yX4_variantAt, Cond.selects RX4 yX4_variantAt yX4_variantAt, Cond.code yX4_variantAt cX4_variantAt 3 (some (.object "VariantMill$Variant")), Cond.classLink RX4 187 "java/lang/IndexOutOfBoundsException", Cond.initialized "java/lang/IndexOutOfBoundsException", Cond.fieldLink RX4 17 "VariantMill" "variants" "[LVariantMill$Variant;", Cond.methodLink RX4 51 yX4_isSetOfCards]
def wsL_setCards_r2 : List Cond := [Cond.instanceMethod yX4_isSetOfCards, Cond.selects RX4 yX4_isSetOfCards yX4_isSetOfCards, Cond.code yX4_isSetOfCards cX4_isSetOfCards 2 (some .boolean), Cond.fieldLink RX4 38 "VariantMill" "cardCount" "I", Cond.methodLink RX4 64 yX2_init, Cond.instanceMethod yX2_init, Cond.code yX2_init cX2_init 4 none, Cond.methodLink RX2 3 objectInit, Cond.instanceMethod objectInit, Cond.code objectInit ⟨#[0xb1]⟩ 1 none, Cond.fieldLink RX2 9 "VariantMill$Rules" "table" "[LVariantMill$Card;", Cond.fieldLink RX2 15 "VariantMill$Rules" "cards" "I", Cond.fieldLink RX2 19 "VariantMill$Rules" "holes" "I"]
def wsL_setCards : List Cond := .codeWith yL_setCards cL_setCards 5 (some .int) [(0, 10, 13, 24), (0, 10, 17, 13)] :: ((wsL_setCards_r1 ++ wsL_setCards_r2) ++ wsX30 ++ wsX20 ++ wsX40 ++ (vx_atS RX4 35 "java/lang/IllegalArgumentException" ["java/lang/RuntimeException", "java/lang/Exception"]).filter goodWord ++ (vx_atS RX4 191 "java/lang/IndexOutOfBoundsException" ["java/lang/RuntimeException", "java/lang/Exception"]).filter goodWord)
def wsL_begin_r1 : List Cond := [Cond.classLink RL 24 "java/lang/IndexOutOfBoundsException", Cond.classLink RL 13 "java/lang/IllegalArgumentException", Cond.classLink RL 15 "java/lang/IllegalStateException", Cond.methodLink RL 26 yX4_begin, Cond.instanceMethod yX4_begin, Cond.selects RX4 yX4_begin yX4_begin, Cond.initialized RX4, Cond.code yX4_begin cX4_begin 9 (some .int), Cond.classLink RX4 31 "java/lang/IllegalArgumentException", Cond.initialized "java/lang/IllegalArgumentException", Cond.classLink RX4 42 "java/lang/IllegalStateException", Cond.initialized "java/lang/IllegalStateException", Cond.fieldLink RX4 76 "VariantMill$Variant" "rules" "LVariantMill$Rules;", Cond.fieldLink RX4 99 "VariantMill" "gameCount" "I", Cond.fieldLink RX4 23 "VariantMill" "games" "[LVariantMill$Game;", Cond.classLink RX4 21 RX1, Cond.instantiable RX1 9, Cond.initialized RX1, Cond.methodLink RX4 70 yX4_variantAt, Cond.instanceMethod yX4_variantAt, Cond.selects RX4 yX4_variantAt yX4_variantAt, Cond.code yX4_variantAt cX4_variantAt 3 (some (.object "VariantMill$Variant")), Cond.classLink RX4 187 "java/lang/IndexOutOfBoundsException", Cond.initialized "java/lang/IndexOutOfBoundsException"]
def wsL_begin_r2 : List Cond := [Cond.fieldLink RX4 17 "VariantMill" "variants" "[LVariantMill$Variant;", Cond.methodLink RX4 86 yX4_checkPlayer, Cond.static yX4_checkPlayer, Cond.code yX4_checkPlayer cX4_checkPlayer 1 none, Cond.methodLink RX4 90 yX2_canHold, Cond.instanceMethod yX2_canHold, Cond.selects RX2 yX2_canHold yX2_canHold, Cond.initialized RX2, Cond.code yX2_canHold cX2_canHold 2 (some .boolean), Cond.constant RX2 22 (33554431), Cond.fieldLink RX2 19 "VariantMill$Rules" "holes" "I", Cond.methodLink RX2 23 yJ6_bitCount_0f7a4, Cond.static yJ6_bitCount_0f7a4, Cond.initialized RJ6, Cond.code yJ6_bitCount_0f7a4 cJ6_bitCount_0f7a4 1 (some .int), Cond.constant RJ6 265 (1431655765), Cond.constant RJ6 266 (858993459), Cond.constant RJ6 267 (252645135), Cond.methodLink RX4 95 yX3_isOut, Cond.instanceMethod yX3_isOut, Cond.selects RX3 yX3_isOut yX3_isOut, Cond.initialized RX3, Cond.code yX3_isOut cX3_isOut 1 (some .boolean), Cond.fieldLink RX3 15 "VariantMill$Variant" "voters" "I"]
def wsL_begin_r3 : List Cond := [Cond.fieldLink RX3 25 "VariantMill$Variant" "endlessGames" "I", Cond.methodLink RX3 19 yJ6_bitCount_0f7a4, Cond.methodLink RX4 102 yX2_hasMove, Cond.instanceMethod yX2_hasMove, Cond.selects RX2 yX2_hasMove yX2_hasMove, Cond.code yX2_hasMove cX2_hasMove 5 (some .boolean), Cond.methodLink RX2 39 yX2_endsFrom, Cond.instanceMethod yX2_endsFrom, Cond.selects RX2 yX2_endsFrom yX2_endsFrom, Cond.code yX2_endsFrom cX2_endsFrom 8 (some .int), Cond.fieldLink RX2 9 "VariantMill$Rules" "table" "[LVariantMill$Card;", Cond.fieldLink RX2 15 "VariantMill$Rules" "cards" "I", Cond.static yX4_isIn, Cond.code yX4_isIn cX4_isIn 2 (some .boolean), Cond.methodLink RX2 33 yX0_endsFrom, Cond.instanceMethod yX0_endsFrom, Cond.selects RX0 yX0_endsFrom yX0_endsFrom, Cond.initialized RX0, Cond.code yX0_endsFrom cX0_endsFrom 10 (some .int), Cond.fieldLink RX0 9 "VariantMill$Card" "kind" "I", Cond.fieldLink RX0 21 "VariantMill$Card" "reach" "I", Cond.fieldLink RX0 15 "VariantMill$Card" "dx" "I", Cond.methodLink RX0 24 yX0_rows, Cond.instanceMethod yX0_rows]
def wsL_begin_r4 : List Cond := [Cond.selects RX0 yX0_rows yX0_rows, Cond.code yX0_rows cX0_rows 2 (some .int), Cond.fieldLink RX0 18 "VariantMill$Card" "dy" "I", Cond.static yX4_cellAhead, Cond.code yX4_cellAhead cX4_cellAhead 6 (some .int), Cond.methodLink RX4 108 yX1_init, Cond.instanceMethod yX1_init, Cond.code yX1_init cX1_init 6 none, Cond.methodLink RX1 3 objectInit, Cond.instanceMethod objectInit, Cond.code objectInit ⟨#[0xb1]⟩ 1 none, Cond.fieldLink RX1 9 "VariantMill$Game" "variant" "LVariantMill$Variant;", Cond.fieldLink RX1 15 "VariantMill$Variant" "rules" "LVariantMill$Rules;", Cond.fieldLink RX1 21 "VariantMill$Game" "rules" "LVariantMill$Rules;", Cond.fieldLink RX1 22 "VariantMill$Game" "first" "I", Cond.fieldLink RX1 26 "VariantMill$Game" "second" "I", Cond.fieldLink RX1 29 "VariantMill$Game" "ofFirst" "I", Cond.fieldLink RX1 32 "VariantMill$Game" "ofSecond" "I", Cond.fieldLink RX1 35 "VariantMill$Game" "state" "I", Cond.arrayClass .long, Cond.fieldLink RX1 38 "VariantMill$Game" "seen" "[J", Cond.methodLink RX1 42 yX1_placing, Cond.static yX1_placing, Cond.code yX1_placing cX1_placing 5 (some .long)]
def wsL_begin : List Cond := .codeWith yL_begin cL_begin 8 (some .int) [(0, 16, 19, 24), (0, 16, 23, 13), (0, 16, 27, 15)] :: ((wsL_begin_r1 ++ (wsL_begin_r2 ++ (wsL_begin_r3 ++ wsL_begin_r4))) ++ wsX30 ++ wsX40 ++ wsX10 ++ wsX20 ++ wsX00 ++ (vx_atS RX4 35 "java/lang/IllegalArgumentException" ["java/lang/RuntimeException", "java/lang/Exception"]).filter goodWord ++ (vx_atS RX4 46 "java/lang/IllegalStateException" ["java/lang/RuntimeException", "java/lang/Exception"]).filter goodWord ++ (vx_atS RX4 191 "java/lang/IndexOutOfBoundsException" ["java/lang/RuntimeException", "java/lang/Exception"]).filter goodWord)
def wsL_can_r1 : List Cond := [Cond.classLink RL 24 "java/lang/IndexOutOfBoundsException", Cond.methodLink RL 30 yX4_can, Cond.instanceMethod yX4_can, Cond.selects RX4 yX4_can yX4_can, Cond.initialized RX4, Cond.code yX4_can cX4_can 5 (some .boolean), Cond.methodLink RX4 111 yX4_gameAt, Cond.instanceMethod yX4_gameAt, Cond.selects RX4 yX4_gameAt yX4_gameAt, Cond.code yX4_gameAt cX4_gameAt 3 (some (.object "VariantMill$Game")), Cond.classLink RX4 187 "java/lang/IndexOutOfBoundsException", Cond.initialized "java/lang/IndexOutOfBoundsException", Cond.fieldLink RX4 23 "VariantMill" "games" "[LVariantMill$Game;", Cond.methodLink RX4 115 yX4_checkCell, Cond.static yX4_checkCell, Cond.code yX4_checkCell cX4_checkCell 1 none, Cond.methodLink RX4 118 yX1_allows, Cond.instanceMethod yX1_allows, Cond.selects RX1 yX1_allows yX1_allows, Cond.initialized RX1, Cond.code yX1_allows cX1_allows 3 (some .boolean), Cond.fieldLink RX1 35 "VariantMill$Game" "state" "I", Cond.fieldLink RX1 21 "VariantMill$Game" "rules" "LVariantMill$Rules;", Cond.fieldLink RX1 29 "VariantMill$Game" "ofFirst" "I"]
def wsL_can_r2 : List Cond := [Cond.fieldLink RX1 32 "VariantMill$Game" "ofSecond" "I", Cond.methodLink RX1 53 yX1_ofMover, Cond.instanceMethod yX1_ofMover, Cond.selects RX1 yX1_ofMover yX1_ofMover, Cond.code yX1_ofMover cX1_ofMover 1 (some .int), Cond.methodLink RX1 49 yX1_isSecondToMove, Cond.instanceMethod yX1_isSecondToMove, Cond.selects RX1 yX1_isSecondToMove yX1_isSecondToMove, Cond.code yX1_isSecondToMove cX1_isSecondToMove 1 (some .boolean), Cond.fieldLink RX1 46 "VariantMill$Game" "made" "I", Cond.static yX4_isIn, Cond.code yX4_isIn cX4_isIn 2 (some .boolean), Cond.methodLink RX1 61 yX2_someCardLeads, Cond.instanceMethod yX2_someCardLeads, Cond.selects RX2 yX2_someCardLeads yX2_someCardLeads, Cond.initialized RX2, Cond.code yX2_someCardLeads cX2_someCardLeads 7 (some .boolean), Cond.fieldLink RX2 9 "VariantMill$Rules" "table" "[LVariantMill$Card;", Cond.fieldLink RX2 15 "VariantMill$Rules" "cards" "I", Cond.fieldLink RX2 19 "VariantMill$Rules" "holes" "I", Cond.methodLink RX2 40 yX0_leads, Cond.instanceMethod yX0_leads, Cond.selects RX0 yX0_leads yX0_leads, Cond.initialized RX0]
def wsL_can_r3 : List Cond := [Cond.code yX0_leads cX0_leads 10 (some .boolean), Cond.fieldLink RX0 21 "VariantMill$Card" "reach" "I", Cond.fieldLink RX0 15 "VariantMill$Card" "dx" "I", Cond.methodLink RX0 24 yX0_rows, Cond.instanceMethod yX0_rows, Cond.selects RX0 yX0_rows yX0_rows, Cond.code yX0_rows cX0_rows 2 (some .int), Cond.fieldLink RX0 18 "VariantMill$Card" "dy" "I", Cond.static yX4_cellAhead, Cond.code yX4_cellAhead cX4_cellAhead 6 (some .int), Cond.methodLink RX0 36 yX0_isRightPath, Cond.instanceMethod yX0_isRightPath, Cond.selects RX0 yX0_isRightPath yX0_isRightPath, Cond.code yX0_isRightPath cX0_isRightPath 5 (some .boolean), Cond.fieldLink RX0 9 "VariantMill$Card" "kind" "I"]
def wsL_can : List Cond := .codeWith yL_can cL_can 6 (some .int) [(0, 19, 22, 24)] :: ((wsL_can_r1 ++ (wsL_can_r2 ++ wsL_can_r3)) ++ wsX40 ++ wsX10 ++ wsX20 ++ wsX00 ++ (vx_atS RX4 191 "java/lang/IndexOutOfBoundsException" ["java/lang/RuntimeException", "java/lang/Exception"]).filter goodWord)
def wsL_canByAll_r1 : List Cond := [Cond.classLink RL 24 "java/lang/IndexOutOfBoundsException", Cond.methodLink RL 34 yX4_canByAll, Cond.instanceMethod yX4_canByAll, Cond.selects RX4 yX4_canByAll yX4_canByAll, Cond.initialized RX4, Cond.code yX4_canByAll cX4_canByAll 5 (some .boolean), Cond.fieldLink RX4 121 "VariantMill$Game" "state" "I", Cond.methodLink RX4 111 yX4_gameAt, Cond.instanceMethod yX4_gameAt, Cond.selects RX4 yX4_gameAt yX4_gameAt, Cond.code yX4_gameAt cX4_gameAt 3 (some (.object "VariantMill$Game")), Cond.classLink RX4 187 "java/lang/IndexOutOfBoundsException", Cond.initialized "java/lang/IndexOutOfBoundsException", Cond.fieldLink RX4 23 "VariantMill" "games" "[LVariantMill$Game;", Cond.methodLink RX4 115 yX4_checkCell, Cond.static yX4_checkCell, Cond.code yX4_checkCell cX4_checkCell 1 none, Cond.methodLink RX4 124 yX4_isAmongAllMoves, Cond.static yX4_isAmongAllMoves, Cond.code yX4_isAmongAllMoves cX4_isAmongAllMoves 7 (some .boolean), Cond.fieldLink RX4 153 "VariantMill$Game" "rules" "LVariantMill$Rules;", Cond.methodLink RX4 154 yX1_ofMover, Cond.instanceMethod yX1_ofMover, Cond.selects RX1 yX1_ofMover yX1_ofMover]
def wsL_canByAll_r2 : List Cond := [Cond.initialized RX1, Cond.code yX1_ofMover cX1_ofMover 1 (some .int), Cond.fieldLink RX1 32 "VariantMill$Game" "ofSecond" "I", Cond.fieldLink RX1 29 "VariantMill$Game" "ofFirst" "I", Cond.methodLink RX1 49 yX1_isSecondToMove, Cond.instanceMethod yX1_isSecondToMove, Cond.selects RX1 yX1_isSecondToMove yX1_isSecondToMove, Cond.code yX1_isSecondToMove cX1_isSecondToMove 1 (some .boolean), Cond.fieldLink RX1 46 "VariantMill$Game" "made" "I", Cond.methodLink RX4 158 yX1_ofWaiting, Cond.instanceMethod yX1_ofWaiting, Cond.selects RX1 yX1_ofWaiting yX1_ofWaiting, Cond.code yX1_ofWaiting cX1_ofWaiting 1 (some .int), Cond.methodLink RX4 161 yX1_isSecondToMove, Cond.methodLink RX4 200 yX2_endsFrom, Cond.instanceMethod yX2_endsFrom, Cond.selects RX2 yX2_endsFrom yX2_endsFrom, Cond.initialized RX2, Cond.code yX2_endsFrom cX2_endsFrom 8 (some .int), Cond.fieldLink RX2 9 "VariantMill$Rules" "table" "[LVariantMill$Card;", Cond.fieldLink RX2 15 "VariantMill$Rules" "cards" "I", Cond.fieldLink RX2 19 "VariantMill$Rules" "holes" "I", Cond.static yX4_isIn, Cond.code yX4_isIn cX4_isIn 2 (some .boolean)]
def wsL_canByAll_r3 : List Cond := [Cond.methodLink RX2 33 yX0_endsFrom, Cond.instanceMethod yX0_endsFrom, Cond.selects RX0 yX0_endsFrom yX0_endsFrom, Cond.initialized RX0, Cond.code yX0_endsFrom cX0_endsFrom 10 (some .int), Cond.fieldLink RX0 9 "VariantMill$Card" "kind" "I", Cond.fieldLink RX0 21 "VariantMill$Card" "reach" "I", Cond.fieldLink RX0 15 "VariantMill$Card" "dx" "I", Cond.methodLink RX0 24 yX0_rows, Cond.instanceMethod yX0_rows, Cond.selects RX0 yX0_rows yX0_rows, Cond.code yX0_rows cX0_rows 2 (some .int), Cond.fieldLink RX0 18 "VariantMill$Card" "dy" "I", Cond.static yX4_cellAhead, Cond.code yX4_cellAhead cX4_cellAhead 6 (some .int), Cond.methodLink RX4 204 yX4_isIn]
def wsL_canByAll : List Cond := .codeWith yL_canByAll cL_canByAll 6 (some .int) [(0, 19, 22, 24)] :: ((wsL_canByAll_r1 ++ (wsL_canByAll_r2 ++ wsL_canByAll_r3)) ++ wsX10 ++ wsX40 ++ wsX20 ++ wsX00 ++ (vx_atS RX4 191 "java/lang/IndexOutOfBoundsException" ["java/lang/RuntimeException", "java/lang/Exception"]).filter goodWord)
def wsL_move_r1 : List Cond := [Cond.classLink RL 24 "java/lang/IndexOutOfBoundsException", Cond.classLink RL 15 "java/lang/IllegalStateException", Cond.methodLink RL 37 yX4_move, Cond.instanceMethod yX4_move, Cond.selects RX4 yX4_move yX4_move, Cond.initialized RX4, Cond.code yX4_move cX4_move 5 (some .int), Cond.classLink RX4 42 "java/lang/IllegalStateException", Cond.initialized "java/lang/IllegalStateException", Cond.fieldLink RX4 128 "VariantMill$Game" "variant" "LVariantMill$Variant;", Cond.fieldLink RX4 121 "VariantMill$Game" "state" "I", Cond.methodLink RX4 111 yX4_gameAt, Cond.instanceMethod yX4_gameAt, Cond.selects RX4 yX4_gameAt yX4_gameAt, Cond.code yX4_gameAt cX4_gameAt 3 (some (.object "VariantMill$Game")), Cond.classLink RX4 187 "java/lang/IndexOutOfBoundsException", Cond.initialized "java/lang/IndexOutOfBoundsException", Cond.fieldLink RX4 23 "VariantMill" "games" "[LVariantMill$Game;", Cond.methodLink RX4 115 yX4_checkCell, Cond.static yX4_checkCell, Cond.code yX4_checkCell cX4_checkCell 1 none, Cond.methodLink RX4 95 yX3_isOut, Cond.instanceMethod yX3_isOut, Cond.selects RX3 yX3_isOut yX3_isOut]
def wsL_move_r2 : List Cond := [Cond.initialized RX3, Cond.code yX3_isOut cX3_isOut 1 (some .boolean), Cond.fieldLink RX3 15 "VariantMill$Variant" "voters" "I", Cond.fieldLink RX3 25 "VariantMill$Variant" "endlessGames" "I", Cond.methodLink RX3 19 yJ6_bitCount_0f7a4, Cond.static yJ6_bitCount_0f7a4, Cond.initialized RJ6, Cond.code yJ6_bitCount_0f7a4 cJ6_bitCount_0f7a4 1 (some .int), Cond.constant RJ6 265 (1431655765), Cond.constant RJ6 266 (858993459), Cond.constant RJ6 267 (252645135), Cond.methodLink RX4 118 yX1_allows, Cond.instanceMethod yX1_allows, Cond.selects RX1 yX1_allows yX1_allows, Cond.initialized RX1, Cond.code yX1_allows cX1_allows 3 (some .boolean), Cond.fieldLink RX1 35 "VariantMill$Game" "state" "I", Cond.fieldLink RX1 21 "VariantMill$Game" "rules" "LVariantMill$Rules;", Cond.fieldLink RX1 29 "VariantMill$Game" "ofFirst" "I", Cond.fieldLink RX1 32 "VariantMill$Game" "ofSecond" "I", Cond.methodLink RX1 53 yX1_ofMover, Cond.instanceMethod yX1_ofMover, Cond.selects RX1 yX1_ofMover yX1_ofMover, Cond.code yX1_ofMover cX1_ofMover 1 (some .int)]
def wsL_move_r3 : List Cond := [Cond.methodLink RX1 49 yX1_isSecondToMove, Cond.instanceMethod yX1_isSecondToMove, Cond.selects RX1 yX1_isSecondToMove yX1_isSecondToMove, Cond.code yX1_isSecondToMove cX1_isSecondToMove 1 (some .boolean), Cond.fieldLink RX1 46 "VariantMill$Game" "made" "I", Cond.static yX4_isIn, Cond.code yX4_isIn cX4_isIn 2 (some .boolean), Cond.methodLink RX1 61 yX2_someCardLeads, Cond.instanceMethod yX2_someCardLeads, Cond.selects RX2 yX2_someCardLeads yX2_someCardLeads, Cond.initialized RX2, Cond.code yX2_someCardLeads cX2_someCardLeads 7 (some .boolean), Cond.fieldLink RX2 9 "VariantMill$Rules" "table" "[LVariantMill$Card;", Cond.fieldLink RX2 15 "VariantMill$Rules" "cards" "I", Cond.fieldLink RX2 19 "VariantMill$Rules" "holes" "I", Cond.methodLink RX2 40 yX0_leads, Cond.instanceMethod yX0_leads, Cond.selects RX0 yX0_leads yX0_leads, Cond.initialized RX0, Cond.code yX0_leads cX0_leads 10 (some .boolean), Cond.fieldLink RX0 21 "VariantMill$Card" "reach" "I", Cond.fieldLink RX0 15 "VariantMill$Card" "dx" "I", Cond.methodLink RX0 24 yX0_rows, Cond.instanceMethod yX0_rows]
def wsL_move_r4 : List Cond := [Cond.selects RX0 yX0_rows yX0_rows, Cond.code yX0_rows cX0_rows 2 (some .int), Cond.fieldLink RX0 18 "VariantMill$Card" "dy" "I", Cond.static yX4_cellAhead, Cond.code yX4_cellAhead cX4_cellAhead 6 (some .int), Cond.methodLink RX0 36 yX0_isRightPath, Cond.instanceMethod yX0_isRightPath, Cond.selects RX0 yX0_isRightPath yX0_isRightPath, Cond.code yX0_isRightPath cX0_isRightPath 5 (some .boolean), Cond.fieldLink RX0 9 "VariantMill$Card" "kind" "I", Cond.methodLink RX4 134 yX1_go, Cond.instanceMethod yX1_go, Cond.selects RX1 yX1_go yX1_go, Cond.code yX1_go cX1_go 5 none, Cond.fieldLink RX1 38 "VariantMill$Game" "seen" "[J", Cond.static yX4_moved, Cond.code yX4_moved cX4_moved 3 (some .int), Cond.methodLink RX1 71 yX1_ofWaiting, Cond.instanceMethod yX1_ofWaiting, Cond.selects RX1 yX1_ofWaiting yX1_ofWaiting, Cond.code yX1_ofWaiting cX1_ofWaiting 1 (some .int), Cond.methodLink RX1 42 yX1_placing, Cond.static yX1_placing, Cond.code yX1_placing cX1_placing 5 (some .long)]
def wsL_move_r5 : List Cond := [Cond.methodLink RX4 138 yX1_settle, Cond.instanceMethod yX1_settle, Cond.selects RX1 yX1_settle yX1_settle, Cond.code yX1_settle cX1_settle 1 none, Cond.fieldLink RX1 9 "VariantMill$Game" "variant" "LVariantMill$Variant;", Cond.fieldLink RX1 81 "VariantMill$Variant" "endlessGames" "I", Cond.methodLink RX1 74 yX2_hasMove, Cond.instanceMethod yX2_hasMove, Cond.selects RX2 yX2_hasMove yX2_hasMove, Cond.code yX2_hasMove cX2_hasMove 5 (some .boolean), Cond.methodLink RX2 39 yX2_endsFrom, Cond.instanceMethod yX2_endsFrom, Cond.selects RX2 yX2_endsFrom yX2_endsFrom, Cond.code yX2_endsFrom cX2_endsFrom 8 (some .int), Cond.methodLink RX2 33 yX0_endsFrom, Cond.instanceMethod yX0_endsFrom, Cond.selects RX0 yX0_endsFrom yX0_endsFrom, Cond.code yX0_endsFrom cX0_endsFrom 10 (some .int), Cond.methodLink RX1 78 yX1_timesSeen, Cond.instanceMethod yX1_timesSeen, Cond.selects RX1 yX1_timesSeen yX1_timesSeen, Cond.code yX1_timesSeen cX1_timesSeen 5 (some .int)]
def wsL_move : List Cond := .codeWith yL_move cL_move 6 (some .int) [(0, 12, 15, 24), (0, 12, 19, 15)] :: ((wsL_move_r1 ++ (wsL_move_r2 ++ (wsL_move_r3 ++ (wsL_move_r4 ++ wsL_move_r5)))) ++ wsX10 ++ wsX40 ++ wsX30 ++ wsX20 ++ wsX00 ++ (vx_atS RX4 46 "java/lang/IllegalStateException" ["java/lang/RuntimeException", "java/lang/Exception"]).filter goodWord ++ (vx_atS RX4 191 "java/lang/IndexOutOfBoundsException" ["java/lang/RuntimeException", "java/lang/Exception"]).filter goodWord)
def wsL_state : List Cond := .codeWith yL_state cL_state 4 (some .int) [(0, 9, 12, 24)] :: ([.classLink RL 24 "java/lang/IndexOutOfBoundsException", .methodLink RL 41 yX4_state, .instanceMethod yX4_state, .selects RX4 yX4_state yX4_state, .initialized RX4, .code yX4_state cX4_state 2 (some .int), .fieldLink RX4 121 "VariantMill$Game" "state" "I", .methodLink RX4 111 yX4_gameAt, .instanceMethod yX4_gameAt, .selects RX4 yX4_gameAt yX4_gameAt, .code yX4_gameAt cX4_gameAt 3 (some (.object "VariantMill$Game")), .classLink RX4 187 "java/lang/IndexOutOfBoundsException", .initialized "java/lang/IndexOutOfBoundsException", .fieldLink RX4 23 "VariantMill" "games" "[LVariantMill$Game;"] ++ wsX10 ++ wsX40 ++ (vx_atS RX4 191 "java/lang/IndexOutOfBoundsException" ["java/lang/RuntimeException", "java/lang/Exception"]).filter goodWord)
def wsL_pieces : List Cond := .codeWith yL_pieces cL_pieces 5 (some .int) [(0, 10, 13, 24)] :: ([.classLink RL 24 "java/lang/IndexOutOfBoundsException", .methodLink RL 45 yX4_pieces, .instanceMethod yX4_pieces, .selects RX4 yX4_pieces yX4_pieces, .initialized RX4, .code yX4_pieces cX4_pieces 4 (some .int), .fieldLink RX4 141 "VariantMill$Game" "ofSecond" "I", .fieldLink RX4 144 "VariantMill$Game" "ofFirst" "I", .methodLink RX4 111 yX4_gameAt, .instanceMethod yX4_gameAt, .selects RX4 yX4_gameAt yX4_gameAt, .code yX4_gameAt cX4_gameAt 3 (some (.object "VariantMill$Game")), .classLink RX4 187 "java/lang/IndexOutOfBoundsException", .initialized "java/lang/IndexOutOfBoundsException", .fieldLink RX4 23 "VariantMill" "games" "[LVariantMill$Game;"] ++ wsX10 ++ wsX40 ++ (vx_atS RX4 191 "java/lang/IndexOutOfBoundsException" ["java/lang/RuntimeException", "java/lang/Exception"]).filter goodWord)
def wsL_made : List Cond := .codeWith yL_made cL_made 4 (some .int) [(0, 9, 12, 24)] :: ([.classLink RL 24 "java/lang/IndexOutOfBoundsException", .methodLink RL 49 yX4_made, .instanceMethod yX4_made, .selects RX4 yX4_made yX4_made, .initialized RX4, .code yX4_made cX4_made 2 (some .int), .fieldLink RX4 147 "VariantMill$Game" "made" "I", .methodLink RX4 111 yX4_gameAt, .instanceMethod yX4_gameAt, .selects RX4 yX4_gameAt yX4_gameAt, .code yX4_gameAt cX4_gameAt 3 (some (.object "VariantMill$Game")), .classLink RX4 187 "java/lang/IndexOutOfBoundsException", .initialized "java/lang/IndexOutOfBoundsException", .fieldLink RX4 23 "VariantMill" "games" "[LVariantMill$Game;"] ++ wsX10 ++ wsX40 ++ (vx_atS RX4 191 "java/lang/IndexOutOfBoundsException" ["java/lang/RuntimeException", "java/lang/Exception"]).filter goodWord)
def wsL_value_r1 : List Cond := [Cond.classLink RL 24 "java/lang/IndexOutOfBoundsException", Cond.classLink RL 13 "java/lang/IllegalArgumentException", Cond.methodLink RL 52 yX4_value, Cond.instanceMethod yX4_value, Cond.selects RX4 yX4_value yX4_value, Cond.initialized RX4, Cond.code yX4_value cX4_value 4 (some .int), Cond.fieldLink RX4 153 "VariantMill$Game" "rules" "LVariantMill$Rules;", Cond.methodLink RX4 111 yX4_gameAt, Cond.instanceMethod yX4_gameAt, Cond.selects RX4 yX4_gameAt yX4_gameAt, Cond.code yX4_gameAt cX4_gameAt 3 (some (.object "VariantMill$Game")), Cond.classLink RX4 187 "java/lang/IndexOutOfBoundsException", Cond.initialized "java/lang/IndexOutOfBoundsException", Cond.fieldLink RX4 23 "VariantMill" "games" "[LVariantMill$Game;", Cond.methodLink RX4 150 yX4_checkDepth, Cond.static yX4_checkDepth, Cond.code yX4_checkDepth cX4_checkDepth 1 none, Cond.classLink RX4 31 "java/lang/IllegalArgumentException", Cond.initialized "java/lang/IllegalArgumentException", Cond.methodLink RX4 154 yX1_ofMover, Cond.instanceMethod yX1_ofMover, Cond.selects RX1 yX1_ofMover yX1_ofMover, Cond.initialized RX1]
def wsL_value_r2 : List Cond := [Cond.code yX1_ofMover cX1_ofMover 1 (some .int), Cond.fieldLink RX1 32 "VariantMill$Game" "ofSecond" "I", Cond.fieldLink RX1 29 "VariantMill$Game" "ofFirst" "I", Cond.methodLink RX1 49 yX1_isSecondToMove, Cond.instanceMethod yX1_isSecondToMove, Cond.selects RX1 yX1_isSecondToMove yX1_isSecondToMove, Cond.code yX1_isSecondToMove cX1_isSecondToMove 1 (some .boolean), Cond.fieldLink RX1 46 "VariantMill$Game" "made" "I", Cond.methodLink RX4 158 yX1_ofWaiting, Cond.instanceMethod yX1_ofWaiting, Cond.selects RX1 yX1_ofWaiting yX1_ofWaiting, Cond.code yX1_ofWaiting cX1_ofWaiting 1 (some .int), Cond.methodLink RX4 161 yX1_isSecondToMove, Cond.methodLink RX4 164 yX4_searchWithCuts, Cond.static yX4_searchWithCuts, Cond.code yX4_searchWithCuts cX4_searchWithCuts 12 (some .int), Cond.methodLink RX4 211 Lib.Math.max.name, Cond.static Lib.Math.max.name, Cond.initialized "java/lang/Math", Cond.code Lib.Math.max.name Lib.Math.max.code 2 (some .int), Cond.methodLink RX4 102 yX2_hasMove, Cond.instanceMethod yX2_hasMove, Cond.selects RX2 yX2_hasMove yX2_hasMove, Cond.initialized RX2]
def wsL_value_r3 : List Cond := [Cond.code yX2_hasMove cX2_hasMove 5 (some .boolean), Cond.methodLink RX2 39 yX2_endsFrom, Cond.instanceMethod yX2_endsFrom, Cond.selects RX2 yX2_endsFrom yX2_endsFrom, Cond.code yX2_endsFrom cX2_endsFrom 8 (some .int), Cond.fieldLink RX2 9 "VariantMill$Rules" "table" "[LVariantMill$Card;", Cond.fieldLink RX2 15 "VariantMill$Rules" "cards" "I", Cond.fieldLink RX2 19 "VariantMill$Rules" "holes" "I", Cond.static yX4_isIn, Cond.code yX4_isIn cX4_isIn 2 (some .boolean), Cond.methodLink RX2 33 yX0_endsFrom, Cond.instanceMethod yX0_endsFrom, Cond.selects RX0 yX0_endsFrom yX0_endsFrom, Cond.initialized RX0, Cond.code yX0_endsFrom cX0_endsFrom 10 (some .int), Cond.fieldLink RX0 9 "VariantMill$Card" "kind" "I", Cond.fieldLink RX0 21 "VariantMill$Card" "reach" "I", Cond.fieldLink RX0 15 "VariantMill$Card" "dx" "I", Cond.methodLink RX0 24 yX0_rows, Cond.instanceMethod yX0_rows, Cond.selects RX0 yX0_rows yX0_rows, Cond.code yX0_rows cX0_rows 2 (some .int), Cond.fieldLink RX0 18 "VariantMill$Card" "dy" "I", Cond.static yX4_cellAhead]
def wsL_value_r4 : List Cond := [Cond.code yX4_cellAhead cX4_cellAhead 6 (some .int), Cond.methodLink RX4 175 yJ6_bitCount_0f7a4, Cond.static yJ6_bitCount_0f7a4, Cond.initialized RJ6, Cond.code yJ6_bitCount_0f7a4 cJ6_bitCount_0f7a4 1 (some .int), Cond.constant RJ6 265 (1431655765), Cond.constant RJ6 266 (858993459), Cond.constant RJ6 267 (252645135), Cond.methodLink RX4 200 yX2_endsFrom, Cond.methodLink RX4 204 yX4_isIn, Cond.methodLink RX4 207 yX4_moved, Cond.static yX4_moved, Cond.code yX4_moved cX4_moved 3 (some .int)]
def wsL_value : List Cond := .codeWith yL_value cL_value 5 (some .int) [(0, 10, 13, 24), (0, 10, 17, 13)] :: ((wsL_value_r1 ++ (wsL_value_r2 ++ (wsL_value_r3 ++ wsL_value_r4))) ++ wsX10 ++ wsX40 ++ wsX20 ++ wsX00 ++ (vx_atS RX4 191 "java/lang/IndexOutOfBoundsException" ["java/lang/RuntimeException", "java/lang/Exception"]).filter goodWord ++ (vx_atS RX4 35 "java/lang/IllegalArgumentException" ["java/lang/RuntimeException", "java/lang/Exception"]).filter goodWord)
def wsL_valueByAll_r1 : List Cond := [Cond.classLink RL 24 "java/lang/IndexOutOfBoundsException", Cond.classLink RL 13 "java/lang/IllegalArgumentException", Cond.methodLink RL 55 yX4_valueByAll, Cond.instanceMethod yX4_valueByAll, Cond.selects RX4 yX4_valueByAll yX4_valueByAll, Cond.initialized RX4, Cond.code yX4_valueByAll cX4_valueByAll 4 (some .int), Cond.fieldLink RX4 153 "VariantMill$Game" "rules" "LVariantMill$Rules;", Cond.methodLink RX4 111 yX4_gameAt, Cond.instanceMethod yX4_gameAt, Cond.selects RX4 yX4_gameAt yX4_gameAt, Cond.code yX4_gameAt cX4_gameAt 3 (some (.object "VariantMill$Game")), Cond.classLink RX4 187 "java/lang/IndexOutOfBoundsException", Cond.initialized "java/lang/IndexOutOfBoundsException", Cond.fieldLink RX4 23 "VariantMill" "games" "[LVariantMill$Game;", Cond.methodLink RX4 150 yX4_checkDepth, Cond.static yX4_checkDepth, Cond.code yX4_checkDepth cX4_checkDepth 1 none, Cond.classLink RX4 31 "java/lang/IllegalArgumentException", Cond.initialized "java/lang/IllegalArgumentException", Cond.methodLink RX4 154 yX1_ofMover, Cond.instanceMethod yX1_ofMover, Cond.selects RX1 yX1_ofMover yX1_ofMover, Cond.initialized RX1]
def wsL_valueByAll_r2 : List Cond := [Cond.code yX1_ofMover cX1_ofMover 1 (some .int), Cond.fieldLink RX1 32 "VariantMill$Game" "ofSecond" "I", Cond.fieldLink RX1 29 "VariantMill$Game" "ofFirst" "I", Cond.methodLink RX1 49 yX1_isSecondToMove, Cond.instanceMethod yX1_isSecondToMove, Cond.selects RX1 yX1_isSecondToMove yX1_isSecondToMove, Cond.code yX1_isSecondToMove cX1_isSecondToMove 1 (some .boolean), Cond.fieldLink RX1 46 "VariantMill$Game" "made" "I", Cond.methodLink RX4 158 yX1_ofWaiting, Cond.instanceMethod yX1_ofWaiting, Cond.selects RX1 yX1_ofWaiting yX1_ofWaiting, Cond.code yX1_ofWaiting cX1_ofWaiting 1 (some .int), Cond.methodLink RX4 161 yX1_isSecondToMove, Cond.methodLink RX4 168 yX4_searchAll, Cond.static yX4_searchAll, Cond.code yX4_searchAll cX4_searchAll 9 (some .int), Cond.methodLink RX4 211 Lib.Math.max.name, Cond.static Lib.Math.max.name, Cond.initialized "java/lang/Math", Cond.code Lib.Math.max.name Lib.Math.max.code 2 (some .int), Cond.methodLink RX4 102 yX2_hasMove, Cond.instanceMethod yX2_hasMove, Cond.selects RX2 yX2_hasMove yX2_hasMove, Cond.initialized RX2]
def wsL_valueByAll_r3 : List Cond := [Cond.code yX2_hasMove cX2_hasMove 5 (some .boolean), Cond.methodLink RX2 39 yX2_endsFrom, Cond.instanceMethod yX2_endsFrom, Cond.selects RX2 yX2_endsFrom yX2_endsFrom, Cond.code yX2_endsFrom cX2_endsFrom 8 (some .int), Cond.fieldLink RX2 9 "VariantMill$Rules" "table" "[LVariantMill$Card;", Cond.fieldLink RX2 15 "VariantMill$Rules" "cards" "I", Cond.fieldLink RX2 19 "VariantMill$Rules" "holes" "I", Cond.static yX4_isIn, Cond.code yX4_isIn cX4_isIn 2 (some .boolean), Cond.methodLink RX2 33 yX0_endsFrom, Cond.instanceMethod yX0_endsFrom, Cond.selects RX0 yX0_endsFrom yX0_endsFrom, Cond.initialized RX0, Cond.code yX0_endsFrom cX0_endsFrom 10 (some .int), Cond.fieldLink RX0 9 "VariantMill$Card" "kind" "I", Cond.fieldLink RX0 21 "VariantMill$Card" "reach" "I", Cond.fieldLink RX0 15 "VariantMill$Card" "dx" "I", Cond.methodLink RX0 24 yX0_rows, Cond.instanceMethod yX0_rows, Cond.selects RX0 yX0_rows yX0_rows, Cond.code yX0_rows cX0_rows 2 (some .int), Cond.fieldLink RX0 18 "VariantMill$Card" "dy" "I", Cond.static yX4_cellAhead]
def wsL_valueByAll_r4 : List Cond := [Cond.code yX4_cellAhead cX4_cellAhead 6 (some .int), Cond.methodLink RX4 175 yJ6_bitCount_0f7a4, Cond.static yJ6_bitCount_0f7a4, Cond.initialized RJ6, Cond.code yJ6_bitCount_0f7a4 cJ6_bitCount_0f7a4 1 (some .int), Cond.constant RJ6 265 (1431655765), Cond.constant RJ6 266 (858993459), Cond.constant RJ6 267 (252645135), Cond.methodLink RX4 200 yX2_endsFrom, Cond.methodLink RX4 204 yX4_isIn, Cond.methodLink RX4 207 yX4_moved, Cond.static yX4_moved, Cond.code yX4_moved cX4_moved 3 (some .int)]
def wsL_valueByAll : List Cond := .codeWith yL_valueByAll cL_valueByAll 5 (some .int) [(0, 10, 13, 24), (0, 10, 17, 13)] :: ((wsL_valueByAll_r1 ++ (wsL_valueByAll_r2 ++ (wsL_valueByAll_r3 ++ wsL_valueByAll_r4))) ++ wsX10 ++ wsX40 ++ wsX20 ++ wsX00 ++ (vx_atS RX4 191 "java/lang/IndexOutOfBoundsException" ["java/lang/RuntimeException", "java/lang/Exception"]).filter goodWord ++ (vx_atS RX4 35 "java/lang/IllegalArgumentException" ["java/lang/RuntimeException", "java/lang/Exception"]).filter goodWord)
def wsL_vote : List Cond := .codeWith yL_vote cL_vote 5 (some .int) [(0, 10, 13, 24)] :: ([.classLink RL 24 "java/lang/IndexOutOfBoundsException", .methodLink RL 58 yX4_vote, .instanceMethod yX4_vote, .selects RX4 yX4_vote yX4_vote, .initialized RX4, .code yX4_vote cX4_vote 4 (some .int), .fieldLink RX4 172 "VariantMill$Variant" "voters" "I", .methodLink RX4 86 yX4_checkPlayer, .static yX4_checkPlayer, .code yX4_checkPlayer cX4_checkPlayer 1 none, .classLink RX4 187 "java/lang/IndexOutOfBoundsException", .initialized "java/lang/IndexOutOfBoundsException", .methodLink RX4 70 yX4_variantAt, .instanceMethod yX4_variantAt, .selects RX4 yX4_variantAt yX4_variantAt, .code yX4_variantAt cX4_variantAt 3 (some (.object "VariantMill$Variant")), .fieldLink RX4 17 "VariantMill" "variants" "[LVariantMill$Variant;", .methodLink RX4 175 yJ6_bitCount_0f7a4, .static yJ6_bitCount_0f7a4, .initialized RJ6, .code yJ6_bitCount_0f7a4 cJ6_bitCount_0f7a4 1 (some .int), .constant RJ6 265 (1431655765), .constant RJ6 266 (858993459), .constant RJ6 267 (252645135)] ++ wsX30 ++ wsX40 ++ (vx_atS RX4 191 "java/lang/IndexOutOfBoundsException" ["java/lang/RuntimeException", "java/lang/Exception"]).filter goodWord)
def wsL_isBanned_r1 : List Cond := [Cond.classLink RL 24 "java/lang/IndexOutOfBoundsException", Cond.methodLink RL 61 yX4_isBanned, Cond.instanceMethod yX4_isBanned, Cond.selects RX4 yX4_isBanned yX4_isBanned, Cond.initialized RX4, Cond.code yX4_isBanned cX4_isBanned 2 (some .boolean), Cond.methodLink RX4 70 yX4_variantAt, Cond.instanceMethod yX4_variantAt, Cond.selects RX4 yX4_variantAt yX4_variantAt, Cond.code yX4_variantAt cX4_variantAt 3 (some (.object "VariantMill$Variant")), Cond.classLink RX4 187 "java/lang/IndexOutOfBoundsException", Cond.initialized "java/lang/IndexOutOfBoundsException", Cond.fieldLink RX4 17 "VariantMill" "variants" "[LVariantMill$Variant;", Cond.methodLink RX4 95 yX3_isOut, Cond.instanceMethod yX3_isOut, Cond.selects RX3 yX3_isOut yX3_isOut, Cond.initialized RX3, Cond.code yX3_isOut cX3_isOut 1 (some .boolean), Cond.fieldLink RX3 15 "VariantMill$Variant" "voters" "I", Cond.fieldLink RX3 25 "VariantMill$Variant" "endlessGames" "I", Cond.methodLink RX3 19 yJ6_bitCount_0f7a4, Cond.static yJ6_bitCount_0f7a4, Cond.initialized RJ6, Cond.code yJ6_bitCount_0f7a4 cJ6_bitCount_0f7a4 1 (some .int)]
def wsL_isBanned_r2 : List Cond := [Cond.constant RJ6 265 (1431655765), Cond.constant RJ6 266 (858993459), Cond.constant RJ6 267 (252645135)]
def wsL_isBanned : List Cond := .codeWith yL_isBanned cL_isBanned 4 (some .int) [(0, 16, 19, 24)] :: ((wsL_isBanned_r1 ++ wsL_isBanned_r2) ++ wsX40 ++ wsX30 ++ (vx_atS RX4 191 "java/lang/IndexOutOfBoundsException" ["java/lang/RuntimeException", "java/lang/Exception"]).filter goodWord)
def wsL_endless : List Cond := .codeWith yL_endless cL_endless 4 (some .int) [(0, 9, 12, 24)] :: ([.classLink RL 24 "java/lang/IndexOutOfBoundsException", .methodLink RL 65 yX4_endless, .instanceMethod yX4_endless, .selects RX4 yX4_endless yX4_endless, .initialized RX4, .code yX4_endless cX4_endless 2 (some .int), .fieldLink RX4 181 "VariantMill$Variant" "endlessGames" "I", .methodLink RX4 70 yX4_variantAt, .instanceMethod yX4_variantAt, .selects RX4 yX4_variantAt yX4_variantAt, .code yX4_variantAt cX4_variantAt 3 (some (.object "VariantMill$Variant")), .classLink RX4 187 "java/lang/IndexOutOfBoundsException", .initialized "java/lang/IndexOutOfBoundsException", .fieldLink RX4 17 "VariantMill" "variants" "[LVariantMill$Variant;"] ++ wsX30 ++ wsX40 ++ (vx_atS RX4 191 "java/lang/IndexOutOfBoundsException" ["java/lang/RuntimeException", "java/lang/Exception"]).filter goodWord)
def wsL_points_r1 : List Cond := [Cond.classLink RL 24 "java/lang/IndexOutOfBoundsException", Cond.methodLink RL 68 yX4_points, Cond.instanceMethod yX4_points, Cond.selects RX4 yX4_points yX4_points, Cond.initialized RX4, Cond.code yX4_points cX4_points 7 (some .int), Cond.fieldLink RX4 23 "VariantMill" "games" "[LVariantMill$Game;", Cond.fieldLink RX4 128 "VariantMill$Game" "variant" "LVariantMill$Variant;", Cond.methodLink RX4 86 yX4_checkPlayer, Cond.static yX4_checkPlayer, Cond.code yX4_checkPlayer cX4_checkPlayer 1 none, Cond.classLink RX4 187 "java/lang/IndexOutOfBoundsException", Cond.initialized "java/lang/IndexOutOfBoundsException", Cond.methodLink RX4 70 yX4_variantAt, Cond.instanceMethod yX4_variantAt, Cond.selects RX4 yX4_variantAt yX4_variantAt, Cond.code yX4_variantAt cX4_variantAt 3 (some (.object "VariantMill$Variant")), Cond.fieldLink RX4 17 "VariantMill" "variants" "[LVariantMill$Variant;", Cond.methodLink RX4 95 yX3_isOut, Cond.instanceMethod yX3_isOut, Cond.selects RX3 yX3_isOut yX3_isOut, Cond.initialized RX3, Cond.code yX3_isOut cX3_isOut 1 (some .boolean), Cond.fieldLink RX3 15 "VariantMill$Variant" "voters" "I"]
def wsL_points_r2 : List Cond := [Cond.fieldLink RX3 25 "VariantMill$Variant" "endlessGames" "I", Cond.methodLink RX3 19 yJ6_bitCount_0f7a4, Cond.static yJ6_bitCount_0f7a4, Cond.initialized RJ6, Cond.code yJ6_bitCount_0f7a4 cJ6_bitCount_0f7a4 1 (some .int), Cond.constant RJ6 265 (1431655765), Cond.constant RJ6 266 (858993459), Cond.constant RJ6 267 (252645135), Cond.methodLink RX4 184 yX1_pointsFor, Cond.instanceMethod yX1_pointsFor, Cond.selects RX1 yX1_pointsFor yX1_pointsFor, Cond.initialized RX1, Cond.code yX1_pointsFor cX1_pointsFor 3 (some .int), Cond.fieldLink RX1 35 "VariantMill$Game" "state" "I", Cond.fieldLink RX1 22 "VariantMill$Game" "first" "I", Cond.fieldLink RX1 26 "VariantMill$Game" "second" "I"]
def wsL_points : List Cond := .codeWith yL_points cL_points 5 (some .int) [(0, 10, 13, 24)] :: ((wsL_points_r1 ++ wsL_points_r2) ++ wsX40 ++ wsX10 ++ wsX30 ++ (vx_atS RX4 191 "java/lang/IndexOutOfBoundsException" ["java/lang/RuntimeException", "java/lang/Exception"]).filter goodWord)
abbrev vwCl : List vw_C := [(RX0, TX0, 4), (RX1, TX1, 9), (RX2, TX2, 3), (RX3, TX3, 3), (RX4, TX4, 6), (RX5, TX5, 20)]
end
section
theorem inJ6 : ∀ w ∈ wsJ60, w ∈ lw_tbl := by decide +kernel
theorem inJ9 : ∀ w ∈ wsJ90, w ∈ lw_tbl := by decide +kernel
theorem inJ0 : ∀ w ∈ wsJ00, w ∈ lw_tbl := by decide +kernel
theorem dX0_init_0 : decode cX0_init 0 = .ok (.aload_n 0, 1) := by decide +kernel
theorem dX0_init_1 : decode cX0_init 1 = .ok (.invokespecial 3, 3) := by decide +kernel
theorem dX0_init_4 : decode cX0_init 4 = .ok (.aload_n 0, 1) := by decide +kernel
theorem dX0_init_5 : decode cX0_init 5 = .ok (.iload_n 1, 1) := by decide +kernel
theorem dX0_init_6 : decode cX0_init 6 = .ok (.putfield 9, 3) := by decide +kernel
theorem dX0_init_9 : decode cX0_init 9 = .ok (.aload_n 0, 1) := by decide +kernel
theorem dX0_init_10 : decode cX0_init 10 = .ok (.iload_n 2, 1) := by decide +kernel
theorem dX0_init_11 : decode cX0_init 11 = .ok (.putfield 15, 3) := by decide +kernel
theorem dX0_init_14 : decode cX0_init 14 = .ok (.aload_n 0, 1) := by decide +kernel
theorem dX0_init_15 : decode cX0_init 15 = .ok (.iload_n 3, 1) := by decide +kernel
theorem dX0_init_16 : decode cX0_init 16 = .ok (.putfield 18, 3) := by decide +kernel
theorem dX0_init_19 : decode cX0_init 19 = .ok (.aload_n 0, 1) := by decide +kernel
theorem dX0_init_20 : decode cX0_init 20 = .ok (.iload_n 1, 1) := by decide +kernel
theorem dX0_init_21 : decode cX0_init 21 = .ok (.ifCond .ne 7, 3) := by decide +kernel
theorem dX0_init_24 : decode cX0_init 24 = .ok (.iconst 1, 1) := by decide +kernel
theorem dX0_init_25 : decode cX0_init 25 = .ok (.goto 5, 3) := by decide +kernel
theorem dX0_init_28 : decode cX0_init 28 = .ok (.iload 4, 2) := by decide +kernel
theorem dX0_init_30 : decode cX0_init 30 = .ok (.putfield 21, 3) := by decide +kernel
theorem dX0_init_33 : decode cX0_init 33 = .ok (.return_, 1) := by decide +kernel
theorem dX0_rows_0 : decode cX0_rows 0 = .ok (.iload_n 1, 1) := by decide +kernel
theorem dX0_rows_1 : decode cX0_rows 1 = .ok (.ifCond .eq 11, 3) := by decide +kernel
theorem dX0_rows_4 : decode cX0_rows 4 = .ok (.aload_n 0, 1) := by decide +kernel
theorem dX0_rows_5 : decode cX0_rows 5 = .ok (.getfield 18, 3) := by decide +kernel
theorem dX0_rows_8 : decode cX0_rows 8 = .ok (.ineg, 1) := by decide +kernel
theorem dX0_rows_9 : decode cX0_rows 9 = .ok (.goto 7, 3) := by decide +kernel
theorem dX0_rows_12 : decode cX0_rows 12 = .ok (.aload_n 0, 1) := by decide +kernel
theorem dX0_rows_13 : decode cX0_rows 13 = .ok (.getfield 18, 3) := by decide +kernel
theorem dX0_rows_16 : decode cX0_rows 16 = .ok (.ireturn, 1) := by decide +kernel
set_option maxRecDepth 20000 in
theorem ggX0_endsFrom_X0_rows : GoodIn wsX0_endsFrom wsX0_rows := goodIn_r _ [8, 9, 15, 16, 17, 18] (by decide +kernel) (by decide +kernel)
set_option maxRecDepth 20000 in
theorem gX0_endsFrom_X0_rows : GoodIn wsX0_endsFrom (wsV RX0 24 RX0 yX0_rows wsX0_rows) := goodIn_app (goodIn_of _ (by decide +kernel)) ggX0_endsFrom_X0_rows
set_option maxRecDepth 20000 in
theorem ggX0_endsFrom_X4_cellAhead : GoodIn wsX0_endsFrom wsX4_cellAhead := goodIn_r _ [12] (by decide +kernel) (by decide +kernel)
set_option maxRecDepth 20000 in
theorem gX0_endsFrom_X4_cellAhead_n28 : GoodIn wsX0_endsFrom (wsX4_cellAhead) := ggX0_endsFrom_X4_cellAhead
set_option maxRecDepth 20000 in
theorem ggX0_endsFrom_X4_isIn : GoodIn wsX0_endsFrom wsX4_isIn := goodIn_r _ [14] (by decide +kernel) (by decide +kernel)
set_option maxRecDepth 20000 in
theorem gX0_endsFrom_X4_isIn_n32 : GoodIn wsX0_endsFrom (wsX4_isIn) := ggX0_endsFrom_X4_isIn
theorem dX0_endsFrom_0 : decode cX0_endsFrom 0 = .ok (.iconst 0, 1) := by decide +kernel
theorem dX0_endsFrom_1 : decode cX0_endsFrom 1 = .ok (.istore 5, 2) := by decide +kernel
theorem dX0_endsFrom_3 : decode cX0_endsFrom 3 = .ok (.iload_n 1, 1) := by decide +kernel
theorem dX0_endsFrom_4 : decode cX0_endsFrom 4 = .ok (.istore 6, 2) := by decide +kernel
theorem dX0_endsFrom_6 : decode cX0_endsFrom 6 = .ok (.aload_n 0, 1) := by decide +kernel
theorem dX0_endsFrom_7 : decode cX0_endsFrom 7 = .ok (.getfield 9, 3) := by decide +kernel
theorem dX0_endsFrom_10 : decode cX0_endsFrom 10 = .ok (.iconst 2, 1) := by decide +kernel
theorem dX0_endsFrom_11 : decode cX0_endsFrom 11 = .ok (.if_icmp .eq 7, 3) := by decide +kernel
theorem dX0_endsFrom_14 : decode cX0_endsFrom 14 = .ok (.iconst 1, 1) := by decide +kernel
theorem dX0_endsFrom_15 : decode cX0_endsFrom 15 = .ok (.goto 4, 3) := by decide +kernel
theorem dX0_endsFrom_18 : decode cX0_endsFrom 18 = .ok (.iconst 0, 1) := by decide +kernel
theorem dX0_endsFrom_19 : decode cX0_endsFrom 19 = .ok (.istore 7, 2) := by decide +kernel
theorem dX0_endsFrom_21 : decode cX0_endsFrom 21 = .ok (.iconst 1, 1) := by decide +kernel
theorem dX0_endsFrom_22 : decode cX0_endsFrom 22 = .ok (.istore 8, 2) := by decide +kernel
theorem dX0_endsFrom_24 : decode cX0_endsFrom 24 = .ok (.iload 8, 2) := by decide +kernel
theorem dX0_endsFrom_26 : decode cX0_endsFrom 26 = .ok (.aload_n 0, 1) := by decide +kernel
theorem dX0_endsFrom_27 : decode cX0_endsFrom 27 = .ok (.getfield 21, 3) := by decide +kernel
theorem dX0_endsFrom_30 : decode cX0_endsFrom 30 = .ok (.if_icmp .gt 110, 3) := by decide +kernel
theorem dX0_endsFrom_33 : decode cX0_endsFrom 33 = .ok (.iload 6, 2) := by decide +kernel
theorem dX0_endsFrom_35 : decode cX0_endsFrom 35 = .ok (.aload_n 0, 1) := by decide +kernel
theorem dX0_endsFrom_36 : decode cX0_endsFrom 36 = .ok (.getfield 15, 3) := by decide +kernel
theorem dX0_endsFrom_39 : decode cX0_endsFrom 39 = .ok (.aload_n 0, 1) := by decide +kernel
theorem dX0_endsFrom_40 : decode cX0_endsFrom 40 = .ok (.iload 4, 2) := by decide +kernel
theorem dX0_endsFrom_42 : decode cX0_endsFrom 42 = .ok (.invokevirtual 24, 3) := by decide +kernel
theorem dX0_endsFrom_45 : decode cX0_endsFrom 45 = .ok (.invokestatic 28, 3) := by decide +kernel
theorem dX0_endsFrom_48 : decode cX0_endsFrom 48 = .ok (.istore 6, 2) := by decide +kernel
theorem dX0_endsFrom_50 : decode cX0_endsFrom 50 = .ok (.iload 6, 2) := by decide +kernel
theorem dX0_endsFrom_52 : decode cX0_endsFrom 52 = .ok (.iconst (-1), 1) := by decide +kernel
theorem dX0_endsFrom_53 : decode cX0_endsFrom 53 = .ok (.if_icmp .eq 12, 3) := by decide +kernel
theorem dX0_endsFrom_56 : decode cX0_endsFrom 56 = .ok (.iload_n 2, 1) := by decide +kernel
theorem dX0_endsFrom_57 : decode cX0_endsFrom 57 = .ok (.iload 6, 2) := by decide +kernel
theorem dX0_endsFrom_59 : decode cX0_endsFrom 59 = .ok (.invokestatic 32, 3) := by decide +kernel
theorem dX0_endsFrom_62 : decode cX0_endsFrom 62 = .ok (.ifCond .eq 6, 3) := by decide +kernel
theorem dX0_endsFrom_65 : decode cX0_endsFrom 65 = .ok (.iload 5, 2) := by decide +kernel
theorem dX0_endsFrom_67 : decode cX0_endsFrom 67 = .ok (.ireturn, 1) := by decide +kernel
theorem dX0_endsFrom_68 : decode cX0_endsFrom 68 = .ok (.iload 7, 2) := by decide +kernel
theorem dX0_endsFrom_70 : decode cX0_endsFrom 70 = .ok (.ifCond .eq 12, 3) := by decide +kernel
theorem dX0_endsFrom_73 : decode cX0_endsFrom 73 = .ok (.iload 5, 2) := by decide +kernel
theorem dX0_endsFrom_75 : decode cX0_endsFrom 75 = .ok (.iconst 1, 1) := by decide +kernel
theorem dX0_endsFrom_76 : decode cX0_endsFrom 76 = .ok (.iload 6, 2) := by decide +kernel
theorem dX0_endsFrom_78 : decode cX0_endsFrom 78 = .ok (.ishl, 1) := by decide +kernel
theorem dX0_endsFrom_79 : decode cX0_endsFrom 79 = .ok (.ior, 1) := by decide +kernel
theorem dX0_endsFrom_80 : decode cX0_endsFrom 80 = .ok (.istore 5, 2) := by decide +kernel
theorem dX0_endsFrom_82 : decode cX0_endsFrom 82 = .ok (.iload_n 3, 1) := by decide +kernel
theorem dX0_endsFrom_83 : decode cX0_endsFrom 83 = .ok (.iload 6, 2) := by decide +kernel
theorem dX0_endsFrom_85 : decode cX0_endsFrom 85 = .ok (.invokestatic 32, 3) := by decide +kernel
theorem dX0_endsFrom_88 : decode cX0_endsFrom 88 = .ok (.istore 9, 2) := by decide +kernel
theorem dX0_endsFrom_90 : decode cX0_endsFrom 90 = .ok (.aload_n 0, 1) := by decide +kernel
theorem dX0_endsFrom_91 : decode cX0_endsFrom 91 = .ok (.getfield 9, 3) := by decide +kernel
theorem dX0_endsFrom_94 : decode cX0_endsFrom 94 = .ok (.iconst 2, 1) := by decide +kernel
theorem dX0_endsFrom_95 : decode cX0_endsFrom 95 = .ok (.if_icmp .ne 11, 3) := by decide +kernel
theorem dX0_endsFrom_98 : decode cX0_endsFrom 98 = .ok (.iload 7, 2) := by decide +kernel
theorem dX0_endsFrom_100 : decode cX0_endsFrom 100 = .ok (.ifCond .eq 14, 3) := by decide +kernel
theorem dX0_endsFrom_103 : decode cX0_endsFrom 103 = .ok (.goto 8, 3) := by decide +kernel
theorem dX0_endsFrom_106 : decode cX0_endsFrom 106 = .ok (.iload 9, 2) := by decide +kernel
theorem dX0_endsFrom_108 : decode cX0_endsFrom 108 = .ok (.ifCond .eq 6, 3) := by decide +kernel
theorem dX0_endsFrom_111 : decode cX0_endsFrom 111 = .ok (.iload 5, 2) := by decide +kernel
theorem dX0_endsFrom_113 : decode cX0_endsFrom 113 = .ok (.ireturn, 1) := by decide +kernel
theorem dX0_endsFrom_114 : decode cX0_endsFrom 114 = .ok (.aload_n 0, 1) := by decide +kernel
theorem dX0_endsFrom_115 : decode cX0_endsFrom 115 = .ok (.getfield 9, 3) := by decide +kernel
theorem dX0_endsFrom_118 : decode cX0_endsFrom 118 = .ok (.iconst 2, 1) := by decide +kernel
theorem dX0_endsFrom_119 : decode cX0_endsFrom 119 = .ok (.if_icmp .ne 8, 3) := by decide +kernel
theorem dX0_endsFrom_122 : decode cX0_endsFrom 122 = .ok (.iload 9, 2) := by decide +kernel
theorem dX0_endsFrom_124 : decode cX0_endsFrom 124 = .ok (.ifCond .eq 7, 3) := by decide +kernel
theorem dX0_endsFrom_127 : decode cX0_endsFrom 127 = .ok (.iconst 1, 1) := by decide +kernel
theorem dX0_endsFrom_128 : decode cX0_endsFrom 128 = .ok (.goto 4, 3) := by decide +kernel
theorem dX0_endsFrom_131 : decode cX0_endsFrom 131 = .ok (.iconst 0, 1) := by decide +kernel
theorem dX0_endsFrom_132 : decode cX0_endsFrom 132 = .ok (.istore 7, 2) := by decide +kernel
theorem dX0_endsFrom_134 : decode cX0_endsFrom 134 = .ok (.iinc 8 1, 3) := by decide +kernel
theorem dX0_endsFrom_137 : decode cX0_endsFrom 137 = .ok (.goto (-113), 3) := by decide +kernel
theorem dX0_endsFrom_140 : decode cX0_endsFrom 140 = .ok (.iload 5, 2) := by decide +kernel
theorem dX0_endsFrom_142 : decode cX0_endsFrom 142 = .ok (.ireturn, 1) := by decide +kernel
set_option maxRecDepth 20000 in
theorem ggX0_leads_X0_rows : GoodIn wsX0_leads wsX0_rows := goodIn_r _ [7, 8, 19, 20, 21, 22] (by decide +kernel) (by decide +kernel)
set_option maxRecDepth 20000 in
theorem gX0_leads_X0_rows : GoodIn wsX0_leads (wsV RX0 24 RX0 yX0_rows wsX0_rows) := goodIn_app (goodIn_of _ (by decide +kernel)) ggX0_leads_X0_rows
set_option maxRecDepth 20000 in
theorem ggX0_leads_X4_cellAhead : GoodIn wsX0_leads wsX4_cellAhead := goodIn_r _ [11] (by decide +kernel) (by decide +kernel)
set_option maxRecDepth 20000 in
theorem gX0_leads_X4_cellAhead_n28 : GoodIn wsX0_leads (wsX4_cellAhead) := ggX0_leads_X4_cellAhead
set_option maxRecDepth 20000 in
theorem ggX0_leads_X4_isIn : GoodIn wsX0_leads wsX4_isIn := goodIn_r _ [13] (by decide +kernel) (by decide +kernel)
set_option maxRecDepth 20000 in
theorem gX0_leads_X4_isIn_n32 : GoodIn wsX0_leads (wsX4_isIn) := ggX0_leads_X4_isIn
set_option maxRecDepth 20000 in
theorem ggX0_leads_X0_isRightPath : GoodIn wsX0_leads wsX0_isRightPath := goodIn_r _ [17, 18, 19, 20, 21, 22] (by decide +kernel) (by decide +kernel)
set_option maxRecDepth 20000 in
theorem gX0_leads_X0_isRightPath : GoodIn wsX0_leads (wsV RX0 36 RX0 yX0_isRightPath wsX0_isRightPath) := goodIn_app (goodIn_of _ (by decide +kernel)) ggX0_leads_X0_isRightPath
theorem dX0_leads_0 : decode cX0_leads 0 = .ok (.iconst 0, 1) := by decide +kernel
theorem dX0_leads_1 : decode cX0_leads 1 = .ok (.istore 6, 2) := by decide +kernel
theorem dX0_leads_3 : decode cX0_leads 3 = .ok (.iconst (-1), 1) := by decide +kernel
theorem dX0_leads_4 : decode cX0_leads 4 = .ok (.istore 7, 2) := by decide +kernel
theorem dX0_leads_6 : decode cX0_leads 6 = .ok (.iload_n 1, 1) := by decide +kernel
theorem dX0_leads_7 : decode cX0_leads 7 = .ok (.istore 8, 2) := by decide +kernel
theorem dX0_leads_9 : decode cX0_leads 9 = .ok (.iconst 1, 1) := by decide +kernel
theorem dX0_leads_10 : decode cX0_leads 10 = .ok (.istore 9, 2) := by decide +kernel
theorem dX0_leads_12 : decode cX0_leads 12 = .ok (.iload 9, 2) := by decide +kernel
theorem dX0_leads_14 : decode cX0_leads 14 = .ok (.aload_n 0, 1) := by decide +kernel
theorem dX0_leads_15 : decode cX0_leads 15 = .ok (.getfield 21, 3) := by decide +kernel
theorem dX0_leads_18 : decode cX0_leads 18 = .ok (.if_icmp .gt 73, 3) := by decide +kernel
theorem dX0_leads_21 : decode cX0_leads 21 = .ok (.iload 8, 2) := by decide +kernel
theorem dX0_leads_23 : decode cX0_leads 23 = .ok (.aload_n 0, 1) := by decide +kernel
theorem dX0_leads_24 : decode cX0_leads 24 = .ok (.getfield 15, 3) := by decide +kernel
theorem dX0_leads_27 : decode cX0_leads 27 = .ok (.aload_n 0, 1) := by decide +kernel
theorem dX0_leads_28 : decode cX0_leads 28 = .ok (.iload 5, 2) := by decide +kernel
theorem dX0_leads_30 : decode cX0_leads 30 = .ok (.invokevirtual 24, 3) := by decide +kernel
theorem dX0_leads_33 : decode cX0_leads 33 = .ok (.invokestatic 28, 3) := by decide +kernel
theorem dX0_leads_36 : decode cX0_leads 36 = .ok (.istore 8, 2) := by decide +kernel
theorem dX0_leads_38 : decode cX0_leads 38 = .ok (.iload 8, 2) := by decide +kernel
theorem dX0_leads_40 : decode cX0_leads 40 = .ok (.iconst (-1), 1) := by decide +kernel
theorem dX0_leads_41 : decode cX0_leads 41 = .ok (.if_icmp .eq 12, 3) := by decide +kernel
theorem dX0_leads_44 : decode cX0_leads 44 = .ok (.iload_n 3, 1) := by decide +kernel
theorem dX0_leads_45 : decode cX0_leads 45 = .ok (.iload 8, 2) := by decide +kernel
theorem dX0_leads_47 : decode cX0_leads 47 = .ok (.invokestatic 32, 3) := by decide +kernel
theorem dX0_leads_50 : decode cX0_leads 50 = .ok (.ifCond .eq 5, 3) := by decide +kernel
theorem dX0_leads_53 : decode cX0_leads 53 = .ok (.iconst 0, 1) := by decide +kernel
theorem dX0_leads_54 : decode cX0_leads 54 = .ok (.ireturn, 1) := by decide +kernel
theorem dX0_leads_55 : decode cX0_leads 55 = .ok (.iload 8, 2) := by decide +kernel
theorem dX0_leads_57 : decode cX0_leads 57 = .ok (.iload_n 2, 1) := by decide +kernel
theorem dX0_leads_58 : decode cX0_leads 58 = .ok (.if_icmp .ne 14, 3) := by decide +kernel
theorem dX0_leads_61 : decode cX0_leads 61 = .ok (.aload_n 0, 1) := by decide +kernel
theorem dX0_leads_62 : decode cX0_leads 62 = .ok (.iload 6, 2) := by decide +kernel
theorem dX0_leads_64 : decode cX0_leads 64 = .ok (.iload 7, 2) := by decide +kernel
theorem dX0_leads_66 : decode cX0_leads 66 = .ok (.iload 4, 2) := by decide +kernel
theorem dX0_leads_68 : decode cX0_leads 68 = .ok (.invokevirtual 36, 3) := by decide +kernel
theorem dX0_leads_71 : decode cX0_leads 71 = .ok (.ireturn, 1) := by decide +kernel
theorem dX0_leads_72 : decode cX0_leads 72 = .ok (.iload 6, 2) := by decide +kernel
theorem dX0_leads_74 : decode cX0_leads 74 = .ok (.iconst 1, 1) := by decide +kernel
theorem dX0_leads_75 : decode cX0_leads 75 = .ok (.iload 8, 2) := by decide +kernel
theorem dX0_leads_77 : decode cX0_leads 77 = .ok (.ishl, 1) := by decide +kernel
theorem dX0_leads_78 : decode cX0_leads 78 = .ok (.ior, 1) := by decide +kernel
theorem dX0_leads_79 : decode cX0_leads 79 = .ok (.istore 6, 2) := by decide +kernel
theorem dX0_leads_81 : decode cX0_leads 81 = .ok (.iload 8, 2) := by decide +kernel
theorem dX0_leads_83 : decode cX0_leads 83 = .ok (.istore 7, 2) := by decide +kernel
theorem dX0_leads_85 : decode cX0_leads 85 = .ok (.iinc 9 1, 3) := by decide +kernel
theorem dX0_leads_88 : decode cX0_leads 88 = .ok (.goto (-76), 3) := by decide +kernel
theorem dX0_leads_91 : decode cX0_leads 91 = .ok (.iconst 0, 1) := by decide +kernel
theorem dX0_leads_92 : decode cX0_leads 92 = .ok (.ireturn, 1) := by decide +kernel
theorem dX0_isRightPath_0 : decode cX0_isRightPath 0 = .ok (.iload_n 1, 1) := by decide +kernel
theorem dX0_isRightPath_1 : decode cX0_isRightPath 1 = .ok (.iload_n 3, 1) := by decide +kernel
theorem dX0_isRightPath_2 : decode cX0_isRightPath 2 = .ok (.iand, 1) := by decide +kernel
theorem dX0_isRightPath_3 : decode cX0_isRightPath 3 = .ok (.istore 4, 2) := by decide +kernel
theorem dX0_isRightPath_5 : decode cX0_isRightPath 5 = .ok (.aload_n 0, 1) := by decide +kernel
theorem dX0_isRightPath_6 : decode cX0_isRightPath 6 = .ok (.getfield 9, 3) := by decide +kernel
theorem dX0_isRightPath_9 : decode cX0_isRightPath 9 = .ok (.iconst 2, 1) := by decide +kernel
theorem dX0_isRightPath_10 : decode cX0_isRightPath 10 = .ok (.if_icmp .eq 14, 3) := by decide +kernel
theorem dX0_isRightPath_13 : decode cX0_isRightPath 13 = .ok (.iload 4, 2) := by decide +kernel
theorem dX0_isRightPath_15 : decode cX0_isRightPath 15 = .ok (.ifCond .ne 7, 3) := by decide +kernel
theorem dX0_isRightPath_18 : decode cX0_isRightPath 18 = .ok (.iconst 1, 1) := by decide +kernel
theorem dX0_isRightPath_19 : decode cX0_isRightPath 19 = .ok (.goto 4, 3) := by decide +kernel
theorem dX0_isRightPath_22 : decode cX0_isRightPath 22 = .ok (.iconst 0, 1) := by decide +kernel
theorem dX0_isRightPath_23 : decode cX0_isRightPath 23 = .ok (.ireturn, 1) := by decide +kernel
theorem dX0_isRightPath_24 : decode cX0_isRightPath 24 = .ok (.iload_n 2, 1) := by decide +kernel
theorem dX0_isRightPath_25 : decode cX0_isRightPath 25 = .ok (.iconst (-1), 1) := by decide +kernel
theorem dX0_isRightPath_26 : decode cX0_isRightPath 26 = .ok (.if_icmp .eq 15, 3) := by decide +kernel
theorem dX0_isRightPath_29 : decode cX0_isRightPath 29 = .ok (.iload 4, 2) := by decide +kernel
theorem dX0_isRightPath_31 : decode cX0_isRightPath 31 = .ok (.iconst 1, 1) := by decide +kernel
theorem dX0_isRightPath_32 : decode cX0_isRightPath 32 = .ok (.iload_n 2, 1) := by decide +kernel
theorem dX0_isRightPath_33 : decode cX0_isRightPath 33 = .ok (.ishl, 1) := by decide +kernel
theorem dX0_isRightPath_34 : decode cX0_isRightPath 34 = .ok (.if_icmp .ne 7, 3) := by decide +kernel
theorem dX0_isRightPath_37 : decode cX0_isRightPath 37 = .ok (.iconst 1, 1) := by decide +kernel
theorem dX0_isRightPath_38 : decode cX0_isRightPath 38 = .ok (.goto 4, 3) := by decide +kernel
theorem dX0_isRightPath_41 : decode cX0_isRightPath 41 = .ok (.iconst 0, 1) := by decide +kernel
theorem dX0_isRightPath_42 : decode cX0_isRightPath 42 = .ok (.ireturn, 1) := by decide +kernel
set_option maxRecDepth 20000 in
theorem ggX1_init_X1_placing : GoodIn wsX1_init wsX1_placing := goodIn_r _ [17] (by decide +kernel) (by decide +kernel)
set_option maxRecDepth 20000 in
theorem gX1_init_X1_placing : GoodIn wsX1_init (va_wsS RX1 42 yX1_placing wsX1_placing) := goodIn_app (goodIn_of _ (by decide +kernel)) ggX1_init_X1_placing
theorem dX1_init_0 : decode cX1_init 0 = .ok (.aload_n 0, 1) := by decide +kernel
theorem dX1_init_1 : decode cX1_init 1 = .ok (.invokespecial 3, 3) := by decide +kernel
theorem dX1_init_4 : decode cX1_init 4 = .ok (.aload_n 0, 1) := by decide +kernel
theorem dX1_init_5 : decode cX1_init 5 = .ok (.aload_n 1, 1) := by decide +kernel
theorem dX1_init_6 : decode cX1_init 6 = .ok (.putfield 9, 3) := by decide +kernel
theorem dX1_init_9 : decode cX1_init 9 = .ok (.aload_n 0, 1) := by decide +kernel
theorem dX1_init_10 : decode cX1_init 10 = .ok (.aload_n 1, 1) := by decide +kernel
theorem dX1_init_11 : decode cX1_init 11 = .ok (.getfield 15, 3) := by decide +kernel
theorem dX1_init_14 : decode cX1_init 14 = .ok (.putfield 21, 3) := by decide +kernel
theorem dX1_init_17 : decode cX1_init 17 = .ok (.aload_n 0, 1) := by decide +kernel
theorem dX1_init_18 : decode cX1_init 18 = .ok (.iload_n 2, 1) := by decide +kernel
theorem dX1_init_19 : decode cX1_init 19 = .ok (.putfield 22, 3) := by decide +kernel
theorem dX1_init_22 : decode cX1_init 22 = .ok (.aload_n 0, 1) := by decide +kernel
theorem dX1_init_23 : decode cX1_init 23 = .ok (.iload_n 3, 1) := by decide +kernel
theorem dX1_init_24 : decode cX1_init 24 = .ok (.putfield 26, 3) := by decide +kernel
theorem dX1_init_27 : decode cX1_init 27 = .ok (.aload_n 0, 1) := by decide +kernel
theorem dX1_init_28 : decode cX1_init 28 = .ok (.iload 4, 2) := by decide +kernel
theorem dX1_init_30 : decode cX1_init 30 = .ok (.putfield 29, 3) := by decide +kernel
theorem dX1_init_33 : decode cX1_init 33 = .ok (.aload_n 0, 1) := by decide +kernel
theorem dX1_init_34 : decode cX1_init 34 = .ok (.iload 5, 2) := by decide +kernel
theorem dX1_init_36 : decode cX1_init 36 = .ok (.putfield 32, 3) := by decide +kernel
theorem dX1_init_39 : decode cX1_init 39 = .ok (.aload_n 0, 1) := by decide +kernel
theorem dX1_init_40 : decode cX1_init 40 = .ok (.iconst 0, 1) := by decide +kernel
theorem dX1_init_41 : decode cX1_init 41 = .ok (.putfield 35, 3) := by decide +kernel
theorem dX1_init_44 : decode cX1_init 44 = .ok (.aload_n 0, 1) := by decide +kernel
theorem dX1_init_45 : decode cX1_init 45 = .ok (.bipush 61, 2) := by decide +kernel
theorem dX1_init_47 : decode cX1_init 47 = .ok (.newarray .long, 2) := by decide +kernel
theorem dX1_init_49 : decode cX1_init 49 = .ok (.putfield 38, 3) := by decide +kernel
theorem dX1_init_52 : decode cX1_init 52 = .ok (.aload_n 0, 1) := by decide +kernel
theorem dX1_init_53 : decode cX1_init 53 = .ok (.getfield 38, 3) := by decide +kernel
theorem dX1_init_56 : decode cX1_init 56 = .ok (.iconst 0, 1) := by decide +kernel
theorem dX1_init_57 : decode cX1_init 57 = .ok (.iload 4, 2) := by decide +kernel
theorem dX1_init_59 : decode cX1_init 59 = .ok (.iload 5, 2) := by decide +kernel
theorem dX1_init_61 : decode cX1_init 61 = .ok (.iconst 0, 1) := by decide +kernel
theorem dX1_init_62 : decode cX1_init 62 = .ok (.invokestatic 42, 3) := by decide +kernel
theorem dX1_init_65 : decode cX1_init 65 = .ok (.lastore, 1) := by decide +kernel
theorem dX1_init_66 : decode cX1_init 66 = .ok (.return_, 1) := by decide +kernel
theorem dX1_placing_0 : decode cX1_placing 0 = .ok (.iload_n 1, 1) := by decide +kernel
theorem dX1_placing_1 : decode cX1_placing 1 = .ok (.i2l, 1) := by decide +kernel
theorem dX1_placing_2 : decode cX1_placing 2 = .ok (.bipush 25, 2) := by decide +kernel
theorem dX1_placing_4 : decode cX1_placing 4 = .ok (.lshl, 1) := by decide +kernel
theorem dX1_placing_5 : decode cX1_placing 5 = .ok (.iload_n 0, 1) := by decide +kernel
theorem dX1_placing_6 : decode cX1_placing 6 = .ok (.i2l, 1) := by decide +kernel
theorem dX1_placing_7 : decode cX1_placing 7 = .ok (.lor, 1) := by decide +kernel
theorem dX1_placing_8 : decode cX1_placing 8 = .ok (.lstore_n 3, 1) := by decide +kernel
theorem dX1_placing_9 : decode cX1_placing 9 = .ok (.lload_n 3, 1) := by decide +kernel
theorem dX1_placing_10 : decode cX1_placing 10 = .ok (.iconst 1, 1) := by decide +kernel
theorem dX1_placing_11 : decode cX1_placing 11 = .ok (.lshl, 1) := by decide +kernel
theorem dX1_placing_12 : decode cX1_placing 12 = .ok (.iload_n 2, 1) := by decide +kernel
theorem dX1_placing_13 : decode cX1_placing 13 = .ok (.ifCond .eq 7, 3) := by decide +kernel
theorem dX1_placing_16 : decode cX1_placing 16 = .ok (.iconst 1, 1) := by decide +kernel
theorem dX1_placing_17 : decode cX1_placing 17 = .ok (.goto 4, 3) := by decide +kernel
theorem dX1_placing_20 : decode cX1_placing 20 = .ok (.iconst 0, 1) := by decide +kernel
theorem dX1_placing_21 : decode cX1_placing 21 = .ok (.i2l, 1) := by decide +kernel
theorem dX1_placing_22 : decode cX1_placing 22 = .ok (.lor, 1) := by decide +kernel
theorem dX1_placing_23 : decode cX1_placing 23 = .ok (.lreturn, 1) := by decide +kernel
theorem dX1_isSecondToMove_0 : decode cX1_isSecondToMove 0 = .ok (.aload_n 0, 1) := by decide +kernel
theorem dX1_isSecondToMove_1 : decode cX1_isSecondToMove 1 = .ok (.getfield 46, 3) := by decide +kernel
theorem dX1_isSecondToMove_4 : decode cX1_isSecondToMove 4 = .ok (.iconst 2, 1) := by decide +kernel
theorem dX1_isSecondToMove_5 : decode cX1_isSecondToMove 5 = .ok (.irem, 1) := by decide +kernel
theorem dX1_isSecondToMove_6 : decode cX1_isSecondToMove 6 = .ok (.iconst 1, 1) := by decide +kernel
theorem dX1_isSecondToMove_7 : decode cX1_isSecondToMove 7 = .ok (.if_icmp .ne 7, 3) := by decide +kernel
theorem dX1_isSecondToMove_10 : decode cX1_isSecondToMove 10 = .ok (.iconst 1, 1) := by decide +kernel
theorem dX1_isSecondToMove_11 : decode cX1_isSecondToMove 11 = .ok (.goto 4, 3) := by decide +kernel
theorem dX1_isSecondToMove_14 : decode cX1_isSecondToMove 14 = .ok (.iconst 0, 1) := by decide +kernel
theorem dX1_isSecondToMove_15 : decode cX1_isSecondToMove 15 = .ok (.ireturn, 1) := by decide +kernel
set_option maxRecDepth 20000 in
theorem ggX1_ofMover_X1_isSecondToMove : GoodIn wsX1_ofMover wsX1_isSecondToMove := goodIn_r _ [7, 8, 9, 10, 11, 12, 13, 14, 15, 16, 17] (by decide +kernel) (by decide +kernel)
set_option maxRecDepth 20000 in
theorem gX1_ofMover_X1_isSecondToMove : GoodIn wsX1_ofMover (wsV RX1 49 RX1 yX1_isSecondToMove wsX1_isSecondToMove) := goodIn_app (goodIn_of _ (by decide +kernel)) ggX1_ofMover_X1_isSecondToMove
theorem dX1_ofMover_0 : decode cX1_ofMover 0 = .ok (.aload_n 0, 1) := by decide +kernel
theorem dX1_ofMover_1 : decode cX1_ofMover 1 = .ok (.invokevirtual 49, 3) := by decide +kernel
theorem dX1_ofMover_4 : decode cX1_ofMover 4 = .ok (.ifCond .eq 10, 3) := by decide +kernel
theorem dX1_ofMover_7 : decode cX1_ofMover 7 = .ok (.aload_n 0, 1) := by decide +kernel
theorem dX1_ofMover_8 : decode cX1_ofMover 8 = .ok (.getfield 32, 3) := by decide +kernel
theorem dX1_ofMover_11 : decode cX1_ofMover 11 = .ok (.goto 7, 3) := by decide +kernel
theorem dX1_ofMover_14 : decode cX1_ofMover 14 = .ok (.aload_n 0, 1) := by decide +kernel
theorem dX1_ofMover_15 : decode cX1_ofMover 15 = .ok (.getfield 29, 3) := by decide +kernel
theorem dX1_ofMover_18 : decode cX1_ofMover 18 = .ok (.ireturn, 1) := by decide +kernel
set_option maxRecDepth 20000 in
theorem ggX1_ofWaiting_X1_isSecondToMove : GoodIn wsX1_ofWaiting wsX1_isSecondToMove := goodIn_r _ [7, 8, 9, 10, 11, 12, 13, 14, 15, 16, 17] (by decide +kernel) (by decide +kernel)
set_option maxRecDepth 20000 in
theorem gX1_ofWaiting_X1_isSecondToMove : GoodIn wsX1_ofWaiting (wsV RX1 49 RX1 yX1_isSecondToMove wsX1_isSecondToMove) := goodIn_app (goodIn_of _ (by decide +kernel)) ggX1_ofWaiting_X1_isSecondToMove
theorem dX1_ofWaiting_0 : decode cX1_ofWaiting 0 = .ok (.aload_n 0, 1) := by decide +kernel
theorem dX1_ofWaiting_1 : decode cX1_ofWaiting 1 = .ok (.invokevirtual 49, 3) := by decide +kernel
theorem dX1_ofWaiting_4 : decode cX1_ofWaiting 4 = .ok (.ifCond .eq 10, 3) := by decide +kernel
theorem dX1_ofWaiting_7 : decode cX1_ofWaiting 7 = .ok (.aload_n 0, 1) := by decide +kernel
theorem dX1_ofWaiting_8 : decode cX1_ofWaiting 8 = .ok (.getfield 29, 3) := by decide +kernel
theorem dX1_ofWaiting_11 : decode cX1_ofWaiting 11 = .ok (.goto 7, 3) := by decide +kernel
theorem dX1_ofWaiting_14 : decode cX1_ofWaiting 14 = .ok (.aload_n 0, 1) := by decide +kernel
theorem dX1_ofWaiting_15 : decode cX1_ofWaiting 15 = .ok (.getfield 32, 3) := by decide +kernel
theorem dX1_ofWaiting_18 : decode cX1_ofWaiting 18 = .ok (.ireturn, 1) := by decide +kernel
set_option maxRecDepth 20000 in
theorem ggX1_allows_X1_ofMover : GoodIn wsX1_allows wsX1_ofMover := goodIn_r _ [9, 4, 3, 10, 11, 12, 8, 13, 14, 45, 46, 47, 48, 49, 50, 51, 52, 53] (by decide +kernel) (by decide +kernel)
set_option maxRecDepth 20000 in
theorem gX1_allows_X1_ofMover : GoodIn wsX1_allows (wsV RX1 53 RX1 yX1_ofMover wsX1_ofMover) := goodIn_app (goodIn_of _ (by decide +kernel)) ggX1_allows_X1_ofMover
set_option maxRecDepth 20000 in
theorem ggX1_allows_X4_isIn : GoodIn wsX1_allows wsX4_isIn := goodIn_r _ [17] (by decide +kernel) (by decide +kernel)
set_option maxRecDepth 20000 in
theorem gX1_allows_X4_isIn_n57 : GoodIn wsX1_allows (wsX4_isIn) := ggX1_allows_X4_isIn
set_option maxRecDepth 20000 in
theorem ggX1_allows_X1_isSecondToMove : GoodIn wsX1_allows wsX1_isSecondToMove := goodIn_r _ [13, 14, 45, 46, 47, 48, 49, 50, 51, 52, 53] (by decide +kernel) (by decide +kernel)
set_option maxRecDepth 20000 in
theorem gX1_allows_X1_isSecondToMove : GoodIn wsX1_allows (wsV RX1 49 RX1 yX1_isSecondToMove wsX1_isSecondToMove) := goodIn_app (goodIn_of _ (by decide +kernel)) ggX1_allows_X1_isSecondToMove
set_option maxRecDepth 20000 in
theorem ggX1_allows_X2_someCardLeads : GoodIn wsX1_allows wsX2_someCardLeads := goodIn_r _ [22, 23, 24, 25, 15, 16, 17, 26, 27, 28, 29, 30, 31, 32, 33, 34, 35, 36, 37, 38, 39, 40, 41, 42, 43, 44, 54, 55, 56, 57, 58, 59, 60] (by decide +kernel) (by decide +kernel)
set_option maxRecDepth 20000 in
theorem gX1_allows_X2_someCardLeads : GoodIn wsX1_allows (wsV RX1 61 RX2 yX2_someCardLeads wsX2_someCardLeads) := goodIn_app (goodIn_of _ (by decide +kernel)) ggX1_allows_X2_someCardLeads
theorem dX1_allows_0 : decode cX1_allows 0 = .ok (.aload_n 0, 1) := by decide +kernel
theorem dX1_allows_1 : decode cX1_allows 1 = .ok (.getfield 35, 3) := by decide +kernel
theorem dX1_allows_4 : decode cX1_allows 4 = .ok (.ifCond .ne 54, 3) := by decide +kernel
theorem dX1_allows_7 : decode cX1_allows 7 = .ok (.aload_n 0, 1) := by decide +kernel
theorem dX1_allows_8 : decode cX1_allows 8 = .ok (.invokevirtual 53, 3) := by decide +kernel
theorem dX1_allows_11 : decode cX1_allows 11 = .ok (.iload_n 1, 1) := by decide +kernel
theorem dX1_allows_12 : decode cX1_allows 12 = .ok (.invokestatic 57, 3) := by decide +kernel
theorem dX1_allows_15 : decode cX1_allows 15 = .ok (.ifCond .eq 43, 3) := by decide +kernel
theorem dX1_allows_18 : decode cX1_allows 18 = .ok (.aload_n 0, 1) := by decide +kernel
theorem dX1_allows_19 : decode cX1_allows 19 = .ok (.invokevirtual 53, 3) := by decide +kernel
theorem dX1_allows_22 : decode cX1_allows 22 = .ok (.iload_n 2, 1) := by decide +kernel
theorem dX1_allows_23 : decode cX1_allows 23 = .ok (.invokestatic 57, 3) := by decide +kernel
theorem dX1_allows_26 : decode cX1_allows 26 = .ok (.ifCond .ne 32, 3) := by decide +kernel
theorem dX1_allows_29 : decode cX1_allows 29 = .ok (.aload_n 0, 1) := by decide +kernel
theorem dX1_allows_30 : decode cX1_allows 30 = .ok (.getfield 21, 3) := by decide +kernel
theorem dX1_allows_33 : decode cX1_allows 33 = .ok (.iload_n 1, 1) := by decide +kernel
theorem dX1_allows_34 : decode cX1_allows 34 = .ok (.iload_n 2, 1) := by decide +kernel
theorem dX1_allows_35 : decode cX1_allows 35 = .ok (.aload_n 0, 1) := by decide +kernel
theorem dX1_allows_36 : decode cX1_allows 36 = .ok (.getfield 29, 3) := by decide +kernel
theorem dX1_allows_39 : decode cX1_allows 39 = .ok (.aload_n 0, 1) := by decide +kernel
theorem dX1_allows_40 : decode cX1_allows 40 = .ok (.getfield 32, 3) := by decide +kernel
theorem dX1_allows_43 : decode cX1_allows 43 = .ok (.ior, 1) := by decide +kernel
theorem dX1_allows_44 : decode cX1_allows 44 = .ok (.aload_n 0, 1) := by decide +kernel
theorem dX1_allows_45 : decode cX1_allows 45 = .ok (.invokevirtual 49, 3) := by decide +kernel
theorem dX1_allows_48 : decode cX1_allows 48 = .ok (.invokevirtual 61, 3) := by decide +kernel
theorem dX1_allows_51 : decode cX1_allows 51 = .ok (.ifCond .eq 7, 3) := by decide +kernel
theorem dX1_allows_54 : decode cX1_allows 54 = .ok (.iconst 1, 1) := by decide +kernel
theorem dX1_allows_55 : decode cX1_allows 55 = .ok (.goto 4, 3) := by decide +kernel
theorem dX1_allows_58 : decode cX1_allows 58 = .ok (.iconst 0, 1) := by decide +kernel
theorem dX1_allows_59 : decode cX1_allows 59 = .ok (.ireturn, 1) := by decide +kernel
set_option maxRecDepth 20000 in
theorem ggX1_go_X1_ofMover : GoodIn wsX1_go wsX1_ofMover := goodIn_r _ [9, 2, 1, 10, 11, 12, 8, 13, 3, 24, 25, 26, 27, 28, 29, 30, 31, 32] (by decide +kernel) (by decide +kernel)
set_option maxRecDepth 20000 in
theorem gX1_go_X1_ofMover : GoodIn wsX1_go (wsV RX1 53 RX1 yX1_ofMover wsX1_ofMover) := goodIn_app (goodIn_of _ (by decide +kernel)) ggX1_go_X1_ofMover
set_option maxRecDepth 20000 in
theorem ggX1_go_X4_moved : GoodIn wsX1_go wsX4_moved := goodIn_r _ [16] (by decide +kernel) (by decide +kernel)
set_option maxRecDepth 20000 in
theorem gX1_go_X4_moved_n67 : GoodIn wsX1_go (wsX4_moved) := ggX1_go_X4_moved
set_option maxRecDepth 20000 in
theorem ggX1_go_X1_ofWaiting : GoodIn wsX1_go wsX1_ofWaiting := goodIn_r _ [20, 1, 2, 10, 11, 12, 8, 13, 3, 24, 25, 26, 27, 28, 29, 30, 31, 32] (by decide +kernel) (by decide +kernel)
set_option maxRecDepth 20000 in
theorem gX1_go_X1_ofWaiting : GoodIn wsX1_go (wsV RX1 71 RX1 yX1_ofWaiting wsX1_ofWaiting) := goodIn_app (goodIn_of _ (by decide +kernel)) ggX1_go_X1_ofWaiting
set_option maxRecDepth 20000 in
theorem ggX1_go_X1_isSecondToMove : GoodIn wsX1_go wsX1_isSecondToMove := goodIn_r _ [13, 3, 24, 25, 26, 27, 28, 29, 30, 31, 32] (by decide +kernel) (by decide +kernel)
set_option maxRecDepth 20000 in
theorem gX1_go_X1_isSecondToMove : GoodIn wsX1_go (wsV RX1 49 RX1 yX1_isSecondToMove wsX1_isSecondToMove) := goodIn_app (goodIn_of _ (by decide +kernel)) ggX1_go_X1_isSecondToMove
set_option maxRecDepth 20000 in
theorem ggX1_go_X1_placing : GoodIn wsX1_go wsX1_placing := goodIn_r _ [23] (by decide +kernel) (by decide +kernel)
set_option maxRecDepth 20000 in
theorem gX1_go_X1_placing : GoodIn wsX1_go (va_wsS RX1 42 yX1_placing wsX1_placing) := goodIn_app (goodIn_of _ (by decide +kernel)) ggX1_go_X1_placing
theorem dX1_go_0 : decode cX1_go 0 = .ok (.aload_n 0, 1) := by decide +kernel
theorem dX1_go_1 : decode cX1_go 1 = .ok (.invokevirtual 53, 3) := by decide +kernel
theorem dX1_go_4 : decode cX1_go 4 = .ok (.iload_n 1, 1) := by decide +kernel
theorem dX1_go_5 : decode cX1_go 5 = .ok (.iload_n 2, 1) := by decide +kernel
theorem dX1_go_6 : decode cX1_go 6 = .ok (.invokestatic 67, 3) := by decide +kernel
theorem dX1_go_9 : decode cX1_go 9 = .ok (.istore_n 3, 1) := by decide +kernel
theorem dX1_go_10 : decode cX1_go 10 = .ok (.aload_n 0, 1) := by decide +kernel
theorem dX1_go_11 : decode cX1_go 11 = .ok (.invokevirtual 71, 3) := by decide +kernel
theorem dX1_go_14 : decode cX1_go 14 = .ok (.iconst 1, 1) := by decide +kernel
theorem dX1_go_15 : decode cX1_go 15 = .ok (.iload_n 2, 1) := by decide +kernel
theorem dX1_go_16 : decode cX1_go 16 = .ok (.ishl, 1) := by decide +kernel
theorem dX1_go_17 : decode cX1_go 17 = .ok (.iconst (-1), 1) := by decide +kernel
theorem dX1_go_18 : decode cX1_go 18 = .ok (.ixor, 1) := by decide +kernel
theorem dX1_go_19 : decode cX1_go 19 = .ok (.iand, 1) := by decide +kernel
theorem dX1_go_20 : decode cX1_go 20 = .ok (.istore 4, 2) := by decide +kernel
theorem dX1_go_22 : decode cX1_go 22 = .ok (.aload_n 0, 1) := by decide +kernel
theorem dX1_go_23 : decode cX1_go 23 = .ok (.aload_n 0, 1) := by decide +kernel
theorem dX1_go_24 : decode cX1_go 24 = .ok (.invokevirtual 49, 3) := by decide +kernel
theorem dX1_go_27 : decode cX1_go 27 = .ok (.ifCond .eq 8, 3) := by decide +kernel
theorem dX1_go_30 : decode cX1_go 30 = .ok (.iload 4, 2) := by decide +kernel
theorem dX1_go_32 : decode cX1_go 32 = .ok (.goto 4, 3) := by decide +kernel
theorem dX1_go_35 : decode cX1_go 35 = .ok (.iload_n 3, 1) := by decide +kernel
theorem dX1_go_36 : decode cX1_go 36 = .ok (.putfield 29, 3) := by decide +kernel
theorem dX1_go_39 : decode cX1_go 39 = .ok (.aload_n 0, 1) := by decide +kernel
theorem dX1_go_40 : decode cX1_go 40 = .ok (.aload_n 0, 1) := by decide +kernel
theorem dX1_go_41 : decode cX1_go 41 = .ok (.invokevirtual 49, 3) := by decide +kernel
theorem dX1_go_44 : decode cX1_go 44 = .ok (.ifCond .eq 7, 3) := by decide +kernel
theorem dX1_go_47 : decode cX1_go 47 = .ok (.iload_n 3, 1) := by decide +kernel
theorem dX1_go_48 : decode cX1_go 48 = .ok (.goto 5, 3) := by decide +kernel
theorem dX1_go_51 : decode cX1_go 51 = .ok (.iload 4, 2) := by decide +kernel
theorem dX1_go_53 : decode cX1_go 53 = .ok (.putfield 32, 3) := by decide +kernel
theorem dX1_go_56 : decode cX1_go 56 = .ok (.aload_n 0, 1) := by decide +kernel
theorem dX1_go_57 : decode cX1_go 57 = .ok (.dup, 1) := by decide +kernel
theorem dX1_go_58 : decode cX1_go 58 = .ok (.getfield 46, 3) := by decide +kernel
theorem dX1_go_61 : decode cX1_go 61 = .ok (.iconst 1, 1) := by decide +kernel
theorem dX1_go_62 : decode cX1_go 62 = .ok (.iadd, 1) := by decide +kernel
theorem dX1_go_63 : decode cX1_go 63 = .ok (.putfield 46, 3) := by decide +kernel
theorem dX1_go_66 : decode cX1_go 66 = .ok (.aload_n 0, 1) := by decide +kernel
theorem dX1_go_67 : decode cX1_go 67 = .ok (.getfield 46, 3) := by decide +kernel
theorem dX1_go_70 : decode cX1_go 70 = .ok (.aload_n 0, 1) := by decide +kernel
theorem dX1_go_71 : decode cX1_go 71 = .ok (.getfield 38, 3) := by decide +kernel
theorem dX1_go_74 : decode cX1_go 74 = .ok (.arraylength, 1) := by decide +kernel
theorem dX1_go_75 : decode cX1_go 75 = .ok (.if_icmp .ge 27, 3) := by decide +kernel
theorem dX1_go_78 : decode cX1_go 78 = .ok (.aload_n 0, 1) := by decide +kernel
theorem dX1_go_79 : decode cX1_go 79 = .ok (.getfield 38, 3) := by decide +kernel
theorem dX1_go_82 : decode cX1_go 82 = .ok (.aload_n 0, 1) := by decide +kernel
theorem dX1_go_83 : decode cX1_go 83 = .ok (.getfield 46, 3) := by decide +kernel
theorem dX1_go_86 : decode cX1_go 86 = .ok (.aload_n 0, 1) := by decide +kernel
theorem dX1_go_87 : decode cX1_go 87 = .ok (.getfield 29, 3) := by decide +kernel
theorem dX1_go_90 : decode cX1_go 90 = .ok (.aload_n 0, 1) := by decide +kernel
theorem dX1_go_91 : decode cX1_go 91 = .ok (.getfield 32, 3) := by decide +kernel
theorem dX1_go_94 : decode cX1_go 94 = .ok (.aload_n 0, 1) := by decide +kernel
theorem dX1_go_95 : decode cX1_go 95 = .ok (.invokevirtual 49, 3) := by decide +kernel
theorem dX1_go_98 : decode cX1_go 98 = .ok (.invokestatic 42, 3) := by decide +kernel
theorem dX1_go_101 : decode cX1_go 101 = .ok (.lastore, 1) := by decide +kernel
theorem dX1_go_102 : decode cX1_go 102 = .ok (.return_, 1) := by decide +kernel
set_option maxRecDepth 20000 in
theorem ggX1_settle_X1_ofMover : GoodIn wsX1_settle wsX1_ofMover := goodIn_r _ [10, 11, 12, 13, 14, 15, 9, 16, 5, 59, 60, 61, 62, 63, 64, 65, 66, 67] (by decide +kernel) (by decide +kernel)
set_option maxRecDepth 20000 in
theorem gX1_settle_X1_ofMover : GoodIn wsX1_settle (wsV RX1 53 RX1 yX1_ofMover wsX1_ofMover) := goodIn_app (goodIn_of _ (by decide +kernel)) ggX1_settle_X1_ofMover
set_option maxRecDepth 20000 in
theorem ggX1_settle_X1_ofWaiting : GoodIn wsX1_settle wsX1_ofWaiting := goodIn_r _ [20, 12, 11, 13, 14, 15, 9, 16, 5, 59, 60, 61, 62, 63, 64, 65, 66, 67] (by decide +kernel) (by decide +kernel)
set_option maxRecDepth 20000 in
theorem gX1_settle_X1_ofWaiting : GoodIn wsX1_settle (wsV RX1 71 RX1 yX1_ofWaiting wsX1_ofWaiting) := goodIn_app (goodIn_of _ (by decide +kernel)) ggX1_settle_X1_ofWaiting
set_option maxRecDepth 20000 in
theorem ggX1_settle_X1_isSecondToMove : GoodIn wsX1_settle wsX1_isSecondToMove := goodIn_r _ [16, 5, 59, 60, 61, 62, 63, 64, 65, 66, 67] (by decide +kernel) (by decide +kernel)
set_option maxRecDepth 20000 in
theorem gX1_settle_X1_isSecondToMove : GoodIn wsX1_settle (wsV RX1 49 RX1 yX1_isSecondToMove wsX1_isSecondToMove) := goodIn_app (goodIn_of _ (by decide +kernel)) ggX1_settle_X1_isSecondToMove
set_option maxRecDepth 20000 in
theorem ggX1_settle_X2_hasMove : GoodIn wsX1_settle wsX2_hasMove := goodIn_r _ [25, 26, 27, 28, 24, 29, 30, 31, 32, 33, 34, 35, 36, 37, 38, 39, 40, 41, 42, 43, 44, 45, 46, 47, 48, 49, 50, 71, 72, 73, 74, 75, 76, 77] (by decide +kernel) (by decide +kernel)
set_option maxRecDepth 20000 in
theorem gX1_settle_X2_hasMove : GoodIn wsX1_settle (wsV RX1 74 RX2 yX2_hasMove wsX2_hasMove) := goodIn_app (goodIn_of _ (by decide +kernel)) ggX1_settle_X2_hasMove
set_option maxRecDepth 20000 in
theorem ggX1_settle_X1_timesSeen : GoodIn wsX1_settle wsX1_timesSeen := goodIn_r _ [54, 12, 11, 5, 55, 13, 14, 15, 9, 16, 56, 57, 58, 59, 60, 61, 62, 63, 64, 65, 66, 67] (by decide +kernel) (by decide +kernel)
set_option maxRecDepth 20000 in
theorem gX1_settle_X1_timesSeen : GoodIn wsX1_settle (wsV RX1 78 RX1 yX1_timesSeen wsX1_timesSeen) := goodIn_app (goodIn_of _ (by decide +kernel)) ggX1_settle_X1_timesSeen
theorem dX1_settle_0 : decode cX1_settle 0 = .ok (.aload_n 0, 1) := by decide +kernel
theorem dX1_settle_1 : decode cX1_settle 1 = .ok (.getfield 21, 3) := by decide +kernel
theorem dX1_settle_4 : decode cX1_settle 4 = .ok (.aload_n 0, 1) := by decide +kernel
theorem dX1_settle_5 : decode cX1_settle 5 = .ok (.invokevirtual 53, 3) := by decide +kernel
theorem dX1_settle_8 : decode cX1_settle 8 = .ok (.aload_n 0, 1) := by decide +kernel
theorem dX1_settle_9 : decode cX1_settle 9 = .ok (.invokevirtual 71, 3) := by decide +kernel
theorem dX1_settle_12 : decode cX1_settle 12 = .ok (.aload_n 0, 1) := by decide +kernel
theorem dX1_settle_13 : decode cX1_settle 13 = .ok (.invokevirtual 49, 3) := by decide +kernel
theorem dX1_settle_16 : decode cX1_settle 16 = .ok (.invokevirtual 74, 3) := by decide +kernel
theorem dX1_settle_19 : decode cX1_settle 19 = .ok (.ifCond .ne 22, 3) := by decide +kernel
theorem dX1_settle_22 : decode cX1_settle 22 = .ok (.aload_n 0, 1) := by decide +kernel
theorem dX1_settle_23 : decode cX1_settle 23 = .ok (.aload_n 0, 1) := by decide +kernel
theorem dX1_settle_24 : decode cX1_settle 24 = .ok (.invokevirtual 49, 3) := by decide +kernel
theorem dX1_settle_27 : decode cX1_settle 27 = .ok (.ifCond .eq 7, 3) := by decide +kernel
theorem dX1_settle_30 : decode cX1_settle 30 = .ok (.iconst 1, 1) := by decide +kernel
theorem dX1_settle_31 : decode cX1_settle 31 = .ok (.goto 4, 3) := by decide +kernel
theorem dX1_settle_34 : decode cX1_settle 34 = .ok (.iconst 2, 1) := by decide +kernel
theorem dX1_settle_35 : decode cX1_settle 35 = .ok (.putfield 35, 3) := by decide +kernel
theorem dX1_settle_38 : decode cX1_settle 38 = .ok (.goto 46, 3) := by decide +kernel
theorem dX1_settle_41 : decode cX1_settle 41 = .ok (.aload_n 0, 1) := by decide +kernel
theorem dX1_settle_42 : decode cX1_settle 42 = .ok (.invokevirtual 78, 3) := by decide +kernel
theorem dX1_settle_45 : decode cX1_settle 45 = .ok (.iconst 3, 1) := by decide +kernel
theorem dX1_settle_46 : decode cX1_settle 46 = .ok (.if_icmp .lt 24, 3) := by decide +kernel
theorem dX1_settle_49 : decode cX1_settle 49 = .ok (.aload_n 0, 1) := by decide +kernel
theorem dX1_settle_50 : decode cX1_settle 50 = .ok (.iconst 3, 1) := by decide +kernel
theorem dX1_settle_51 : decode cX1_settle 51 = .ok (.putfield 35, 3) := by decide +kernel
theorem dX1_settle_54 : decode cX1_settle 54 = .ok (.aload_n 0, 1) := by decide +kernel
theorem dX1_settle_55 : decode cX1_settle 55 = .ok (.getfield 9, 3) := by decide +kernel
theorem dX1_settle_58 : decode cX1_settle 58 = .ok (.dup, 1) := by decide +kernel
theorem dX1_settle_59 : decode cX1_settle 59 = .ok (.getfield 81, 3) := by decide +kernel
theorem dX1_settle_62 : decode cX1_settle 62 = .ok (.iconst 1, 1) := by decide +kernel
theorem dX1_settle_63 : decode cX1_settle 63 = .ok (.iadd, 1) := by decide +kernel
theorem dX1_settle_64 : decode cX1_settle 64 = .ok (.putfield 81, 3) := by decide +kernel
theorem dX1_settle_67 : decode cX1_settle 67 = .ok (.goto 17, 3) := by decide +kernel
theorem dX1_settle_70 : decode cX1_settle 70 = .ok (.aload_n 0, 1) := by decide +kernel
theorem dX1_settle_71 : decode cX1_settle 71 = .ok (.getfield 46, 3) := by decide +kernel
theorem dX1_settle_74 : decode cX1_settle 74 = .ok (.bipush 60, 2) := by decide +kernel
theorem dX1_settle_76 : decode cX1_settle 76 = .ok (.if_icmp .lt 8, 3) := by decide +kernel
theorem dX1_settle_79 : decode cX1_settle 79 = .ok (.aload_n 0, 1) := by decide +kernel
theorem dX1_settle_80 : decode cX1_settle 80 = .ok (.iconst 3, 1) := by decide +kernel
theorem dX1_settle_81 : decode cX1_settle 81 = .ok (.putfield 35, 3) := by decide +kernel
theorem dX1_settle_84 : decode cX1_settle 84 = .ok (.return_, 1) := by decide +kernel
set_option maxRecDepth 20000 in
theorem ggX1_timesSeen_X1_isSecondToMove : GoodIn wsX1_timesSeen wsX1_isSecondToMove := goodIn_r _ [9, 3, 13, 14, 15, 16, 17, 18, 19, 20, 21] (by decide +kernel) (by decide +kernel)
set_option maxRecDepth 20000 in
theorem gX1_timesSeen_X1_isSecondToMove : GoodIn wsX1_timesSeen (wsV RX1 49 RX1 yX1_isSecondToMove wsX1_isSecondToMove) := goodIn_app (goodIn_of _ (by decide +kernel)) ggX1_timesSeen_X1_isSecondToMove
set_option maxRecDepth 20000 in
theorem ggX1_timesSeen_X1_placing : GoodIn wsX1_timesSeen wsX1_placing := goodIn_r _ [12] (by decide +kernel) (by decide +kernel)
set_option maxRecDepth 20000 in
theorem gX1_timesSeen_X1_placing : GoodIn wsX1_timesSeen (va_wsS RX1 42 yX1_placing wsX1_placing) := goodIn_app (goodIn_of _ (by decide +kernel)) ggX1_timesSeen_X1_placing
theorem dX1_timesSeen_0 : decode cX1_timesSeen 0 = .ok (.aload_n 0, 1) := by decide +kernel
theorem dX1_timesSeen_1 : decode cX1_timesSeen 1 = .ok (.getfield 29, 3) := by decide +kernel
theorem dX1_timesSeen_4 : decode cX1_timesSeen 4 = .ok (.aload_n 0, 1) := by decide +kernel
theorem dX1_timesSeen_5 : decode cX1_timesSeen 5 = .ok (.getfield 32, 3) := by decide +kernel
theorem dX1_timesSeen_8 : decode cX1_timesSeen 8 = .ok (.aload_n 0, 1) := by decide +kernel
theorem dX1_timesSeen_9 : decode cX1_timesSeen 9 = .ok (.invokevirtual 49, 3) := by decide +kernel
theorem dX1_timesSeen_12 : decode cX1_timesSeen 12 = .ok (.invokestatic 42, 3) := by decide +kernel
theorem dX1_timesSeen_15 : decode cX1_timesSeen 15 = .ok (.lstore_n 1, 1) := by decide +kernel
theorem dX1_timesSeen_16 : decode cX1_timesSeen 16 = .ok (.iconst 0, 1) := by decide +kernel
theorem dX1_timesSeen_17 : decode cX1_timesSeen 17 = .ok (.istore_n 3, 1) := by decide +kernel
theorem dX1_timesSeen_18 : decode cX1_timesSeen 18 = .ok (.iconst 0, 1) := by decide +kernel
theorem dX1_timesSeen_19 : decode cX1_timesSeen 19 = .ok (.istore 4, 2) := by decide +kernel
theorem dX1_timesSeen_21 : decode cX1_timesSeen 21 = .ok (.iload 4, 2) := by decide +kernel
theorem dX1_timesSeen_23 : decode cX1_timesSeen 23 = .ok (.aload_n 0, 1) := by decide +kernel
theorem dX1_timesSeen_24 : decode cX1_timesSeen 24 = .ok (.getfield 46, 3) := by decide +kernel
theorem dX1_timesSeen_27 : decode cX1_timesSeen 27 = .ok (.if_icmp .gt 34, 3) := by decide +kernel
theorem dX1_timesSeen_30 : decode cX1_timesSeen 30 = .ok (.iload 4, 2) := by decide +kernel
theorem dX1_timesSeen_32 : decode cX1_timesSeen 32 = .ok (.aload_n 0, 1) := by decide +kernel
theorem dX1_timesSeen_33 : decode cX1_timesSeen 33 = .ok (.getfield 38, 3) := by decide +kernel
theorem dX1_timesSeen_36 : decode cX1_timesSeen 36 = .ok (.arraylength, 1) := by decide +kernel
theorem dX1_timesSeen_37 : decode cX1_timesSeen 37 = .ok (.if_icmp .ge 24, 3) := by decide +kernel
theorem dX1_timesSeen_40 : decode cX1_timesSeen 40 = .ok (.aload_n 0, 1) := by decide +kernel
theorem dX1_timesSeen_41 : decode cX1_timesSeen 41 = .ok (.getfield 38, 3) := by decide +kernel
theorem dX1_timesSeen_44 : decode cX1_timesSeen 44 = .ok (.iload 4, 2) := by decide +kernel
theorem dX1_timesSeen_46 : decode cX1_timesSeen 46 = .ok (.laload, 1) := by decide +kernel
theorem dX1_timesSeen_47 : decode cX1_timesSeen 47 = .ok (.lload_n 1, 1) := by decide +kernel
theorem dX1_timesSeen_48 : decode cX1_timesSeen 48 = .ok (.lcmp, 1) := by decide +kernel
theorem dX1_timesSeen_49 : decode cX1_timesSeen 49 = .ok (.ifCond .ne 6, 3) := by decide +kernel
theorem dX1_timesSeen_52 : decode cX1_timesSeen 52 = .ok (.iinc 3 1, 3) := by decide +kernel
theorem dX1_timesSeen_55 : decode cX1_timesSeen 55 = .ok (.iinc 4 1, 3) := by decide +kernel
theorem dX1_timesSeen_58 : decode cX1_timesSeen 58 = .ok (.goto (-37), 3) := by decide +kernel
theorem dX1_timesSeen_61 : decode cX1_timesSeen 61 = .ok (.iload_n 3, 1) := by decide +kernel
theorem dX1_timesSeen_62 : decode cX1_timesSeen 62 = .ok (.ireturn, 1) := by decide +kernel
theorem dX1_pointsFor_0 : decode cX1_pointsFor 0 = .ok (.aload_n 0, 1) := by decide +kernel
theorem dX1_pointsFor_1 : decode cX1_pointsFor 1 = .ok (.getfield 35, 3) := by decide +kernel
theorem dX1_pointsFor_4 : decode cX1_pointsFor 4 = .ok (.iconst 3, 1) := by decide +kernel
theorem dX1_pointsFor_5 : decode cX1_pointsFor 5 = .ok (.if_icmp .ne 25, 3) := by decide +kernel
theorem dX1_pointsFor_8 : decode cX1_pointsFor 8 = .ok (.iload_n 1, 1) := by decide +kernel
theorem dX1_pointsFor_9 : decode cX1_pointsFor 9 = .ok (.aload_n 0, 1) := by decide +kernel
theorem dX1_pointsFor_10 : decode cX1_pointsFor 10 = .ok (.getfield 22, 3) := by decide +kernel
theorem dX1_pointsFor_13 : decode cX1_pointsFor 13 = .ok (.if_icmp .eq 11, 3) := by decide +kernel
theorem dX1_pointsFor_16 : decode cX1_pointsFor 16 = .ok (.iload_n 1, 1) := by decide +kernel
theorem dX1_pointsFor_17 : decode cX1_pointsFor 17 = .ok (.aload_n 0, 1) := by decide +kernel
theorem dX1_pointsFor_18 : decode cX1_pointsFor 18 = .ok (.getfield 26, 3) := by decide +kernel
theorem dX1_pointsFor_21 : decode cX1_pointsFor 21 = .ok (.if_icmp .ne 7, 3) := by decide +kernel
theorem dX1_pointsFor_24 : decode cX1_pointsFor 24 = .ok (.iconst 1, 1) := by decide +kernel
theorem dX1_pointsFor_25 : decode cX1_pointsFor 25 = .ok (.goto 4, 3) := by decide +kernel
theorem dX1_pointsFor_28 : decode cX1_pointsFor 28 = .ok (.iconst 0, 1) := by decide +kernel
theorem dX1_pointsFor_29 : decode cX1_pointsFor 29 = .ok (.ireturn, 1) := by decide +kernel
theorem dX1_pointsFor_30 : decode cX1_pointsFor 30 = .ok (.aload_n 0, 1) := by decide +kernel
theorem dX1_pointsFor_31 : decode cX1_pointsFor 31 = .ok (.getfield 35, 3) := by decide +kernel
theorem dX1_pointsFor_34 : decode cX1_pointsFor 34 = .ok (.iconst 1, 1) := by decide +kernel
theorem dX1_pointsFor_35 : decode cX1_pointsFor 35 = .ok (.if_icmp .ne 11, 3) := by decide +kernel
theorem dX1_pointsFor_38 : decode cX1_pointsFor 38 = .ok (.iload_n 1, 1) := by decide +kernel
theorem dX1_pointsFor_39 : decode cX1_pointsFor 39 = .ok (.aload_n 0, 1) := by decide +kernel
theorem dX1_pointsFor_40 : decode cX1_pointsFor 40 = .ok (.getfield 22, 3) := by decide +kernel
theorem dX1_pointsFor_43 : decode cX1_pointsFor 43 = .ok (.if_icmp .eq 19, 3) := by decide +kernel
theorem dX1_pointsFor_46 : decode cX1_pointsFor 46 = .ok (.aload_n 0, 1) := by decide +kernel
theorem dX1_pointsFor_47 : decode cX1_pointsFor 47 = .ok (.getfield 35, 3) := by decide +kernel
theorem dX1_pointsFor_50 : decode cX1_pointsFor 50 = .ok (.iconst 2, 1) := by decide +kernel
theorem dX1_pointsFor_51 : decode cX1_pointsFor 51 = .ok (.if_icmp .ne 15, 3) := by decide +kernel
theorem dX1_pointsFor_54 : decode cX1_pointsFor 54 = .ok (.iload_n 1, 1) := by decide +kernel
theorem dX1_pointsFor_55 : decode cX1_pointsFor 55 = .ok (.aload_n 0, 1) := by decide +kernel
theorem dX1_pointsFor_56 : decode cX1_pointsFor 56 = .ok (.getfield 26, 3) := by decide +kernel
theorem dX1_pointsFor_59 : decode cX1_pointsFor 59 = .ok (.if_icmp .ne 7, 3) := by decide +kernel
theorem dX1_pointsFor_62 : decode cX1_pointsFor 62 = .ok (.iconst 1, 1) := by decide +kernel
theorem dX1_pointsFor_63 : decode cX1_pointsFor 63 = .ok (.goto 4, 3) := by decide +kernel
theorem dX1_pointsFor_66 : decode cX1_pointsFor 66 = .ok (.iconst 0, 1) := by decide +kernel
theorem dX1_pointsFor_67 : decode cX1_pointsFor 67 = .ok (.istore_n 2, 1) := by decide +kernel
theorem dX1_pointsFor_68 : decode cX1_pointsFor 68 = .ok (.iload_n 2, 1) := by decide +kernel
theorem dX1_pointsFor_69 : decode cX1_pointsFor 69 = .ok (.ifCond .eq 7, 3) := by decide +kernel
theorem dX1_pointsFor_72 : decode cX1_pointsFor 72 = .ok (.iconst 3, 1) := by decide +kernel
theorem dX1_pointsFor_73 : decode cX1_pointsFor 73 = .ok (.goto 4, 3) := by decide +kernel
theorem dX1_pointsFor_76 : decode cX1_pointsFor 76 = .ok (.iconst 0, 1) := by decide +kernel
theorem dX1_pointsFor_77 : decode cX1_pointsFor 77 = .ok (.ireturn, 1) := by decide +kernel
theorem dX2_init_0 : decode cX2_init 0 = .ok (.aload_n 0, 1) := by decide +kernel
theorem dX2_init_1 : decode cX2_init 1 = .ok (.invokespecial 3, 3) := by decide +kernel
theorem dX2_init_4 : decode cX2_init 4 = .ok (.aload_n 0, 1) := by decide +kernel
theorem dX2_init_5 : decode cX2_init 5 = .ok (.aload_n 1, 1) := by decide +kernel
theorem dX2_init_6 : decode cX2_init 6 = .ok (.putfield 9, 3) := by decide +kernel
theorem dX2_init_9 : decode cX2_init 9 = .ok (.aload_n 0, 1) := by decide +kernel
theorem dX2_init_10 : decode cX2_init 10 = .ok (.iload_n 2, 1) := by decide +kernel
theorem dX2_init_11 : decode cX2_init 11 = .ok (.putfield 15, 3) := by decide +kernel
theorem dX2_init_14 : decode cX2_init 14 = .ok (.aload_n 0, 1) := by decide +kernel
theorem dX2_init_15 : decode cX2_init 15 = .ok (.iload_n 3, 1) := by decide +kernel
theorem dX2_init_16 : decode cX2_init 16 = .ok (.putfield 19, 3) := by decide +kernel
theorem dX2_init_19 : decode cX2_init 19 = .ok (.return_, 1) := by decide +kernel
set_option maxRecDepth 20000 in
theorem ggX2_canHold_J6_bitCount_0f7a4 : GoodIn wsX2_canHold wsJ6_bitCount_0f7a4 := goodIn_r _ [6, 7, 8, 9] (by decide +kernel) (by decide +kernel)
set_option maxRecDepth 20000 in
theorem gX2_canHold_J6_bitCount_0f7a4 : GoodIn wsX2_canHold (va_wsS RX2 23 yJ6_bitCount_0f7a4 wsJ6_bitCount_0f7a4) := goodIn_app (goodIn_of _ (by decide +kernel)) ggX2_canHold_J6_bitCount_0f7a4
theorem dX2_canHold_0 : decode cX2_canHold 0 = .ok (.iload_n 1, 1) := by decide +kernel
theorem dX2_canHold_1 : decode cX2_canHold 1 = .ok (.iconst 1, 1) := by decide +kernel
theorem dX2_canHold_2 : decode cX2_canHold 2 = .ok (.if_icmp .lt 31, 3) := by decide +kernel
theorem dX2_canHold_5 : decode cX2_canHold 5 = .ok (.iload_n 1, 1) := by decide +kernel
theorem dX2_canHold_6 : decode cX2_canHold 6 = .ok (.ldc 22, 2) := by decide +kernel
theorem dX2_canHold_8 : decode cX2_canHold 8 = .ok (.if_icmp .gt 25, 3) := by decide +kernel
theorem dX2_canHold_11 : decode cX2_canHold 11 = .ok (.iload_n 1, 1) := by decide +kernel
theorem dX2_canHold_12 : decode cX2_canHold 12 = .ok (.invokestatic 23, 3) := by decide +kernel
theorem dX2_canHold_15 : decode cX2_canHold 15 = .ok (.bipush 6, 2) := by decide +kernel
theorem dX2_canHold_17 : decode cX2_canHold 17 = .ok (.if_icmp .gt 16, 3) := by decide +kernel
theorem dX2_canHold_20 : decode cX2_canHold 20 = .ok (.iload_n 1, 1) := by decide +kernel
theorem dX2_canHold_21 : decode cX2_canHold 21 = .ok (.aload_n 0, 1) := by decide +kernel
theorem dX2_canHold_22 : decode cX2_canHold 22 = .ok (.getfield 19, 3) := by decide +kernel
theorem dX2_canHold_25 : decode cX2_canHold 25 = .ok (.iand, 1) := by decide +kernel
theorem dX2_canHold_26 : decode cX2_canHold 26 = .ok (.ifCond .ne 7, 3) := by decide +kernel
theorem dX2_canHold_29 : decode cX2_canHold 29 = .ok (.iconst 1, 1) := by decide +kernel
theorem dX2_canHold_30 : decode cX2_canHold 30 = .ok (.goto 4, 3) := by decide +kernel
theorem dX2_canHold_33 : decode cX2_canHold 33 = .ok (.iconst 0, 1) := by decide +kernel
theorem dX2_canHold_34 : decode cX2_canHold 34 = .ok (.ireturn, 1) := by decide +kernel
set_option maxRecDepth 20000 in
theorem ggX2_endsFrom_X4_isIn : GoodIn wsX2_endsFrom wsX4_isIn := goodIn_r _ [6] (by decide +kernel) (by decide +kernel)
set_option maxRecDepth 20000 in
theorem gX2_endsFrom_X4_isIn_n29 : GoodIn wsX2_endsFrom (wsX4_isIn) := ggX2_endsFrom_X4_isIn
set_option maxRecDepth 20000 in
theorem ggX2_endsFrom_X0_endsFrom : GoodIn wsX2_endsFrom wsX0_endsFrom := goodIn_r _ [11, 12, 13, 14, 15, 16, 17, 10, 18, 19, 20, 5, 21, 4, 6, 25, 26, 27, 28] (by decide +kernel) (by decide +kernel)
set_option maxRecDepth 20000 in
theorem gX2_endsFrom_X0_endsFrom : GoodIn wsX2_endsFrom (wsV RX2 33 RX0 yX0_endsFrom wsX0_endsFrom) := goodIn_app (goodIn_of _ (by decide +kernel)) ggX2_endsFrom_X0_endsFrom
theorem dX2_endsFrom_0 : decode cX2_endsFrom 0 = .ok (.iconst 0, 1) := by decide +kernel
theorem dX2_endsFrom_1 : decode cX2_endsFrom 1 = .ok (.istore 5, 2) := by decide +kernel
theorem dX2_endsFrom_3 : decode cX2_endsFrom 3 = .ok (.iload_n 2, 1) := by decide +kernel
theorem dX2_endsFrom_4 : decode cX2_endsFrom 4 = .ok (.iload_n 1, 1) := by decide +kernel
theorem dX2_endsFrom_5 : decode cX2_endsFrom 5 = .ok (.invokestatic 29, 3) := by decide +kernel
theorem dX2_endsFrom_8 : decode cX2_endsFrom 8 = .ok (.ifCond .eq 68, 3) := by decide +kernel
theorem dX2_endsFrom_11 : decode cX2_endsFrom 11 = .ok (.iconst 0, 1) := by decide +kernel
theorem dX2_endsFrom_12 : decode cX2_endsFrom 12 = .ok (.istore 6, 2) := by decide +kernel
theorem dX2_endsFrom_14 : decode cX2_endsFrom 14 = .ok (.iload 6, 2) := by decide +kernel
theorem dX2_endsFrom_16 : decode cX2_endsFrom 16 = .ok (.aload_n 0, 1) := by decide +kernel
theorem dX2_endsFrom_17 : decode cX2_endsFrom 17 = .ok (.getfield 9, 3) := by decide +kernel
theorem dX2_endsFrom_20 : decode cX2_endsFrom 20 = .ok (.arraylength, 1) := by decide +kernel
theorem dX2_endsFrom_21 : decode cX2_endsFrom 21 = .ok (.if_icmp .ge 55, 3) := by decide +kernel
theorem dX2_endsFrom_24 : decode cX2_endsFrom 24 = .ok (.aload_n 0, 1) := by decide +kernel
theorem dX2_endsFrom_25 : decode cX2_endsFrom 25 = .ok (.getfield 9, 3) := by decide +kernel
theorem dX2_endsFrom_28 : decode cX2_endsFrom 28 = .ok (.iload 6, 2) := by decide +kernel
theorem dX2_endsFrom_30 : decode cX2_endsFrom 30 = .ok (.aaload, 1) := by decide +kernel
theorem dX2_endsFrom_31 : decode cX2_endsFrom 31 = .ok (.astore 7, 2) := by decide +kernel
theorem dX2_endsFrom_33 : decode cX2_endsFrom 33 = .ok (.aload 7, 2) := by decide +kernel
theorem dX2_endsFrom_35 : decode cX2_endsFrom 35 = .ok (.ifnull 35, 3) := by decide +kernel
theorem dX2_endsFrom_38 : decode cX2_endsFrom 38 = .ok (.aload_n 0, 1) := by decide +kernel
theorem dX2_endsFrom_39 : decode cX2_endsFrom 39 = .ok (.getfield 15, 3) := by decide +kernel
theorem dX2_endsFrom_42 : decode cX2_endsFrom 42 = .ok (.iload 6, 2) := by decide +kernel
theorem dX2_endsFrom_44 : decode cX2_endsFrom 44 = .ok (.invokestatic 29, 3) := by decide +kernel
theorem dX2_endsFrom_47 : decode cX2_endsFrom 47 = .ok (.ifCond .eq 23, 3) := by decide +kernel
theorem dX2_endsFrom_50 : decode cX2_endsFrom 50 = .ok (.iload 5, 2) := by decide +kernel
theorem dX2_endsFrom_52 : decode cX2_endsFrom 52 = .ok (.aload 7, 2) := by decide +kernel
theorem dX2_endsFrom_54 : decode cX2_endsFrom 54 = .ok (.iload_n 1, 1) := by decide +kernel
theorem dX2_endsFrom_55 : decode cX2_endsFrom 55 = .ok (.aload_n 0, 1) := by decide +kernel
theorem dX2_endsFrom_56 : decode cX2_endsFrom 56 = .ok (.getfield 19, 3) := by decide +kernel
theorem dX2_endsFrom_59 : decode cX2_endsFrom 59 = .ok (.iload_n 2, 1) := by decide +kernel
theorem dX2_endsFrom_60 : decode cX2_endsFrom 60 = .ok (.iload_n 3, 1) := by decide +kernel
theorem dX2_endsFrom_61 : decode cX2_endsFrom 61 = .ok (.ior, 1) := by decide +kernel
theorem dX2_endsFrom_62 : decode cX2_endsFrom 62 = .ok (.iload 4, 2) := by decide +kernel
theorem dX2_endsFrom_64 : decode cX2_endsFrom 64 = .ok (.invokevirtual 33, 3) := by decide +kernel
theorem dX2_endsFrom_67 : decode cX2_endsFrom 67 = .ok (.ior, 1) := by decide +kernel
theorem dX2_endsFrom_68 : decode cX2_endsFrom 68 = .ok (.istore 5, 2) := by decide +kernel
theorem dX2_endsFrom_70 : decode cX2_endsFrom 70 = .ok (.iinc 6 1, 3) := by decide +kernel
theorem dX2_endsFrom_73 : decode cX2_endsFrom 73 = .ok (.goto (-59), 3) := by decide +kernel
theorem dX2_endsFrom_76 : decode cX2_endsFrom 76 = .ok (.iload 5, 2) := by decide +kernel
theorem dX2_endsFrom_78 : decode cX2_endsFrom 78 = .ok (.iload_n 2, 1) := by decide +kernel
theorem dX2_endsFrom_79 : decode cX2_endsFrom 79 = .ok (.iconst (-1), 1) := by decide +kernel
theorem dX2_endsFrom_80 : decode cX2_endsFrom 80 = .ok (.ixor, 1) := by decide +kernel
theorem dX2_endsFrom_81 : decode cX2_endsFrom 81 = .ok (.iand, 1) := by decide +kernel
theorem dX2_endsFrom_82 : decode cX2_endsFrom 82 = .ok (.ireturn, 1) := by decide +kernel
set_option maxRecDepth 20000 in
theorem ggX2_hasMove_X2_endsFrom : GoodIn wsX2_hasMove wsX2_endsFrom := goodIn_r _ [5, 6, 7, 8, 9, 10, 11, 12, 13, 14, 15, 16, 17, 18, 19, 20, 21, 22, 23, 24, 25, 26, 27, 28, 29, 30, 31, 32, 33] (by decide +kernel) (by decide +kernel)
set_option maxRecDepth 20000 in
theorem gX2_hasMove_X2_endsFrom : GoodIn wsX2_hasMove (wsV RX2 39 RX2 yX2_endsFrom wsX2_endsFrom) := goodIn_app (goodIn_of _ (by decide +kernel)) ggX2_hasMove_X2_endsFrom
theorem dX2_hasMove_0 : decode cX2_hasMove 0 = .ok (.iconst 0, 1) := by decide +kernel
theorem dX2_hasMove_1 : decode cX2_hasMove 1 = .ok (.istore 4, 2) := by decide +kernel
theorem dX2_hasMove_3 : decode cX2_hasMove 3 = .ok (.iload 4, 2) := by decide +kernel
theorem dX2_hasMove_5 : decode cX2_hasMove 5 = .ok (.bipush 25, 2) := by decide +kernel
theorem dX2_hasMove_7 : decode cX2_hasMove 7 = .ok (.if_icmp .ge 23, 3) := by decide +kernel
theorem dX2_hasMove_10 : decode cX2_hasMove 10 = .ok (.aload_n 0, 1) := by decide +kernel
theorem dX2_hasMove_11 : decode cX2_hasMove 11 = .ok (.iload 4, 2) := by decide +kernel
theorem dX2_hasMove_13 : decode cX2_hasMove 13 = .ok (.iload_n 1, 1) := by decide +kernel
theorem dX2_hasMove_14 : decode cX2_hasMove 14 = .ok (.iload_n 2, 1) := by decide +kernel
theorem dX2_hasMove_15 : decode cX2_hasMove 15 = .ok (.iload_n 3, 1) := by decide +kernel
theorem dX2_hasMove_16 : decode cX2_hasMove 16 = .ok (.invokevirtual 39, 3) := by decide +kernel
theorem dX2_hasMove_19 : decode cX2_hasMove 19 = .ok (.ifCond .eq 5, 3) := by decide +kernel
theorem dX2_hasMove_22 : decode cX2_hasMove 22 = .ok (.iconst 1, 1) := by decide +kernel
theorem dX2_hasMove_23 : decode cX2_hasMove 23 = .ok (.ireturn, 1) := by decide +kernel
theorem dX2_hasMove_24 : decode cX2_hasMove 24 = .ok (.iinc 4 1, 3) := by decide +kernel
theorem dX2_hasMove_27 : decode cX2_hasMove 27 = .ok (.goto (-24), 3) := by decide +kernel
theorem dX2_hasMove_30 : decode cX2_hasMove 30 = .ok (.iconst 0, 1) := by decide +kernel
theorem dX2_hasMove_31 : decode cX2_hasMove 31 = .ok (.ireturn, 1) := by decide +kernel
set_option maxRecDepth 20000 in
theorem ggX2_someCardLeads_X4_isIn : GoodIn wsX2_someCardLeads wsX4_isIn := goodIn_r _ [6] (by decide +kernel) (by decide +kernel)
set_option maxRecDepth 20000 in
theorem gX2_someCardLeads_X4_isIn_n29 : GoodIn wsX2_someCardLeads (wsX4_isIn) := ggX2_someCardLeads_X4_isIn
set_option maxRecDepth 20000 in
theorem ggX2_someCardLeads_X0_leads : GoodIn wsX2_someCardLeads wsX0_leads := goodIn_r _ [11, 12, 13, 14, 15, 16, 10, 17, 18, 19, 5, 20, 4, 6, 21, 22, 23, 24, 25, 29, 30, 31, 32] (by decide +kernel) (by decide +kernel)
set_option maxRecDepth 20000 in
theorem gX2_someCardLeads_X0_leads : GoodIn wsX2_someCardLeads (wsV RX2 40 RX0 yX0_leads wsX0_leads) := goodIn_app (goodIn_of _ (by decide +kernel)) ggX2_someCardLeads_X0_leads
theorem dX2_someCardLeads_0 : decode cX2_someCardLeads 0 = .ok (.iconst 0, 1) := by decide +kernel
theorem dX2_someCardLeads_1 : decode cX2_someCardLeads 1 = .ok (.istore 5, 2) := by decide +kernel
theorem dX2_someCardLeads_3 : decode cX2_someCardLeads 3 = .ok (.iload 5, 2) := by decide +kernel
theorem dX2_someCardLeads_5 : decode cX2_someCardLeads 5 = .ok (.aload_n 0, 1) := by decide +kernel
theorem dX2_someCardLeads_6 : decode cX2_someCardLeads 6 = .ok (.getfield 9, 3) := by decide +kernel
theorem dX2_someCardLeads_9 : decode cX2_someCardLeads 9 = .ok (.arraylength, 1) := by decide +kernel
theorem dX2_someCardLeads_10 : decode cX2_someCardLeads 10 = .ok (.if_icmp .ge 54, 3) := by decide +kernel
theorem dX2_someCardLeads_13 : decode cX2_someCardLeads 13 = .ok (.aload_n 0, 1) := by decide +kernel
theorem dX2_someCardLeads_14 : decode cX2_someCardLeads 14 = .ok (.getfield 9, 3) := by decide +kernel
theorem dX2_someCardLeads_17 : decode cX2_someCardLeads 17 = .ok (.iload 5, 2) := by decide +kernel
theorem dX2_someCardLeads_19 : decode cX2_someCardLeads 19 = .ok (.aaload, 1) := by decide +kernel
theorem dX2_someCardLeads_20 : decode cX2_someCardLeads 20 = .ok (.astore 6, 2) := by decide +kernel
theorem dX2_someCardLeads_22 : decode cX2_someCardLeads 22 = .ok (.aload 6, 2) := by decide +kernel
theorem dX2_someCardLeads_24 : decode cX2_someCardLeads 24 = .ok (.ifnull 34, 3) := by decide +kernel
theorem dX2_someCardLeads_27 : decode cX2_someCardLeads 27 = .ok (.aload_n 0, 1) := by decide +kernel
theorem dX2_someCardLeads_28 : decode cX2_someCardLeads 28 = .ok (.getfield 15, 3) := by decide +kernel
theorem dX2_someCardLeads_31 : decode cX2_someCardLeads 31 = .ok (.iload 5, 2) := by decide +kernel
theorem dX2_someCardLeads_33 : decode cX2_someCardLeads 33 = .ok (.invokestatic 29, 3) := by decide +kernel
theorem dX2_someCardLeads_36 : decode cX2_someCardLeads 36 = .ok (.ifCond .eq 22, 3) := by decide +kernel
theorem dX2_someCardLeads_39 : decode cX2_someCardLeads 39 = .ok (.aload 6, 2) := by decide +kernel
theorem dX2_someCardLeads_41 : decode cX2_someCardLeads 41 = .ok (.iload_n 1, 1) := by decide +kernel
theorem dX2_someCardLeads_42 : decode cX2_someCardLeads 42 = .ok (.iload_n 2, 1) := by decide +kernel
theorem dX2_someCardLeads_43 : decode cX2_someCardLeads 43 = .ok (.aload_n 0, 1) := by decide +kernel
theorem dX2_someCardLeads_44 : decode cX2_someCardLeads 44 = .ok (.getfield 19, 3) := by decide +kernel
theorem dX2_someCardLeads_47 : decode cX2_someCardLeads 47 = .ok (.iload_n 3, 1) := by decide +kernel
theorem dX2_someCardLeads_48 : decode cX2_someCardLeads 48 = .ok (.iload 4, 2) := by decide +kernel
theorem dX2_someCardLeads_50 : decode cX2_someCardLeads 50 = .ok (.invokevirtual 40, 3) := by decide +kernel
theorem dX2_someCardLeads_53 : decode cX2_someCardLeads 53 = .ok (.ifCond .eq 5, 3) := by decide +kernel
theorem dX2_someCardLeads_56 : decode cX2_someCardLeads 56 = .ok (.iconst 1, 1) := by decide +kernel
theorem dX2_someCardLeads_57 : decode cX2_someCardLeads 57 = .ok (.ireturn, 1) := by decide +kernel
theorem dX2_someCardLeads_58 : decode cX2_someCardLeads 58 = .ok (.iinc 5 1, 3) := by decide +kernel
theorem dX2_someCardLeads_61 : decode cX2_someCardLeads 61 = .ok (.goto (-58), 3) := by decide +kernel
theorem dX2_someCardLeads_64 : decode cX2_someCardLeads 64 = .ok (.iconst 0, 1) := by decide +kernel
theorem dX2_someCardLeads_65 : decode cX2_someCardLeads 65 = .ok (.ireturn, 1) := by decide +kernel
theorem dX3_init_0 : decode cX3_init 0 = .ok (.aload_n 0, 1) := by decide +kernel
theorem dX3_init_1 : decode cX3_init 1 = .ok (.invokespecial 3, 3) := by decide +kernel
theorem dX3_init_4 : decode cX3_init 4 = .ok (.aload_n 0, 1) := by decide +kernel
theorem dX3_init_5 : decode cX3_init 5 = .ok (.aload_n 1, 1) := by decide +kernel
theorem dX3_init_6 : decode cX3_init 6 = .ok (.putfield 9, 3) := by decide +kernel
theorem dX3_init_9 : decode cX3_init 9 = .ok (.return_, 1) := by decide +kernel
set_option maxRecDepth 20000 in
theorem ggX3_isOut_J6_bitCount_0f7a4 : GoodIn wsX3_isOut wsJ6_bitCount_0f7a4 := goodIn_r _ [6, 7, 8, 9] (by decide +kernel) (by decide +kernel)
set_option maxRecDepth 20000 in
theorem gX3_isOut_J6_bitCount_0f7a4 : GoodIn wsX3_isOut (va_wsS RX3 19 yJ6_bitCount_0f7a4 wsJ6_bitCount_0f7a4) := goodIn_app (goodIn_of _ (by decide +kernel)) ggX3_isOut_J6_bitCount_0f7a4
theorem dX3_isOut_0 : decode cX3_isOut 0 = .ok (.aload_n 0, 1) := by decide +kernel
theorem dX3_isOut_1 : decode cX3_isOut 1 = .ok (.getfield 15, 3) := by decide +kernel
theorem dX3_isOut_4 : decode cX3_isOut 4 = .ok (.invokestatic 19, 3) := by decide +kernel
theorem dX3_isOut_7 : decode cX3_isOut 7 = .ok (.iconst 3, 1) := by decide +kernel
theorem dX3_isOut_8 : decode cX3_isOut 8 = .ok (.if_icmp .ge 11, 3) := by decide +kernel
theorem dX3_isOut_11 : decode cX3_isOut 11 = .ok (.aload_n 0, 1) := by decide +kernel
theorem dX3_isOut_12 : decode cX3_isOut 12 = .ok (.getfield 25, 3) := by decide +kernel
theorem dX3_isOut_15 : decode cX3_isOut 15 = .ok (.iconst 2, 1) := by decide +kernel
theorem dX3_isOut_16 : decode cX3_isOut 16 = .ok (.if_icmp .lt 7, 3) := by decide +kernel
theorem dX3_isOut_19 : decode cX3_isOut 19 = .ok (.iconst 1, 1) := by decide +kernel
theorem dX3_isOut_20 : decode cX3_isOut 20 = .ok (.goto 4, 3) := by decide +kernel
theorem dX3_isOut_23 : decode cX3_isOut 23 = .ok (.iconst 0, 1) := by decide +kernel
theorem dX3_isOut_24 : decode cX3_isOut 24 = .ok (.ireturn, 1) := by decide +kernel
theorem dX4_init_0 : decode cX4_init 0 = .ok (.aload_n 0, 1) := by decide +kernel
theorem dX4_init_1 : decode cX4_init 1 = .ok (.invokespecial 1, 3) := by decide +kernel
theorem dX4_init_4 : decode cX4_init 4 = .ok (.aload_n 0, 1) := by decide +kernel
theorem dX4_init_5 : decode cX4_init 5 = .ok (.bipush 8, 2) := by decide +kernel
theorem dX4_init_7 : decode cX4_init 7 = .ok (.anewarray 9, 3) := by decide +kernel
theorem dX4_init_10 : decode cX4_init 10 = .ok (.putfield 11, 3) := by decide +kernel
theorem dX4_init_13 : decode cX4_init 13 = .ok (.aload_n 0, 1) := by decide +kernel
theorem dX4_init_14 : decode cX4_init 14 = .ok (.iconst 4, 1) := by decide +kernel
theorem dX4_init_15 : decode cX4_init 15 = .ok (.anewarray 15, 3) := by decide +kernel
theorem dX4_init_18 : decode cX4_init 18 = .ok (.putfield 17, 3) := by decide +kernel
theorem dX4_init_21 : decode cX4_init 21 = .ok (.aload_n 0, 1) := by decide +kernel
theorem dX4_init_22 : decode cX4_init 22 = .ok (.bipush 12, 2) := by decide +kernel
theorem dX4_init_24 : decode cX4_init 24 = .ok (.anewarray 21, 3) := by decide +kernel
theorem dX4_init_27 : decode cX4_init 27 = .ok (.putfield 23, 3) := by decide +kernel
theorem dX4_init_30 : decode cX4_init 30 = .ok (.return_, 1) := by decide +kernel
set_option maxRecDepth 20000 in
theorem ggX4_card_X4_isStep : GoodIn wsX4_card wsX4_isStep := goodIn_r _ [13] (by decide +kernel) (by decide +kernel)
set_option maxRecDepth 20000 in
theorem gX4_card_X4_isStep : GoodIn wsX4_card (va_wsS RX4 27 yX4_isStep wsX4_isStep) := goodIn_app (goodIn_of _ (by decide +kernel)) ggX4_card_X4_isStep
set_option maxRecDepth 20000 in
theorem ggX4_card_X0_init : GoodIn wsX4_card wsX0_init := goodIn_r _ [16, 17, 18, 19, 20, 21, 22, 23, 30, 31, 32, 33] (by decide +kernel) (by decide +kernel)
set_option maxRecDepth 20000 in
theorem gX4_card_X0_init : GoodIn wsX4_card (wsX0_init) := ggX4_card_X0_init
theorem dX4_card_0 : decode cX4_card 0 = .ok (.iload_n 1, 1) := by decide +kernel
theorem dX4_card_1 : decode cX4_card 1 = .ok (.ifCond .lt 28, 3) := by decide +kernel
theorem dX4_card_4 : decode cX4_card 4 = .ok (.iload_n 1, 1) := by decide +kernel
theorem dX4_card_5 : decode cX4_card 5 = .ok (.iconst 2, 1) := by decide +kernel
theorem dX4_card_6 : decode cX4_card 6 = .ok (.if_icmp .gt 23, 3) := by decide +kernel
theorem dX4_card_9 : decode cX4_card 9 = .ok (.iload_n 2, 1) := by decide +kernel
theorem dX4_card_10 : decode cX4_card 10 = .ok (.iload_n 3, 1) := by decide +kernel
theorem dX4_card_11 : decode cX4_card 11 = .ok (.invokestatic 27, 3) := by decide +kernel
theorem dX4_card_14 : decode cX4_card 14 = .ok (.ifCond .eq 15, 3) := by decide +kernel
theorem dX4_card_17 : decode cX4_card 17 = .ok (.iload 4, 2) := by decide +kernel
theorem dX4_card_19 : decode cX4_card 19 = .ok (.iconst 1, 1) := by decide +kernel
theorem dX4_card_20 : decode cX4_card 20 = .ok (.if_icmp .lt 9, 3) := by decide +kernel
theorem dX4_card_23 : decode cX4_card 23 = .ok (.iload 4, 2) := by decide +kernel
theorem dX4_card_25 : decode cX4_card 25 = .ok (.iconst 4, 1) := by decide +kernel
theorem dX4_card_26 : decode cX4_card 26 = .ok (.if_icmp .le 13, 3) := by decide +kernel
theorem dX4_card_29 : decode cX4_card 29 = .ok (.new 31, 3) := by decide +kernel
theorem dX4_card_32 : decode cX4_card 32 = .ok (.dup, 1) := by decide +kernel
theorem dX4_card_33 : decode cX4_card 33 = .ok (.ldc 33, 2) := by decide +kernel
theorem dX4_card_35 : decode cX4_card 35 = .ok (.invokespecial 35, 3) := by decide +kernel
theorem dX4_card_38 : decode cX4_card 38 = .ok (.athrow, 1) := by decide +kernel
theorem dX4_card_39 : decode cX4_card 39 = .ok (.aload_n 0, 1) := by decide +kernel
theorem dX4_card_40 : decode cX4_card 40 = .ok (.getfield 38, 3) := by decide +kernel
theorem dX4_card_43 : decode cX4_card 43 = .ok (.aload_n 0, 1) := by decide +kernel
theorem dX4_card_44 : decode cX4_card 44 = .ok (.getfield 11, 3) := by decide +kernel
theorem dX4_card_47 : decode cX4_card 47 = .ok (.arraylength, 1) := by decide +kernel
theorem dX4_card_48 : decode cX4_card 48 = .ok (.if_icmp .lt 13, 3) := by decide +kernel
theorem dX4_card_51 : decode cX4_card 51 = .ok (.new 42, 3) := by decide +kernel
theorem dX4_card_54 : decode cX4_card 54 = .ok (.dup, 1) := by decide +kernel
theorem dX4_card_55 : decode cX4_card 55 = .ok (.ldc 44, 2) := by decide +kernel
theorem dX4_card_57 : decode cX4_card 57 = .ok (.invokespecial 46, 3) := by decide +kernel
theorem dX4_card_60 : decode cX4_card 60 = .ok (.athrow, 1) := by decide +kernel
theorem dX4_card_61 : decode cX4_card 61 = .ok (.aload_n 0, 1) := by decide +kernel
theorem dX4_card_62 : decode cX4_card 62 = .ok (.getfield 38, 3) := by decide +kernel
theorem dX4_card_65 : decode cX4_card 65 = .ok (.istore 5, 2) := by decide +kernel
theorem dX4_card_67 : decode cX4_card 67 = .ok (.aload_n 0, 1) := by decide +kernel
theorem dX4_card_68 : decode cX4_card 68 = .ok (.getfield 11, 3) := by decide +kernel
theorem dX4_card_71 : decode cX4_card 71 = .ok (.iload 5, 2) := by decide +kernel
theorem dX4_card_73 : decode cX4_card 73 = .ok (.new 9, 3) := by decide +kernel
theorem dX4_card_76 : decode cX4_card 76 = .ok (.dup, 1) := by decide +kernel
theorem dX4_card_77 : decode cX4_card 77 = .ok (.iload_n 1, 1) := by decide +kernel
theorem dX4_card_78 : decode cX4_card 78 = .ok (.iload_n 2, 1) := by decide +kernel
theorem dX4_card_79 : decode cX4_card 79 = .ok (.iload_n 3, 1) := by decide +kernel
theorem dX4_card_80 : decode cX4_card 80 = .ok (.iload 4, 2) := by decide +kernel
theorem dX4_card_82 : decode cX4_card 82 = .ok (.invokespecial 47, 3) := by decide +kernel
theorem dX4_card_85 : decode cX4_card 85 = .ok (.aastore, 1) := by decide +kernel
theorem dX4_card_86 : decode cX4_card 86 = .ok (.aload_n 0, 1) := by decide +kernel
theorem dX4_card_87 : decode cX4_card 87 = .ok (.iload 5, 2) := by decide +kernel
theorem dX4_card_89 : decode cX4_card 89 = .ok (.iconst 1, 1) := by decide +kernel
theorem dX4_card_90 : decode cX4_card 90 = .ok (.iadd, 1) := by decide +kernel
theorem dX4_card_91 : decode cX4_card 91 = .ok (.putfield 38, 3) := by decide +kernel
theorem dX4_card_94 : decode cX4_card 94 = .ok (.iload 5, 2) := by decide +kernel
theorem dX4_card_96 : decode cX4_card 96 = .ok (.ireturn, 1) := by decide +kernel
set_option maxRecDepth 20000 in
theorem ggX4_variant_X4_isSetOfCards : GoodIn wsX4_variant wsX4_isSetOfCards := goodIn_r _ [19, 20, 35, 36, 37, 38, 39, 40] (by decide +kernel) (by decide +kernel)
set_option maxRecDepth 20000 in
theorem gX4_variant_X4_isSetOfCards : GoodIn wsX4_variant (wsV RX4 51 RX4 yX4_isSetOfCards wsX4_isSetOfCards) := goodIn_app (goodIn_of _ (by decide +kernel)) ggX4_variant_X4_isSetOfCards
set_option maxRecDepth 20000 in
theorem ggX4_variant_X2_init : GoodIn wsX4_variant wsX2_init := goodIn_r _ [23, 24, 25, 26, 27, 28, 29, 44, 45, 46] (by decide +kernel) (by decide +kernel)
set_option maxRecDepth 20000 in
theorem gX4_variant_X2_init : GoodIn wsX4_variant (wsX2_init) := ggX4_variant_X2_init
set_option maxRecDepth 20000 in
theorem ggX4_variant_X3_init : GoodIn wsX4_variant wsX3_init := goodIn_r _ [32, 33, 25, 26, 34, 41, 42, 43] (by decide +kernel) (by decide +kernel)
set_option maxRecDepth 20000 in
theorem gX4_variant_X3_init : GoodIn wsX4_variant (wsX3_init) := ggX4_variant_X3_init
theorem dX4_variant_0 : decode cX4_variant 0 = .ok (.iload_n 1, 1) := by decide +kernel
theorem dX4_variant_1 : decode cX4_variant 1 = .ok (.ifCond .lt 17, 3) := by decide +kernel
theorem dX4_variant_4 : decode cX4_variant 4 = .ok (.iload_n 1, 1) := by decide +kernel
theorem dX4_variant_5 : decode cX4_variant 5 = .ok (.ldc 50, 2) := by decide +kernel
theorem dX4_variant_7 : decode cX4_variant 7 = .ok (.if_icmp .gt 11, 3) := by decide +kernel
theorem dX4_variant_10 : decode cX4_variant 10 = .ok (.aload_n 0, 1) := by decide +kernel
theorem dX4_variant_11 : decode cX4_variant 11 = .ok (.iload_n 2, 1) := by decide +kernel
theorem dX4_variant_12 : decode cX4_variant 12 = .ok (.invokevirtual 51, 3) := by decide +kernel
theorem dX4_variant_15 : decode cX4_variant 15 = .ok (.ifCond .ne 13, 3) := by decide +kernel
theorem dX4_variant_18 : decode cX4_variant 18 = .ok (.new 31, 3) := by decide +kernel
theorem dX4_variant_21 : decode cX4_variant 21 = .ok (.dup, 1) := by decide +kernel
theorem dX4_variant_22 : decode cX4_variant 22 = .ok (.ldc 55, 2) := by decide +kernel
theorem dX4_variant_24 : decode cX4_variant 24 = .ok (.invokespecial 35, 3) := by decide +kernel
theorem dX4_variant_27 : decode cX4_variant 27 = .ok (.athrow, 1) := by decide +kernel
theorem dX4_variant_28 : decode cX4_variant 28 = .ok (.aload_n 0, 1) := by decide +kernel
theorem dX4_variant_29 : decode cX4_variant 29 = .ok (.getfield 57, 3) := by decide +kernel
theorem dX4_variant_32 : decode cX4_variant 32 = .ok (.aload_n 0, 1) := by decide +kernel
theorem dX4_variant_33 : decode cX4_variant 33 = .ok (.getfield 17, 3) := by decide +kernel
theorem dX4_variant_36 : decode cX4_variant 36 = .ok (.arraylength, 1) := by decide +kernel
theorem dX4_variant_37 : decode cX4_variant 37 = .ok (.if_icmp .lt 13, 3) := by decide +kernel
theorem dX4_variant_40 : decode cX4_variant 40 = .ok (.new 42, 3) := by decide +kernel
theorem dX4_variant_43 : decode cX4_variant 43 = .ok (.dup, 1) := by decide +kernel
theorem dX4_variant_44 : decode cX4_variant 44 = .ok (.ldc 60, 2) := by decide +kernel
theorem dX4_variant_46 : decode cX4_variant 46 = .ok (.invokespecial 46, 3) := by decide +kernel
theorem dX4_variant_49 : decode cX4_variant 49 = .ok (.athrow, 1) := by decide +kernel
theorem dX4_variant_50 : decode cX4_variant 50 = .ok (.aload_n 0, 1) := by decide +kernel
theorem dX4_variant_51 : decode cX4_variant 51 = .ok (.getfield 57, 3) := by decide +kernel
theorem dX4_variant_54 : decode cX4_variant 54 = .ok (.istore_n 3, 1) := by decide +kernel
theorem dX4_variant_55 : decode cX4_variant 55 = .ok (.aload_n 0, 1) := by decide +kernel
theorem dX4_variant_56 : decode cX4_variant 56 = .ok (.getfield 17, 3) := by decide +kernel
theorem dX4_variant_59 : decode cX4_variant 59 = .ok (.iload_n 3, 1) := by decide +kernel
theorem dX4_variant_60 : decode cX4_variant 60 = .ok (.new 15, 3) := by decide +kernel
theorem dX4_variant_63 : decode cX4_variant 63 = .ok (.dup, 1) := by decide +kernel
theorem dX4_variant_64 : decode cX4_variant 64 = .ok (.new 62, 3) := by decide +kernel
theorem dX4_variant_67 : decode cX4_variant 67 = .ok (.dup, 1) := by decide +kernel
theorem dX4_variant_68 : decode cX4_variant 68 = .ok (.aload_n 0, 1) := by decide +kernel
theorem dX4_variant_69 : decode cX4_variant 69 = .ok (.getfield 11, 3) := by decide +kernel
theorem dX4_variant_72 : decode cX4_variant 72 = .ok (.iload_n 2, 1) := by decide +kernel
theorem dX4_variant_73 : decode cX4_variant 73 = .ok (.iload_n 1, 1) := by decide +kernel
theorem dX4_variant_74 : decode cX4_variant 74 = .ok (.invokespecial 64, 3) := by decide +kernel
theorem dX4_variant_77 : decode cX4_variant 77 = .ok (.invokespecial 67, 3) := by decide +kernel
theorem dX4_variant_80 : decode cX4_variant 80 = .ok (.aastore, 1) := by decide +kernel
theorem dX4_variant_81 : decode cX4_variant 81 = .ok (.aload_n 0, 1) := by decide +kernel
theorem dX4_variant_82 : decode cX4_variant 82 = .ok (.iload_n 3, 1) := by decide +kernel
theorem dX4_variant_83 : decode cX4_variant 83 = .ok (.iconst 1, 1) := by decide +kernel
theorem dX4_variant_84 : decode cX4_variant 84 = .ok (.iadd, 1) := by decide +kernel
theorem dX4_variant_85 : decode cX4_variant 85 = .ok (.putfield 57, 3) := by decide +kernel
theorem dX4_variant_88 : decode cX4_variant 88 = .ok (.iload_n 3, 1) := by decide +kernel
theorem dX4_variant_89 : decode cX4_variant 89 = .ok (.ireturn, 1) := by decide +kernel
set_option maxRecDepth 20000 in
theorem ggX4_setCards_X4_variantAt : GoodIn wsX4_setCards wsX4_variantAt := goodIn_ca (goodIn_r _ [14, 15, 16, 17, 38, 39, 40, 41, 42, 43] (by decide +kernel) (by decide +kernel)) (goodIn_sub (fun _ h => List.mem_cons_of_mem _ (List.mem_append_right _ h)) (by decide +kernel))
set_option maxRecDepth 20000 in
theorem gX4_setCards_X4_variantAt : GoodIn wsX4_setCards (wsV RX4 70 RX4 yX4_variantAt wsX4_variantAt) := goodIn_app (goodIn_of _ (by decide +kernel)) ggX4_setCards_X4_variantAt
set_option maxRecDepth 20000 in
theorem ggX4_setCards_X4_isSetOfCards : GoodIn wsX4_setCards wsX4_isSetOfCards := goodIn_r _ [21, 22, 38, 39, 40, 41, 42, 43] (by decide +kernel) (by decide +kernel)
set_option maxRecDepth 20000 in
theorem gX4_setCards_X4_isSetOfCards : GoodIn wsX4_setCards (wsV RX4 51 RX4 yX4_isSetOfCards wsX4_isSetOfCards) := goodIn_app (goodIn_of _ (by decide +kernel)) ggX4_setCards_X4_isSetOfCards
set_option maxRecDepth 20000 in
theorem ggX4_setCards_X2_init : GoodIn wsX4_setCards wsX2_init := goodIn_r _ [25, 26, 27, 28, 29, 30, 31, 35, 36, 37] (by decide +kernel) (by decide +kernel)
set_option maxRecDepth 20000 in
theorem gX4_setCards_X2_init : GoodIn wsX4_setCards (wsX2_init) := ggX4_setCards_X2_init
theorem dX4_setCards_0 : decode cX4_setCards 0 = .ok (.aload_n 0, 1) := by decide +kernel
theorem dX4_setCards_1 : decode cX4_setCards 1 = .ok (.iload_n 1, 1) := by decide +kernel
theorem dX4_setCards_2 : decode cX4_setCards 2 = .ok (.invokevirtual 70, 3) := by decide +kernel
theorem dX4_setCards_5 : decode cX4_setCards 5 = .ok (.astore_n 3, 1) := by decide +kernel
theorem dX4_setCards_6 : decode cX4_setCards 6 = .ok (.aload_n 0, 1) := by decide +kernel
theorem dX4_setCards_7 : decode cX4_setCards 7 = .ok (.iload_n 2, 1) := by decide +kernel
theorem dX4_setCards_8 : decode cX4_setCards 8 = .ok (.invokevirtual 51, 3) := by decide +kernel
theorem dX4_setCards_11 : decode cX4_setCards 11 = .ok (.ifCond .ne 13, 3) := by decide +kernel
theorem dX4_setCards_14 : decode cX4_setCards 14 = .ok (.new 31, 3) := by decide +kernel
theorem dX4_setCards_17 : decode cX4_setCards 17 = .ok (.dup, 1) := by decide +kernel
theorem dX4_setCards_18 : decode cX4_setCards 18 = .ok (.ldc 74, 2) := by decide +kernel
theorem dX4_setCards_20 : decode cX4_setCards 20 = .ok (.invokespecial 35, 3) := by decide +kernel
theorem dX4_setCards_23 : decode cX4_setCards 23 = .ok (.athrow, 1) := by decide +kernel
theorem dX4_setCards_24 : decode cX4_setCards 24 = .ok (.aload_n 3, 1) := by decide +kernel
theorem dX4_setCards_25 : decode cX4_setCards 25 = .ok (.getfield 76, 3) := by decide +kernel
theorem dX4_setCards_28 : decode cX4_setCards 28 = .ok (.astore 4, 2) := by decide +kernel
theorem dX4_setCards_30 : decode cX4_setCards 30 = .ok (.aload_n 3, 1) := by decide +kernel
theorem dX4_setCards_31 : decode cX4_setCards 31 = .ok (.new 62, 3) := by decide +kernel
theorem dX4_setCards_34 : decode cX4_setCards 34 = .ok (.dup, 1) := by decide +kernel
theorem dX4_setCards_35 : decode cX4_setCards 35 = .ok (.aload_n 0, 1) := by decide +kernel
theorem dX4_setCards_36 : decode cX4_setCards 36 = .ok (.getfield 11, 3) := by decide +kernel
theorem dX4_setCards_39 : decode cX4_setCards 39 = .ok (.iload_n 2, 1) := by decide +kernel
theorem dX4_setCards_40 : decode cX4_setCards 40 = .ok (.aload 4, 2) := by decide +kernel
theorem dX4_setCards_42 : decode cX4_setCards 42 = .ok (.getfield 80, 3) := by decide +kernel
theorem dX4_setCards_45 : decode cX4_setCards 45 = .ok (.invokespecial 64, 3) := by decide +kernel
theorem dX4_setCards_48 : decode cX4_setCards 48 = .ok (.putfield 76, 3) := by decide +kernel
theorem dX4_setCards_51 : decode cX4_setCards 51 = .ok (.aload 4, 2) := by decide +kernel
theorem dX4_setCards_53 : decode cX4_setCards 53 = .ok (.getfield 83, 3) := by decide +kernel
theorem dX4_setCards_56 : decode cX4_setCards 56 = .ok (.ireturn, 1) := by decide +kernel
set_option maxRecDepth 20000 in
theorem ggX4_begin_X4_variantAt : GoodIn wsX4_begin wsX4_variantAt := goodIn_ca (goodIn_r _ [15, 16, 17, 18, 93, 94, 95, 96, 97, 98] (by decide +kernel) (by decide +kernel)) (goodIn_sub (fun _ h => List.mem_cons_of_mem _ (List.mem_append_right _ h)) (by decide +kernel))
set_option maxRecDepth 20000 in
theorem gX4_begin_X4_variantAt : GoodIn wsX4_begin (wsV RX4 70 RX4 yX4_variantAt wsX4_variantAt) := goodIn_app (goodIn_of _ (by decide +kernel)) ggX4_begin_X4_variantAt
set_option maxRecDepth 20000 in
theorem ggX4_begin_X4_checkPlayer : GoodIn wsX4_begin wsX4_checkPlayer := goodIn_ca (goodIn_r _ [21, 16, 17] (by decide +kernel) (by decide +kernel)) (goodIn_sub (fun _ h => List.mem_cons_of_mem _ (List.mem_append_right _ h)) (by decide +kernel))
set_option maxRecDepth 20000 in
theorem gX4_begin_X4_checkPlayer : GoodIn wsX4_begin (va_wsS RX4 86 yX4_checkPlayer wsX4_checkPlayer) := goodIn_app (goodIn_of _ (by decide +kernel)) ggX4_begin_X4_checkPlayer
set_option maxRecDepth 20000 in
theorem ggX4_begin_X2_canHold : GoodIn wsX4_begin wsX2_canHold := goodIn_r _ [26, 27, 28, 29, 30, 31, 32, 33, 34, 35, 108, 109, 110] (by decide +kernel) (by decide +kernel)
set_option maxRecDepth 20000 in
theorem gX4_begin_X2_canHold : GoodIn wsX4_begin (wsV RX4 90 RX2 yX2_canHold wsX2_canHold) := goodIn_app (goodIn_of _ (by decide +kernel)) ggX4_begin_X2_canHold
set_option maxRecDepth 20000 in
theorem ggX4_begin_X3_isOut : GoodIn wsX4_begin wsX3_isOut := goodIn_r _ [40, 41, 42, 43, 30, 31, 32, 33, 34, 35, 90, 91, 92] (by decide +kernel) (by decide +kernel)
set_option maxRecDepth 20000 in
theorem gX4_begin_X3_isOut : GoodIn wsX4_begin (wsV RX4 95 RX3 yX3_isOut wsX3_isOut) := goodIn_app (goodIn_of _ (by decide +kernel)) ggX4_begin_X3_isOut
set_option maxRecDepth 20000 in
theorem ggX4_begin_X2_hasMove : GoodIn wsX4_begin wsX2_hasMove := goodIn_r _ [47, 48, 49, 50, 25, 51, 52, 53, 28, 54, 14, 55, 56, 57, 58, 59, 60, 61, 62, 63, 64, 65, 66, 67, 68, 69, 70, 108, 109, 110, 111, 112, 113, 114] (by decide +kernel) (by decide +kernel)
set_option maxRecDepth 20000 in
theorem gX4_begin_X2_hasMove : GoodIn wsX4_begin (wsV RX4 102 RX2 yX2_hasMove wsX2_hasMove) := goodIn_app (goodIn_of _ (by decide +kernel)) ggX4_begin_X2_hasMove
set_option maxRecDepth 20000 in
theorem ggX4_begin_X1_init : GoodIn wsX4_begin wsX1_init := goodIn_r _ [73, 74, 75, 76, 77, 78, 79, 80, 81, 82, 83, 84, 85, 86, 87, 88, 10, 89, 99, 100, 101, 102, 103, 104, 105, 106, 107, 90, 91, 92] (by decide +kernel) (by decide +kernel)
set_option maxRecDepth 20000 in
theorem gX4_begin_X1_init : GoodIn wsX4_begin (wsX1_init) := ggX4_begin_X1_init
theorem dX4_begin_0 : decode cX4_begin 0 = .ok (.aload_n 0, 1) := by decide +kernel
theorem dX4_begin_1 : decode cX4_begin 1 = .ok (.iload_n 1, 1) := by decide +kernel
theorem dX4_begin_2 : decode cX4_begin 2 = .ok (.invokevirtual 70, 3) := by decide +kernel
theorem dX4_begin_5 : decode cX4_begin 5 = .ok (.astore 6, 2) := by decide +kernel
theorem dX4_begin_7 : decode cX4_begin 7 = .ok (.iload_n 2, 1) := by decide +kernel
theorem dX4_begin_8 : decode cX4_begin 8 = .ok (.invokestatic 86, 3) := by decide +kernel
theorem dX4_begin_11 : decode cX4_begin 11 = .ok (.iload_n 3, 1) := by decide +kernel
theorem dX4_begin_12 : decode cX4_begin 12 = .ok (.invokestatic 86, 3) := by decide +kernel
theorem dX4_begin_15 : decode cX4_begin 15 = .ok (.aload 6, 2) := by decide +kernel
theorem dX4_begin_17 : decode cX4_begin 17 = .ok (.getfield 76, 3) := by decide +kernel
theorem dX4_begin_20 : decode cX4_begin 20 = .ok (.astore 7, 2) := by decide +kernel
theorem dX4_begin_22 : decode cX4_begin 22 = .ok (.iload_n 2, 1) := by decide +kernel
theorem dX4_begin_23 : decode cX4_begin 23 = .ok (.iload_n 3, 1) := by decide +kernel
theorem dX4_begin_24 : decode cX4_begin 24 = .ok (.if_icmp .eq 31, 3) := by decide +kernel
theorem dX4_begin_27 : decode cX4_begin 27 = .ok (.aload 7, 2) := by decide +kernel
theorem dX4_begin_29 : decode cX4_begin 29 = .ok (.iload 4, 2) := by decide +kernel
theorem dX4_begin_31 : decode cX4_begin 31 = .ok (.invokevirtual 90, 3) := by decide +kernel
theorem dX4_begin_34 : decode cX4_begin 34 = .ok (.ifCond .eq 21, 3) := by decide +kernel
theorem dX4_begin_37 : decode cX4_begin 37 = .ok (.aload 7, 2) := by decide +kernel
theorem dX4_begin_39 : decode cX4_begin 39 = .ok (.iload 5, 2) := by decide +kernel
theorem dX4_begin_41 : decode cX4_begin 41 = .ok (.invokevirtual 90, 3) := by decide +kernel
theorem dX4_begin_44 : decode cX4_begin 44 = .ok (.ifCond .eq 11, 3) := by decide +kernel
theorem dX4_begin_47 : decode cX4_begin 47 = .ok (.iload 4, 2) := by decide +kernel
theorem dX4_begin_49 : decode cX4_begin 49 = .ok (.iload 5, 2) := by decide +kernel
theorem dX4_begin_51 : decode cX4_begin 51 = .ok (.iand, 1) := by decide +kernel
theorem dX4_begin_52 : decode cX4_begin 52 = .ok (.ifCond .eq 13, 3) := by decide +kernel
theorem dX4_begin_55 : decode cX4_begin 55 = .ok (.new 31, 3) := by decide +kernel
theorem dX4_begin_58 : decode cX4_begin 58 = .ok (.dup, 1) := by decide +kernel
theorem dX4_begin_59 : decode cX4_begin 59 = .ok (.ldc 93, 2) := by decide +kernel
theorem dX4_begin_61 : decode cX4_begin 61 = .ok (.invokespecial 35, 3) := by decide +kernel
theorem dX4_begin_64 : decode cX4_begin 64 = .ok (.athrow, 1) := by decide +kernel
theorem dX4_begin_65 : decode cX4_begin 65 = .ok (.aload 6, 2) := by decide +kernel
theorem dX4_begin_67 : decode cX4_begin 67 = .ok (.invokevirtual 95, 3) := by decide +kernel
theorem dX4_begin_70 : decode cX4_begin 70 = .ok (.ifCond .ne 28, 3) := by decide +kernel
theorem dX4_begin_73 : decode cX4_begin 73 = .ok (.aload_n 0, 1) := by decide +kernel
theorem dX4_begin_74 : decode cX4_begin 74 = .ok (.getfield 99, 3) := by decide +kernel
theorem dX4_begin_77 : decode cX4_begin 77 = .ok (.aload_n 0, 1) := by decide +kernel
theorem dX4_begin_78 : decode cX4_begin 78 = .ok (.getfield 23, 3) := by decide +kernel
theorem dX4_begin_81 : decode cX4_begin 81 = .ok (.arraylength, 1) := by decide +kernel
theorem dX4_begin_82 : decode cX4_begin 82 = .ok (.if_icmp .ge 16, 3) := by decide +kernel
theorem dX4_begin_85 : decode cX4_begin 85 = .ok (.aload 7, 2) := by decide +kernel
theorem dX4_begin_87 : decode cX4_begin 87 = .ok (.iload 4, 2) := by decide +kernel
theorem dX4_begin_89 : decode cX4_begin 89 = .ok (.iload 5, 2) := by decide +kernel
theorem dX4_begin_91 : decode cX4_begin 91 = .ok (.iconst 0, 1) := by decide +kernel
theorem dX4_begin_92 : decode cX4_begin 92 = .ok (.invokevirtual 102, 3) := by decide +kernel
theorem dX4_begin_95 : decode cX4_begin 95 = .ok (.ifCond .ne 13, 3) := by decide +kernel
theorem dX4_begin_98 : decode cX4_begin 98 = .ok (.new 42, 3) := by decide +kernel
theorem dX4_begin_101 : decode cX4_begin 101 = .ok (.dup, 1) := by decide +kernel
theorem dX4_begin_102 : decode cX4_begin 102 = .ok (.ldc 106, 2) := by decide +kernel
theorem dX4_begin_104 : decode cX4_begin 104 = .ok (.invokespecial 46, 3) := by decide +kernel
theorem dX4_begin_107 : decode cX4_begin 107 = .ok (.athrow, 1) := by decide +kernel
theorem dX4_begin_108 : decode cX4_begin 108 = .ok (.aload_n 0, 1) := by decide +kernel
theorem dX4_begin_109 : decode cX4_begin 109 = .ok (.getfield 99, 3) := by decide +kernel
theorem dX4_begin_112 : decode cX4_begin 112 = .ok (.istore 8, 2) := by decide +kernel
theorem dX4_begin_114 : decode cX4_begin 114 = .ok (.aload_n 0, 1) := by decide +kernel
theorem dX4_begin_115 : decode cX4_begin 115 = .ok (.getfield 23, 3) := by decide +kernel
theorem dX4_begin_118 : decode cX4_begin 118 = .ok (.iload 8, 2) := by decide +kernel
theorem dX4_begin_120 : decode cX4_begin 120 = .ok (.new 21, 3) := by decide +kernel
theorem dX4_begin_123 : decode cX4_begin 123 = .ok (.dup, 1) := by decide +kernel
theorem dX4_begin_124 : decode cX4_begin 124 = .ok (.aload 6, 2) := by decide +kernel
theorem dX4_begin_126 : decode cX4_begin 126 = .ok (.iload_n 2, 1) := by decide +kernel
theorem dX4_begin_127 : decode cX4_begin 127 = .ok (.iload_n 3, 1) := by decide +kernel
theorem dX4_begin_128 : decode cX4_begin 128 = .ok (.iload 4, 2) := by decide +kernel
theorem dX4_begin_130 : decode cX4_begin 130 = .ok (.iload 5, 2) := by decide +kernel
theorem dX4_begin_132 : decode cX4_begin 132 = .ok (.invokespecial 108, 3) := by decide +kernel
theorem dX4_begin_135 : decode cX4_begin 135 = .ok (.aastore, 1) := by decide +kernel
theorem dX4_begin_136 : decode cX4_begin 136 = .ok (.aload_n 0, 1) := by decide +kernel
theorem dX4_begin_137 : decode cX4_begin 137 = .ok (.iload 8, 2) := by decide +kernel
theorem dX4_begin_139 : decode cX4_begin 139 = .ok (.iconst 1, 1) := by decide +kernel
theorem dX4_begin_140 : decode cX4_begin 140 = .ok (.iadd, 1) := by decide +kernel
theorem dX4_begin_141 : decode cX4_begin 141 = .ok (.putfield 99, 3) := by decide +kernel
theorem dX4_begin_144 : decode cX4_begin 144 = .ok (.iload 8, 2) := by decide +kernel
theorem dX4_begin_146 : decode cX4_begin 146 = .ok (.ireturn, 1) := by decide +kernel
set_option maxRecDepth 20000 in
theorem ggX4_can_X4_gameAt : GoodIn wsX4_can wsX4_gameAt := goodIn_ca (goodIn_r _ [5, 6, 7, 8, 59, 60, 61, 62, 63, 64] (by decide +kernel) (by decide +kernel)) (goodIn_sub (fun _ h => List.mem_cons_of_mem _ (List.mem_append_right _ h)) (by decide +kernel))
set_option maxRecDepth 20000 in
theorem gX4_can_X4_gameAt : GoodIn wsX4_can (wsV RX4 111 RX4 yX4_gameAt wsX4_gameAt) := goodIn_app (goodIn_of _ (by decide +kernel)) ggX4_can_X4_gameAt
set_option maxRecDepth 20000 in
theorem ggX4_can_X4_checkCell : GoodIn wsX4_can wsX4_checkCell := goodIn_ca (goodIn_r _ [11, 6, 7] (by decide +kernel) (by decide +kernel)) (goodIn_sub (fun _ h => List.mem_cons_of_mem _ (List.mem_append_right _ h)) (by decide +kernel))
set_option maxRecDepth 20000 in
theorem gX4_can_X4_checkCell : GoodIn wsX4_can (va_wsS RX4 115 yX4_checkCell wsX4_checkCell) := goodIn_app (goodIn_of _ (by decide +kernel)) ggX4_can_X4_checkCell
set_option maxRecDepth 20000 in
theorem ggX4_can_X1_allows : GoodIn wsX4_can wsX1_allows := goodIn_r _ [16, 17, 18, 19, 20, 21, 22, 23, 15, 24, 25, 26, 27, 28, 29, 30, 4, 31, 32, 33, 34, 35, 36, 37, 38, 39, 40, 41, 42, 43, 44, 45, 46, 47, 48, 49, 50, 51, 52, 53, 54, 55, 56, 57, 58, 65, 66, 67, 68, 69, 70, 71, 72, 73, 74, 75, 76, 77, 78, 79, 80] (by decide +kernel) (by decide +kernel)
set_option maxRecDepth 20000 in
theorem gX4_can_X1_allows : GoodIn wsX4_can (wsV RX4 118 RX1 yX1_allows wsX1_allows) := goodIn_app (goodIn_of _ (by decide +kernel)) ggX4_can_X1_allows
theorem dX4_can_0 : decode cX4_can 0 = .ok (.aload_n 0, 1) := by decide +kernel
theorem dX4_can_1 : decode cX4_can 1 = .ok (.iload_n 1, 1) := by decide +kernel
theorem dX4_can_2 : decode cX4_can 2 = .ok (.invokevirtual 111, 3) := by decide +kernel
theorem dX4_can_5 : decode cX4_can 5 = .ok (.astore 4, 2) := by decide +kernel
theorem dX4_can_7 : decode cX4_can 7 = .ok (.iload_n 2, 1) := by decide +kernel
theorem dX4_can_8 : decode cX4_can 8 = .ok (.invokestatic 115, 3) := by decide +kernel
theorem dX4_can_11 : decode cX4_can 11 = .ok (.iload_n 3, 1) := by decide +kernel
theorem dX4_can_12 : decode cX4_can 12 = .ok (.invokestatic 115, 3) := by decide +kernel
theorem dX4_can_15 : decode cX4_can 15 = .ok (.aload 4, 2) := by decide +kernel
theorem dX4_can_17 : decode cX4_can 17 = .ok (.iload_n 2, 1) := by decide +kernel
theorem dX4_can_18 : decode cX4_can 18 = .ok (.iload_n 3, 1) := by decide +kernel
theorem dX4_can_19 : decode cX4_can 19 = .ok (.invokevirtual 118, 3) := by decide +kernel
theorem dX4_can_22 : decode cX4_can 22 = .ok (.ireturn, 1) := by decide +kernel
set_option maxRecDepth 20000 in
theorem ggX4_canByAll_X4_gameAt : GoodIn wsX4_canByAll wsX4_gameAt := goodIn_ca (goodIn_r _ [6, 7, 8, 9, 69, 70, 71, 72, 73, 74] (by decide +kernel) (by decide +kernel)) (goodIn_sub (fun _ h => List.mem_cons_of_mem _ (List.mem_append_right _ h)) (by decide +kernel))
set_option maxRecDepth 20000 in
theorem gX4_canByAll_X4_gameAt : GoodIn wsX4_canByAll (wsV RX4 111 RX4 yX4_gameAt wsX4_gameAt) := goodIn_app (goodIn_of _ (by decide +kernel)) ggX4_canByAll_X4_gameAt
set_option maxRecDepth 20000 in
theorem ggX4_canByAll_X4_checkCell : GoodIn wsX4_canByAll wsX4_checkCell := goodIn_ca (goodIn_r _ [12, 7, 8] (by decide +kernel) (by decide +kernel)) (goodIn_sub (fun _ h => List.mem_cons_of_mem _ (List.mem_append_right _ h)) (by decide +kernel))
set_option maxRecDepth 20000 in
theorem gX4_canByAll_X4_checkCell : GoodIn wsX4_canByAll (va_wsS RX4 115 yX4_checkCell wsX4_checkCell) := goodIn_app (goodIn_of _ (by decide +kernel)) ggX4_canByAll_X4_checkCell
set_option maxRecDepth 20000 in
theorem ggX4_canByAll_X4_isAmongAllMoves : GoodIn wsX4_canByAll wsX4_isAmongAllMoves := goodIn_r _ [15, 16, 17, 18, 19, 20, 21, 22, 23, 24, 25, 26, 27, 28, 29, 30, 31, 32, 33, 34, 35, 36, 37, 38, 39, 40, 41, 42, 5, 43, 44, 45, 46, 47, 48, 49, 50, 51, 52, 53, 54, 55, 56, 57, 58, 59, 60, 61, 62, 63, 64, 65, 66, 67, 68, 75, 76, 77, 78, 79, 80, 81] (by decide +kernel) (by decide +kernel)
set_option maxRecDepth 20000 in
theorem gX4_canByAll_X4_isAmongAllMoves : GoodIn wsX4_canByAll (va_wsS RX4 124 yX4_isAmongAllMoves wsX4_isAmongAllMoves) := goodIn_app (goodIn_of _ (by decide +kernel)) ggX4_canByAll_X4_isAmongAllMoves
theorem dX4_canByAll_0 : decode cX4_canByAll 0 = .ok (.aload_n 0, 1) := by decide +kernel
theorem dX4_canByAll_1 : decode cX4_canByAll 1 = .ok (.iload_n 1, 1) := by decide +kernel
theorem dX4_canByAll_2 : decode cX4_canByAll 2 = .ok (.invokevirtual 111, 3) := by decide +kernel
theorem dX4_canByAll_5 : decode cX4_canByAll 5 = .ok (.astore 4, 2) := by decide +kernel
theorem dX4_canByAll_7 : decode cX4_canByAll 7 = .ok (.iload_n 2, 1) := by decide +kernel
theorem dX4_canByAll_8 : decode cX4_canByAll 8 = .ok (.invokestatic 115, 3) := by decide +kernel
theorem dX4_canByAll_11 : decode cX4_canByAll 11 = .ok (.iload_n 3, 1) := by decide +kernel
theorem dX4_canByAll_12 : decode cX4_canByAll 12 = .ok (.invokestatic 115, 3) := by decide +kernel
theorem dX4_canByAll_15 : decode cX4_canByAll 15 = .ok (.aload 4, 2) := by decide +kernel
theorem dX4_canByAll_17 : decode cX4_canByAll 17 = .ok (.getfield 121, 3) := by decide +kernel
theorem dX4_canByAll_20 : decode cX4_canByAll 20 = .ok (.ifCond .ne 17, 3) := by decide +kernel
theorem dX4_canByAll_23 : decode cX4_canByAll 23 = .ok (.aload 4, 2) := by decide +kernel
theorem dX4_canByAll_25 : decode cX4_canByAll 25 = .ok (.iload_n 2, 1) := by decide +kernel
theorem dX4_canByAll_26 : decode cX4_canByAll 26 = .ok (.iload_n 3, 1) := by decide +kernel
theorem dX4_canByAll_27 : decode cX4_canByAll 27 = .ok (.invokestatic 124, 3) := by decide +kernel
theorem dX4_canByAll_30 : decode cX4_canByAll 30 = .ok (.ifCond .eq 7, 3) := by decide +kernel
theorem dX4_canByAll_33 : decode cX4_canByAll 33 = .ok (.iconst 1, 1) := by decide +kernel
theorem dX4_canByAll_34 : decode cX4_canByAll 34 = .ok (.goto 4, 3) := by decide +kernel
theorem dX4_canByAll_37 : decode cX4_canByAll 37 = .ok (.iconst 0, 1) := by decide +kernel
theorem dX4_canByAll_38 : decode cX4_canByAll 38 = .ok (.ireturn, 1) := by decide +kernel
set_option maxRecDepth 20000 in
theorem ggX4_move_X4_gameAt : GoodIn wsX4_move wsX4_gameAt := goodIn_ca (goodIn_r _ [9, 10, 11, 12, 122, 123, 124, 125, 126, 127] (by decide +kernel) (by decide +kernel)) (goodIn_sub (fun _ h => List.mem_cons_of_mem _ (List.mem_append_right _ h)) (by decide +kernel))
set_option maxRecDepth 20000 in
theorem gX4_move_X4_gameAt : GoodIn wsX4_move (wsV RX4 111 RX4 yX4_gameAt wsX4_gameAt) := goodIn_app (goodIn_of _ (by decide +kernel)) ggX4_move_X4_gameAt
set_option maxRecDepth 20000 in
theorem ggX4_move_X4_checkCell : GoodIn wsX4_move wsX4_checkCell := goodIn_ca (goodIn_r _ [15, 10, 11] (by decide +kernel) (by decide +kernel)) (goodIn_sub (fun _ h => List.mem_cons_of_mem _ (List.mem_append_right _ h)) (by decide +kernel))
set_option maxRecDepth 20000 in
theorem gX4_move_X4_checkCell : GoodIn wsX4_move (va_wsS RX4 115 yX4_checkCell wsX4_checkCell) := goodIn_app (goodIn_of _ (by decide +kernel)) ggX4_move_X4_checkCell
set_option maxRecDepth 20000 in
theorem ggX4_move_X3_isOut : GoodIn wsX4_move wsX3_isOut := goodIn_r _ [20, 21, 22, 23, 24, 25, 26, 27, 28, 29, 128, 129, 130] (by decide +kernel) (by decide +kernel)
set_option maxRecDepth 20000 in
theorem gX4_move_X3_isOut : GoodIn wsX4_move (wsV RX4 95 RX3 yX3_isOut wsX3_isOut) := goodIn_app (goodIn_of _ (by decide +kernel)) ggX4_move_X3_isOut
set_option maxRecDepth 20000 in
theorem ggX4_move_X1_allows : GoodIn wsX4_move wsX1_allows := goodIn_r _ [34, 35, 36, 37, 38, 39, 40, 41, 33, 42, 43, 44, 45, 46, 47, 48, 8, 49, 50, 51, 52, 53, 54, 55, 56, 57, 58, 59, 60, 61, 62, 63, 64, 65, 66, 67, 68, 69, 70, 71, 72, 73, 74, 75, 76, 113, 114, 115, 116, 117, 118, 119, 120, 121, 131, 132, 133, 134, 135, 136, 137] (by decide +kernel) (by decide +kernel)
set_option maxRecDepth 20000 in
theorem gX4_move_X1_allows : GoodIn wsX4_move (wsV RX4 118 RX1 yX1_allows wsX1_allows) := goodIn_app (goodIn_of _ (by decide +kernel)) ggX4_move_X1_allows
set_option maxRecDepth 20000 in
theorem ggX4_move_X1_go : GoodIn wsX4_move wsX1_go := goodIn_r _ [80, 37, 38, 47, 81, 39, 40, 41, 33, 42, 43, 44, 45, 46, 82, 8, 83, 84, 85, 86, 87, 88, 89, 90, 113, 114, 115, 116, 117, 118, 119, 120, 121] (by decide +kernel) (by decide +kernel)
set_option maxRecDepth 20000 in
theorem gX4_move_X1_go : GoodIn wsX4_move (wsV RX4 134 RX1 yX1_go wsX1_go) := goodIn_app (goodIn_of _ (by decide +kernel)) ggX4_move_X1_go
set_option maxRecDepth 20000 in
theorem ggX4_move_X1_settle : GoodIn wsX4_move wsX1_settle := goodIn_r _ [94, 36, 35, 95, 96, 47, 39, 40, 41, 33, 42, 38, 37, 43, 44, 45, 46, 84, 85, 86, 87, 97, 98, 99, 53, 100, 101, 102, 103, 104, 55, 56, 57, 48, 8, 49, 105, 106, 107, 61, 108, 76, 63, 64, 65, 66, 67, 68, 69, 70, 71, 109, 110, 111, 112, 81, 88, 89, 90, 113, 114, 115, 116, 117, 118, 119, 120, 121, 128, 129, 130, 131, 132, 133, 134, 135, 136, 137] (by decide +kernel) (by decide +kernel)
set_option maxRecDepth 20000 in
theorem gX4_move_X1_settle : GoodIn wsX4_move (wsV RX4 138 RX1 yX1_settle wsX1_settle) := goodIn_app (goodIn_of _ (by decide +kernel)) ggX4_move_X1_settle
theorem dX4_move_0 : decode cX4_move 0 = .ok (.aload_n 0, 1) := by decide +kernel
theorem dX4_move_1 : decode cX4_move 1 = .ok (.iload_n 1, 1) := by decide +kernel
theorem dX4_move_2 : decode cX4_move 2 = .ok (.invokevirtual 111, 3) := by decide +kernel
theorem dX4_move_5 : decode cX4_move 5 = .ok (.astore 4, 2) := by decide +kernel
theorem dX4_move_7 : decode cX4_move 7 = .ok (.iload_n 2, 1) := by decide +kernel
theorem dX4_move_8 : decode cX4_move 8 = .ok (.invokestatic 115, 3) := by decide +kernel
theorem dX4_move_11 : decode cX4_move 11 = .ok (.iload_n 3, 1) := by decide +kernel
theorem dX4_move_12 : decode cX4_move 12 = .ok (.invokestatic 115, 3) := by decide +kernel
theorem dX4_move_15 : decode cX4_move 15 = .ok (.aload 4, 2) := by decide +kernel
theorem dX4_move_17 : decode cX4_move 17 = .ok (.getfield 128, 3) := by decide +kernel
theorem dX4_move_20 : decode cX4_move 20 = .ok (.invokevirtual 95, 3) := by decide +kernel
theorem dX4_move_23 : decode cX4_move 23 = .ok (.ifCond .ne 13, 3) := by decide +kernel
theorem dX4_move_26 : decode cX4_move 26 = .ok (.aload 4, 2) := by decide +kernel
theorem dX4_move_28 : decode cX4_move 28 = .ok (.iload_n 2, 1) := by decide +kernel
theorem dX4_move_29 : decode cX4_move 29 = .ok (.iload_n 3, 1) := by decide +kernel
theorem dX4_move_30 : decode cX4_move 30 = .ok (.invokevirtual 118, 3) := by decide +kernel
theorem dX4_move_33 : decode cX4_move 33 = .ok (.ifCond .ne 13, 3) := by decide +kernel
theorem dX4_move_36 : decode cX4_move 36 = .ok (.new 42, 3) := by decide +kernel
theorem dX4_move_39 : decode cX4_move 39 = .ok (.dup, 1) := by decide +kernel
theorem dX4_move_40 : decode cX4_move 40 = .ok (.ldc 132, 2) := by decide +kernel
theorem dX4_move_42 : decode cX4_move 42 = .ok (.invokespecial 46, 3) := by decide +kernel
theorem dX4_move_45 : decode cX4_move 45 = .ok (.athrow, 1) := by decide +kernel
theorem dX4_move_46 : decode cX4_move 46 = .ok (.aload 4, 2) := by decide +kernel
theorem dX4_move_48 : decode cX4_move 48 = .ok (.iload_n 2, 1) := by decide +kernel
theorem dX4_move_49 : decode cX4_move 49 = .ok (.iload_n 3, 1) := by decide +kernel
theorem dX4_move_50 : decode cX4_move 50 = .ok (.invokevirtual 134, 3) := by decide +kernel
theorem dX4_move_53 : decode cX4_move 53 = .ok (.aload 4, 2) := by decide +kernel
theorem dX4_move_55 : decode cX4_move 55 = .ok (.invokevirtual 138, 3) := by decide +kernel
theorem dX4_move_58 : decode cX4_move 58 = .ok (.aload 4, 2) := by decide +kernel
theorem dX4_move_60 : decode cX4_move 60 = .ok (.getfield 121, 3) := by decide +kernel
theorem dX4_move_63 : decode cX4_move 63 = .ok (.ireturn, 1) := by decide +kernel
set_option maxRecDepth 20000 in
theorem ggX4_state_X4_gameAt : GoodIn wsX4_state wsX4_gameAt := goodIn_ca (goodIn_r _ [6, 7, 8, 9, 19, 20, 21, 22, 23, 24] (by decide +kernel) (by decide +kernel)) (goodIn_sub (fun _ h => List.mem_cons_of_mem _ (List.mem_append_right _ h)) (by decide +kernel))
set_option maxRecDepth 20000 in
theorem gX4_state_X4_gameAt : GoodIn wsX4_state (wsV RX4 111 RX4 yX4_gameAt wsX4_gameAt) := goodIn_app (goodIn_of _ (by decide +kernel)) ggX4_state_X4_gameAt
theorem dX4_state_0 : decode cX4_state 0 = .ok (.aload_n 0, 1) := by decide +kernel
theorem dX4_state_1 : decode cX4_state 1 = .ok (.iload_n 1, 1) := by decide +kernel
theorem dX4_state_2 : decode cX4_state 2 = .ok (.invokevirtual 111, 3) := by decide +kernel
theorem dX4_state_5 : decode cX4_state 5 = .ok (.getfield 121, 3) := by decide +kernel
theorem dX4_state_8 : decode cX4_state 8 = .ok (.ireturn, 1) := by decide +kernel
set_option maxRecDepth 20000 in
theorem ggX4_pieces_X4_gameAt : GoodIn wsX4_pieces wsX4_gameAt := goodIn_ca (goodIn_r _ [7, 8, 9, 10, 20, 21, 22, 23, 24, 25] (by decide +kernel) (by decide +kernel)) (goodIn_sub (fun _ h => List.mem_cons_of_mem _ (List.mem_append_right _ h)) (by decide +kernel))
set_option maxRecDepth 20000 in
theorem gX4_pieces_X4_gameAt : GoodIn wsX4_pieces (wsV RX4 111 RX4 yX4_gameAt wsX4_gameAt) := goodIn_app (goodIn_of _ (by decide +kernel)) ggX4_pieces_X4_gameAt
theorem dX4_pieces_0 : decode cX4_pieces 0 = .ok (.aload_n 0, 1) := by decide +kernel
theorem dX4_pieces_1 : decode cX4_pieces 1 = .ok (.iload_n 1, 1) := by decide +kernel
theorem dX4_pieces_2 : decode cX4_pieces 2 = .ok (.invokevirtual 111, 3) := by decide +kernel
theorem dX4_pieces_5 : decode cX4_pieces 5 = .ok (.astore_n 3, 1) := by decide +kernel
theorem dX4_pieces_6 : decode cX4_pieces 6 = .ok (.iload_n 2, 1) := by decide +kernel
theorem dX4_pieces_7 : decode cX4_pieces 7 = .ok (.ifCond .eq 10, 3) := by decide +kernel
theorem dX4_pieces_10 : decode cX4_pieces 10 = .ok (.aload_n 3, 1) := by decide +kernel
theorem dX4_pieces_11 : decode cX4_pieces 11 = .ok (.getfield 141, 3) := by decide +kernel
theorem dX4_pieces_14 : decode cX4_pieces 14 = .ok (.goto 7, 3) := by decide +kernel
theorem dX4_pieces_17 : decode cX4_pieces 17 = .ok (.aload_n 3, 1) := by decide +kernel
theorem dX4_pieces_18 : decode cX4_pieces 18 = .ok (.getfield 144, 3) := by decide +kernel
theorem dX4_pieces_21 : decode cX4_pieces 21 = .ok (.ireturn, 1) := by decide +kernel
set_option maxRecDepth 20000 in
theorem ggX4_made_X4_gameAt : GoodIn wsX4_made wsX4_gameAt := goodIn_ca (goodIn_r _ [6, 7, 8, 9, 19, 20, 21, 22, 23, 24] (by decide +kernel) (by decide +kernel)) (goodIn_sub (fun _ h => List.mem_cons_of_mem _ (List.mem_append_right _ h)) (by decide +kernel))
set_option maxRecDepth 20000 in
theorem gX4_made_X4_gameAt : GoodIn wsX4_made (wsV RX4 111 RX4 yX4_gameAt wsX4_gameAt) := goodIn_app (goodIn_of _ (by decide +kernel)) ggX4_made_X4_gameAt
theorem dX4_made_0 : decode cX4_made 0 = .ok (.aload_n 0, 1) := by decide +kernel
theorem dX4_made_1 : decode cX4_made 1 = .ok (.iload_n 1, 1) := by decide +kernel
theorem dX4_made_2 : decode cX4_made 2 = .ok (.invokevirtual 111, 3) := by decide +kernel
theorem dX4_made_5 : decode cX4_made 5 = .ok (.getfield 147, 3) := by decide +kernel
theorem dX4_made_8 : decode cX4_made 8 = .ok (.ireturn, 1) := by decide +kernel
set_option maxRecDepth 20000 in
theorem ggX4_value_X4_gameAt : GoodIn wsX4_value wsX4_gameAt := goodIn_ca (goodIn_r _ [6, 7, 8, 9, 89, 90, 91, 92, 93, 94] (by decide +kernel) (by decide +kernel)) (goodIn_sub (fun _ h => List.mem_cons_of_mem _ (List.mem_append_left _ (List.mem_append_right _ h))) (by decide +kernel))
set_option maxRecDepth 20000 in
theorem gX4_value_X4_gameAt : GoodIn wsX4_value (wsV RX4 111 RX4 yX4_gameAt wsX4_gameAt) := goodIn_app (goodIn_of _ (by decide +kernel)) ggX4_value_X4_gameAt
set_option maxRecDepth 20000 in
theorem ggX4_value_X4_checkDepth : GoodIn wsX4_value wsX4_checkDepth := goodIn_ca (goodIn_r _ [12, 13, 14] (by decide +kernel) (by decide +kernel)) (goodIn_sub (fun _ h => List.mem_cons_of_mem _ (List.mem_append_right _ h)) (by decide +kernel))
set_option maxRecDepth 20000 in
theorem gX4_value_X4_checkDepth : GoodIn wsX4_value (va_wsS RX4 150 yX4_checkDepth wsX4_checkDepth) := goodIn_app (goodIn_of _ (by decide +kernel)) ggX4_value_X4_checkDepth
set_option maxRecDepth 20000 in
theorem ggX4_value_X1_ofMover : GoodIn wsX4_value wsX1_ofMover := goodIn_r _ [19, 20, 21, 22, 23, 24, 18, 25, 26, 80, 81, 82, 83, 84, 85, 86, 87, 88] (by decide +kernel) (by decide +kernel)
set_option maxRecDepth 20000 in
theorem gX4_value_X1_ofMover : GoodIn wsX4_value (wsV RX4 154 RX1 yX1_ofMover wsX1_ofMover) := goodIn_app (goodIn_of _ (by decide +kernel)) ggX4_value_X1_ofMover
set_option maxRecDepth 20000 in
theorem ggX4_value_X1_ofWaiting : GoodIn wsX4_value wsX1_ofWaiting := goodIn_r _ [30, 21, 20, 22, 23, 24, 18, 25, 26, 80, 81, 82, 83, 84, 85, 86, 87, 88] (by decide +kernel) (by decide +kernel)
set_option maxRecDepth 20000 in
theorem gX4_value_X1_ofWaiting : GoodIn wsX4_value (wsV RX4 158 RX1 yX1_ofWaiting wsX1_ofWaiting) := goodIn_app (goodIn_of _ (by decide +kernel)) ggX4_value_X1_ofWaiting
set_option maxRecDepth 20000 in
theorem ggX4_value_X1_isSecondToMove : GoodIn wsX4_value wsX1_isSecondToMove := goodIn_r _ [25, 26, 80, 81, 82, 83, 84, 85, 86, 87, 88] (by decide +kernel) (by decide +kernel)
set_option maxRecDepth 20000 in
theorem gX4_value_X1_isSecondToMove : GoodIn wsX4_value (wsV RX4 161 RX1 yX1_isSecondToMove wsX1_isSecondToMove) := goodIn_app (goodIn_of _ (by decide +kernel)) ggX4_value_X1_isSecondToMove
set_option maxRecDepth 20000 in
theorem ggX4_value_X4_searchWithCuts : GoodIn wsX4_value wsX4_searchWithCuts := goodIn_r _ [34, 35, 36, 37, 38, 39, 40, 41, 42, 43, 44, 45, 46, 47, 48, 49, 50, 51, 5, 52, 53, 54, 55, 56, 57, 58, 59, 60, 61, 62, 63, 64, 65, 66, 67, 68, 69, 70, 71, 72, 73, 74, 75, 76, 77, 78, 79, 32, 33, 95, 96, 97, 98, 99, 100, 101] (by decide +kernel) (by decide +kernel)
set_option maxRecDepth 20000 in
theorem gX4_value_X4_searchWithCuts : GoodIn wsX4_value (va_wsS RX4 164 yX4_searchWithCuts wsX4_searchWithCuts) := goodIn_app (goodIn_of _ (by decide +kernel)) ggX4_value_X4_searchWithCuts
theorem dX4_value_0 : decode cX4_value 0 = .ok (.aload_n 0, 1) := by decide +kernel
theorem dX4_value_1 : decode cX4_value 1 = .ok (.iload_n 1, 1) := by decide +kernel
theorem dX4_value_2 : decode cX4_value 2 = .ok (.invokevirtual 111, 3) := by decide +kernel
theorem dX4_value_5 : decode cX4_value 5 = .ok (.astore_n 3, 1) := by decide +kernel
theorem dX4_value_6 : decode cX4_value 6 = .ok (.iload_n 2, 1) := by decide +kernel
theorem dX4_value_7 : decode cX4_value 7 = .ok (.invokestatic 150, 3) := by decide +kernel
theorem dX4_value_10 : decode cX4_value 10 = .ok (.aload_n 3, 1) := by decide +kernel
theorem dX4_value_11 : decode cX4_value 11 = .ok (.getfield 153, 3) := by decide +kernel
theorem dX4_value_14 : decode cX4_value 14 = .ok (.aload_n 3, 1) := by decide +kernel
theorem dX4_value_15 : decode cX4_value 15 = .ok (.invokevirtual 154, 3) := by decide +kernel
theorem dX4_value_18 : decode cX4_value 18 = .ok (.aload_n 3, 1) := by decide +kernel
theorem dX4_value_19 : decode cX4_value 19 = .ok (.invokevirtual 158, 3) := by decide +kernel
theorem dX4_value_22 : decode cX4_value 22 = .ok (.aload_n 3, 1) := by decide +kernel
theorem dX4_value_23 : decode cX4_value 23 = .ok (.invokevirtual 161, 3) := by decide +kernel
theorem dX4_value_26 : decode cX4_value 26 = .ok (.iload_n 2, 1) := by decide +kernel
theorem dX4_value_27 : decode cX4_value 27 = .ok (.bipush (-100), 2) := by decide +kernel
theorem dX4_value_29 : decode cX4_value 29 = .ok (.bipush 100, 2) := by decide +kernel
theorem dX4_value_31 : decode cX4_value 31 = .ok (.invokestatic 164, 3) := by decide +kernel
theorem dX4_value_34 : decode cX4_value 34 = .ok (.ireturn, 1) := by decide +kernel
set_option maxRecDepth 20000 in
theorem ggX4_valueByAll_X4_gameAt : GoodIn wsX4_valueByAll wsX4_gameAt := goodIn_ca (goodIn_r _ [6, 7, 8, 9, 89, 90, 91, 92, 93, 94] (by decide +kernel) (by decide +kernel)) (goodIn_sub (fun _ h => List.mem_cons_of_mem _ (List.mem_append_left _ (List.mem_append_right _ h))) (by decide +kernel))
set_option maxRecDepth 20000 in
theorem gX4_valueByAll_X4_gameAt : GoodIn wsX4_valueByAll (wsV RX4 111 RX4 yX4_gameAt wsX4_gameAt) := goodIn_app (goodIn_of _ (by decide +kernel)) ggX4_valueByAll_X4_gameAt
set_option maxRecDepth 20000 in
theorem ggX4_valueByAll_X4_checkDepth : GoodIn wsX4_valueByAll wsX4_checkDepth := goodIn_ca (goodIn_r _ [12, 13, 14] (by decide +kernel) (by decide +kernel)) (goodIn_sub (fun _ h => List.mem_cons_of_mem _ (List.mem_append_right _ h)) (by decide +kernel))
set_option maxRecDepth 20000 in
theorem gX4_valueByAll_X4_checkDepth : GoodIn wsX4_valueByAll (va_wsS RX4 150 yX4_checkDepth wsX4_checkDepth) := goodIn_app (goodIn_of _ (by decide +kernel)) ggX4_valueByAll_X4_checkDepth
set_option maxRecDepth 20000 in
theorem ggX4_valueByAll_X1_ofMover : GoodIn wsX4_valueByAll wsX1_ofMover := goodIn_r _ [19, 20, 21, 22, 23, 24, 18, 25, 26, 80, 81, 82, 83, 84, 85, 86, 87, 88] (by decide +kernel) (by decide +kernel)
set_option maxRecDepth 20000 in
theorem gX4_valueByAll_X1_ofMover : GoodIn wsX4_valueByAll (wsV RX4 154 RX1 yX1_ofMover wsX1_ofMover) := goodIn_app (goodIn_of _ (by decide +kernel)) ggX4_valueByAll_X1_ofMover
set_option maxRecDepth 20000 in
theorem ggX4_valueByAll_X1_ofWaiting : GoodIn wsX4_valueByAll wsX1_ofWaiting := goodIn_r _ [30, 21, 20, 22, 23, 24, 18, 25, 26, 80, 81, 82, 83, 84, 85, 86, 87, 88] (by decide +kernel) (by decide +kernel)
set_option maxRecDepth 20000 in
theorem gX4_valueByAll_X1_ofWaiting : GoodIn wsX4_valueByAll (wsV RX4 158 RX1 yX1_ofWaiting wsX1_ofWaiting) := goodIn_app (goodIn_of _ (by decide +kernel)) ggX4_valueByAll_X1_ofWaiting
set_option maxRecDepth 20000 in
theorem ggX4_valueByAll_X1_isSecondToMove : GoodIn wsX4_valueByAll wsX1_isSecondToMove := goodIn_r _ [25, 26, 80, 81, 82, 83, 84, 85, 86, 87, 88] (by decide +kernel) (by decide +kernel)
set_option maxRecDepth 20000 in
theorem gX4_valueByAll_X1_isSecondToMove : GoodIn wsX4_valueByAll (wsV RX4 161 RX1 yX1_isSecondToMove wsX1_isSecondToMove) := goodIn_app (goodIn_of _ (by decide +kernel)) ggX4_valueByAll_X1_isSecondToMove
set_option maxRecDepth 20000 in
theorem ggX4_valueByAll_X4_searchAll : GoodIn wsX4_valueByAll wsX4_searchAll := goodIn_r _ [34, 35, 36, 37, 38, 39, 40, 41, 42, 43, 44, 45, 46, 47, 48, 49, 50, 51, 5, 52, 53, 54, 55, 56, 57, 58, 59, 60, 61, 62, 63, 64, 65, 66, 67, 68, 69, 70, 71, 72, 73, 74, 75, 76, 77, 78, 79, 32, 33, 95, 96, 97, 98, 99, 100, 101] (by decide +kernel) (by decide +kernel)
set_option maxRecDepth 20000 in
theorem gX4_valueByAll_X4_searchAll : GoodIn wsX4_valueByAll (va_wsS RX4 168 yX4_searchAll wsX4_searchAll) := goodIn_app (goodIn_of _ (by decide +kernel)) ggX4_valueByAll_X4_searchAll
theorem dX4_valueByAll_0 : decode cX4_valueByAll 0 = .ok (.aload_n 0, 1) := by decide +kernel
theorem dX4_valueByAll_1 : decode cX4_valueByAll 1 = .ok (.iload_n 1, 1) := by decide +kernel
theorem dX4_valueByAll_2 : decode cX4_valueByAll 2 = .ok (.invokevirtual 111, 3) := by decide +kernel
theorem dX4_valueByAll_5 : decode cX4_valueByAll 5 = .ok (.astore_n 3, 1) := by decide +kernel
theorem dX4_valueByAll_6 : decode cX4_valueByAll 6 = .ok (.iload_n 2, 1) := by decide +kernel
theorem dX4_valueByAll_7 : decode cX4_valueByAll 7 = .ok (.invokestatic 150, 3) := by decide +kernel
theorem dX4_valueByAll_10 : decode cX4_valueByAll 10 = .ok (.aload_n 3, 1) := by decide +kernel
theorem dX4_valueByAll_11 : decode cX4_valueByAll 11 = .ok (.getfield 153, 3) := by decide +kernel
theorem dX4_valueByAll_14 : decode cX4_valueByAll 14 = .ok (.aload_n 3, 1) := by decide +kernel
theorem dX4_valueByAll_15 : decode cX4_valueByAll 15 = .ok (.invokevirtual 154, 3) := by decide +kernel
theorem dX4_valueByAll_18 : decode cX4_valueByAll 18 = .ok (.aload_n 3, 1) := by decide +kernel
theorem dX4_valueByAll_19 : decode cX4_valueByAll 19 = .ok (.invokevirtual 158, 3) := by decide +kernel
theorem dX4_valueByAll_22 : decode cX4_valueByAll 22 = .ok (.aload_n 3, 1) := by decide +kernel
theorem dX4_valueByAll_23 : decode cX4_valueByAll 23 = .ok (.invokevirtual 161, 3) := by decide +kernel
theorem dX4_valueByAll_26 : decode cX4_valueByAll 26 = .ok (.iload_n 2, 1) := by decide +kernel
theorem dX4_valueByAll_27 : decode cX4_valueByAll 27 = .ok (.invokestatic 168, 3) := by decide +kernel
theorem dX4_valueByAll_30 : decode cX4_valueByAll 30 = .ok (.ireturn, 1) := by decide +kernel
set_option maxRecDepth 20000 in
theorem ggX4_vote_X4_checkPlayer : GoodIn wsX4_vote wsX4_checkPlayer := goodIn_ca (goodIn_r _ [5, 6, 7] (by decide +kernel) (by decide +kernel)) (goodIn_sub (fun _ h => List.mem_cons_of_mem _ (List.mem_append_right _ h)) (by decide +kernel))
set_option maxRecDepth 20000 in
theorem gX4_vote_X4_checkPlayer : GoodIn wsX4_vote (va_wsS RX4 86 yX4_checkPlayer wsX4_checkPlayer) := goodIn_app (goodIn_of _ (by decide +kernel)) ggX4_vote_X4_checkPlayer
set_option maxRecDepth 20000 in
theorem ggX4_vote_X4_variantAt : GoodIn wsX4_vote wsX4_variantAt := goodIn_ca (goodIn_r _ [11, 6, 7, 12, 23, 24, 25, 26, 27, 28] (by decide +kernel) (by decide +kernel)) (goodIn_sub (fun _ h => List.mem_cons_of_mem _ (List.mem_append_right _ h)) (by decide +kernel))
set_option maxRecDepth 20000 in
theorem gX4_vote_X4_variantAt : GoodIn wsX4_vote (wsV RX4 70 RX4 yX4_variantAt wsX4_variantAt) := goodIn_app (goodIn_of _ (by decide +kernel)) ggX4_vote_X4_variantAt
set_option maxRecDepth 20000 in
theorem ggX4_vote_J6_bitCount_0f7a4 : GoodIn wsX4_vote wsJ6_bitCount_0f7a4 := goodIn_r _ [16, 17, 18, 19] (by decide +kernel) (by decide +kernel)
set_option maxRecDepth 20000 in
theorem gX4_vote_J6_bitCount_0f7a4 : GoodIn wsX4_vote (va_wsS RX4 175 yJ6_bitCount_0f7a4 wsJ6_bitCount_0f7a4) := goodIn_app (goodIn_of _ (by decide +kernel)) ggX4_vote_J6_bitCount_0f7a4
theorem dX4_vote_0 : decode cX4_vote 0 = .ok (.iload_n 1, 1) := by decide +kernel
theorem dX4_vote_1 : decode cX4_vote 1 = .ok (.invokestatic 86, 3) := by decide +kernel
theorem dX4_vote_4 : decode cX4_vote 4 = .ok (.aload_n 0, 1) := by decide +kernel
theorem dX4_vote_5 : decode cX4_vote 5 = .ok (.iload_n 2, 1) := by decide +kernel
theorem dX4_vote_6 : decode cX4_vote 6 = .ok (.invokevirtual 70, 3) := by decide +kernel
theorem dX4_vote_9 : decode cX4_vote 9 = .ok (.astore_n 3, 1) := by decide +kernel
theorem dX4_vote_10 : decode cX4_vote 10 = .ok (.aload_n 3, 1) := by decide +kernel
theorem dX4_vote_11 : decode cX4_vote 11 = .ok (.dup, 1) := by decide +kernel
theorem dX4_vote_12 : decode cX4_vote 12 = .ok (.getfield 172, 3) := by decide +kernel
theorem dX4_vote_15 : decode cX4_vote 15 = .ok (.iconst 1, 1) := by decide +kernel
theorem dX4_vote_16 : decode cX4_vote 16 = .ok (.iload_n 1, 1) := by decide +kernel
theorem dX4_vote_17 : decode cX4_vote 17 = .ok (.ishl, 1) := by decide +kernel
theorem dX4_vote_18 : decode cX4_vote 18 = .ok (.ixor, 1) := by decide +kernel
theorem dX4_vote_19 : decode cX4_vote 19 = .ok (.putfield 172, 3) := by decide +kernel
theorem dX4_vote_22 : decode cX4_vote 22 = .ok (.aload_n 3, 1) := by decide +kernel
theorem dX4_vote_23 : decode cX4_vote 23 = .ok (.getfield 172, 3) := by decide +kernel
theorem dX4_vote_26 : decode cX4_vote 26 = .ok (.invokestatic 175, 3) := by decide +kernel
theorem dX4_vote_29 : decode cX4_vote 29 = .ok (.ireturn, 1) := by decide +kernel
set_option maxRecDepth 20000 in
theorem ggX4_isBanned_X4_variantAt : GoodIn wsX4_isBanned wsX4_variantAt := goodIn_ca (goodIn_r _ [5, 6, 7, 8, 23, 24, 25, 26, 27, 28] (by decide +kernel) (by decide +kernel)) (goodIn_sub (fun _ h => List.mem_cons_of_mem _ (List.mem_append_right _ h)) (by decide +kernel))
set_option maxRecDepth 20000 in
theorem gX4_isBanned_X4_variantAt : GoodIn wsX4_isBanned (wsV RX4 70 RX4 yX4_variantAt wsX4_variantAt) := goodIn_app (goodIn_of _ (by decide +kernel)) ggX4_isBanned_X4_variantAt
set_option maxRecDepth 20000 in
theorem ggX4_isBanned_X3_isOut : GoodIn wsX4_isBanned wsX3_isOut := goodIn_r _ [13, 14, 15, 16, 17, 18, 19, 20, 21, 22, 29, 30, 31] (by decide +kernel) (by decide +kernel)
set_option maxRecDepth 20000 in
theorem gX4_isBanned_X3_isOut : GoodIn wsX4_isBanned (wsV RX4 95 RX3 yX3_isOut wsX3_isOut) := goodIn_app (goodIn_of _ (by decide +kernel)) ggX4_isBanned_X3_isOut
theorem dX4_isBanned_0 : decode cX4_isBanned 0 = .ok (.aload_n 0, 1) := by decide +kernel
theorem dX4_isBanned_1 : decode cX4_isBanned 1 = .ok (.iload_n 1, 1) := by decide +kernel
theorem dX4_isBanned_2 : decode cX4_isBanned 2 = .ok (.invokevirtual 70, 3) := by decide +kernel
theorem dX4_isBanned_5 : decode cX4_isBanned 5 = .ok (.invokevirtual 95, 3) := by decide +kernel
theorem dX4_isBanned_8 : decode cX4_isBanned 8 = .ok (.ireturn, 1) := by decide +kernel
set_option maxRecDepth 20000 in
theorem ggX4_endless_X4_variantAt : GoodIn wsX4_endless wsX4_variantAt := goodIn_ca (goodIn_r _ [6, 7, 8, 9, 13, 14, 15, 16, 17, 18] (by decide +kernel) (by decide +kernel)) (goodIn_sub (fun _ h => List.mem_cons_of_mem _ (List.mem_append_right _ h)) (by decide +kernel))
set_option maxRecDepth 20000 in
theorem gX4_endless_X4_variantAt : GoodIn wsX4_endless (wsV RX4 70 RX4 yX4_variantAt wsX4_variantAt) := goodIn_app (goodIn_of _ (by decide +kernel)) ggX4_endless_X4_variantAt
theorem dX4_endless_0 : decode cX4_endless 0 = .ok (.aload_n 0, 1) := by decide +kernel
theorem dX4_endless_1 : decode cX4_endless 1 = .ok (.iload_n 1, 1) := by decide +kernel
theorem dX4_endless_2 : decode cX4_endless 2 = .ok (.invokevirtual 70, 3) := by decide +kernel
theorem dX4_endless_5 : decode cX4_endless 5 = .ok (.getfield 181, 3) := by decide +kernel
theorem dX4_endless_8 : decode cX4_endless 8 = .ok (.ireturn, 1) := by decide +kernel
set_option maxRecDepth 20000 in
theorem ggX4_points_X4_checkPlayer : GoodIn wsX4_points wsX4_checkPlayer := goodIn_ca (goodIn_r _ [6, 7, 8] (by decide +kernel) (by decide +kernel)) (goodIn_sub (fun _ h => List.mem_cons_of_mem _ (List.mem_append_right _ h)) (by decide +kernel))
set_option maxRecDepth 20000 in
theorem gX4_points_X4_checkPlayer : GoodIn wsX4_points (va_wsS RX4 86 yX4_checkPlayer wsX4_checkPlayer) := goodIn_app (goodIn_of _ (by decide +kernel)) ggX4_points_X4_checkPlayer
set_option maxRecDepth 20000 in
theorem ggX4_points_X4_variantAt : GoodIn wsX4_points wsX4_variantAt := goodIn_ca (goodIn_r _ [12, 7, 8, 13, 36, 37, 38, 39, 40, 41] (by decide +kernel) (by decide +kernel)) (goodIn_sub (fun _ h => List.mem_cons_of_mem _ (List.mem_append_right _ h)) (by decide +kernel))
set_option maxRecDepth 20000 in
theorem gX4_points_X4_variantAt : GoodIn wsX4_points (wsV RX4 70 RX4 yX4_variantAt wsX4_variantAt) := goodIn_app (goodIn_of _ (by decide +kernel)) ggX4_points_X4_variantAt
set_option maxRecDepth 20000 in
theorem ggX4_points_X3_isOut : GoodIn wsX4_points wsX3_isOut := goodIn_r _ [18, 19, 20, 21, 22, 23, 24, 25, 26, 27, 51, 52, 53] (by decide +kernel) (by decide +kernel)
set_option maxRecDepth 20000 in
theorem gX4_points_X3_isOut : GoodIn wsX4_points (wsV RX4 95 RX3 yX3_isOut wsX3_isOut) := goodIn_app (goodIn_of _ (by decide +kernel)) ggX4_points_X3_isOut
set_option maxRecDepth 20000 in
theorem ggX4_points_X1_pointsFor : GoodIn wsX4_points wsX1_pointsFor := goodIn_r _ [32, 33, 34, 35, 42, 43, 44, 45, 46, 47, 48, 49, 50] (by decide +kernel) (by decide +kernel)
set_option maxRecDepth 20000 in
theorem gX4_points_X1_pointsFor : GoodIn wsX4_points (wsV RX4 184 RX1 yX1_pointsFor wsX1_pointsFor) := goodIn_app (goodIn_of _ (by decide +kernel)) ggX4_points_X1_pointsFor
theorem dX4_points_0 : decode cX4_points 0 = .ok (.iload_n 1, 1) := by decide +kernel
theorem dX4_points_1 : decode cX4_points 1 = .ok (.invokestatic 86, 3) := by decide +kernel
theorem dX4_points_4 : decode cX4_points 4 = .ok (.aload_n 0, 1) := by decide +kernel
theorem dX4_points_5 : decode cX4_points 5 = .ok (.iload_n 2, 1) := by decide +kernel
theorem dX4_points_6 : decode cX4_points 6 = .ok (.invokevirtual 70, 3) := by decide +kernel
theorem dX4_points_9 : decode cX4_points 9 = .ok (.astore_n 3, 1) := by decide +kernel
theorem dX4_points_10 : decode cX4_points 10 = .ok (.aload_n 3, 1) := by decide +kernel
theorem dX4_points_11 : decode cX4_points 11 = .ok (.invokevirtual 95, 3) := by decide +kernel
theorem dX4_points_14 : decode cX4_points 14 = .ok (.ifCond .eq 5, 3) := by decide +kernel
theorem dX4_points_17 : decode cX4_points 17 = .ok (.iconst 0, 1) := by decide +kernel
theorem dX4_points_18 : decode cX4_points 18 = .ok (.ireturn, 1) := by decide +kernel
theorem dX4_points_19 : decode cX4_points 19 = .ok (.iconst 0, 1) := by decide +kernel
theorem dX4_points_20 : decode cX4_points 20 = .ok (.istore 4, 2) := by decide +kernel
theorem dX4_points_22 : decode cX4_points 22 = .ok (.iconst 0, 1) := by decide +kernel
theorem dX4_points_23 : decode cX4_points 23 = .ok (.istore 5, 2) := by decide +kernel
theorem dX4_points_25 : decode cX4_points 25 = .ok (.iload 5, 2) := by decide +kernel
theorem dX4_points_27 : decode cX4_points 27 = .ok (.aload_n 0, 1) := by decide +kernel
theorem dX4_points_28 : decode cX4_points 28 = .ok (.getfield 23, 3) := by decide +kernel
theorem dX4_points_31 : decode cX4_points 31 = .ok (.arraylength, 1) := by decide +kernel
theorem dX4_points_32 : decode cX4_points 32 = .ok (.if_icmp .ge 43, 3) := by decide +kernel
theorem dX4_points_35 : decode cX4_points 35 = .ok (.aload_n 0, 1) := by decide +kernel
theorem dX4_points_36 : decode cX4_points 36 = .ok (.getfield 23, 3) := by decide +kernel
theorem dX4_points_39 : decode cX4_points 39 = .ok (.iload 5, 2) := by decide +kernel
theorem dX4_points_41 : decode cX4_points 41 = .ok (.aaload, 1) := by decide +kernel
theorem dX4_points_42 : decode cX4_points 42 = .ok (.astore 6, 2) := by decide +kernel
theorem dX4_points_44 : decode cX4_points 44 = .ok (.aload 6, 2) := by decide +kernel
theorem dX4_points_46 : decode cX4_points 46 = .ok (.ifnull 23, 3) := by decide +kernel
theorem dX4_points_49 : decode cX4_points 49 = .ok (.aload 6, 2) := by decide +kernel
theorem dX4_points_51 : decode cX4_points 51 = .ok (.getfield 128, 3) := by decide +kernel
theorem dX4_points_54 : decode cX4_points 54 = .ok (.aload_n 3, 1) := by decide +kernel
theorem dX4_points_55 : decode cX4_points 55 = .ok (.if_acmp .ne 14, 3) := by decide +kernel
theorem dX4_points_58 : decode cX4_points 58 = .ok (.iload 4, 2) := by decide +kernel
theorem dX4_points_60 : decode cX4_points 60 = .ok (.aload 6, 2) := by decide +kernel
theorem dX4_points_62 : decode cX4_points 62 = .ok (.iload_n 1, 1) := by decide +kernel
theorem dX4_points_63 : decode cX4_points 63 = .ok (.invokevirtual 184, 3) := by decide +kernel
theorem dX4_points_66 : decode cX4_points 66 = .ok (.iadd, 1) := by decide +kernel
theorem dX4_points_67 : decode cX4_points 67 = .ok (.istore 4, 2) := by decide +kernel
theorem dX4_points_69 : decode cX4_points 69 = .ok (.iinc 5 1, 3) := by decide +kernel
theorem dX4_points_72 : decode cX4_points 72 = .ok (.goto (-47), 3) := by decide +kernel
theorem dX4_points_75 : decode cX4_points 75 = .ok (.iload 4, 2) := by decide +kernel
theorem dX4_points_77 : decode cX4_points 77 = .ok (.ireturn, 1) := by decide +kernel
theorem dX4_variantAt_0 : decode cX4_variantAt 0 = .ok (.iload_n 1, 1) := by decide +kernel
theorem dX4_variantAt_1 : decode cX4_variantAt 1 = .ok (.ifCond .lt 12, 3) := by decide +kernel
theorem dX4_variantAt_4 : decode cX4_variantAt 4 = .ok (.iload_n 1, 1) := by decide +kernel
theorem dX4_variantAt_5 : decode cX4_variantAt 5 = .ok (.aload_n 0, 1) := by decide +kernel
theorem dX4_variantAt_6 : decode cX4_variantAt 6 = .ok (.getfield 17, 3) := by decide +kernel
theorem dX4_variantAt_9 : decode cX4_variantAt 9 = .ok (.arraylength, 1) := by decide +kernel
theorem dX4_variantAt_10 : decode cX4_variantAt 10 = .ok (.if_icmp .lt 13, 3) := by decide +kernel
theorem dX4_variantAt_13 : decode cX4_variantAt 13 = .ok (.new 187, 3) := by decide +kernel
theorem dX4_variantAt_16 : decode cX4_variantAt 16 = .ok (.dup, 1) := by decide +kernel
theorem dX4_variantAt_17 : decode cX4_variantAt 17 = .ok (.ldc 189, 2) := by decide +kernel
theorem dX4_variantAt_19 : decode cX4_variantAt 19 = .ok (.invokespecial 191, 3) := by decide +kernel
theorem dX4_variantAt_22 : decode cX4_variantAt 22 = .ok (.athrow, 1) := by decide +kernel
theorem dX4_variantAt_23 : decode cX4_variantAt 23 = .ok (.aload_n 0, 1) := by decide +kernel
theorem dX4_variantAt_24 : decode cX4_variantAt 24 = .ok (.getfield 17, 3) := by decide +kernel
theorem dX4_variantAt_27 : decode cX4_variantAt 27 = .ok (.iload_n 1, 1) := by decide +kernel
theorem dX4_variantAt_28 : decode cX4_variantAt 28 = .ok (.aaload, 1) := by decide +kernel
theorem dX4_variantAt_29 : decode cX4_variantAt 29 = .ok (.astore_n 2, 1) := by decide +kernel
theorem dX4_variantAt_30 : decode cX4_variantAt 30 = .ok (.aload_n 2, 1) := by decide +kernel
theorem dX4_variantAt_31 : decode cX4_variantAt 31 = .ok (.ifnonnull 13, 3) := by decide +kernel
theorem dX4_variantAt_34 : decode cX4_variantAt 34 = .ok (.new 187, 3) := by decide +kernel
theorem dX4_variantAt_37 : decode cX4_variantAt 37 = .ok (.dup, 1) := by decide +kernel
theorem dX4_variantAt_38 : decode cX4_variantAt 38 = .ok (.ldc 189, 2) := by decide +kernel
theorem dX4_variantAt_40 : decode cX4_variantAt 40 = .ok (.invokespecial 191, 3) := by decide +kernel
theorem dX4_variantAt_43 : decode cX4_variantAt 43 = .ok (.athrow, 1) := by decide +kernel
theorem dX4_variantAt_44 : decode cX4_variantAt 44 = .ok (.aload_n 2, 1) := by decide +kernel
theorem dX4_variantAt_45 : decode cX4_variantAt 45 = .ok (.areturn, 1) := by decide +kernel
theorem dX4_gameAt_0 : decode cX4_gameAt 0 = .ok (.iload_n 1, 1) := by decide +kernel
theorem dX4_gameAt_1 : decode cX4_gameAt 1 = .ok (.ifCond .lt 12, 3) := by decide +kernel
theorem dX4_gameAt_4 : decode cX4_gameAt 4 = .ok (.iload_n 1, 1) := by decide +kernel
theorem dX4_gameAt_5 : decode cX4_gameAt 5 = .ok (.aload_n 0, 1) := by decide +kernel
theorem dX4_gameAt_6 : decode cX4_gameAt 6 = .ok (.getfield 23, 3) := by decide +kernel
theorem dX4_gameAt_9 : decode cX4_gameAt 9 = .ok (.arraylength, 1) := by decide +kernel
theorem dX4_gameAt_10 : decode cX4_gameAt 10 = .ok (.if_icmp .lt 13, 3) := by decide +kernel
theorem dX4_gameAt_13 : decode cX4_gameAt 13 = .ok (.new 187, 3) := by decide +kernel
theorem dX4_gameAt_16 : decode cX4_gameAt 16 = .ok (.dup, 1) := by decide +kernel
theorem dX4_gameAt_17 : decode cX4_gameAt 17 = .ok (.ldc 192, 2) := by decide +kernel
theorem dX4_gameAt_19 : decode cX4_gameAt 19 = .ok (.invokespecial 191, 3) := by decide +kernel
theorem dX4_gameAt_22 : decode cX4_gameAt 22 = .ok (.athrow, 1) := by decide +kernel
theorem dX4_gameAt_23 : decode cX4_gameAt 23 = .ok (.aload_n 0, 1) := by decide +kernel
theorem dX4_gameAt_24 : decode cX4_gameAt 24 = .ok (.getfield 23, 3) := by decide +kernel
theorem dX4_gameAt_27 : decode cX4_gameAt 27 = .ok (.iload_n 1, 1) := by decide +kernel
theorem dX4_gameAt_28 : decode cX4_gameAt 28 = .ok (.aaload, 1) := by decide +kernel
theorem dX4_gameAt_29 : decode cX4_gameAt 29 = .ok (.astore_n 2, 1) := by decide +kernel
theorem dX4_gameAt_30 : decode cX4_gameAt 30 = .ok (.aload_n 2, 1) := by decide +kernel
theorem dX4_gameAt_31 : decode cX4_gameAt 31 = .ok (.ifnonnull 13, 3) := by decide +kernel
theorem dX4_gameAt_34 : decode cX4_gameAt 34 = .ok (.new 187, 3) := by decide +kernel
theorem dX4_gameAt_37 : decode cX4_gameAt 37 = .ok (.dup, 1) := by decide +kernel
theorem dX4_gameAt_38 : decode cX4_gameAt 38 = .ok (.ldc 192, 2) := by decide +kernel
theorem dX4_gameAt_40 : decode cX4_gameAt 40 = .ok (.invokespecial 191, 3) := by decide +kernel
theorem dX4_gameAt_43 : decode cX4_gameAt 43 = .ok (.athrow, 1) := by decide +kernel
theorem dX4_gameAt_44 : decode cX4_gameAt 44 = .ok (.aload_n 2, 1) := by decide +kernel
theorem dX4_gameAt_45 : decode cX4_gameAt 45 = .ok (.areturn, 1) := by decide +kernel
theorem dX4_checkPlayer_0 : decode cX4_checkPlayer 0 = .ok (.iload_n 0, 1) := by decide +kernel
theorem dX4_checkPlayer_1 : decode cX4_checkPlayer 1 = .ok (.ifCond .lt 8, 3) := by decide +kernel
theorem dX4_checkPlayer_4 : decode cX4_checkPlayer 4 = .ok (.iload_n 0, 1) := by decide +kernel
theorem dX4_checkPlayer_5 : decode cX4_checkPlayer 5 = .ok (.iconst 5, 1) := by decide +kernel
theorem dX4_checkPlayer_6 : decode cX4_checkPlayer 6 = .ok (.if_icmp .lt 13, 3) := by decide +kernel
theorem dX4_checkPlayer_9 : decode cX4_checkPlayer 9 = .ok (.new 187, 3) := by decide +kernel
theorem dX4_checkPlayer_12 : decode cX4_checkPlayer 12 = .ok (.dup, 1) := by decide +kernel
theorem dX4_checkPlayer_13 : decode cX4_checkPlayer 13 = .ok (.ldc 194, 2) := by decide +kernel
theorem dX4_checkPlayer_15 : decode cX4_checkPlayer 15 = .ok (.invokespecial 191, 3) := by decide +kernel
theorem dX4_checkPlayer_18 : decode cX4_checkPlayer 18 = .ok (.athrow, 1) := by decide +kernel
theorem dX4_checkPlayer_19 : decode cX4_checkPlayer 19 = .ok (.return_, 1) := by decide +kernel
theorem dX4_checkCell_0 : decode cX4_checkCell 0 = .ok (.iload_n 0, 1) := by decide +kernel
theorem dX4_checkCell_1 : decode cX4_checkCell 1 = .ok (.ifCond .lt 9, 3) := by decide +kernel
theorem dX4_checkCell_4 : decode cX4_checkCell 4 = .ok (.iload_n 0, 1) := by decide +kernel
theorem dX4_checkCell_5 : decode cX4_checkCell 5 = .ok (.bipush 25, 2) := by decide +kernel
theorem dX4_checkCell_7 : decode cX4_checkCell 7 = .ok (.if_icmp .lt 13, 3) := by decide +kernel
theorem dX4_checkCell_10 : decode cX4_checkCell 10 = .ok (.new 187, 3) := by decide +kernel
theorem dX4_checkCell_13 : decode cX4_checkCell 13 = .ok (.dup, 1) := by decide +kernel
theorem dX4_checkCell_14 : decode cX4_checkCell 14 = .ok (.ldc 196, 2) := by decide +kernel
theorem dX4_checkCell_16 : decode cX4_checkCell 16 = .ok (.invokespecial 191, 3) := by decide +kernel
theorem dX4_checkCell_19 : decode cX4_checkCell 19 = .ok (.athrow, 1) := by decide +kernel
theorem dX4_checkCell_20 : decode cX4_checkCell 20 = .ok (.return_, 1) := by decide +kernel
theorem dX4_checkDepth_0 : decode cX4_checkDepth 0 = .ok (.iload_n 0, 1) := by decide +kernel
theorem dX4_checkDepth_1 : decode cX4_checkDepth 1 = .ok (.ifCond .lt 8, 3) := by decide +kernel
theorem dX4_checkDepth_4 : decode cX4_checkDepth 4 = .ok (.iload_n 0, 1) := by decide +kernel
theorem dX4_checkDepth_5 : decode cX4_checkDepth 5 = .ok (.iconst 2, 1) := by decide +kernel
theorem dX4_checkDepth_6 : decode cX4_checkDepth 6 = .ok (.if_icmp .le 13, 3) := by decide +kernel
theorem dX4_checkDepth_9 : decode cX4_checkDepth 9 = .ok (.new 31, 3) := by decide +kernel
theorem dX4_checkDepth_12 : decode cX4_checkDepth 12 = .ok (.dup, 1) := by decide +kernel
theorem dX4_checkDepth_13 : decode cX4_checkDepth 13 = .ok (.ldc 198, 2) := by decide +kernel
theorem dX4_checkDepth_15 : decode cX4_checkDepth 15 = .ok (.invokespecial 35, 3) := by decide +kernel
theorem dX4_checkDepth_18 : decode cX4_checkDepth 18 = .ok (.athrow, 1) := by decide +kernel
theorem dX4_checkDepth_19 : decode cX4_checkDepth 19 = .ok (.return_, 1) := by decide +kernel
theorem dX4_isStep_0 : decode cX4_isStep 0 = .ok (.iload_n 0, 1) := by decide +kernel
theorem dX4_isStep_1 : decode cX4_isStep 1 = .ok (.bipush (-2), 2) := by decide +kernel
theorem dX4_isStep_3 : decode cX4_isStep 3 = .ok (.if_icmp .lt 23, 3) := by decide +kernel
theorem dX4_isStep_6 : decode cX4_isStep 6 = .ok (.iload_n 0, 1) := by decide +kernel
theorem dX4_isStep_7 : decode cX4_isStep 7 = .ok (.iconst 2, 1) := by decide +kernel
theorem dX4_isStep_8 : decode cX4_isStep 8 = .ok (.if_icmp .gt 18, 3) := by decide +kernel
theorem dX4_isStep_11 : decode cX4_isStep 11 = .ok (.iload_n 1, 1) := by decide +kernel
theorem dX4_isStep_12 : decode cX4_isStep 12 = .ok (.bipush (-2), 2) := by decide +kernel
theorem dX4_isStep_14 : decode cX4_isStep 14 = .ok (.if_icmp .lt 12, 3) := by decide +kernel
theorem dX4_isStep_17 : decode cX4_isStep 17 = .ok (.iload_n 1, 1) := by decide +kernel
theorem dX4_isStep_18 : decode cX4_isStep 18 = .ok (.iconst 2, 1) := by decide +kernel
theorem dX4_isStep_19 : decode cX4_isStep 19 = .ok (.if_icmp .gt 7, 3) := by decide +kernel
theorem dX4_isStep_22 : decode cX4_isStep 22 = .ok (.iconst 1, 1) := by decide +kernel
theorem dX4_isStep_23 : decode cX4_isStep 23 = .ok (.goto 4, 3) := by decide +kernel
theorem dX4_isStep_26 : decode cX4_isStep 26 = .ok (.iconst 0, 1) := by decide +kernel
theorem dX4_isStep_27 : decode cX4_isStep 27 = .ok (.istore_n 2, 1) := by decide +kernel
theorem dX4_isStep_28 : decode cX4_isStep 28 = .ok (.iload_n 2, 1) := by decide +kernel
theorem dX4_isStep_29 : decode cX4_isStep 29 = .ok (.ifCond .eq 15, 3) := by decide +kernel
theorem dX4_isStep_32 : decode cX4_isStep 32 = .ok (.iload_n 0, 1) := by decide +kernel
theorem dX4_isStep_33 : decode cX4_isStep 33 = .ok (.ifCond .ne 7, 3) := by decide +kernel
theorem dX4_isStep_36 : decode cX4_isStep 36 = .ok (.iload_n 1, 1) := by decide +kernel
theorem dX4_isStep_37 : decode cX4_isStep 37 = .ok (.ifCond .eq 7, 3) := by decide +kernel
theorem dX4_isStep_40 : decode cX4_isStep 40 = .ok (.iconst 1, 1) := by decide +kernel
theorem dX4_isStep_41 : decode cX4_isStep 41 = .ok (.goto 4, 3) := by decide +kernel
theorem dX4_isStep_44 : decode cX4_isStep 44 = .ok (.iconst 0, 1) := by decide +kernel
theorem dX4_isStep_45 : decode cX4_isStep 45 = .ok (.ireturn, 1) := by decide +kernel
theorem dX4_isSetOfCards_0 : decode cX4_isSetOfCards 0 = .ok (.iload_n 1, 1) := by decide +kernel
theorem dX4_isSetOfCards_1 : decode cX4_isSetOfCards 1 = .ok (.iconst 1, 1) := by decide +kernel
theorem dX4_isSetOfCards_2 : decode cX4_isSetOfCards 2 = .ok (.if_icmp .lt 17, 3) := by decide +kernel
theorem dX4_isSetOfCards_5 : decode cX4_isSetOfCards 5 = .ok (.iload_n 1, 1) := by decide +kernel
theorem dX4_isSetOfCards_6 : decode cX4_isSetOfCards 6 = .ok (.iconst 1, 1) := by decide +kernel
theorem dX4_isSetOfCards_7 : decode cX4_isSetOfCards 7 = .ok (.aload_n 0, 1) := by decide +kernel
theorem dX4_isSetOfCards_8 : decode cX4_isSetOfCards 8 = .ok (.getfield 38, 3) := by decide +kernel
theorem dX4_isSetOfCards_11 : decode cX4_isSetOfCards 11 = .ok (.ishl, 1) := by decide +kernel
theorem dX4_isSetOfCards_12 : decode cX4_isSetOfCards 12 = .ok (.if_icmp .ge 7, 3) := by decide +kernel
theorem dX4_isSetOfCards_15 : decode cX4_isSetOfCards 15 = .ok (.iconst 1, 1) := by decide +kernel
theorem dX4_isSetOfCards_16 : decode cX4_isSetOfCards 16 = .ok (.goto 4, 3) := by decide +kernel
theorem dX4_isSetOfCards_19 : decode cX4_isSetOfCards 19 = .ok (.iconst 0, 1) := by decide +kernel
theorem dX4_isSetOfCards_20 : decode cX4_isSetOfCards 20 = .ok (.ireturn, 1) := by decide +kernel
theorem dX4_isIn_0 : decode cX4_isIn 0 = .ok (.iload_n 0, 1) := by decide +kernel
theorem dX4_isIn_1 : decode cX4_isIn 1 = .ok (.iload_n 1, 1) := by decide +kernel
theorem dX4_isIn_2 : decode cX4_isIn 2 = .ok (.ishr, 1) := by decide +kernel
theorem dX4_isIn_3 : decode cX4_isIn 3 = .ok (.iconst 1, 1) := by decide +kernel
theorem dX4_isIn_4 : decode cX4_isIn 4 = .ok (.iand, 1) := by decide +kernel
theorem dX4_isIn_5 : decode cX4_isIn 5 = .ok (.ifCond .eq 7, 3) := by decide +kernel
theorem dX4_isIn_8 : decode cX4_isIn 8 = .ok (.iconst 1, 1) := by decide +kernel
theorem dX4_isIn_9 : decode cX4_isIn 9 = .ok (.goto 4, 3) := by decide +kernel
theorem dX4_isIn_12 : decode cX4_isIn 12 = .ok (.iconst 0, 1) := by decide +kernel
theorem dX4_isIn_13 : decode cX4_isIn 13 = .ok (.ireturn, 1) := by decide +kernel
theorem dX4_cellAhead_0 : decode cX4_cellAhead 0 = .ok (.iload_n 0, 1) := by decide +kernel
theorem dX4_cellAhead_1 : decode cX4_cellAhead 1 = .ok (.iconst 5, 1) := by decide +kernel
theorem dX4_cellAhead_2 : decode cX4_cellAhead 2 = .ok (.irem, 1) := by decide +kernel
theorem dX4_cellAhead_3 : decode cX4_cellAhead 3 = .ok (.iload_n 1, 1) := by decide +kernel
theorem dX4_cellAhead_4 : decode cX4_cellAhead 4 = .ok (.iadd, 1) := by decide +kernel
theorem dX4_cellAhead_5 : decode cX4_cellAhead 5 = .ok (.istore_n 3, 1) := by decide +kernel
theorem dX4_cellAhead_6 : decode cX4_cellAhead 6 = .ok (.iload_n 0, 1) := by decide +kernel
theorem dX4_cellAhead_7 : decode cX4_cellAhead 7 = .ok (.iconst 5, 1) := by decide +kernel
theorem dX4_cellAhead_8 : decode cX4_cellAhead 8 = .ok (.idiv, 1) := by decide +kernel
theorem dX4_cellAhead_9 : decode cX4_cellAhead 9 = .ok (.iload_n 2, 1) := by decide +kernel
theorem dX4_cellAhead_10 : decode cX4_cellAhead 10 = .ok (.iadd, 1) := by decide +kernel
theorem dX4_cellAhead_11 : decode cX4_cellAhead 11 = .ok (.istore 4, 2) := by decide +kernel
theorem dX4_cellAhead_13 : decode cX4_cellAhead 13 = .ok (.iload_n 3, 1) := by decide +kernel
theorem dX4_cellAhead_14 : decode cX4_cellAhead 14 = .ok (.ifCond .lt 23, 3) := by decide +kernel
theorem dX4_cellAhead_17 : decode cX4_cellAhead 17 = .ok (.iload_n 3, 1) := by decide +kernel
theorem dX4_cellAhead_18 : decode cX4_cellAhead 18 = .ok (.iconst 5, 1) := by decide +kernel
theorem dX4_cellAhead_19 : decode cX4_cellAhead 19 = .ok (.if_icmp .ge 18, 3) := by decide +kernel
theorem dX4_cellAhead_22 : decode cX4_cellAhead 22 = .ok (.iload 4, 2) := by decide +kernel
theorem dX4_cellAhead_24 : decode cX4_cellAhead 24 = .ok (.ifCond .lt 13, 3) := by decide +kernel
theorem dX4_cellAhead_27 : decode cX4_cellAhead 27 = .ok (.iload 4, 2) := by decide +kernel
theorem dX4_cellAhead_29 : decode cX4_cellAhead 29 = .ok (.iconst 5, 1) := by decide +kernel
theorem dX4_cellAhead_30 : decode cX4_cellAhead 30 = .ok (.if_icmp .ge 7, 3) := by decide +kernel
theorem dX4_cellAhead_33 : decode cX4_cellAhead 33 = .ok (.iconst 1, 1) := by decide +kernel
theorem dX4_cellAhead_34 : decode cX4_cellAhead 34 = .ok (.goto 4, 3) := by decide +kernel
theorem dX4_cellAhead_37 : decode cX4_cellAhead 37 = .ok (.iconst 0, 1) := by decide +kernel
theorem dX4_cellAhead_38 : decode cX4_cellAhead 38 = .ok (.istore 5, 2) := by decide +kernel
theorem dX4_cellAhead_40 : decode cX4_cellAhead 40 = .ok (.iload 5, 2) := by decide +kernel
theorem dX4_cellAhead_42 : decode cX4_cellAhead 42 = .ok (.ifCond .eq 12, 3) := by decide +kernel
theorem dX4_cellAhead_45 : decode cX4_cellAhead 45 = .ok (.iconst 5, 1) := by decide +kernel
theorem dX4_cellAhead_46 : decode cX4_cellAhead 46 = .ok (.iload 4, 2) := by decide +kernel
theorem dX4_cellAhead_48 : decode cX4_cellAhead 48 = .ok (.imul, 1) := by decide +kernel
theorem dX4_cellAhead_49 : decode cX4_cellAhead 49 = .ok (.iload_n 3, 1) := by decide +kernel
theorem dX4_cellAhead_50 : decode cX4_cellAhead 50 = .ok (.iadd, 1) := by decide +kernel
theorem dX4_cellAhead_51 : decode cX4_cellAhead 51 = .ok (.goto 4, 3) := by decide +kernel
theorem dX4_cellAhead_54 : decode cX4_cellAhead 54 = .ok (.iconst (-1), 1) := by decide +kernel
theorem dX4_cellAhead_55 : decode cX4_cellAhead 55 = .ok (.ireturn, 1) := by decide +kernel
set_option maxRecDepth 20000 in
theorem ggX4_isAmongAllMoves_X1_ofMover : GoodIn wsX4_isAmongAllMoves wsX1_ofMover := goodIn_r _ [6, 7, 8, 9, 10, 11, 5, 12, 13, 46, 47, 48, 49, 50, 51, 52, 53, 54] (by decide +kernel) (by decide +kernel)
set_option maxRecDepth 20000 in
theorem gX4_isAmongAllMoves_X1_ofMover : GoodIn wsX4_isAmongAllMoves (wsV RX4 154 RX1 yX1_ofMover wsX1_ofMover) := goodIn_app (goodIn_of _ (by decide +kernel)) ggX4_isAmongAllMoves_X1_ofMover
set_option maxRecDepth 20000 in
theorem ggX4_isAmongAllMoves_X1_ofWaiting : GoodIn wsX4_isAmongAllMoves wsX1_ofWaiting := goodIn_r _ [17, 8, 7, 9, 10, 11, 5, 12, 13, 46, 47, 48, 49, 50, 51, 52, 53, 54] (by decide +kernel) (by decide +kernel)
set_option maxRecDepth 20000 in
theorem gX4_isAmongAllMoves_X1_ofWaiting : GoodIn wsX4_isAmongAllMoves (wsV RX4 158 RX1 yX1_ofWaiting wsX1_ofWaiting) := goodIn_app (goodIn_of _ (by decide +kernel)) ggX4_isAmongAllMoves_X1_ofWaiting
set_option maxRecDepth 20000 in
theorem ggX4_isAmongAllMoves_X1_isSecondToMove : GoodIn wsX4_isAmongAllMoves wsX1_isSecondToMove := goodIn_r _ [12, 13, 46, 47, 48, 49, 50, 51, 52, 53, 54] (by decide +kernel) (by decide +kernel)
set_option maxRecDepth 20000 in
theorem gX4_isAmongAllMoves_X1_isSecondToMove : GoodIn wsX4_isAmongAllMoves (wsV RX4 161 RX1 yX1_isSecondToMove wsX1_isSecondToMove) := goodIn_app (goodIn_of _ (by decide +kernel)) ggX4_isAmongAllMoves_X1_isSecondToMove
set_option maxRecDepth 20000 in
theorem ggX4_isAmongAllMoves_X2_endsFrom : GoodIn wsX4_isAmongAllMoves wsX2_endsFrom := goodIn_r _ [23, 24, 25, 26, 27, 28, 29, 30, 31, 32, 33, 34, 35, 36, 37, 38, 39, 40, 41, 42, 43, 44, 55, 56, 57, 58, 59, 60, 61] (by decide +kernel) (by decide +kernel)
set_option maxRecDepth 20000 in
theorem gX4_isAmongAllMoves_X2_endsFrom : GoodIn wsX4_isAmongAllMoves (wsV RX4 200 RX2 yX2_endsFrom wsX2_endsFrom) := goodIn_app (goodIn_of _ (by decide +kernel)) ggX4_isAmongAllMoves_X2_endsFrom
set_option maxRecDepth 20000 in
theorem ggX4_isAmongAllMoves_X4_isIn : GoodIn wsX4_isAmongAllMoves wsX4_isIn := goodIn_r _ [29] (by decide +kernel) (by decide +kernel)
set_option maxRecDepth 20000 in
theorem gX4_isAmongAllMoves_X4_isIn : GoodIn wsX4_isAmongAllMoves (va_wsS RX4 204 yX4_isIn wsX4_isIn) := goodIn_app (goodIn_of _ (by decide +kernel)) ggX4_isAmongAllMoves_X4_isIn
theorem dX4_isAmongAllMoves_0 : decode cX4_isAmongAllMoves 0 = .ok (.iconst 0, 1) := by decide +kernel
theorem dX4_isAmongAllMoves_1 : decode cX4_isAmongAllMoves 1 = .ok (.istore_n 3, 1) := by decide +kernel
theorem dX4_isAmongAllMoves_2 : decode cX4_isAmongAllMoves 2 = .ok (.iconst 0, 1) := by decide +kernel
theorem dX4_isAmongAllMoves_3 : decode cX4_isAmongAllMoves 3 = .ok (.istore 4, 2) := by decide +kernel
theorem dX4_isAmongAllMoves_5 : decode cX4_isAmongAllMoves 5 = .ok (.iload 4, 2) := by decide +kernel
theorem dX4_isAmongAllMoves_7 : decode cX4_isAmongAllMoves 7 = .ok (.bipush 25, 2) := by decide +kernel
theorem dX4_isAmongAllMoves_9 : decode cX4_isAmongAllMoves 9 = .ok (.if_icmp .ge 72, 3) := by decide +kernel
theorem dX4_isAmongAllMoves_12 : decode cX4_isAmongAllMoves 12 = .ok (.aload_n 0, 1) := by decide +kernel
theorem dX4_isAmongAllMoves_13 : decode cX4_isAmongAllMoves 13 = .ok (.getfield 153, 3) := by decide +kernel
theorem dX4_isAmongAllMoves_16 : decode cX4_isAmongAllMoves 16 = .ok (.iload 4, 2) := by decide +kernel
theorem dX4_isAmongAllMoves_18 : decode cX4_isAmongAllMoves 18 = .ok (.aload_n 0, 1) := by decide +kernel
theorem dX4_isAmongAllMoves_19 : decode cX4_isAmongAllMoves 19 = .ok (.invokevirtual 154, 3) := by decide +kernel
theorem dX4_isAmongAllMoves_22 : decode cX4_isAmongAllMoves 22 = .ok (.aload_n 0, 1) := by decide +kernel
theorem dX4_isAmongAllMoves_23 : decode cX4_isAmongAllMoves 23 = .ok (.invokevirtual 158, 3) := by decide +kernel
theorem dX4_isAmongAllMoves_26 : decode cX4_isAmongAllMoves 26 = .ok (.aload_n 0, 1) := by decide +kernel
theorem dX4_isAmongAllMoves_27 : decode cX4_isAmongAllMoves 27 = .ok (.invokevirtual 161, 3) := by decide +kernel
theorem dX4_isAmongAllMoves_30 : decode cX4_isAmongAllMoves 30 = .ok (.invokevirtual 200, 3) := by decide +kernel
theorem dX4_isAmongAllMoves_33 : decode cX4_isAmongAllMoves 33 = .ok (.istore 5, 2) := by decide +kernel
theorem dX4_isAmongAllMoves_35 : decode cX4_isAmongAllMoves 35 = .ok (.iconst 0, 1) := by decide +kernel
theorem dX4_isAmongAllMoves_36 : decode cX4_isAmongAllMoves 36 = .ok (.istore 6, 2) := by decide +kernel
theorem dX4_isAmongAllMoves_38 : decode cX4_isAmongAllMoves 38 = .ok (.iload 6, 2) := by decide +kernel
theorem dX4_isAmongAllMoves_40 : decode cX4_isAmongAllMoves 40 = .ok (.bipush 25, 2) := by decide +kernel
theorem dX4_isAmongAllMoves_42 : decode cX4_isAmongAllMoves 42 = .ok (.if_icmp .ge 33, 3) := by decide +kernel
theorem dX4_isAmongAllMoves_45 : decode cX4_isAmongAllMoves 45 = .ok (.iload 5, 2) := by decide +kernel
theorem dX4_isAmongAllMoves_47 : decode cX4_isAmongAllMoves 47 = .ok (.iload 6, 2) := by decide +kernel
theorem dX4_isAmongAllMoves_49 : decode cX4_isAmongAllMoves 49 = .ok (.invokestatic 204, 3) := by decide +kernel
theorem dX4_isAmongAllMoves_52 : decode cX4_isAmongAllMoves 52 = .ok (.ifCond .eq 17, 3) := by decide +kernel
theorem dX4_isAmongAllMoves_55 : decode cX4_isAmongAllMoves 55 = .ok (.iload 4, 2) := by decide +kernel
theorem dX4_isAmongAllMoves_57 : decode cX4_isAmongAllMoves 57 = .ok (.iload_n 1, 1) := by decide +kernel
theorem dX4_isAmongAllMoves_58 : decode cX4_isAmongAllMoves 58 = .ok (.if_icmp .ne 11, 3) := by decide +kernel
theorem dX4_isAmongAllMoves_61 : decode cX4_isAmongAllMoves 61 = .ok (.iload 6, 2) := by decide +kernel
theorem dX4_isAmongAllMoves_63 : decode cX4_isAmongAllMoves 63 = .ok (.iload_n 2, 1) := by decide +kernel
theorem dX4_isAmongAllMoves_64 : decode cX4_isAmongAllMoves 64 = .ok (.if_icmp .ne 5, 3) := by decide +kernel
theorem dX4_isAmongAllMoves_67 : decode cX4_isAmongAllMoves 67 = .ok (.iconst 1, 1) := by decide +kernel
theorem dX4_isAmongAllMoves_68 : decode cX4_isAmongAllMoves 68 = .ok (.istore_n 3, 1) := by decide +kernel
theorem dX4_isAmongAllMoves_69 : decode cX4_isAmongAllMoves 69 = .ok (.iinc 6 1, 3) := by decide +kernel
theorem dX4_isAmongAllMoves_72 : decode cX4_isAmongAllMoves 72 = .ok (.goto (-34), 3) := by decide +kernel
theorem dX4_isAmongAllMoves_75 : decode cX4_isAmongAllMoves 75 = .ok (.iinc 4 1, 3) := by decide +kernel
theorem dX4_isAmongAllMoves_78 : decode cX4_isAmongAllMoves 78 = .ok (.goto (-73), 3) := by decide +kernel
theorem dX4_isAmongAllMoves_81 : decode cX4_isAmongAllMoves 81 = .ok (.iload_n 3, 1) := by decide +kernel
theorem dX4_isAmongAllMoves_82 : decode cX4_isAmongAllMoves 82 = .ok (.ireturn, 1) := by decide +kernel
set_option maxRecDepth 20000 in
theorem ggX4_searchWithCuts_X2_hasMove : GoodIn wsX4_searchWithCuts wsX2_hasMove := goodIn_r _ [9, 10, 11, 12, 8, 13, 14, 15, 16, 17, 18, 19, 20, 21, 22, 23, 24, 25, 26, 27, 28, 29, 30, 31, 32, 33, 34, 49, 50, 51, 52, 53, 54, 55] (by decide +kernel) (by decide +kernel)
set_option maxRecDepth 20000 in
theorem gX4_searchWithCuts_X2_hasMove : GoodIn wsX4_searchWithCuts (wsV RX4 102 RX2 yX2_hasMove wsX2_hasMove) := goodIn_app (goodIn_of _ (by decide +kernel)) ggX4_searchWithCuts_X2_hasMove
set_option maxRecDepth 20000 in
theorem ggX4_searchWithCuts_J6_bitCount_0f7a4 : GoodIn wsX4_searchWithCuts wsJ6_bitCount_0f7a4 := goodIn_r _ [38, 39, 40, 41] (by decide +kernel) (by decide +kernel)
set_option maxRecDepth 20000 in
theorem gX4_searchWithCuts_J6_bitCount_0f7a4 : GoodIn wsX4_searchWithCuts (va_wsS RX4 175 yJ6_bitCount_0f7a4 wsJ6_bitCount_0f7a4) := goodIn_app (goodIn_of _ (by decide +kernel)) ggX4_searchWithCuts_J6_bitCount_0f7a4
set_option maxRecDepth 20000 in
theorem ggX4_searchWithCuts_X2_endsFrom : GoodIn wsX4_searchWithCuts wsX2_endsFrom := goodIn_r _ [13, 14, 15, 16, 17, 18, 19, 20, 21, 22, 23, 24, 25, 26, 27, 28, 29, 30, 31, 32, 33, 34, 49, 50, 51, 52, 53, 54, 55] (by decide +kernel) (by decide +kernel)
set_option maxRecDepth 20000 in
theorem gX4_searchWithCuts_X2_endsFrom : GoodIn wsX4_searchWithCuts (wsV RX4 200 RX2 yX2_endsFrom wsX2_endsFrom) := goodIn_app (goodIn_of _ (by decide +kernel)) ggX4_searchWithCuts_X2_endsFrom
set_option maxRecDepth 20000 in
theorem ggX4_searchWithCuts_X4_isIn : GoodIn wsX4_searchWithCuts wsX4_isIn := goodIn_r _ [19] (by decide +kernel) (by decide +kernel)
set_option maxRecDepth 20000 in
theorem gX4_searchWithCuts_X4_isIn : GoodIn wsX4_searchWithCuts (va_wsS RX4 204 yX4_isIn wsX4_isIn) := goodIn_app (goodIn_of _ (by decide +kernel)) ggX4_searchWithCuts_X4_isIn
set_option maxRecDepth 20000 in
theorem ggX4_searchWithCuts_X4_moved : GoodIn wsX4_searchWithCuts wsX4_moved := goodIn_r _ [46] (by decide +kernel) (by decide +kernel)
set_option maxRecDepth 20000 in
theorem gX4_searchWithCuts_X4_moved : GoodIn wsX4_searchWithCuts (va_wsS RX4 207 yX4_moved wsX4_moved) := goodIn_app (goodIn_of _ (by decide +kernel)) ggX4_searchWithCuts_X4_moved
set_option maxRecDepth 20000 in
theorem ggX4_searchWithCuts_X4_searchWithCuts : GoodIn wsX4_searchWithCuts wsX4_searchWithCuts := goodIn_r _ [0, 1, 2, 3, 4, 5, 6, 7, 8, 9, 10, 11, 12, 13, 14, 15, 16, 17, 18, 19, 20, 21, 22, 23, 24, 25, 26, 27, 28, 29, 30, 31, 32, 33, 34, 35, 36, 37, 38, 39, 40, 41, 42, 43, 44, 45, 46, 47, 48, 49, 50, 51, 52, 53, 54, 55] (by decide +kernel) (by decide +kernel)
set_option maxRecDepth 20000 in
theorem gX4_searchWithCuts_X4_searchWithCuts : GoodIn wsX4_searchWithCuts (va_wsS RX4 164 yX4_searchWithCuts wsX4_searchWithCuts) := goodIn_app (goodIn_of _ (by decide +kernel)) ggX4_searchWithCuts_X4_searchWithCuts
theorem dX4_searchWithCuts_0 : decode cX4_searchWithCuts 0 = .ok (.aload_n 0, 1) := by decide +kernel
theorem dX4_searchWithCuts_1 : decode cX4_searchWithCuts 1 = .ok (.iload_n 1, 1) := by decide +kernel
theorem dX4_searchWithCuts_2 : decode cX4_searchWithCuts 2 = .ok (.iload_n 2, 1) := by decide +kernel
theorem dX4_searchWithCuts_3 : decode cX4_searchWithCuts 3 = .ok (.iload_n 3, 1) := by decide +kernel
theorem dX4_searchWithCuts_4 : decode cX4_searchWithCuts 4 = .ok (.invokevirtual 102, 3) := by decide +kernel
theorem dX4_searchWithCuts_7 : decode cX4_searchWithCuts 7 = .ok (.ifCond .ne 6, 3) := by decide +kernel
theorem dX4_searchWithCuts_10 : decode cX4_searchWithCuts 10 = .ok (.bipush (-100), 2) := by decide +kernel
theorem dX4_searchWithCuts_12 : decode cX4_searchWithCuts 12 = .ok (.ireturn, 1) := by decide +kernel
theorem dX4_searchWithCuts_13 : decode cX4_searchWithCuts 13 = .ok (.iload 4, 2) := by decide +kernel
theorem dX4_searchWithCuts_15 : decode cX4_searchWithCuts 15 = .ok (.ifCond .gt 13, 3) := by decide +kernel
theorem dX4_searchWithCuts_18 : decode cX4_searchWithCuts 18 = .ok (.iload_n 1, 1) := by decide +kernel
theorem dX4_searchWithCuts_19 : decode cX4_searchWithCuts 19 = .ok (.invokestatic 175, 3) := by decide +kernel
theorem dX4_searchWithCuts_22 : decode cX4_searchWithCuts 22 = .ok (.iload_n 2, 1) := by decide +kernel
theorem dX4_searchWithCuts_23 : decode cX4_searchWithCuts 23 = .ok (.invokestatic 175, 3) := by decide +kernel
theorem dX4_searchWithCuts_26 : decode cX4_searchWithCuts 26 = .ok (.isub, 1) := by decide +kernel
theorem dX4_searchWithCuts_27 : decode cX4_searchWithCuts 27 = .ok (.ireturn, 1) := by decide +kernel
theorem dX4_searchWithCuts_28 : decode cX4_searchWithCuts 28 = .ok (.bipush (-100), 2) := by decide +kernel
theorem dX4_searchWithCuts_30 : decode cX4_searchWithCuts 30 = .ok (.istore 7, 2) := by decide +kernel
theorem dX4_searchWithCuts_32 : decode cX4_searchWithCuts 32 = .ok (.iconst 0, 1) := by decide +kernel
theorem dX4_searchWithCuts_33 : decode cX4_searchWithCuts 33 = .ok (.istore 8, 2) := by decide +kernel
theorem dX4_searchWithCuts_35 : decode cX4_searchWithCuts 35 = .ok (.iload 8, 2) := by decide +kernel
theorem dX4_searchWithCuts_37 : decode cX4_searchWithCuts 37 = .ok (.bipush 25, 2) := by decide +kernel
theorem dX4_searchWithCuts_39 : decode cX4_searchWithCuts 39 = .ok (.if_icmp .ge 112, 3) := by decide +kernel
theorem dX4_searchWithCuts_42 : decode cX4_searchWithCuts 42 = .ok (.aload_n 0, 1) := by decide +kernel
theorem dX4_searchWithCuts_43 : decode cX4_searchWithCuts 43 = .ok (.iload 8, 2) := by decide +kernel
theorem dX4_searchWithCuts_45 : decode cX4_searchWithCuts 45 = .ok (.iload_n 1, 1) := by decide +kernel
theorem dX4_searchWithCuts_46 : decode cX4_searchWithCuts 46 = .ok (.iload_n 2, 1) := by decide +kernel
theorem dX4_searchWithCuts_47 : decode cX4_searchWithCuts 47 = .ok (.iload_n 3, 1) := by decide +kernel
theorem dX4_searchWithCuts_48 : decode cX4_searchWithCuts 48 = .ok (.invokevirtual 200, 3) := by decide +kernel
theorem dX4_searchWithCuts_51 : decode cX4_searchWithCuts 51 = .ok (.istore 9, 2) := by decide +kernel
theorem dX4_searchWithCuts_53 : decode cX4_searchWithCuts 53 = .ok (.iconst 0, 1) := by decide +kernel
theorem dX4_searchWithCuts_54 : decode cX4_searchWithCuts 54 = .ok (.istore 10, 2) := by decide +kernel
theorem dX4_searchWithCuts_56 : decode cX4_searchWithCuts 56 = .ok (.iload 10, 2) := by decide +kernel
theorem dX4_searchWithCuts_58 : decode cX4_searchWithCuts 58 = .ok (.bipush 25, 2) := by decide +kernel
theorem dX4_searchWithCuts_60 : decode cX4_searchWithCuts 60 = .ok (.if_icmp .ge 85, 3) := by decide +kernel
theorem dX4_searchWithCuts_63 : decode cX4_searchWithCuts 63 = .ok (.iload 9, 2) := by decide +kernel
theorem dX4_searchWithCuts_65 : decode cX4_searchWithCuts 65 = .ok (.iload 10, 2) := by decide +kernel
theorem dX4_searchWithCuts_67 : decode cX4_searchWithCuts 67 = .ok (.invokestatic 204, 3) := by decide +kernel
theorem dX4_searchWithCuts_70 : decode cX4_searchWithCuts 70 = .ok (.ifCond .eq 69, 3) := by decide +kernel
theorem dX4_searchWithCuts_73 : decode cX4_searchWithCuts 73 = .ok (.aload_n 0, 1) := by decide +kernel
theorem dX4_searchWithCuts_74 : decode cX4_searchWithCuts 74 = .ok (.iload_n 2, 1) := by decide +kernel
theorem dX4_searchWithCuts_75 : decode cX4_searchWithCuts 75 = .ok (.iconst 1, 1) := by decide +kernel
theorem dX4_searchWithCuts_76 : decode cX4_searchWithCuts 76 = .ok (.iload 10, 2) := by decide +kernel
theorem dX4_searchWithCuts_78 : decode cX4_searchWithCuts 78 = .ok (.ishl, 1) := by decide +kernel
theorem dX4_searchWithCuts_79 : decode cX4_searchWithCuts 79 = .ok (.iconst (-1), 1) := by decide +kernel
theorem dX4_searchWithCuts_80 : decode cX4_searchWithCuts 80 = .ok (.ixor, 1) := by decide +kernel
theorem dX4_searchWithCuts_81 : decode cX4_searchWithCuts 81 = .ok (.iand, 1) := by decide +kernel
theorem dX4_searchWithCuts_82 : decode cX4_searchWithCuts 82 = .ok (.iload_n 1, 1) := by decide +kernel
theorem dX4_searchWithCuts_83 : decode cX4_searchWithCuts 83 = .ok (.iload 8, 2) := by decide +kernel
theorem dX4_searchWithCuts_85 : decode cX4_searchWithCuts 85 = .ok (.iload 10, 2) := by decide +kernel
theorem dX4_searchWithCuts_87 : decode cX4_searchWithCuts 87 = .ok (.invokestatic 207, 3) := by decide +kernel
theorem dX4_searchWithCuts_90 : decode cX4_searchWithCuts 90 = .ok (.iload_n 3, 1) := by decide +kernel
theorem dX4_searchWithCuts_91 : decode cX4_searchWithCuts 91 = .ok (.ifCond .ne 7, 3) := by decide +kernel
theorem dX4_searchWithCuts_94 : decode cX4_searchWithCuts 94 = .ok (.iconst 1, 1) := by decide +kernel
theorem dX4_searchWithCuts_95 : decode cX4_searchWithCuts 95 = .ok (.goto 4, 3) := by decide +kernel
theorem dX4_searchWithCuts_98 : decode cX4_searchWithCuts 98 = .ok (.iconst 0, 1) := by decide +kernel
theorem dX4_searchWithCuts_99 : decode cX4_searchWithCuts 99 = .ok (.iload 4, 2) := by decide +kernel
theorem dX4_searchWithCuts_101 : decode cX4_searchWithCuts 101 = .ok (.iconst 1, 1) := by decide +kernel
theorem dX4_searchWithCuts_102 : decode cX4_searchWithCuts 102 = .ok (.isub, 1) := by decide +kernel
theorem dX4_searchWithCuts_103 : decode cX4_searchWithCuts 103 = .ok (.iload 6, 2) := by decide +kernel
theorem dX4_searchWithCuts_105 : decode cX4_searchWithCuts 105 = .ok (.ineg, 1) := by decide +kernel
theorem dX4_searchWithCuts_106 : decode cX4_searchWithCuts 106 = .ok (.iload 5, 2) := by decide +kernel
theorem dX4_searchWithCuts_108 : decode cX4_searchWithCuts 108 = .ok (.iload 7, 2) := by decide +kernel
theorem dX4_searchWithCuts_110 : decode cX4_searchWithCuts 110 = .ok (.invokestatic 211, 3) := by decide +kernel
theorem dX4_searchWithCuts_113 : decode cX4_searchWithCuts 113 = .ok (.ineg, 1) := by decide +kernel
theorem dX4_searchWithCuts_114 : decode cX4_searchWithCuts 114 = .ok (.invokestatic 164, 3) := by decide +kernel
theorem dX4_searchWithCuts_117 : decode cX4_searchWithCuts 117 = .ok (.ineg, 1) := by decide +kernel
theorem dX4_searchWithCuts_118 : decode cX4_searchWithCuts 118 = .ok (.istore 11, 2) := by decide +kernel
theorem dX4_searchWithCuts_120 : decode cX4_searchWithCuts 120 = .ok (.iload 7, 2) := by decide +kernel
theorem dX4_searchWithCuts_122 : decode cX4_searchWithCuts 122 = .ok (.iload 11, 2) := by decide +kernel
theorem dX4_searchWithCuts_124 : decode cX4_searchWithCuts 124 = .ok (.invokestatic 211, 3) := by decide +kernel
theorem dX4_searchWithCuts_127 : decode cX4_searchWithCuts 127 = .ok (.istore 7, 2) := by decide +kernel
theorem dX4_searchWithCuts_129 : decode cX4_searchWithCuts 129 = .ok (.iload 7, 2) := by decide +kernel
theorem dX4_searchWithCuts_131 : decode cX4_searchWithCuts 131 = .ok (.iload 6, 2) := by decide +kernel
theorem dX4_searchWithCuts_133 : decode cX4_searchWithCuts 133 = .ok (.if_icmp .lt 6, 3) := by decide +kernel
theorem dX4_searchWithCuts_136 : decode cX4_searchWithCuts 136 = .ok (.iload 7, 2) := by decide +kernel
theorem dX4_searchWithCuts_138 : decode cX4_searchWithCuts 138 = .ok (.ireturn, 1) := by decide +kernel
theorem dX4_searchWithCuts_139 : decode cX4_searchWithCuts 139 = .ok (.iinc 10 1, 3) := by decide +kernel
theorem dX4_searchWithCuts_142 : decode cX4_searchWithCuts 142 = .ok (.goto (-86), 3) := by decide +kernel
theorem dX4_searchWithCuts_145 : decode cX4_searchWithCuts 145 = .ok (.iinc 8 1, 3) := by decide +kernel
theorem dX4_searchWithCuts_148 : decode cX4_searchWithCuts 148 = .ok (.goto (-113), 3) := by decide +kernel
theorem dX4_searchWithCuts_151 : decode cX4_searchWithCuts 151 = .ok (.iload 7, 2) := by decide +kernel
theorem dX4_searchWithCuts_153 : decode cX4_searchWithCuts 153 = .ok (.ireturn, 1) := by decide +kernel
set_option maxRecDepth 20000 in
theorem ggX4_searchAll_X2_hasMove : GoodIn wsX4_searchAll wsX2_hasMove := goodIn_r _ [9, 10, 11, 12, 8, 13, 14, 15, 16, 17, 18, 19, 20, 21, 22, 23, 24, 25, 26, 27, 28, 29, 30, 31, 32, 33, 34, 49, 50, 51, 52, 53, 54, 55] (by decide +kernel) (by decide +kernel)
set_option maxRecDepth 20000 in
theorem gX4_searchAll_X2_hasMove : GoodIn wsX4_searchAll (wsV RX4 102 RX2 yX2_hasMove wsX2_hasMove) := goodIn_app (goodIn_of _ (by decide +kernel)) ggX4_searchAll_X2_hasMove
set_option maxRecDepth 20000 in
theorem ggX4_searchAll_J6_bitCount_0f7a4 : GoodIn wsX4_searchAll wsJ6_bitCount_0f7a4 := goodIn_r _ [38, 39, 40, 41] (by decide +kernel) (by decide +kernel)
set_option maxRecDepth 20000 in
theorem gX4_searchAll_J6_bitCount_0f7a4 : GoodIn wsX4_searchAll (va_wsS RX4 175 yJ6_bitCount_0f7a4 wsJ6_bitCount_0f7a4) := goodIn_app (goodIn_of _ (by decide +kernel)) ggX4_searchAll_J6_bitCount_0f7a4
set_option maxRecDepth 20000 in
theorem ggX4_searchAll_X2_endsFrom : GoodIn wsX4_searchAll wsX2_endsFrom := goodIn_r _ [13, 14, 15, 16, 17, 18, 19, 20, 21, 22, 23, 24, 25, 26, 27, 28, 29, 30, 31, 32, 33, 34, 49, 50, 51, 52, 53, 54, 55] (by decide +kernel) (by decide +kernel)
set_option maxRecDepth 20000 in
theorem gX4_searchAll_X2_endsFrom : GoodIn wsX4_searchAll (wsV RX4 200 RX2 yX2_endsFrom wsX2_endsFrom) := goodIn_app (goodIn_of _ (by decide +kernel)) ggX4_searchAll_X2_endsFrom
set_option maxRecDepth 20000 in
theorem ggX4_searchAll_X4_isIn : GoodIn wsX4_searchAll wsX4_isIn := goodIn_r _ [19] (by decide +kernel) (by decide +kernel)
set_option maxRecDepth 20000 in
theorem gX4_searchAll_X4_isIn : GoodIn wsX4_searchAll (va_wsS RX4 204 yX4_isIn wsX4_isIn) := goodIn_app (goodIn_of _ (by decide +kernel)) ggX4_searchAll_X4_isIn
set_option maxRecDepth 20000 in
theorem ggX4_searchAll_X4_moved : GoodIn wsX4_searchAll wsX4_moved := goodIn_r _ [46] (by decide +kernel) (by decide +kernel)
set_option maxRecDepth 20000 in
theorem gX4_searchAll_X4_moved : GoodIn wsX4_searchAll (va_wsS RX4 207 yX4_moved wsX4_moved) := goodIn_app (goodIn_of _ (by decide +kernel)) ggX4_searchAll_X4_moved
set_option maxRecDepth 20000 in
theorem ggX4_searchAll_X4_searchAll : GoodIn wsX4_searchAll wsX4_searchAll := goodIn_r _ [0, 1, 2, 3, 4, 5, 6, 7, 8, 9, 10, 11, 12, 13, 14, 15, 16, 17, 18, 19, 20, 21, 22, 23, 24, 25, 26, 27, 28, 29, 30, 31, 32, 33, 34, 35, 36, 37, 38, 39, 40, 41, 42, 43, 44, 45, 46, 47, 48, 49, 50, 51, 52, 53, 54, 55] (by decide +kernel) (by decide +kernel)
set_option maxRecDepth 20000 in
theorem gX4_searchAll_X4_searchAll : GoodIn wsX4_searchAll (va_wsS RX4 168 yX4_searchAll wsX4_searchAll) := goodIn_app (goodIn_of _ (by decide +kernel)) ggX4_searchAll_X4_searchAll
theorem dX4_searchAll_0 : decode cX4_searchAll 0 = .ok (.aload_n 0, 1) := by decide +kernel
theorem dX4_searchAll_1 : decode cX4_searchAll 1 = .ok (.iload_n 1, 1) := by decide +kernel
theorem dX4_searchAll_2 : decode cX4_searchAll 2 = .ok (.iload_n 2, 1) := by decide +kernel
theorem dX4_searchAll_3 : decode cX4_searchAll 3 = .ok (.iload_n 3, 1) := by decide +kernel
theorem dX4_searchAll_4 : decode cX4_searchAll 4 = .ok (.invokevirtual 102, 3) := by decide +kernel
theorem dX4_searchAll_7 : decode cX4_searchAll 7 = .ok (.ifCond .ne 6, 3) := by decide +kernel
theorem dX4_searchAll_10 : decode cX4_searchAll 10 = .ok (.bipush (-100), 2) := by decide +kernel
theorem dX4_searchAll_12 : decode cX4_searchAll 12 = .ok (.ireturn, 1) := by decide +kernel
theorem dX4_searchAll_13 : decode cX4_searchAll 13 = .ok (.iload 4, 2) := by decide +kernel
theorem dX4_searchAll_15 : decode cX4_searchAll 15 = .ok (.ifCond .gt 13, 3) := by decide +kernel
theorem dX4_searchAll_18 : decode cX4_searchAll 18 = .ok (.iload_n 1, 1) := by decide +kernel
theorem dX4_searchAll_19 : decode cX4_searchAll 19 = .ok (.invokestatic 175, 3) := by decide +kernel
theorem dX4_searchAll_22 : decode cX4_searchAll 22 = .ok (.iload_n 2, 1) := by decide +kernel
theorem dX4_searchAll_23 : decode cX4_searchAll 23 = .ok (.invokestatic 175, 3) := by decide +kernel
theorem dX4_searchAll_26 : decode cX4_searchAll 26 = .ok (.isub, 1) := by decide +kernel
theorem dX4_searchAll_27 : decode cX4_searchAll 27 = .ok (.ireturn, 1) := by decide +kernel
theorem dX4_searchAll_28 : decode cX4_searchAll 28 = .ok (.bipush (-100), 2) := by decide +kernel
theorem dX4_searchAll_30 : decode cX4_searchAll 30 = .ok (.istore 5, 2) := by decide +kernel
theorem dX4_searchAll_32 : decode cX4_searchAll 32 = .ok (.iconst 0, 1) := by decide +kernel
theorem dX4_searchAll_33 : decode cX4_searchAll 33 = .ok (.istore 6, 2) := by decide +kernel
theorem dX4_searchAll_35 : decode cX4_searchAll 35 = .ok (.iload 6, 2) := by decide +kernel
theorem dX4_searchAll_37 : decode cX4_searchAll 37 = .ok (.bipush 25, 2) := by decide +kernel
theorem dX4_searchAll_39 : decode cX4_searchAll 39 = .ok (.if_icmp .ge 87, 3) := by decide +kernel
theorem dX4_searchAll_42 : decode cX4_searchAll 42 = .ok (.aload_n 0, 1) := by decide +kernel
theorem dX4_searchAll_43 : decode cX4_searchAll 43 = .ok (.iload 6, 2) := by decide +kernel
theorem dX4_searchAll_45 : decode cX4_searchAll 45 = .ok (.iload_n 1, 1) := by decide +kernel
theorem dX4_searchAll_46 : decode cX4_searchAll 46 = .ok (.iload_n 2, 1) := by decide +kernel
theorem dX4_searchAll_47 : decode cX4_searchAll 47 = .ok (.iload_n 3, 1) := by decide +kernel
theorem dX4_searchAll_48 : decode cX4_searchAll 48 = .ok (.invokevirtual 200, 3) := by decide +kernel
theorem dX4_searchAll_51 : decode cX4_searchAll 51 = .ok (.istore 7, 2) := by decide +kernel
theorem dX4_searchAll_53 : decode cX4_searchAll 53 = .ok (.iconst 0, 1) := by decide +kernel
theorem dX4_searchAll_54 : decode cX4_searchAll 54 = .ok (.istore 8, 2) := by decide +kernel
theorem dX4_searchAll_56 : decode cX4_searchAll 56 = .ok (.iload 8, 2) := by decide +kernel
theorem dX4_searchAll_58 : decode cX4_searchAll 58 = .ok (.bipush 25, 2) := by decide +kernel
theorem dX4_searchAll_60 : decode cX4_searchAll 60 = .ok (.if_icmp .ge 60, 3) := by decide +kernel
theorem dX4_searchAll_63 : decode cX4_searchAll 63 = .ok (.iload 7, 2) := by decide +kernel
theorem dX4_searchAll_65 : decode cX4_searchAll 65 = .ok (.iload 8, 2) := by decide +kernel
theorem dX4_searchAll_67 : decode cX4_searchAll 67 = .ok (.invokestatic 204, 3) := by decide +kernel
theorem dX4_searchAll_70 : decode cX4_searchAll 70 = .ok (.ifCond .eq 44, 3) := by decide +kernel
theorem dX4_searchAll_73 : decode cX4_searchAll 73 = .ok (.iload 5, 2) := by decide +kernel
theorem dX4_searchAll_75 : decode cX4_searchAll 75 = .ok (.aload_n 0, 1) := by decide +kernel
theorem dX4_searchAll_76 : decode cX4_searchAll 76 = .ok (.iload_n 2, 1) := by decide +kernel
theorem dX4_searchAll_77 : decode cX4_searchAll 77 = .ok (.iconst 1, 1) := by decide +kernel
theorem dX4_searchAll_78 : decode cX4_searchAll 78 = .ok (.iload 8, 2) := by decide +kernel
theorem dX4_searchAll_80 : decode cX4_searchAll 80 = .ok (.ishl, 1) := by decide +kernel
theorem dX4_searchAll_81 : decode cX4_searchAll 81 = .ok (.iconst (-1), 1) := by decide +kernel
theorem dX4_searchAll_82 : decode cX4_searchAll 82 = .ok (.ixor, 1) := by decide +kernel
theorem dX4_searchAll_83 : decode cX4_searchAll 83 = .ok (.iand, 1) := by decide +kernel
theorem dX4_searchAll_84 : decode cX4_searchAll 84 = .ok (.iload_n 1, 1) := by decide +kernel
theorem dX4_searchAll_85 : decode cX4_searchAll 85 = .ok (.iload 6, 2) := by decide +kernel
theorem dX4_searchAll_87 : decode cX4_searchAll 87 = .ok (.iload 8, 2) := by decide +kernel
theorem dX4_searchAll_89 : decode cX4_searchAll 89 = .ok (.invokestatic 207, 3) := by decide +kernel
theorem dX4_searchAll_92 : decode cX4_searchAll 92 = .ok (.iload_n 3, 1) := by decide +kernel
theorem dX4_searchAll_93 : decode cX4_searchAll 93 = .ok (.ifCond .ne 7, 3) := by decide +kernel
theorem dX4_searchAll_96 : decode cX4_searchAll 96 = .ok (.iconst 1, 1) := by decide +kernel
theorem dX4_searchAll_97 : decode cX4_searchAll 97 = .ok (.goto 4, 3) := by decide +kernel
theorem dX4_searchAll_100 : decode cX4_searchAll 100 = .ok (.iconst 0, 1) := by decide +kernel
theorem dX4_searchAll_101 : decode cX4_searchAll 101 = .ok (.iload 4, 2) := by decide +kernel
theorem dX4_searchAll_103 : decode cX4_searchAll 103 = .ok (.iconst 1, 1) := by decide +kernel
theorem dX4_searchAll_104 : decode cX4_searchAll 104 = .ok (.isub, 1) := by decide +kernel
theorem dX4_searchAll_105 : decode cX4_searchAll 105 = .ok (.invokestatic 168, 3) := by decide +kernel
theorem dX4_searchAll_108 : decode cX4_searchAll 108 = .ok (.ineg, 1) := by decide +kernel
theorem dX4_searchAll_109 : decode cX4_searchAll 109 = .ok (.invokestatic 211, 3) := by decide +kernel
theorem dX4_searchAll_112 : decode cX4_searchAll 112 = .ok (.istore 5, 2) := by decide +kernel
theorem dX4_searchAll_114 : decode cX4_searchAll 114 = .ok (.iinc 8 1, 3) := by decide +kernel
theorem dX4_searchAll_117 : decode cX4_searchAll 117 = .ok (.goto (-61), 3) := by decide +kernel
theorem dX4_searchAll_120 : decode cX4_searchAll 120 = .ok (.iinc 6 1, 3) := by decide +kernel
theorem dX4_searchAll_123 : decode cX4_searchAll 123 = .ok (.goto (-88), 3) := by decide +kernel
theorem dX4_searchAll_126 : decode cX4_searchAll 126 = .ok (.iload 5, 2) := by decide +kernel
theorem dX4_searchAll_128 : decode cX4_searchAll 128 = .ok (.ireturn, 1) := by decide +kernel
theorem dX4_moved_0 : decode cX4_moved 0 = .ok (.iload_n 0, 1) := by decide +kernel
theorem dX4_moved_1 : decode cX4_moved 1 = .ok (.iconst 1, 1) := by decide +kernel
theorem dX4_moved_2 : decode cX4_moved 2 = .ok (.iload_n 1, 1) := by decide +kernel
theorem dX4_moved_3 : decode cX4_moved 3 = .ok (.ishl, 1) := by decide +kernel
theorem dX4_moved_4 : decode cX4_moved 4 = .ok (.iconst (-1), 1) := by decide +kernel
theorem dX4_moved_5 : decode cX4_moved 5 = .ok (.ixor, 1) := by decide +kernel
theorem dX4_moved_6 : decode cX4_moved 6 = .ok (.iand, 1) := by decide +kernel
theorem dX4_moved_7 : decode cX4_moved 7 = .ok (.iconst 1, 1) := by decide +kernel
theorem dX4_moved_8 : decode cX4_moved 8 = .ok (.iload_n 2, 1) := by decide +kernel
theorem dX4_moved_9 : decode cX4_moved 9 = .ok (.ishl, 1) := by decide +kernel
theorem dX4_moved_10 : decode cX4_moved 10 = .ok (.ior, 1) := by decide +kernel
theorem dX4_moved_11 : decode cX4_moved 11 = .ok (.ireturn, 1) := by decide +kernel
end
section
theorem dX5_init_0 : decode cX5_init 0 = .ok (.aload_n 0, 1) := by decide +kernel
theorem dX5_init_1 : decode cX5_init 1 = .ok (.invokespecial 1, 3) := by decide +kernel
theorem dX5_init_4 : decode cX5_init 4 = .ok (.aload_n 0, 1) := by decide +kernel
theorem dX5_init_5 : decode cX5_init 5 = .ok (.bipush 8, 2) := by decide +kernel
theorem dX5_init_7 : decode cX5_init 7 = .ok (.newarray .int, 2) := by decide +kernel
theorem dX5_init_9 : decode cX5_init 9 = .ok (.putfield 7, 3) := by decide +kernel
theorem dX5_init_12 : decode cX5_init 12 = .ok (.aload_n 0, 1) := by decide +kernel
theorem dX5_init_13 : decode cX5_init 13 = .ok (.bipush 8, 2) := by decide +kernel
theorem dX5_init_15 : decode cX5_init 15 = .ok (.newarray .int, 2) := by decide +kernel
theorem dX5_init_17 : decode cX5_init 17 = .ok (.putfield 13, 3) := by decide +kernel
theorem dX5_init_20 : decode cX5_init 20 = .ok (.aload_n 0, 1) := by decide +kernel
theorem dX5_init_21 : decode cX5_init 21 = .ok (.bipush 8, 2) := by decide +kernel
theorem dX5_init_23 : decode cX5_init 23 = .ok (.newarray .int, 2) := by decide +kernel
theorem dX5_init_25 : decode cX5_init 25 = .ok (.putfield 16, 3) := by decide +kernel
theorem dX5_init_28 : decode cX5_init 28 = .ok (.aload_n 0, 1) := by decide +kernel
theorem dX5_init_29 : decode cX5_init 29 = .ok (.bipush 8, 2) := by decide +kernel
theorem dX5_init_31 : decode cX5_init 31 = .ok (.newarray .int, 2) := by decide +kernel
theorem dX5_init_33 : decode cX5_init 33 = .ok (.putfield 19, 3) := by decide +kernel
theorem dX5_init_36 : decode cX5_init 36 = .ok (.aload_n 0, 1) := by decide +kernel
theorem dX5_init_37 : decode cX5_init 37 = .ok (.iconst 4, 1) := by decide +kernel
theorem dX5_init_38 : decode cX5_init 38 = .ok (.newarray .int, 2) := by decide +kernel
theorem dX5_init_40 : decode cX5_init 40 = .ok (.putfield 22, 3) := by decide +kernel
theorem dX5_init_43 : decode cX5_init 43 = .ok (.aload_n 0, 1) := by decide +kernel
theorem dX5_init_44 : decode cX5_init 44 = .ok (.iconst 4, 1) := by decide +kernel
theorem dX5_init_45 : decode cX5_init 45 = .ok (.newarray .int, 2) := by decide +kernel
theorem dX5_init_47 : decode cX5_init 47 = .ok (.putfield 25, 3) := by decide +kernel
theorem dX5_init_50 : decode cX5_init 50 = .ok (.aload_n 0, 1) := by decide +kernel
theorem dX5_init_51 : decode cX5_init 51 = .ok (.iconst 4, 1) := by decide +kernel
theorem dX5_init_52 : decode cX5_init 52 = .ok (.newarray .int, 2) := by decide +kernel
theorem dX5_init_54 : decode cX5_init 54 = .ok (.putfield 28, 3) := by decide +kernel
theorem dX5_init_57 : decode cX5_init 57 = .ok (.aload_n 0, 1) := by decide +kernel
theorem dX5_init_58 : decode cX5_init 58 = .ok (.iconst 4, 1) := by decide +kernel
theorem dX5_init_59 : decode cX5_init 59 = .ok (.newarray .int, 2) := by decide +kernel
theorem dX5_init_61 : decode cX5_init 61 = .ok (.putfield 31, 3) := by decide +kernel
theorem dX5_init_64 : decode cX5_init 64 = .ok (.aload_n 0, 1) := by decide +kernel
theorem dX5_init_65 : decode cX5_init 65 = .ok (.bipush 12, 2) := by decide +kernel
theorem dX5_init_67 : decode cX5_init 67 = .ok (.newarray .int, 2) := by decide +kernel
theorem dX5_init_69 : decode cX5_init 69 = .ok (.putfield 34, 3) := by decide +kernel
theorem dX5_init_72 : decode cX5_init 72 = .ok (.aload_n 0, 1) := by decide +kernel
theorem dX5_init_73 : decode cX5_init 73 = .ok (.bipush 12, 2) := by decide +kernel
theorem dX5_init_75 : decode cX5_init 75 = .ok (.newarray .int, 2) := by decide +kernel
theorem dX5_init_77 : decode cX5_init 77 = .ok (.putfield 37, 3) := by decide +kernel
theorem dX5_init_80 : decode cX5_init 80 = .ok (.aload_n 0, 1) := by decide +kernel
theorem dX5_init_81 : decode cX5_init 81 = .ok (.bipush 12, 2) := by decide +kernel
theorem dX5_init_83 : decode cX5_init 83 = .ok (.newarray .int, 2) := by decide +kernel
theorem dX5_init_85 : decode cX5_init 85 = .ok (.putfield 40, 3) := by decide +kernel
theorem dX5_init_88 : decode cX5_init 88 = .ok (.aload_n 0, 1) := by decide +kernel
theorem dX5_init_89 : decode cX5_init 89 = .ok (.bipush 12, 2) := by decide +kernel
theorem dX5_init_91 : decode cX5_init 91 = .ok (.newarray .int, 2) := by decide +kernel
theorem dX5_init_93 : decode cX5_init 93 = .ok (.putfield 43, 3) := by decide +kernel
theorem dX5_init_96 : decode cX5_init 96 = .ok (.aload_n 0, 1) := by decide +kernel
theorem dX5_init_97 : decode cX5_init 97 = .ok (.bipush 12, 2) := by decide +kernel
theorem dX5_init_99 : decode cX5_init 99 = .ok (.newarray .int, 2) := by decide +kernel
theorem dX5_init_101 : decode cX5_init 101 = .ok (.putfield 46, 3) := by decide +kernel
theorem dX5_init_104 : decode cX5_init 104 = .ok (.aload_n 0, 1) := by decide +kernel
theorem dX5_init_105 : decode cX5_init 105 = .ok (.bipush 12, 2) := by decide +kernel
theorem dX5_init_107 : decode cX5_init 107 = .ok (.newarray .int, 2) := by decide +kernel
theorem dX5_init_109 : decode cX5_init 109 = .ok (.putfield 49, 3) := by decide +kernel
theorem dX5_init_112 : decode cX5_init 112 = .ok (.aload_n 0, 1) := by decide +kernel
theorem dX5_init_113 : decode cX5_init 113 = .ok (.sipush 732, 3) := by decide +kernel
theorem dX5_init_116 : decode cX5_init 116 = .ok (.newarray .int, 2) := by decide +kernel
theorem dX5_init_118 : decode cX5_init 118 = .ok (.putfield 52, 3) := by decide +kernel
theorem dX5_init_121 : decode cX5_init 121 = .ok (.aload_n 0, 1) := by decide +kernel
theorem dX5_init_122 : decode cX5_init 122 = .ok (.sipush 732, 3) := by decide +kernel
theorem dX5_init_125 : decode cX5_init 125 = .ok (.newarray .int, 2) := by decide +kernel
theorem dX5_init_127 : decode cX5_init 127 = .ok (.putfield 55, 3) := by decide +kernel
theorem dX5_init_130 : decode cX5_init 130 = .ok (.return_, 1) := by decide +kernel
theorem dX5_thrown_0 : decode cX5_thrown 0 = .ok (.aload_n 0, 1) := by decide +kernel
theorem dX5_thrown_1 : decode cX5_thrown 1 = .ok (.getfield 58, 3) := by decide +kernel
theorem dX5_thrown_4 : decode cX5_thrown 4 = .ok (.ireturn, 1) := by decide +kernel
theorem dX5_fails_0 : decode cX5_fails 0 = .ok (.aload_n 0, 1) := by decide +kernel
theorem dX5_fails_1 : decode cX5_fails 1 = .ok (.iload_n 1, 1) := by decide +kernel
theorem dX5_fails_2 : decode cX5_fails 2 = .ok (.putfield 58, 3) := by decide +kernel
theorem dX5_fails_5 : decode cX5_fails 5 = .ok (.iconst 0, 1) := by decide +kernel
theorem dX5_fails_6 : decode cX5_fails 6 = .ok (.ireturn, 1) := by decide +kernel
theorem dX5_asks_0 : decode cX5_asks 0 = .ok (.aload_n 0, 1) := by decide +kernel
theorem dX5_asks_1 : decode cX5_asks 1 = .ok (.iload_n 1, 1) := by decide +kernel
theorem dX5_asks_2 : decode cX5_asks 2 = .ok (.ifCond .eq 7, 3) := by decide +kernel
theorem dX5_asks_5 : decode cX5_asks 5 = .ok (.iconst 0, 1) := by decide +kernel
theorem dX5_asks_6 : decode cX5_asks 6 = .ok (.goto 4, 3) := by decide +kernel
theorem dX5_asks_9 : decode cX5_asks 9 = .ok (.iconst 1, 1) := by decide +kernel
theorem dX5_asks_10 : decode cX5_asks 10 = .ok (.putfield 58, 3) := by decide +kernel
theorem dX5_asks_13 : decode cX5_asks 13 = .ok (.iload_n 1, 1) := by decide +kernel
theorem dX5_asks_14 : decode cX5_asks 14 = .ok (.ireturn, 1) := by decide +kernel
theorem dX5_in_0 : decode cX5_in 0 = .ok (.iload_n 0, 1) := by decide +kernel
theorem dX5_in_1 : decode cX5_in 1 = .ok (.iload_n 1, 1) := by decide +kernel
theorem dX5_in_2 : decode cX5_in 2 = .ok (.if_icmp .lt 12, 3) := by decide +kernel
theorem dX5_in_5 : decode cX5_in 5 = .ok (.iload_n 0, 1) := by decide +kernel
theorem dX5_in_6 : decode cX5_in 6 = .ok (.iload_n 2, 1) := by decide +kernel
theorem dX5_in_7 : decode cX5_in 7 = .ok (.if_icmp .gt 7, 3) := by decide +kernel
theorem dX5_in_10 : decode cX5_in 10 = .ok (.iconst 1, 1) := by decide +kernel
theorem dX5_in_11 : decode cX5_in 11 = .ok (.goto 4, 3) := by decide +kernel
theorem dX5_in_14 : decode cX5_in 14 = .ok (.iconst 0, 1) := by decide +kernel
theorem dX5_in_15 : decode cX5_in 15 = .ok (.ireturn, 1) := by decide +kernel
theorem dX5_isVariant_0 : decode cX5_isVariant 0 = .ok (.iload_n 1, 1) := by decide +kernel
theorem dX5_isVariant_1 : decode cX5_isVariant 1 = .ok (.ifCond .lt 15, 3) := by decide +kernel
theorem dX5_isVariant_4 : decode cX5_isVariant 4 = .ok (.iload_n 1, 1) := by decide +kernel
theorem dX5_isVariant_5 : decode cX5_isVariant 5 = .ok (.aload_n 0, 1) := by decide +kernel
theorem dX5_isVariant_6 : decode cX5_isVariant 6 = .ok (.getfield 62, 3) := by decide +kernel
theorem dX5_isVariant_9 : decode cX5_isVariant 9 = .ok (.if_icmp .ge 7, 3) := by decide +kernel
theorem dX5_isVariant_12 : decode cX5_isVariant 12 = .ok (.iconst 1, 1) := by decide +kernel
theorem dX5_isVariant_13 : decode cX5_isVariant 13 = .ok (.goto 4, 3) := by decide +kernel
theorem dX5_isVariant_16 : decode cX5_isVariant 16 = .ok (.iconst 0, 1) := by decide +kernel
theorem dX5_isVariant_17 : decode cX5_isVariant 17 = .ok (.ireturn, 1) := by decide +kernel
theorem dX5_isPlayer_0 : decode cX5_isPlayer 0 = .ok (.iload_n 0, 1) := by decide +kernel
theorem dX5_isPlayer_1 : decode cX5_isPlayer 1 = .ok (.ifCond .lt 12, 3) := by decide +kernel
theorem dX5_isPlayer_4 : decode cX5_isPlayer 4 = .ok (.iload_n 0, 1) := by decide +kernel
theorem dX5_isPlayer_5 : decode cX5_isPlayer 5 = .ok (.iconst 5, 1) := by decide +kernel
theorem dX5_isPlayer_6 : decode cX5_isPlayer 6 = .ok (.if_icmp .ge 7, 3) := by decide +kernel
theorem dX5_isPlayer_9 : decode cX5_isPlayer 9 = .ok (.iconst 1, 1) := by decide +kernel
theorem dX5_isPlayer_10 : decode cX5_isPlayer 10 = .ok (.goto 4, 3) := by decide +kernel
theorem dX5_isPlayer_13 : decode cX5_isPlayer 13 = .ok (.iconst 0, 1) := by decide +kernel
theorem dX5_isPlayer_14 : decode cX5_isPlayer 14 = .ok (.ireturn, 1) := by decide +kernel
theorem dX5_isGame_0 : decode cX5_isGame 0 = .ok (.iload_n 1, 1) := by decide +kernel
theorem dX5_isGame_1 : decode cX5_isGame 1 = .ok (.ifCond .lt 15, 3) := by decide +kernel
theorem dX5_isGame_4 : decode cX5_isGame 4 = .ok (.iload_n 1, 1) := by decide +kernel
theorem dX5_isGame_5 : decode cX5_isGame 5 = .ok (.aload_n 0, 1) := by decide +kernel
theorem dX5_isGame_6 : decode cX5_isGame 6 = .ok (.getfield 65, 3) := by decide +kernel
theorem dX5_isGame_9 : decode cX5_isGame 9 = .ok (.if_icmp .ge 7, 3) := by decide +kernel
theorem dX5_isGame_12 : decode cX5_isGame 12 = .ok (.iconst 1, 1) := by decide +kernel
theorem dX5_isGame_13 : decode cX5_isGame 13 = .ok (.goto 4, 3) := by decide +kernel
theorem dX5_isGame_16 : decode cX5_isGame 16 = .ok (.iconst 0, 1) := by decide +kernel
theorem dX5_isGame_17 : decode cX5_isGame 17 = .ok (.ireturn, 1) := by decide +kernel
theorem dX5_isCell_0 : decode cX5_isCell 0 = .ok (.iload_n 0, 1) := by decide +kernel
theorem dX5_isCell_1 : decode cX5_isCell 1 = .ok (.ifCond .lt 13, 3) := by decide +kernel
theorem dX5_isCell_4 : decode cX5_isCell 4 = .ok (.iload_n 0, 1) := by decide +kernel
theorem dX5_isCell_5 : decode cX5_isCell 5 = .ok (.bipush 25, 2) := by decide +kernel
theorem dX5_isCell_7 : decode cX5_isCell 7 = .ok (.if_icmp .ge 7, 3) := by decide +kernel
theorem dX5_isCell_10 : decode cX5_isCell 10 = .ok (.iconst 1, 1) := by decide +kernel
theorem dX5_isCell_11 : decode cX5_isCell 11 = .ok (.goto 4, 3) := by decide +kernel
theorem dX5_isCell_14 : decode cX5_isCell 14 = .ok (.iconst 0, 1) := by decide +kernel
theorem dX5_isCell_15 : decode cX5_isCell 15 = .ok (.ireturn, 1) := by decide +kernel
theorem dX5_size_0 : decode cX5_size 0 = .ok (.iconst 0, 1) := by decide +kernel
theorem dX5_size_1 : decode cX5_size 1 = .ok (.istore_n 1, 1) := by decide +kernel
theorem dX5_size_2 : decode cX5_size 2 = .ok (.iconst 0, 1) := by decide +kernel
theorem dX5_size_3 : decode cX5_size 3 = .ok (.istore_n 2, 1) := by decide +kernel
theorem dX5_size_4 : decode cX5_size 4 = .ok (.iload_n 2, 1) := by decide +kernel
theorem dX5_size_5 : decode cX5_size 5 = .ok (.bipush 25, 2) := by decide +kernel
theorem dX5_size_7 : decode cX5_size 7 = .ok (.if_icmp .ge 17, 3) := by decide +kernel
theorem dX5_size_10 : decode cX5_size 10 = .ok (.iload_n 1, 1) := by decide +kernel
theorem dX5_size_11 : decode cX5_size 11 = .ok (.iload_n 0, 1) := by decide +kernel
theorem dX5_size_12 : decode cX5_size 12 = .ok (.iload_n 2, 1) := by decide +kernel
theorem dX5_size_13 : decode cX5_size 13 = .ok (.ishr, 1) := by decide +kernel
theorem dX5_size_14 : decode cX5_size 14 = .ok (.iconst 1, 1) := by decide +kernel
theorem dX5_size_15 : decode cX5_size 15 = .ok (.iand, 1) := by decide +kernel
theorem dX5_size_16 : decode cX5_size 16 = .ok (.iadd, 1) := by decide +kernel
theorem dX5_size_17 : decode cX5_size 17 = .ok (.istore_n 1, 1) := by decide +kernel
theorem dX5_size_18 : decode cX5_size 18 = .ok (.iinc 2 1, 3) := by decide +kernel
theorem dX5_size_21 : decode cX5_size 21 = .ok (.goto (-17), 3) := by decide +kernel
theorem dX5_size_24 : decode cX5_size 24 = .ok (.iload_n 1, 1) := by decide +kernel
theorem dX5_size_25 : decode cX5_size 25 = .ok (.ireturn, 1) := by decide +kernel
set_option maxRecDepth 20000 in
theorem ggX5_card_X5_in : GoodIn wsX5_card wsX5_in := goodIn_r _ [9] (by decide +kernel) (by decide +kernel)
set_option maxRecDepth 20000 in
theorem gX5_card_X5_in : GoodIn wsX5_card (va_wsS RX5 68 yX5_in wsX5_in) := goodIn_app (goodIn_of _ (by decide +kernel)) ggX5_card_X5_in
set_option maxRecDepth 20000 in
theorem ggX5_card_X5_asks : GoodIn wsX5_card wsX5_asks := goodIn_r _ [13, 14, 19, 20, 21, 22, 23, 24, 25, 26, 27, 28, 29, 30, 31, 32, 33, 34, 35, 36, 37, 38] (by decide +kernel) (by decide +kernel)
set_option maxRecDepth 20000 in
theorem gX5_card_X5_asks : GoodIn wsX5_card (wsV RX5 72 RX5 yX5_asks wsX5_asks) := goodIn_app (goodIn_of _ (by decide +kernel)) ggX5_card_X5_asks
set_option maxRecDepth 20000 in
theorem ggX5_card_X5_fails : GoodIn wsX5_card wsX5_fails := goodIn_r _ [18, 14, 19, 20, 21, 22, 23, 24, 25, 26, 27, 28, 29, 30, 31, 32, 33, 34, 35, 36, 37, 38] (by decide +kernel) (by decide +kernel)
set_option maxRecDepth 20000 in
theorem gX5_card_X5_fails : GoodIn wsX5_card (wsV RX5 79 RX5 yX5_fails wsX5_fails) := goodIn_app (goodIn_of _ (by decide +kernel)) ggX5_card_X5_fails
theorem dX5_card_0 : decode cX5_card 0 = .ok (.aload_n 0, 1) := by decide +kernel
theorem dX5_card_1 : decode cX5_card 1 = .ok (.iload_n 1, 1) := by decide +kernel
theorem dX5_card_2 : decode cX5_card 2 = .ok (.iconst 0, 1) := by decide +kernel
theorem dX5_card_3 : decode cX5_card 3 = .ok (.iconst 2, 1) := by decide +kernel
theorem dX5_card_4 : decode cX5_card 4 = .ok (.invokestatic 68, 3) := by decide +kernel
theorem dX5_card_7 : decode cX5_card 7 = .ok (.ifCond .eq 45, 3) := by decide +kernel
theorem dX5_card_10 : decode cX5_card 10 = .ok (.iload_n 2, 1) := by decide +kernel
theorem dX5_card_11 : decode cX5_card 11 = .ok (.bipush (-2), 2) := by decide +kernel
theorem dX5_card_13 : decode cX5_card 13 = .ok (.iconst 2, 1) := by decide +kernel
theorem dX5_card_14 : decode cX5_card 14 = .ok (.invokestatic 68, 3) := by decide +kernel
theorem dX5_card_17 : decode cX5_card 17 = .ok (.ifCond .eq 35, 3) := by decide +kernel
theorem dX5_card_20 : decode cX5_card 20 = .ok (.iload_n 3, 1) := by decide +kernel
theorem dX5_card_21 : decode cX5_card 21 = .ok (.bipush (-2), 2) := by decide +kernel
theorem dX5_card_23 : decode cX5_card 23 = .ok (.iconst 2, 1) := by decide +kernel
theorem dX5_card_24 : decode cX5_card 24 = .ok (.invokestatic 68, 3) := by decide +kernel
theorem dX5_card_27 : decode cX5_card 27 = .ok (.ifCond .eq 25, 3) := by decide +kernel
theorem dX5_card_30 : decode cX5_card 30 = .ok (.iload 4, 2) := by decide +kernel
theorem dX5_card_32 : decode cX5_card 32 = .ok (.iconst 1, 1) := by decide +kernel
theorem dX5_card_33 : decode cX5_card 33 = .ok (.iconst 4, 1) := by decide +kernel
theorem dX5_card_34 : decode cX5_card 34 = .ok (.invokestatic 68, 3) := by decide +kernel
theorem dX5_card_37 : decode cX5_card 37 = .ok (.ifCond .eq 15, 3) := by decide +kernel
theorem dX5_card_40 : decode cX5_card 40 = .ok (.iload_n 2, 1) := by decide +kernel
theorem dX5_card_41 : decode cX5_card 41 = .ok (.ifCond .ne 7, 3) := by decide +kernel
theorem dX5_card_44 : decode cX5_card 44 = .ok (.iload_n 3, 1) := by decide +kernel
theorem dX5_card_45 : decode cX5_card 45 = .ok (.ifCond .eq 7, 3) := by decide +kernel
theorem dX5_card_48 : decode cX5_card 48 = .ok (.iconst 1, 1) := by decide +kernel
theorem dX5_card_49 : decode cX5_card 49 = .ok (.goto 4, 3) := by decide +kernel
theorem dX5_card_52 : decode cX5_card 52 = .ok (.iconst 0, 1) := by decide +kernel
theorem dX5_card_53 : decode cX5_card 53 = .ok (.invokevirtual 72, 3) := by decide +kernel
theorem dX5_card_56 : decode cX5_card 56 = .ok (.ifCond .ne 5, 3) := by decide +kernel
theorem dX5_card_59 : decode cX5_card 59 = .ok (.iconst 0, 1) := by decide +kernel
theorem dX5_card_60 : decode cX5_card 60 = .ok (.ireturn, 1) := by decide +kernel
theorem dX5_card_61 : decode cX5_card 61 = .ok (.aload_n 0, 1) := by decide +kernel
theorem dX5_card_62 : decode cX5_card 62 = .ok (.getfield 76, 3) := by decide +kernel
theorem dX5_card_65 : decode cX5_card 65 = .ok (.bipush 8, 2) := by decide +kernel
theorem dX5_card_67 : decode cX5_card 67 = .ok (.if_icmp .ne 9, 3) := by decide +kernel
theorem dX5_card_70 : decode cX5_card 70 = .ok (.aload_n 0, 1) := by decide +kernel
theorem dX5_card_71 : decode cX5_card 71 = .ok (.iconst 2, 1) := by decide +kernel
theorem dX5_card_72 : decode cX5_card 72 = .ok (.invokevirtual 79, 3) := by decide +kernel
theorem dX5_card_75 : decode cX5_card 75 = .ok (.ireturn, 1) := by decide +kernel
theorem dX5_card_76 : decode cX5_card 76 = .ok (.aload_n 0, 1) := by decide +kernel
theorem dX5_card_77 : decode cX5_card 77 = .ok (.getfield 7, 3) := by decide +kernel
theorem dX5_card_80 : decode cX5_card 80 = .ok (.aload_n 0, 1) := by decide +kernel
theorem dX5_card_81 : decode cX5_card 81 = .ok (.getfield 76, 3) := by decide +kernel
theorem dX5_card_84 : decode cX5_card 84 = .ok (.iload_n 1, 1) := by decide +kernel
theorem dX5_card_85 : decode cX5_card 85 = .ok (.iastore, 1) := by decide +kernel
theorem dX5_card_86 : decode cX5_card 86 = .ok (.aload_n 0, 1) := by decide +kernel
theorem dX5_card_87 : decode cX5_card 87 = .ok (.getfield 13, 3) := by decide +kernel
theorem dX5_card_90 : decode cX5_card 90 = .ok (.aload_n 0, 1) := by decide +kernel
theorem dX5_card_91 : decode cX5_card 91 = .ok (.getfield 76, 3) := by decide +kernel
theorem dX5_card_94 : decode cX5_card 94 = .ok (.iload_n 2, 1) := by decide +kernel
theorem dX5_card_95 : decode cX5_card 95 = .ok (.iastore, 1) := by decide +kernel
theorem dX5_card_96 : decode cX5_card 96 = .ok (.aload_n 0, 1) := by decide +kernel
theorem dX5_card_97 : decode cX5_card 97 = .ok (.getfield 16, 3) := by decide +kernel
theorem dX5_card_100 : decode cX5_card 100 = .ok (.aload_n 0, 1) := by decide +kernel
theorem dX5_card_101 : decode cX5_card 101 = .ok (.getfield 76, 3) := by decide +kernel
theorem dX5_card_104 : decode cX5_card 104 = .ok (.iload_n 3, 1) := by decide +kernel
theorem dX5_card_105 : decode cX5_card 105 = .ok (.iastore, 1) := by decide +kernel
theorem dX5_card_106 : decode cX5_card 106 = .ok (.aload_n 0, 1) := by decide +kernel
theorem dX5_card_107 : decode cX5_card 107 = .ok (.getfield 19, 3) := by decide +kernel
theorem dX5_card_110 : decode cX5_card 110 = .ok (.aload_n 0, 1) := by decide +kernel
theorem dX5_card_111 : decode cX5_card 111 = .ok (.getfield 76, 3) := by decide +kernel
theorem dX5_card_114 : decode cX5_card 114 = .ok (.iload_n 1, 1) := by decide +kernel
theorem dX5_card_115 : decode cX5_card 115 = .ok (.ifCond .ne 7, 3) := by decide +kernel
theorem dX5_card_118 : decode cX5_card 118 = .ok (.iconst 1, 1) := by decide +kernel
theorem dX5_card_119 : decode cX5_card 119 = .ok (.goto 5, 3) := by decide +kernel
theorem dX5_card_122 : decode cX5_card 122 = .ok (.iload 4, 2) := by decide +kernel
theorem dX5_card_124 : decode cX5_card 124 = .ok (.iastore, 1) := by decide +kernel
theorem dX5_card_125 : decode cX5_card 125 = .ok (.aload_n 0, 1) := by decide +kernel
theorem dX5_card_126 : decode cX5_card 126 = .ok (.dup, 1) := by decide +kernel
theorem dX5_card_127 : decode cX5_card 127 = .ok (.getfield 76, 3) := by decide +kernel
theorem dX5_card_130 : decode cX5_card 130 = .ok (.iconst 1, 1) := by decide +kernel
theorem dX5_card_131 : decode cX5_card 131 = .ok (.iadd, 1) := by decide +kernel
theorem dX5_card_132 : decode cX5_card 132 = .ok (.putfield 76, 3) := by decide +kernel
theorem dX5_card_135 : decode cX5_card 135 = .ok (.aload_n 0, 1) := by decide +kernel
theorem dX5_card_136 : decode cX5_card 136 = .ok (.getfield 76, 3) := by decide +kernel
theorem dX5_card_139 : decode cX5_card 139 = .ok (.iconst 1, 1) := by decide +kernel
theorem dX5_card_140 : decode cX5_card 140 = .ok (.isub, 1) := by decide +kernel
theorem dX5_card_141 : decode cX5_card 141 = .ok (.ireturn, 1) := by decide +kernel
theorem dX5_areCards_0 : decode cX5_areCards 0 = .ok (.iload_n 1, 1) := by decide +kernel
theorem dX5_areCards_1 : decode cX5_areCards 1 = .ok (.iconst 1, 1) := by decide +kernel
theorem dX5_areCards_2 : decode cX5_areCards 2 = .ok (.if_icmp .lt 17, 3) := by decide +kernel
theorem dX5_areCards_5 : decode cX5_areCards 5 = .ok (.iload_n 1, 1) := by decide +kernel
theorem dX5_areCards_6 : decode cX5_areCards 6 = .ok (.iconst 1, 1) := by decide +kernel
theorem dX5_areCards_7 : decode cX5_areCards 7 = .ok (.aload_n 0, 1) := by decide +kernel
theorem dX5_areCards_8 : decode cX5_areCards 8 = .ok (.getfield 76, 3) := by decide +kernel
theorem dX5_areCards_11 : decode cX5_areCards 11 = .ok (.ishl, 1) := by decide +kernel
theorem dX5_areCards_12 : decode cX5_areCards 12 = .ok (.if_icmp .ge 7, 3) := by decide +kernel
theorem dX5_areCards_15 : decode cX5_areCards 15 = .ok (.iconst 1, 1) := by decide +kernel
theorem dX5_areCards_16 : decode cX5_areCards 16 = .ok (.goto 4, 3) := by decide +kernel
theorem dX5_areCards_19 : decode cX5_areCards 19 = .ok (.iconst 0, 1) := by decide +kernel
theorem dX5_areCards_20 : decode cX5_areCards 20 = .ok (.ireturn, 1) := by decide +kernel
set_option maxRecDepth 20000 in
theorem ggX5_variant_X5_in : GoodIn wsX5_variant wsX5_in := goodIn_r _ [8] (by decide +kernel) (by decide +kernel)
set_option maxRecDepth 20000 in
theorem gX5_variant_X5_in : GoodIn wsX5_variant (va_wsS RX5 68 yX5_in wsX5_in) := goodIn_app (goodIn_of _ (by decide +kernel)) ggX5_variant_X5_in
set_option maxRecDepth 20000 in
theorem ggX5_variant_X5_areCards : GoodIn wsX5_variant wsX5_areCards := goodIn_r _ [12, 13, 23, 24, 25, 26, 27, 28, 29, 30, 31, 32, 33, 34, 35, 36, 37, 38, 39, 40, 41, 42] (by decide +kernel) (by decide +kernel)
set_option maxRecDepth 20000 in
theorem gX5_variant_X5_areCards : GoodIn wsX5_variant (wsV RX5 84 RX5 yX5_areCards wsX5_areCards) := goodIn_app (goodIn_of _ (by decide +kernel)) ggX5_variant_X5_areCards
set_option maxRecDepth 20000 in
theorem ggX5_variant_X5_asks : GoodIn wsX5_variant wsX5_asks := goodIn_r _ [17, 18, 23, 24, 25, 26, 27, 28, 29, 30, 31, 32, 33, 34, 35, 36, 37, 38, 39, 40, 41, 42] (by decide +kernel) (by decide +kernel)
set_option maxRecDepth 20000 in
theorem gX5_variant_X5_asks : GoodIn wsX5_variant (wsV RX5 72 RX5 yX5_asks wsX5_asks) := goodIn_app (goodIn_of _ (by decide +kernel)) ggX5_variant_X5_asks
set_option maxRecDepth 20000 in
theorem ggX5_variant_X5_fails : GoodIn wsX5_variant wsX5_fails := goodIn_r _ [22, 18, 23, 24, 25, 26, 27, 28, 29, 30, 31, 32, 33, 34, 35, 36, 37, 38, 39, 40, 41, 42] (by decide +kernel) (by decide +kernel)
set_option maxRecDepth 20000 in
theorem gX5_variant_X5_fails : GoodIn wsX5_variant (wsV RX5 79 RX5 yX5_fails wsX5_fails) := goodIn_app (goodIn_of _ (by decide +kernel)) ggX5_variant_X5_fails
theorem dX5_variant_0 : decode cX5_variant 0 = .ok (.aload_n 0, 1) := by decide +kernel
theorem dX5_variant_1 : decode cX5_variant 1 = .ok (.iload_n 1, 1) := by decide +kernel
theorem dX5_variant_2 : decode cX5_variant 2 = .ok (.iconst 0, 1) := by decide +kernel
theorem dX5_variant_3 : decode cX5_variant 3 = .ok (.ldc 83, 2) := by decide +kernel
theorem dX5_variant_5 : decode cX5_variant 5 = .ok (.invokestatic 68, 3) := by decide +kernel
theorem dX5_variant_8 : decode cX5_variant 8 = .ok (.ifCond .eq 15, 3) := by decide +kernel
theorem dX5_variant_11 : decode cX5_variant 11 = .ok (.aload_n 0, 1) := by decide +kernel
theorem dX5_variant_12 : decode cX5_variant 12 = .ok (.iload_n 2, 1) := by decide +kernel
theorem dX5_variant_13 : decode cX5_variant 13 = .ok (.invokevirtual 84, 3) := by decide +kernel
theorem dX5_variant_16 : decode cX5_variant 16 = .ok (.ifCond .eq 7, 3) := by decide +kernel
theorem dX5_variant_19 : decode cX5_variant 19 = .ok (.iconst 1, 1) := by decide +kernel
theorem dX5_variant_20 : decode cX5_variant 20 = .ok (.goto 4, 3) := by decide +kernel
theorem dX5_variant_23 : decode cX5_variant 23 = .ok (.iconst 0, 1) := by decide +kernel
theorem dX5_variant_24 : decode cX5_variant 24 = .ok (.invokevirtual 72, 3) := by decide +kernel
theorem dX5_variant_27 : decode cX5_variant 27 = .ok (.ifCond .ne 5, 3) := by decide +kernel
theorem dX5_variant_30 : decode cX5_variant 30 = .ok (.iconst 0, 1) := by decide +kernel
theorem dX5_variant_31 : decode cX5_variant 31 = .ok (.ireturn, 1) := by decide +kernel
theorem dX5_variant_32 : decode cX5_variant 32 = .ok (.aload_n 0, 1) := by decide +kernel
theorem dX5_variant_33 : decode cX5_variant 33 = .ok (.getfield 62, 3) := by decide +kernel
theorem dX5_variant_36 : decode cX5_variant 36 = .ok (.iconst 4, 1) := by decide +kernel
theorem dX5_variant_37 : decode cX5_variant 37 = .ok (.if_icmp .ne 9, 3) := by decide +kernel
theorem dX5_variant_40 : decode cX5_variant 40 = .ok (.aload_n 0, 1) := by decide +kernel
theorem dX5_variant_41 : decode cX5_variant 41 = .ok (.iconst 2, 1) := by decide +kernel
theorem dX5_variant_42 : decode cX5_variant 42 = .ok (.invokevirtual 79, 3) := by decide +kernel
theorem dX5_variant_45 : decode cX5_variant 45 = .ok (.ireturn, 1) := by decide +kernel
theorem dX5_variant_46 : decode cX5_variant 46 = .ok (.aload_n 0, 1) := by decide +kernel
theorem dX5_variant_47 : decode cX5_variant 47 = .ok (.getfield 22, 3) := by decide +kernel
theorem dX5_variant_50 : decode cX5_variant 50 = .ok (.aload_n 0, 1) := by decide +kernel
theorem dX5_variant_51 : decode cX5_variant 51 = .ok (.getfield 62, 3) := by decide +kernel
theorem dX5_variant_54 : decode cX5_variant 54 = .ok (.iload_n 1, 1) := by decide +kernel
theorem dX5_variant_55 : decode cX5_variant 55 = .ok (.iastore, 1) := by decide +kernel
theorem dX5_variant_56 : decode cX5_variant 56 = .ok (.aload_n 0, 1) := by decide +kernel
theorem dX5_variant_57 : decode cX5_variant 57 = .ok (.getfield 25, 3) := by decide +kernel
theorem dX5_variant_60 : decode cX5_variant 60 = .ok (.aload_n 0, 1) := by decide +kernel
theorem dX5_variant_61 : decode cX5_variant 61 = .ok (.getfield 62, 3) := by decide +kernel
theorem dX5_variant_64 : decode cX5_variant 64 = .ok (.iload_n 2, 1) := by decide +kernel
theorem dX5_variant_65 : decode cX5_variant 65 = .ok (.iastore, 1) := by decide +kernel
theorem dX5_variant_66 : decode cX5_variant 66 = .ok (.aload_n 0, 1) := by decide +kernel
theorem dX5_variant_67 : decode cX5_variant 67 = .ok (.dup, 1) := by decide +kernel
theorem dX5_variant_68 : decode cX5_variant 68 = .ok (.getfield 62, 3) := by decide +kernel
theorem dX5_variant_71 : decode cX5_variant 71 = .ok (.iconst 1, 1) := by decide +kernel
theorem dX5_variant_72 : decode cX5_variant 72 = .ok (.iadd, 1) := by decide +kernel
theorem dX5_variant_73 : decode cX5_variant 73 = .ok (.putfield 62, 3) := by decide +kernel
theorem dX5_variant_76 : decode cX5_variant 76 = .ok (.aload_n 0, 1) := by decide +kernel
theorem dX5_variant_77 : decode cX5_variant 77 = .ok (.getfield 62, 3) := by decide +kernel
theorem dX5_variant_80 : decode cX5_variant 80 = .ok (.iconst 1, 1) := by decide +kernel
theorem dX5_variant_81 : decode cX5_variant 81 = .ok (.isub, 1) := by decide +kernel
theorem dX5_variant_82 : decode cX5_variant 82 = .ok (.ireturn, 1) := by decide +kernel
set_option maxRecDepth 20000 in
theorem ggX5_setCards_X5_isVariant : GoodIn wsX5_setCards wsX5_isVariant := goodIn_r _ [6, 7, 22, 23, 24, 25, 26, 27, 28, 29, 30, 31, 32, 33, 34, 35, 36, 37, 38, 39, 40, 41] (by decide +kernel) (by decide +kernel)
set_option maxRecDepth 20000 in
theorem gX5_setCards_X5_isVariant : GoodIn wsX5_setCards (wsV RX5 88 RX5 yX5_isVariant wsX5_isVariant) := goodIn_app (goodIn_of _ (by decide +kernel)) ggX5_setCards_X5_isVariant
set_option maxRecDepth 20000 in
theorem ggX5_setCards_X5_asks : GoodIn wsX5_setCards wsX5_asks := goodIn_r _ [11, 12, 22, 23, 24, 25, 26, 27, 28, 29, 30, 31, 32, 33, 34, 35, 36, 37, 38, 39, 40, 41] (by decide +kernel) (by decide +kernel)
set_option maxRecDepth 20000 in
theorem gX5_setCards_X5_asks : GoodIn wsX5_setCards (wsV RX5 72 RX5 yX5_asks wsX5_asks) := goodIn_app (goodIn_of _ (by decide +kernel)) ggX5_setCards_X5_asks
set_option maxRecDepth 20000 in
theorem ggX5_setCards_X5_areCards : GoodIn wsX5_setCards wsX5_areCards := goodIn_r _ [16, 17, 22, 23, 24, 25, 26, 27, 28, 29, 30, 31, 32, 33, 34, 35, 36, 37, 38, 39, 40, 41] (by decide +kernel) (by decide +kernel)
set_option maxRecDepth 20000 in
theorem gX5_setCards_X5_areCards : GoodIn wsX5_setCards (wsV RX5 84 RX5 yX5_areCards wsX5_areCards) := goodIn_app (goodIn_of _ (by decide +kernel)) ggX5_setCards_X5_areCards
set_option maxRecDepth 20000 in
theorem ggX5_setCards_X5_fails : GoodIn wsX5_setCards wsX5_fails := goodIn_r _ [21, 12, 22, 23, 24, 25, 26, 27, 28, 29, 30, 31, 32, 33, 34, 35, 36, 37, 38, 39, 40, 41] (by decide +kernel) (by decide +kernel)
set_option maxRecDepth 20000 in
theorem gX5_setCards_X5_fails : GoodIn wsX5_setCards (wsV RX5 79 RX5 yX5_fails wsX5_fails) := goodIn_app (goodIn_of _ (by decide +kernel)) ggX5_setCards_X5_fails
theorem dX5_setCards_0 : decode cX5_setCards 0 = .ok (.aload_n 0, 1) := by decide +kernel
theorem dX5_setCards_1 : decode cX5_setCards 1 = .ok (.aload_n 0, 1) := by decide +kernel
theorem dX5_setCards_2 : decode cX5_setCards 2 = .ok (.iload_n 1, 1) := by decide +kernel
theorem dX5_setCards_3 : decode cX5_setCards 3 = .ok (.invokevirtual 88, 3) := by decide +kernel
theorem dX5_setCards_6 : decode cX5_setCards 6 = .ok (.invokevirtual 72, 3) := by decide +kernel
theorem dX5_setCards_9 : decode cX5_setCards 9 = .ok (.ifCond .ne 5, 3) := by decide +kernel
theorem dX5_setCards_12 : decode cX5_setCards 12 = .ok (.iconst 0, 1) := by decide +kernel
theorem dX5_setCards_13 : decode cX5_setCards 13 = .ok (.ireturn, 1) := by decide +kernel
theorem dX5_setCards_14 : decode cX5_setCards 14 = .ok (.aload_n 0, 1) := by decide +kernel
theorem dX5_setCards_15 : decode cX5_setCards 15 = .ok (.iload_n 2, 1) := by decide +kernel
theorem dX5_setCards_16 : decode cX5_setCards 16 = .ok (.invokevirtual 84, 3) := by decide +kernel
theorem dX5_setCards_19 : decode cX5_setCards 19 = .ok (.ifCond .ne 9, 3) := by decide +kernel
theorem dX5_setCards_22 : decode cX5_setCards 22 = .ok (.aload_n 0, 1) := by decide +kernel
theorem dX5_setCards_23 : decode cX5_setCards 23 = .ok (.iconst 2, 1) := by decide +kernel
theorem dX5_setCards_24 : decode cX5_setCards 24 = .ok (.invokevirtual 79, 3) := by decide +kernel
theorem dX5_setCards_27 : decode cX5_setCards 27 = .ok (.ireturn, 1) := by decide +kernel
theorem dX5_setCards_28 : decode cX5_setCards 28 = .ok (.aload_n 0, 1) := by decide +kernel
theorem dX5_setCards_29 : decode cX5_setCards 29 = .ok (.getfield 25, 3) := by decide +kernel
theorem dX5_setCards_32 : decode cX5_setCards 32 = .ok (.iload_n 1, 1) := by decide +kernel
theorem dX5_setCards_33 : decode cX5_setCards 33 = .ok (.iaload, 1) := by decide +kernel
theorem dX5_setCards_34 : decode cX5_setCards 34 = .ok (.istore_n 3, 1) := by decide +kernel
theorem dX5_setCards_35 : decode cX5_setCards 35 = .ok (.aload_n 0, 1) := by decide +kernel
theorem dX5_setCards_36 : decode cX5_setCards 36 = .ok (.getfield 25, 3) := by decide +kernel
theorem dX5_setCards_39 : decode cX5_setCards 39 = .ok (.iload_n 1, 1) := by decide +kernel
theorem dX5_setCards_40 : decode cX5_setCards 40 = .ok (.iload_n 2, 1) := by decide +kernel
theorem dX5_setCards_41 : decode cX5_setCards 41 = .ok (.iastore, 1) := by decide +kernel
theorem dX5_setCards_42 : decode cX5_setCards 42 = .ok (.iload_n 3, 1) := by decide +kernel
theorem dX5_setCards_43 : decode cX5_setCards 43 = .ok (.ireturn, 1) := by decide +kernel
set_option maxRecDepth 20000 in
theorem ggX5_by_X5_in : GoodIn wsX5_by wsX5_in := goodIn_r _ [8] (by decide +kernel) (by decide +kernel)
set_option maxRecDepth 20000 in
theorem gX5_by_X5_in : GoodIn wsX5_by (va_wsS RX5 68 yX5_in wsX5_in) := goodIn_app (goodIn_of _ (by decide +kernel)) ggX5_by_X5_in
theorem dX5_by_0 : decode cX5_by 0 = .ok (.iconst 0, 1) := by decide +kernel
theorem dX5_by_1 : decode cX5_by 1 = .ok (.istore 7, 2) := by decide +kernel
theorem dX5_by_3 : decode cX5_by 3 = .ok (.iload 6, 2) := by decide +kernel
theorem dX5_by_5 : decode cX5_by 5 = .ok (.iconst 5, 1) := by decide +kernel
theorem dX5_by_6 : decode cX5_by 6 = .ok (.irem, 1) := by decide +kernel
theorem dX5_by_7 : decode cX5_by 7 = .ok (.aload_n 0, 1) := by decide +kernel
theorem dX5_by_8 : decode cX5_by 8 = .ok (.getfield 13, 3) := by decide +kernel
theorem dX5_by_11 : decode cX5_by 11 = .ok (.iload_n 1, 1) := by decide +kernel
theorem dX5_by_12 : decode cX5_by 12 = .ok (.iaload, 1) := by decide +kernel
theorem dX5_by_13 : decode cX5_by 13 = .ok (.iadd, 1) := by decide +kernel
theorem dX5_by_14 : decode cX5_by 14 = .ok (.istore 8, 2) := by decide +kernel
theorem dX5_by_16 : decode cX5_by 16 = .ok (.iload 6, 2) := by decide +kernel
theorem dX5_by_18 : decode cX5_by 18 = .ok (.iconst 5, 1) := by decide +kernel
theorem dX5_by_19 : decode cX5_by 19 = .ok (.idiv, 1) := by decide +kernel
theorem dX5_by_20 : decode cX5_by 20 = .ok (.iload 5, 2) := by decide +kernel
theorem dX5_by_22 : decode cX5_by 22 = .ok (.ifCond .eq 13, 3) := by decide +kernel
theorem dX5_by_25 : decode cX5_by 25 = .ok (.aload_n 0, 1) := by decide +kernel
theorem dX5_by_26 : decode cX5_by 26 = .ok (.getfield 16, 3) := by decide +kernel
theorem dX5_by_29 : decode cX5_by 29 = .ok (.iload_n 1, 1) := by decide +kernel
theorem dX5_by_30 : decode cX5_by 30 = .ok (.iaload, 1) := by decide +kernel
theorem dX5_by_31 : decode cX5_by 31 = .ok (.ineg, 1) := by decide +kernel
theorem dX5_by_32 : decode cX5_by 32 = .ok (.goto 9, 3) := by decide +kernel
theorem dX5_by_35 : decode cX5_by 35 = .ok (.aload_n 0, 1) := by decide +kernel
theorem dX5_by_36 : decode cX5_by 36 = .ok (.getfield 16, 3) := by decide +kernel
theorem dX5_by_39 : decode cX5_by 39 = .ok (.iload_n 1, 1) := by decide +kernel
theorem dX5_by_40 : decode cX5_by 40 = .ok (.iaload, 1) := by decide +kernel
theorem dX5_by_41 : decode cX5_by 41 = .ok (.iadd, 1) := by decide +kernel
theorem dX5_by_42 : decode cX5_by 42 = .ok (.istore 9, 2) := by decide +kernel
theorem dX5_by_44 : decode cX5_by 44 = .ok (.iconst 0, 1) := by decide +kernel
theorem dX5_by_45 : decode cX5_by 45 = .ok (.istore 10, 2) := by decide +kernel
theorem dX5_by_47 : decode cX5_by 47 = .ok (.iconst 0, 1) := by decide +kernel
theorem dX5_by_48 : decode cX5_by 48 = .ok (.istore 11, 2) := by decide +kernel
theorem dX5_by_50 : decode cX5_by 50 = .ok (.iconst 1, 1) := by decide +kernel
theorem dX5_by_51 : decode cX5_by 51 = .ok (.istore 12, 2) := by decide +kernel
theorem dX5_by_53 : decode cX5_by 53 = .ok (.iload 12, 2) := by decide +kernel
theorem dX5_by_55 : decode cX5_by 55 = .ok (.aload_n 0, 1) := by decide +kernel
theorem dX5_by_56 : decode cX5_by 56 = .ok (.getfield 19, 3) := by decide +kernel
theorem dX5_by_59 : decode cX5_by 59 = .ok (.iload_n 1, 1) := by decide +kernel
theorem dX5_by_60 : decode cX5_by 60 = .ok (.iaload, 1) := by decide +kernel
theorem dX5_by_61 : decode cX5_by 61 = .ok (.if_icmp .gt 203, 3) := by decide +kernel
theorem dX5_by_64 : decode cX5_by 64 = .ok (.iload 8, 2) := by decide +kernel
theorem dX5_by_66 : decode cX5_by 66 = .ok (.iconst 0, 1) := by decide +kernel
theorem dX5_by_67 : decode cX5_by 67 = .ok (.iconst 4, 1) := by decide +kernel
theorem dX5_by_68 : decode cX5_by 68 = .ok (.invokestatic 68, 3) := by decide +kernel
theorem dX5_by_71 : decode cX5_by 71 = .ok (.ifCond .eq 193, 3) := by decide +kernel
theorem dX5_by_74 : decode cX5_by 74 = .ok (.iload 9, 2) := by decide +kernel
theorem dX5_by_76 : decode cX5_by 76 = .ok (.iconst 0, 1) := by decide +kernel
theorem dX5_by_77 : decode cX5_by 77 = .ok (.iconst 4, 1) := by decide +kernel
theorem dX5_by_78 : decode cX5_by 78 = .ok (.invokestatic 68, 3) := by decide +kernel
theorem dX5_by_81 : decode cX5_by 81 = .ok (.ifCond .eq 183, 3) := by decide +kernel
theorem dX5_by_84 : decode cX5_by 84 = .ok (.iload_n 2, 1) := by decide +kernel
theorem dX5_by_85 : decode cX5_by 85 = .ok (.iconst 5, 1) := by decide +kernel
theorem dX5_by_86 : decode cX5_by 86 = .ok (.iload 9, 2) := by decide +kernel
theorem dX5_by_88 : decode cX5_by 88 = .ok (.imul, 1) := by decide +kernel
theorem dX5_by_89 : decode cX5_by 89 = .ok (.iload 8, 2) := by decide +kernel
theorem dX5_by_91 : decode cX5_by 91 = .ok (.iadd, 1) := by decide +kernel
theorem dX5_by_92 : decode cX5_by 92 = .ok (.ishr, 1) := by decide +kernel
theorem dX5_by_93 : decode cX5_by 93 = .ok (.iconst 1, 1) := by decide +kernel
theorem dX5_by_94 : decode cX5_by 94 = .ok (.iand, 1) := by decide +kernel
theorem dX5_by_95 : decode cX5_by 95 = .ok (.ifCond .ne 169, 3) := by decide +kernel
theorem dX5_by_98 : decode cX5_by 98 = .ok (.iconst 5, 1) := by decide +kernel
theorem dX5_by_99 : decode cX5_by 99 = .ok (.iload 9, 2) := by decide +kernel
theorem dX5_by_101 : decode cX5_by 101 = .ok (.imul, 1) := by decide +kernel
theorem dX5_by_102 : decode cX5_by 102 = .ok (.iload 8, 2) := by decide +kernel
theorem dX5_by_104 : decode cX5_by 104 = .ok (.iadd, 1) := by decide +kernel
theorem dX5_by_105 : decode cX5_by 105 = .ok (.istore 13, 2) := by decide +kernel
theorem dX5_by_107 : decode cX5_by 107 = .ok (.aload_n 0, 1) := by decide +kernel
theorem dX5_by_108 : decode cX5_by 108 = .ok (.getfield 7, 3) := by decide +kernel
theorem dX5_by_111 : decode cX5_by 111 = .ok (.iload_n 1, 1) := by decide +kernel
theorem dX5_by_112 : decode cX5_by 112 = .ok (.iaload, 1) := by decide +kernel
theorem dX5_by_113 : decode cX5_by 113 = .ok (.ifCond .eq 39, 3) := by decide +kernel
theorem dX5_by_116 : decode cX5_by 116 = .ok (.aload_n 0, 1) := by decide +kernel
theorem dX5_by_117 : decode cX5_by 117 = .ok (.getfield 7, 3) := by decide +kernel
theorem dX5_by_120 : decode cX5_by 120 = .ok (.iload_n 1, 1) := by decide +kernel
theorem dX5_by_121 : decode cX5_by 121 = .ok (.iaload, 1) := by decide +kernel
theorem dX5_by_122 : decode cX5_by 122 = .ok (.iconst 1, 1) := by decide +kernel
theorem dX5_by_123 : decode cX5_by 123 = .ok (.if_icmp .ne 8, 3) := by decide +kernel
theorem dX5_by_126 : decode cX5_by 126 = .ok (.iload 10, 2) := by decide +kernel
theorem dX5_by_128 : decode cX5_by 128 = .ok (.ifCond .eq 24, 3) := by decide +kernel
theorem dX5_by_131 : decode cX5_by 131 = .ok (.aload_n 0, 1) := by decide +kernel
theorem dX5_by_132 : decode cX5_by 132 = .ok (.getfield 7, 3) := by decide +kernel
theorem dX5_by_135 : decode cX5_by 135 = .ok (.iload_n 1, 1) := by decide +kernel
theorem dX5_by_136 : decode cX5_by 136 = .ok (.iaload, 1) := by decide +kernel
theorem dX5_by_137 : decode cX5_by 137 = .ok (.iconst 2, 1) := by decide +kernel
theorem dX5_by_138 : decode cX5_by 138 = .ok (.if_icmp .ne 18, 3) := by decide +kernel
theorem dX5_by_141 : decode cX5_by 141 = .ok (.iload 10, 2) := by decide +kernel
theorem dX5_by_143 : decode cX5_by 143 = .ok (.iconst 1, 1) := by decide +kernel
theorem dX5_by_144 : decode cX5_by 144 = .ok (.if_icmp .ne 12, 3) := by decide +kernel
theorem dX5_by_147 : decode cX5_by 147 = .ok (.iload 11, 2) := by decide +kernel
theorem dX5_by_149 : decode cX5_by 149 = .ok (.ifCond .eq 7, 3) := by decide +kernel
theorem dX5_by_152 : decode cX5_by 152 = .ok (.iconst 1, 1) := by decide +kernel
theorem dX5_by_153 : decode cX5_by 153 = .ok (.goto 4, 3) := by decide +kernel
theorem dX5_by_156 : decode cX5_by 156 = .ok (.iconst 0, 1) := by decide +kernel
theorem dX5_by_157 : decode cX5_by 157 = .ok (.istore 14, 2) := by decide +kernel
theorem dX5_by_159 : decode cX5_by 159 = .ok (.iload 7, 2) := by decide +kernel
theorem dX5_by_161 : decode cX5_by 161 = .ok (.iload 14, 2) := by decide +kernel
theorem dX5_by_163 : decode cX5_by 163 = .ok (.ifCond .eq 19, 3) := by decide +kernel
theorem dX5_by_166 : decode cX5_by 166 = .ok (.iload_n 3, 1) := by decide +kernel
theorem dX5_by_167 : decode cX5_by 167 = .ok (.iload 13, 2) := by decide +kernel
theorem dX5_by_169 : decode cX5_by 169 = .ok (.ishr, 1) := by decide +kernel
theorem dX5_by_170 : decode cX5_by 170 = .ok (.iconst 1, 1) := by decide +kernel
theorem dX5_by_171 : decode cX5_by 171 = .ok (.iand, 1) := by decide +kernel
theorem dX5_by_172 : decode cX5_by 172 = .ok (.ifCond .ne 10, 3) := by decide +kernel
theorem dX5_by_175 : decode cX5_by 175 = .ok (.iconst 1, 1) := by decide +kernel
theorem dX5_by_176 : decode cX5_by 176 = .ok (.iload 13, 2) := by decide +kernel
theorem dX5_by_178 : decode cX5_by 178 = .ok (.ishl, 1) := by decide +kernel
theorem dX5_by_179 : decode cX5_by 179 = .ok (.goto 4, 3) := by decide +kernel
theorem dX5_by_182 : decode cX5_by 182 = .ok (.iconst 0, 1) := by decide +kernel
theorem dX5_by_183 : decode cX5_by 183 = .ok (.ior, 1) := by decide +kernel
theorem dX5_by_184 : decode cX5_by 184 = .ok (.istore 7, 2) := by decide +kernel
theorem dX5_by_186 : decode cX5_by 186 = .ok (.iload_n 3, 1) := by decide +kernel
theorem dX5_by_187 : decode cX5_by 187 = .ok (.iload 4, 2) := by decide +kernel
theorem dX5_by_189 : decode cX5_by 189 = .ok (.ior, 1) := by decide +kernel
theorem dX5_by_190 : decode cX5_by 190 = .ok (.iload 13, 2) := by decide +kernel
theorem dX5_by_192 : decode cX5_by 192 = .ok (.ishr, 1) := by decide +kernel
theorem dX5_by_193 : decode cX5_by 193 = .ok (.iconst 1, 1) := by decide +kernel
theorem dX5_by_194 : decode cX5_by 194 = .ok (.iand, 1) := by decide +kernel
theorem dX5_by_195 : decode cX5_by 195 = .ok (.iconst 1, 1) := by decide +kernel
theorem dX5_by_196 : decode cX5_by 196 = .ok (.if_icmp .ne 7, 3) := by decide +kernel
theorem dX5_by_199 : decode cX5_by 199 = .ok (.iconst 1, 1) := by decide +kernel
theorem dX5_by_200 : decode cX5_by 200 = .ok (.goto 4, 3) := by decide +kernel
theorem dX5_by_203 : decode cX5_by 203 = .ok (.iconst 0, 1) := by decide +kernel
theorem dX5_by_204 : decode cX5_by 204 = .ok (.istore 11, 2) := by decide +kernel
theorem dX5_by_206 : decode cX5_by 206 = .ok (.iload 10, 2) := by decide +kernel
theorem dX5_by_208 : decode cX5_by 208 = .ok (.iload 11, 2) := by decide +kernel
theorem dX5_by_210 : decode cX5_by 210 = .ok (.ifCond .eq 7, 3) := by decide +kernel
theorem dX5_by_213 : decode cX5_by 213 = .ok (.iconst 1, 1) := by decide +kernel
theorem dX5_by_214 : decode cX5_by 214 = .ok (.goto 4, 3) := by decide +kernel
theorem dX5_by_217 : decode cX5_by 217 = .ok (.iconst 0, 1) := by decide +kernel
theorem dX5_by_218 : decode cX5_by 218 = .ok (.iadd, 1) := by decide +kernel
theorem dX5_by_219 : decode cX5_by 219 = .ok (.istore 10, 2) := by decide +kernel
theorem dX5_by_221 : decode cX5_by 221 = .ok (.iload 8, 2) := by decide +kernel
theorem dX5_by_223 : decode cX5_by 223 = .ok (.aload_n 0, 1) := by decide +kernel
theorem dX5_by_224 : decode cX5_by 224 = .ok (.getfield 13, 3) := by decide +kernel
theorem dX5_by_227 : decode cX5_by 227 = .ok (.iload_n 1, 1) := by decide +kernel
theorem dX5_by_228 : decode cX5_by 228 = .ok (.iaload, 1) := by decide +kernel
theorem dX5_by_229 : decode cX5_by 229 = .ok (.iadd, 1) := by decide +kernel
theorem dX5_by_230 : decode cX5_by 230 = .ok (.istore 8, 2) := by decide +kernel
theorem dX5_by_232 : decode cX5_by 232 = .ok (.iload 9, 2) := by decide +kernel
theorem dX5_by_234 : decode cX5_by 234 = .ok (.iload 5, 2) := by decide +kernel
theorem dX5_by_236 : decode cX5_by 236 = .ok (.ifCond .eq 13, 3) := by decide +kernel
theorem dX5_by_239 : decode cX5_by 239 = .ok (.aload_n 0, 1) := by decide +kernel
theorem dX5_by_240 : decode cX5_by 240 = .ok (.getfield 16, 3) := by decide +kernel
theorem dX5_by_243 : decode cX5_by 243 = .ok (.iload_n 1, 1) := by decide +kernel
theorem dX5_by_244 : decode cX5_by 244 = .ok (.iaload, 1) := by decide +kernel
theorem dX5_by_245 : decode cX5_by 245 = .ok (.ineg, 1) := by decide +kernel
theorem dX5_by_246 : decode cX5_by 246 = .ok (.goto 9, 3) := by decide +kernel
theorem dX5_by_249 : decode cX5_by 249 = .ok (.aload_n 0, 1) := by decide +kernel
theorem dX5_by_250 : decode cX5_by 250 = .ok (.getfield 16, 3) := by decide +kernel
theorem dX5_by_253 : decode cX5_by 253 = .ok (.iload_n 1, 1) := by decide +kernel
theorem dX5_by_254 : decode cX5_by 254 = .ok (.iaload, 1) := by decide +kernel
theorem dX5_by_255 : decode cX5_by 255 = .ok (.iadd, 1) := by decide +kernel
theorem dX5_by_256 : decode cX5_by 256 = .ok (.istore 9, 2) := by decide +kernel
theorem dX5_by_258 : decode cX5_by 258 = .ok (.iinc 12 1, 3) := by decide +kernel
theorem dX5_by_261 : decode cX5_by 261 = .ok (.goto (-208), 3) := by decide +kernel
theorem dX5_by_264 : decode cX5_by 264 = .ok (.iload 7, 2) := by decide +kernel
theorem dX5_by_266 : decode cX5_by 266 = .ok (.ireturn, 1) := by decide +kernel
set_option maxRecDepth 20000 in
theorem ggX5_goes_X5_by : GoodIn wsX5_goes wsX5_by := goodIn_r _ [6, 7, 8, 9, 10, 11, 12, 5, 13, 14, 15, 16, 17, 18, 19, 20, 21, 22, 23, 24, 25, 26, 27, 28, 29, 30, 31, 32, 33] (by decide +kernel) (by decide +kernel)
set_option maxRecDepth 20000 in
theorem gX5_goes_X5_by : GoodIn wsX5_goes (wsV RX5 91 RX5 yX5_by wsX5_by) := goodIn_app (goodIn_of _ (by decide +kernel)) ggX5_goes_X5_by
theorem dX5_goes_0 : decode cX5_goes 0 = .ok (.iconst 0, 1) := by decide +kernel
theorem dX5_goes_1 : decode cX5_goes 1 = .ok (.istore 7, 2) := by decide +kernel
theorem dX5_goes_3 : decode cX5_goes 3 = .ok (.iconst 0, 1) := by decide +kernel
theorem dX5_goes_4 : decode cX5_goes 4 = .ok (.istore 8, 2) := by decide +kernel
theorem dX5_goes_6 : decode cX5_goes 6 = .ok (.iload 8, 2) := by decide +kernel
theorem dX5_goes_8 : decode cX5_goes 8 = .ok (.aload_n 0, 1) := by decide +kernel
theorem dX5_goes_9 : decode cX5_goes 9 = .ok (.getfield 76, 3) := by decide +kernel
theorem dX5_goes_12 : decode cX5_goes 12 = .ok (.if_icmp .ge 42, 3) := by decide +kernel
theorem dX5_goes_15 : decode cX5_goes 15 = .ok (.iload 7, 2) := by decide +kernel
theorem dX5_goes_17 : decode cX5_goes 17 = .ok (.iload_n 1, 1) := by decide +kernel
theorem dX5_goes_18 : decode cX5_goes 18 = .ok (.iload 8, 2) := by decide +kernel
theorem dX5_goes_20 : decode cX5_goes 20 = .ok (.ishr, 1) := by decide +kernel
theorem dX5_goes_21 : decode cX5_goes 21 = .ok (.iconst 1, 1) := by decide +kernel
theorem dX5_goes_22 : decode cX5_goes 22 = .ok (.iand, 1) := by decide +kernel
theorem dX5_goes_23 : decode cX5_goes 23 = .ok (.iconst 1, 1) := by decide +kernel
theorem dX5_goes_24 : decode cX5_goes 24 = .ok (.if_icmp .ne 20, 3) := by decide +kernel
theorem dX5_goes_27 : decode cX5_goes 27 = .ok (.aload_n 0, 1) := by decide +kernel
theorem dX5_goes_28 : decode cX5_goes 28 = .ok (.iload 8, 2) := by decide +kernel
theorem dX5_goes_30 : decode cX5_goes 30 = .ok (.iload_n 2, 1) := by decide +kernel
theorem dX5_goes_31 : decode cX5_goes 31 = .ok (.iload_n 3, 1) := by decide +kernel
theorem dX5_goes_32 : decode cX5_goes 32 = .ok (.iload 4, 2) := by decide +kernel
theorem dX5_goes_34 : decode cX5_goes 34 = .ok (.iload 5, 2) := by decide +kernel
theorem dX5_goes_36 : decode cX5_goes 36 = .ok (.iload 6, 2) := by decide +kernel
theorem dX5_goes_38 : decode cX5_goes 38 = .ok (.invokevirtual 91, 3) := by decide +kernel
theorem dX5_goes_41 : decode cX5_goes 41 = .ok (.goto 4, 3) := by decide +kernel
theorem dX5_goes_44 : decode cX5_goes 44 = .ok (.iconst 0, 1) := by decide +kernel
theorem dX5_goes_45 : decode cX5_goes 45 = .ok (.ior, 1) := by decide +kernel
theorem dX5_goes_46 : decode cX5_goes 46 = .ok (.istore 7, 2) := by decide +kernel
theorem dX5_goes_48 : decode cX5_goes 48 = .ok (.iinc 8 1, 3) := by decide +kernel
theorem dX5_goes_51 : decode cX5_goes 51 = .ok (.goto (-45), 3) := by decide +kernel
theorem dX5_goes_54 : decode cX5_goes 54 = .ok (.iload 7, 2) := by decide +kernel
theorem dX5_goes_56 : decode cX5_goes 56 = .ok (.ireturn, 1) := by decide +kernel
set_option maxRecDepth 20000 in
theorem ggX5_moves_X5_goes : GoodIn wsX5_moves wsX5_goes := goodIn_r _ [5, 6, 7, 8, 9, 4, 10, 11, 12, 13, 14, 15, 16, 17, 18, 19, 20, 21, 22, 23, 24, 25, 26, 27, 28, 29, 30, 31, 32, 33, 34, 35, 36, 37] (by decide +kernel) (by decide +kernel)
set_option maxRecDepth 20000 in
theorem gX5_moves_X5_goes : GoodIn wsX5_moves (wsV RX5 95 RX5 yX5_goes wsX5_goes) := goodIn_app (goodIn_of _ (by decide +kernel)) ggX5_moves_X5_goes
theorem dX5_moves_0 : decode cX5_moves 0 = .ok (.iconst 0, 1) := by decide +kernel
theorem dX5_moves_1 : decode cX5_moves 1 = .ok (.istore 6, 2) := by decide +kernel
theorem dX5_moves_3 : decode cX5_moves 3 = .ok (.iconst 0, 1) := by decide +kernel
theorem dX5_moves_4 : decode cX5_moves 4 = .ok (.istore 7, 2) := by decide +kernel
theorem dX5_moves_6 : decode cX5_moves 6 = .ok (.iload 7, 2) := by decide +kernel
theorem dX5_moves_8 : decode cX5_moves 8 = .ok (.bipush 25, 2) := by decide +kernel
theorem dX5_moves_10 : decode cX5_moves 10 = .ok (.if_icmp .ge 47, 3) := by decide +kernel
theorem dX5_moves_13 : decode cX5_moves 13 = .ok (.iload 6, 2) := by decide +kernel
theorem dX5_moves_15 : decode cX5_moves 15 = .ok (.ifCond .ne 42, 3) := by decide +kernel
theorem dX5_moves_18 : decode cX5_moves 18 = .ok (.iload_n 3, 1) := by decide +kernel
theorem dX5_moves_19 : decode cX5_moves 19 = .ok (.iload 7, 2) := by decide +kernel
theorem dX5_moves_21 : decode cX5_moves 21 = .ok (.ishr, 1) := by decide +kernel
theorem dX5_moves_22 : decode cX5_moves 22 = .ok (.iconst 1, 1) := by decide +kernel
theorem dX5_moves_23 : decode cX5_moves 23 = .ok (.iand, 1) := by decide +kernel
theorem dX5_moves_24 : decode cX5_moves 24 = .ok (.iconst 1, 1) := by decide +kernel
theorem dX5_moves_25 : decode cX5_moves 25 = .ok (.if_icmp .ne 23, 3) := by decide +kernel
theorem dX5_moves_28 : decode cX5_moves 28 = .ok (.aload_n 0, 1) := by decide +kernel
theorem dX5_moves_29 : decode cX5_moves 29 = .ok (.iload_n 1, 1) := by decide +kernel
theorem dX5_moves_30 : decode cX5_moves 30 = .ok (.iload_n 2, 1) := by decide +kernel
theorem dX5_moves_31 : decode cX5_moves 31 = .ok (.iload_n 3, 1) := by decide +kernel
theorem dX5_moves_32 : decode cX5_moves 32 = .ok (.iload 4, 2) := by decide +kernel
theorem dX5_moves_34 : decode cX5_moves 34 = .ok (.iload 5, 2) := by decide +kernel
theorem dX5_moves_36 : decode cX5_moves 36 = .ok (.iload 7, 2) := by decide +kernel
theorem dX5_moves_38 : decode cX5_moves 38 = .ok (.invokevirtual 95, 3) := by decide +kernel
theorem dX5_moves_41 : decode cX5_moves 41 = .ok (.ifCond .eq 7, 3) := by decide +kernel
theorem dX5_moves_44 : decode cX5_moves 44 = .ok (.iconst 1, 1) := by decide +kernel
theorem dX5_moves_45 : decode cX5_moves 45 = .ok (.goto 4, 3) := by decide +kernel
theorem dX5_moves_48 : decode cX5_moves 48 = .ok (.iconst 0, 1) := by decide +kernel
theorem dX5_moves_49 : decode cX5_moves 49 = .ok (.istore 6, 2) := by decide +kernel
theorem dX5_moves_51 : decode cX5_moves 51 = .ok (.iinc 7 1, 3) := by decide +kernel
theorem dX5_moves_54 : decode cX5_moves 54 = .ok (.goto (-48), 3) := by decide +kernel
theorem dX5_moves_57 : decode cX5_moves 57 = .ok (.iload 6, 2) := by decide +kernel
theorem dX5_moves_59 : decode cX5_moves 59 = .ok (.ireturn, 1) := by decide +kernel
set_option maxRecDepth 20000 in
theorem ggX5_arePieces_X5_in : GoodIn wsX5_arePieces wsX5_in := goodIn_r _ [5] (by decide +kernel) (by decide +kernel)
set_option maxRecDepth 20000 in
theorem gX5_arePieces_X5_in : GoodIn wsX5_arePieces (va_wsS RX5 68 yX5_in wsX5_in) := goodIn_app (goodIn_of _ (by decide +kernel)) ggX5_arePieces_X5_in
set_option maxRecDepth 20000 in
theorem ggX5_arePieces_X5_size : GoodIn wsX5_arePieces wsX5_size := goodIn_r _ [8] (by decide +kernel) (by decide +kernel)
set_option maxRecDepth 20000 in
theorem gX5_arePieces_X5_size : GoodIn wsX5_arePieces (va_wsS RX5 98 yX5_size wsX5_size) := goodIn_app (goodIn_of _ (by decide +kernel)) ggX5_arePieces_X5_size
theorem dX5_arePieces_0 : decode cX5_arePieces 0 = .ok (.iload_n 1, 1) := by decide +kernel
theorem dX5_arePieces_1 : decode cX5_arePieces 1 = .ok (.iconst 1, 1) := by decide +kernel
theorem dX5_arePieces_2 : decode cX5_arePieces 2 = .ok (.ldc 83, 2) := by decide +kernel
theorem dX5_arePieces_4 : decode cX5_arePieces 4 = .ok (.invokestatic 68, 3) := by decide +kernel
theorem dX5_arePieces_7 : decode cX5_arePieces 7 = .ok (.ifCond .eq 22, 3) := by decide +kernel
theorem dX5_arePieces_10 : decode cX5_arePieces 10 = .ok (.iload_n 1, 1) := by decide +kernel
theorem dX5_arePieces_11 : decode cX5_arePieces 11 = .ok (.invokestatic 98, 3) := by decide +kernel
theorem dX5_arePieces_14 : decode cX5_arePieces 14 = .ok (.bipush 6, 2) := by decide +kernel
theorem dX5_arePieces_16 : decode cX5_arePieces 16 = .ok (.if_icmp .gt 13, 3) := by decide +kernel
theorem dX5_arePieces_19 : decode cX5_arePieces 19 = .ok (.iload_n 1, 1) := by decide +kernel
theorem dX5_arePieces_20 : decode cX5_arePieces 20 = .ok (.iload_n 2, 1) := by decide +kernel
theorem dX5_arePieces_21 : decode cX5_arePieces 21 = .ok (.iand, 1) := by decide +kernel
theorem dX5_arePieces_22 : decode cX5_arePieces 22 = .ok (.ifCond .ne 7, 3) := by decide +kernel
theorem dX5_arePieces_25 : decode cX5_arePieces 25 = .ok (.iconst 1, 1) := by decide +kernel
theorem dX5_arePieces_26 : decode cX5_arePieces 26 = .ok (.goto 4, 3) := by decide +kernel
theorem dX5_arePieces_29 : decode cX5_arePieces 29 = .ok (.iconst 0, 1) := by decide +kernel
theorem dX5_arePieces_30 : decode cX5_arePieces 30 = .ok (.ireturn, 1) := by decide +kernel
theorem dX5_isBannedNow_0 : decode cX5_isBannedNow 0 = .ok (.iconst 0, 1) := by decide +kernel
theorem dX5_isBannedNow_1 : decode cX5_isBannedNow 1 = .ok (.istore_n 2, 1) := by decide +kernel
theorem dX5_isBannedNow_2 : decode cX5_isBannedNow 2 = .ok (.iconst 0, 1) := by decide +kernel
theorem dX5_isBannedNow_3 : decode cX5_isBannedNow 3 = .ok (.istore_n 3, 1) := by decide +kernel
theorem dX5_isBannedNow_4 : decode cX5_isBannedNow 4 = .ok (.iload_n 3, 1) := by decide +kernel
theorem dX5_isBannedNow_5 : decode cX5_isBannedNow 5 = .ok (.iconst 5, 1) := by decide +kernel
theorem dX5_isBannedNow_6 : decode cX5_isBannedNow 6 = .ok (.if_icmp .ge 22, 3) := by decide +kernel
theorem dX5_isBannedNow_9 : decode cX5_isBannedNow 9 = .ok (.iload_n 2, 1) := by decide +kernel
theorem dX5_isBannedNow_10 : decode cX5_isBannedNow 10 = .ok (.aload_n 0, 1) := by decide +kernel
theorem dX5_isBannedNow_11 : decode cX5_isBannedNow 11 = .ok (.getfield 28, 3) := by decide +kernel
theorem dX5_isBannedNow_14 : decode cX5_isBannedNow 14 = .ok (.iload_n 1, 1) := by decide +kernel
theorem dX5_isBannedNow_15 : decode cX5_isBannedNow 15 = .ok (.iaload, 1) := by decide +kernel
theorem dX5_isBannedNow_16 : decode cX5_isBannedNow 16 = .ok (.iload_n 3, 1) := by decide +kernel
theorem dX5_isBannedNow_17 : decode cX5_isBannedNow 17 = .ok (.ishr, 1) := by decide +kernel
theorem dX5_isBannedNow_18 : decode cX5_isBannedNow 18 = .ok (.iconst 1, 1) := by decide +kernel
theorem dX5_isBannedNow_19 : decode cX5_isBannedNow 19 = .ok (.iand, 1) := by decide +kernel
theorem dX5_isBannedNow_20 : decode cX5_isBannedNow 20 = .ok (.iadd, 1) := by decide +kernel
theorem dX5_isBannedNow_21 : decode cX5_isBannedNow 21 = .ok (.istore_n 2, 1) := by decide +kernel
theorem dX5_isBannedNow_22 : decode cX5_isBannedNow 22 = .ok (.iinc 3 1, 3) := by decide +kernel
theorem dX5_isBannedNow_25 : decode cX5_isBannedNow 25 = .ok (.goto (-21), 3) := by decide +kernel
theorem dX5_isBannedNow_28 : decode cX5_isBannedNow 28 = .ok (.iload_n 2, 1) := by decide +kernel
theorem dX5_isBannedNow_29 : decode cX5_isBannedNow 29 = .ok (.iconst 3, 1) := by decide +kernel
theorem dX5_isBannedNow_30 : decode cX5_isBannedNow 30 = .ok (.if_icmp .ge 13, 3) := by decide +kernel
theorem dX5_isBannedNow_33 : decode cX5_isBannedNow 33 = .ok (.aload_n 0, 1) := by decide +kernel
theorem dX5_isBannedNow_34 : decode cX5_isBannedNow 34 = .ok (.getfield 31, 3) := by decide +kernel
theorem dX5_isBannedNow_37 : decode cX5_isBannedNow 37 = .ok (.iload_n 1, 1) := by decide +kernel
theorem dX5_isBannedNow_38 : decode cX5_isBannedNow 38 = .ok (.iaload, 1) := by decide +kernel
theorem dX5_isBannedNow_39 : decode cX5_isBannedNow 39 = .ok (.iconst 2, 1) := by decide +kernel
theorem dX5_isBannedNow_40 : decode cX5_isBannedNow 40 = .ok (.if_icmp .lt 7, 3) := by decide +kernel
theorem dX5_isBannedNow_43 : decode cX5_isBannedNow 43 = .ok (.iconst 1, 1) := by decide +kernel
theorem dX5_isBannedNow_44 : decode cX5_isBannedNow 44 = .ok (.goto 4, 3) := by decide +kernel
theorem dX5_isBannedNow_47 : decode cX5_isBannedNow 47 = .ok (.iconst 0, 1) := by decide +kernel
theorem dX5_isBannedNow_48 : decode cX5_isBannedNow 48 = .ok (.ireturn, 1) := by decide +kernel
set_option maxRecDepth 20000 in
theorem ggX5_begin_X5_isVariant : GoodIn wsX5_begin wsX5_isVariant := goodIn_r _ [16, 17, 64, 65, 66, 67, 68, 69, 70, 71, 72, 73, 74, 75, 76, 77, 78, 79, 80, 81, 82, 83] (by decide +kernel) (by decide +kernel)
set_option maxRecDepth 20000 in
theorem gX5_begin_X5_isVariant : GoodIn wsX5_begin (wsV RX5 88 RX5 yX5_isVariant wsX5_isVariant) := goodIn_app (goodIn_of _ (by decide +kernel)) ggX5_begin_X5_isVariant
set_option maxRecDepth 20000 in
theorem ggX5_begin_X5_isPlayer : GoodIn wsX5_begin wsX5_isPlayer := goodIn_r _ [20] (by decide +kernel) (by decide +kernel)
set_option maxRecDepth 20000 in
theorem gX5_begin_X5_isPlayer : GoodIn wsX5_begin (va_wsS RX5 101 yX5_isPlayer wsX5_isPlayer) := goodIn_app (goodIn_of _ (by decide +kernel)) ggX5_begin_X5_isPlayer
set_option maxRecDepth 20000 in
theorem ggX5_begin_X5_asks : GoodIn wsX5_begin wsX5_asks := goodIn_r _ [24, 25, 64, 65, 66, 67, 68, 69, 70, 71, 72, 73, 74, 75, 76, 77, 78, 79, 80, 81, 82, 83] (by decide +kernel) (by decide +kernel)
set_option maxRecDepth 20000 in
theorem gX5_begin_X5_asks : GoodIn wsX5_begin (wsV RX5 72 RX5 yX5_asks wsX5_asks) := goodIn_app (goodIn_of _ (by decide +kernel)) ggX5_begin_X5_asks
set_option maxRecDepth 20000 in
theorem ggX5_begin_X5_arePieces : GoodIn wsX5_begin wsX5_arePieces := goodIn_r _ [29, 30, 31, 32, 15, 33, 34, 35, 36] (by decide +kernel) (by decide +kernel)
set_option maxRecDepth 20000 in
theorem gX5_begin_X5_arePieces : GoodIn wsX5_begin (wsV RX5 104 RX5 yX5_arePieces wsX5_arePieces) := goodIn_app (goodIn_of _ (by decide +kernel)) ggX5_begin_X5_arePieces
set_option maxRecDepth 20000 in
theorem ggX5_begin_X5_fails : GoodIn wsX5_begin wsX5_fails := goodIn_r _ [40, 25, 64, 65, 66, 67, 68, 69, 70, 71, 72, 73, 74, 75, 76, 77, 78, 79, 80, 81, 82, 83] (by decide +kernel) (by decide +kernel)
set_option maxRecDepth 20000 in
theorem gX5_begin_X5_fails : GoodIn wsX5_begin (wsV RX5 79 RX5 yX5_fails wsX5_fails) := goodIn_app (goodIn_of _ (by decide +kernel)) ggX5_begin_X5_fails
set_option maxRecDepth 20000 in
theorem ggX5_begin_X5_isBannedNow : GoodIn wsX5_begin wsX5_isBannedNow := goodIn_r _ [44, 45, 46, 64, 65, 66, 67, 68, 69, 70, 71, 72, 73, 74, 75, 76, 77, 78, 79, 80, 81, 82, 83] (by decide +kernel) (by decide +kernel)
set_option maxRecDepth 20000 in
theorem gX5_begin_X5_isBannedNow : GoodIn wsX5_begin (wsV RX5 108 RX5 yX5_isBannedNow wsX5_isBannedNow) := goodIn_app (goodIn_of _ (by decide +kernel)) ggX5_begin_X5_isBannedNow
set_option maxRecDepth 20000 in
theorem ggX5_begin_X5_moves : GoodIn wsX5_begin wsX5_moves := goodIn_r _ [50, 51, 52, 53, 15, 54, 55, 56, 57, 58, 59, 60, 61, 62, 63, 31, 32, 33, 64, 65, 66, 67, 68, 69, 70, 71, 72, 73, 74, 75, 76, 77, 78, 79, 80, 81, 82, 83] (by decide +kernel) (by decide +kernel)
set_option maxRecDepth 20000 in
theorem gX5_begin_X5_moves : GoodIn wsX5_begin (wsV RX5 111 RX5 yX5_moves wsX5_moves) := goodIn_app (goodIn_of _ (by decide +kernel)) ggX5_begin_X5_moves
theorem dX5_begin_0 : decode cX5_begin 0 = .ok (.aload_n 0, 1) := by decide +kernel
theorem dX5_begin_1 : decode cX5_begin 1 = .ok (.aload_n 0, 1) := by decide +kernel
theorem dX5_begin_2 : decode cX5_begin 2 = .ok (.iload_n 1, 1) := by decide +kernel
theorem dX5_begin_3 : decode cX5_begin 3 = .ok (.invokevirtual 88, 3) := by decide +kernel
theorem dX5_begin_6 : decode cX5_begin 6 = .ok (.ifCond .eq 21, 3) := by decide +kernel
theorem dX5_begin_9 : decode cX5_begin 9 = .ok (.iload_n 2, 1) := by decide +kernel
theorem dX5_begin_10 : decode cX5_begin 10 = .ok (.invokestatic 101, 3) := by decide +kernel
theorem dX5_begin_13 : decode cX5_begin 13 = .ok (.ifCond .eq 14, 3) := by decide +kernel
theorem dX5_begin_16 : decode cX5_begin 16 = .ok (.iload_n 3, 1) := by decide +kernel
theorem dX5_begin_17 : decode cX5_begin 17 = .ok (.invokestatic 101, 3) := by decide +kernel
theorem dX5_begin_20 : decode cX5_begin 20 = .ok (.ifCond .eq 7, 3) := by decide +kernel
theorem dX5_begin_23 : decode cX5_begin 23 = .ok (.iconst 1, 1) := by decide +kernel
theorem dX5_begin_24 : decode cX5_begin 24 = .ok (.goto 4, 3) := by decide +kernel
theorem dX5_begin_27 : decode cX5_begin 27 = .ok (.iconst 0, 1) := by decide +kernel
theorem dX5_begin_28 : decode cX5_begin 28 = .ok (.invokevirtual 72, 3) := by decide +kernel
theorem dX5_begin_31 : decode cX5_begin 31 = .ok (.ifCond .ne 5, 3) := by decide +kernel
theorem dX5_begin_34 : decode cX5_begin 34 = .ok (.iconst 0, 1) := by decide +kernel
theorem dX5_begin_35 : decode cX5_begin 35 = .ok (.ireturn, 1) := by decide +kernel
theorem dX5_begin_36 : decode cX5_begin 36 = .ok (.aload_n 0, 1) := by decide +kernel
theorem dX5_begin_37 : decode cX5_begin 37 = .ok (.getfield 22, 3) := by decide +kernel
theorem dX5_begin_40 : decode cX5_begin 40 = .ok (.iload_n 1, 1) := by decide +kernel
theorem dX5_begin_41 : decode cX5_begin 41 = .ok (.iaload, 1) := by decide +kernel
theorem dX5_begin_42 : decode cX5_begin 42 = .ok (.istore 6, 2) := by decide +kernel
theorem dX5_begin_44 : decode cX5_begin 44 = .ok (.iload_n 2, 1) := by decide +kernel
theorem dX5_begin_45 : decode cX5_begin 45 = .ok (.iload_n 3, 1) := by decide +kernel
theorem dX5_begin_46 : decode cX5_begin 46 = .ok (.if_icmp .eq 33, 3) := by decide +kernel
theorem dX5_begin_49 : decode cX5_begin 49 = .ok (.aload_n 0, 1) := by decide +kernel
theorem dX5_begin_50 : decode cX5_begin 50 = .ok (.iload 4, 2) := by decide +kernel
theorem dX5_begin_52 : decode cX5_begin 52 = .ok (.iload 6, 2) := by decide +kernel
theorem dX5_begin_54 : decode cX5_begin 54 = .ok (.invokevirtual 104, 3) := by decide +kernel
theorem dX5_begin_57 : decode cX5_begin 57 = .ok (.ifCond .eq 22, 3) := by decide +kernel
theorem dX5_begin_60 : decode cX5_begin 60 = .ok (.aload_n 0, 1) := by decide +kernel
theorem dX5_begin_61 : decode cX5_begin 61 = .ok (.iload 5, 2) := by decide +kernel
theorem dX5_begin_63 : decode cX5_begin 63 = .ok (.iload 6, 2) := by decide +kernel
theorem dX5_begin_65 : decode cX5_begin 65 = .ok (.invokevirtual 104, 3) := by decide +kernel
theorem dX5_begin_68 : decode cX5_begin 68 = .ok (.ifCond .eq 11, 3) := by decide +kernel
theorem dX5_begin_71 : decode cX5_begin 71 = .ok (.iload 4, 2) := by decide +kernel
theorem dX5_begin_73 : decode cX5_begin 73 = .ok (.iload 5, 2) := by decide +kernel
theorem dX5_begin_75 : decode cX5_begin 75 = .ok (.iand, 1) := by decide +kernel
theorem dX5_begin_76 : decode cX5_begin 76 = .ok (.ifCond .eq 9, 3) := by decide +kernel
theorem dX5_begin_79 : decode cX5_begin 79 = .ok (.aload_n 0, 1) := by decide +kernel
theorem dX5_begin_80 : decode cX5_begin 80 = .ok (.iconst 2, 1) := by decide +kernel
theorem dX5_begin_81 : decode cX5_begin 81 = .ok (.invokevirtual 79, 3) := by decide +kernel
theorem dX5_begin_84 : decode cX5_begin 84 = .ok (.ireturn, 1) := by decide +kernel
theorem dX5_begin_85 : decode cX5_begin 85 = .ok (.aload_n 0, 1) := by decide +kernel
theorem dX5_begin_86 : decode cX5_begin 86 = .ok (.iload_n 1, 1) := by decide +kernel
theorem dX5_begin_87 : decode cX5_begin 87 = .ok (.invokevirtual 108, 3) := by decide +kernel
theorem dX5_begin_90 : decode cX5_begin 90 = .ok (.ifCond .ne 32, 3) := by decide +kernel
theorem dX5_begin_93 : decode cX5_begin 93 = .ok (.aload_n 0, 1) := by decide +kernel
theorem dX5_begin_94 : decode cX5_begin 94 = .ok (.getfield 65, 3) := by decide +kernel
theorem dX5_begin_97 : decode cX5_begin 97 = .ok (.bipush 12, 2) := by decide +kernel
theorem dX5_begin_99 : decode cX5_begin 99 = .ok (.if_icmp .eq 23, 3) := by decide +kernel
theorem dX5_begin_102 : decode cX5_begin 102 = .ok (.aload_n 0, 1) := by decide +kernel
theorem dX5_begin_103 : decode cX5_begin 103 = .ok (.aload_n 0, 1) := by decide +kernel
theorem dX5_begin_104 : decode cX5_begin 104 = .ok (.getfield 25, 3) := by decide +kernel
theorem dX5_begin_107 : decode cX5_begin 107 = .ok (.iload_n 1, 1) := by decide +kernel
theorem dX5_begin_108 : decode cX5_begin 108 = .ok (.iaload, 1) := by decide +kernel
theorem dX5_begin_109 : decode cX5_begin 109 = .ok (.iload 6, 2) := by decide +kernel
theorem dX5_begin_111 : decode cX5_begin 111 = .ok (.iload 4, 2) := by decide +kernel
theorem dX5_begin_113 : decode cX5_begin 113 = .ok (.iload 5, 2) := by decide +kernel
theorem dX5_begin_115 : decode cX5_begin 115 = .ok (.iconst 0, 1) := by decide +kernel
theorem dX5_begin_116 : decode cX5_begin 116 = .ok (.invokevirtual 111, 3) := by decide +kernel
theorem dX5_begin_119 : decode cX5_begin 119 = .ok (.ifCond .ne 9, 3) := by decide +kernel
theorem dX5_begin_122 : decode cX5_begin 122 = .ok (.aload_n 0, 1) := by decide +kernel
theorem dX5_begin_123 : decode cX5_begin 123 = .ok (.iconst 3, 1) := by decide +kernel
theorem dX5_begin_124 : decode cX5_begin 124 = .ok (.invokevirtual 79, 3) := by decide +kernel
theorem dX5_begin_127 : decode cX5_begin 127 = .ok (.ireturn, 1) := by decide +kernel
theorem dX5_begin_128 : decode cX5_begin 128 = .ok (.aload_n 0, 1) := by decide +kernel
theorem dX5_begin_129 : decode cX5_begin 129 = .ok (.getfield 34, 3) := by decide +kernel
theorem dX5_begin_132 : decode cX5_begin 132 = .ok (.aload_n 0, 1) := by decide +kernel
theorem dX5_begin_133 : decode cX5_begin 133 = .ok (.getfield 65, 3) := by decide +kernel
theorem dX5_begin_136 : decode cX5_begin 136 = .ok (.iload_n 1, 1) := by decide +kernel
theorem dX5_begin_137 : decode cX5_begin 137 = .ok (.iastore, 1) := by decide +kernel
theorem dX5_begin_138 : decode cX5_begin 138 = .ok (.aload_n 0, 1) := by decide +kernel
theorem dX5_begin_139 : decode cX5_begin 139 = .ok (.getfield 37, 3) := by decide +kernel
theorem dX5_begin_142 : decode cX5_begin 142 = .ok (.aload_n 0, 1) := by decide +kernel
theorem dX5_begin_143 : decode cX5_begin 143 = .ok (.getfield 65, 3) := by decide +kernel
theorem dX5_begin_146 : decode cX5_begin 146 = .ok (.aload_n 0, 1) := by decide +kernel
theorem dX5_begin_147 : decode cX5_begin 147 = .ok (.getfield 25, 3) := by decide +kernel
theorem dX5_begin_150 : decode cX5_begin 150 = .ok (.iload_n 1, 1) := by decide +kernel
theorem dX5_begin_151 : decode cX5_begin 151 = .ok (.iaload, 1) := by decide +kernel
theorem dX5_begin_152 : decode cX5_begin 152 = .ok (.iastore, 1) := by decide +kernel
theorem dX5_begin_153 : decode cX5_begin 153 = .ok (.aload_n 0, 1) := by decide +kernel
theorem dX5_begin_154 : decode cX5_begin 154 = .ok (.getfield 40, 3) := by decide +kernel
theorem dX5_begin_157 : decode cX5_begin 157 = .ok (.aload_n 0, 1) := by decide +kernel
theorem dX5_begin_158 : decode cX5_begin 158 = .ok (.getfield 65, 3) := by decide +kernel
theorem dX5_begin_161 : decode cX5_begin 161 = .ok (.iload_n 2, 1) := by decide +kernel
theorem dX5_begin_162 : decode cX5_begin 162 = .ok (.iastore, 1) := by decide +kernel
theorem dX5_begin_163 : decode cX5_begin 163 = .ok (.aload_n 0, 1) := by decide +kernel
theorem dX5_begin_164 : decode cX5_begin 164 = .ok (.getfield 43, 3) := by decide +kernel
theorem dX5_begin_167 : decode cX5_begin 167 = .ok (.aload_n 0, 1) := by decide +kernel
theorem dX5_begin_168 : decode cX5_begin 168 = .ok (.getfield 65, 3) := by decide +kernel
theorem dX5_begin_171 : decode cX5_begin 171 = .ok (.iload_n 3, 1) := by decide +kernel
theorem dX5_begin_172 : decode cX5_begin 172 = .ok (.iastore, 1) := by decide +kernel
theorem dX5_begin_173 : decode cX5_begin 173 = .ok (.aload_n 0, 1) := by decide +kernel
theorem dX5_begin_174 : decode cX5_begin 174 = .ok (.getfield 46, 3) := by decide +kernel
theorem dX5_begin_177 : decode cX5_begin 177 = .ok (.aload_n 0, 1) := by decide +kernel
theorem dX5_begin_178 : decode cX5_begin 178 = .ok (.getfield 65, 3) := by decide +kernel
theorem dX5_begin_181 : decode cX5_begin 181 = .ok (.iconst 0, 1) := by decide +kernel
theorem dX5_begin_182 : decode cX5_begin 182 = .ok (.iastore, 1) := by decide +kernel
theorem dX5_begin_183 : decode cX5_begin 183 = .ok (.aload_n 0, 1) := by decide +kernel
theorem dX5_begin_184 : decode cX5_begin 184 = .ok (.getfield 49, 3) := by decide +kernel
theorem dX5_begin_187 : decode cX5_begin 187 = .ok (.aload_n 0, 1) := by decide +kernel
theorem dX5_begin_188 : decode cX5_begin 188 = .ok (.getfield 65, 3) := by decide +kernel
theorem dX5_begin_191 : decode cX5_begin 191 = .ok (.iconst 0, 1) := by decide +kernel
theorem dX5_begin_192 : decode cX5_begin 192 = .ok (.iastore, 1) := by decide +kernel
theorem dX5_begin_193 : decode cX5_begin 193 = .ok (.aload_n 0, 1) := by decide +kernel
theorem dX5_begin_194 : decode cX5_begin 194 = .ok (.getfield 52, 3) := by decide +kernel
theorem dX5_begin_197 : decode cX5_begin 197 = .ok (.bipush 61, 2) := by decide +kernel
theorem dX5_begin_199 : decode cX5_begin 199 = .ok (.aload_n 0, 1) := by decide +kernel
theorem dX5_begin_200 : decode cX5_begin 200 = .ok (.getfield 65, 3) := by decide +kernel
theorem dX5_begin_203 : decode cX5_begin 203 = .ok (.imul, 1) := by decide +kernel
theorem dX5_begin_204 : decode cX5_begin 204 = .ok (.iload 4, 2) := by decide +kernel
theorem dX5_begin_206 : decode cX5_begin 206 = .ok (.iastore, 1) := by decide +kernel
theorem dX5_begin_207 : decode cX5_begin 207 = .ok (.aload_n 0, 1) := by decide +kernel
theorem dX5_begin_208 : decode cX5_begin 208 = .ok (.getfield 55, 3) := by decide +kernel
theorem dX5_begin_211 : decode cX5_begin 211 = .ok (.bipush 61, 2) := by decide +kernel
theorem dX5_begin_213 : decode cX5_begin 213 = .ok (.aload_n 0, 1) := by decide +kernel
theorem dX5_begin_214 : decode cX5_begin 214 = .ok (.getfield 65, 3) := by decide +kernel
theorem dX5_begin_217 : decode cX5_begin 217 = .ok (.imul, 1) := by decide +kernel
theorem dX5_begin_218 : decode cX5_begin 218 = .ok (.iload 5, 2) := by decide +kernel
theorem dX5_begin_220 : decode cX5_begin 220 = .ok (.iastore, 1) := by decide +kernel
theorem dX5_begin_221 : decode cX5_begin 221 = .ok (.aload_n 0, 1) := by decide +kernel
theorem dX5_begin_222 : decode cX5_begin 222 = .ok (.dup, 1) := by decide +kernel
theorem dX5_begin_223 : decode cX5_begin 223 = .ok (.getfield 65, 3) := by decide +kernel
theorem dX5_begin_226 : decode cX5_begin 226 = .ok (.iconst 1, 1) := by decide +kernel
theorem dX5_begin_227 : decode cX5_begin 227 = .ok (.iadd, 1) := by decide +kernel
theorem dX5_begin_228 : decode cX5_begin 228 = .ok (.putfield 65, 3) := by decide +kernel
theorem dX5_begin_231 : decode cX5_begin 231 = .ok (.aload_n 0, 1) := by decide +kernel
theorem dX5_begin_232 : decode cX5_begin 232 = .ok (.getfield 65, 3) := by decide +kernel
theorem dX5_begin_235 : decode cX5_begin 235 = .ok (.iconst 1, 1) := by decide +kernel
theorem dX5_begin_236 : decode cX5_begin 236 = .ok (.isub, 1) := by decide +kernel
theorem dX5_begin_237 : decode cX5_begin 237 = .ok (.ireturn, 1) := by decide +kernel
theorem dX5_at_0 : decode cX5_at 0 = .ok (.bipush 61, 2) := by decide +kernel
theorem dX5_at_2 : decode cX5_at 2 = .ok (.iload_n 1, 1) := by decide +kernel
theorem dX5_at_3 : decode cX5_at 3 = .ok (.imul, 1) := by decide +kernel
theorem dX5_at_4 : decode cX5_at 4 = .ok (.aload_n 0, 1) := by decide +kernel
theorem dX5_at_5 : decode cX5_at 5 = .ok (.getfield 49, 3) := by decide +kernel
theorem dX5_at_8 : decode cX5_at 8 = .ok (.iload_n 1, 1) := by decide +kernel
theorem dX5_at_9 : decode cX5_at 9 = .ok (.iaload, 1) := by decide +kernel
theorem dX5_at_10 : decode cX5_at 10 = .ok (.iadd, 1) := by decide +kernel
theorem dX5_at_11 : decode cX5_at 11 = .ok (.ireturn, 1) := by decide +kernel
theorem dX5_isSecondsTurn_0 : decode cX5_isSecondsTurn 0 = .ok (.aload_n 0, 1) := by decide +kernel
theorem dX5_isSecondsTurn_1 : decode cX5_isSecondsTurn 1 = .ok (.getfield 49, 3) := by decide +kernel
theorem dX5_isSecondsTurn_4 : decode cX5_isSecondsTurn 4 = .ok (.iload_n 1, 1) := by decide +kernel
theorem dX5_isSecondsTurn_5 : decode cX5_isSecondsTurn 5 = .ok (.iaload, 1) := by decide +kernel
theorem dX5_isSecondsTurn_6 : decode cX5_isSecondsTurn 6 = .ok (.iconst 2, 1) := by decide +kernel
theorem dX5_isSecondsTurn_7 : decode cX5_isSecondsTurn 7 = .ok (.irem, 1) := by decide +kernel
theorem dX5_isSecondsTurn_8 : decode cX5_isSecondsTurn 8 = .ok (.iconst 1, 1) := by decide +kernel
theorem dX5_isSecondsTurn_9 : decode cX5_isSecondsTurn 9 = .ok (.if_icmp .ne 7, 3) := by decide +kernel
theorem dX5_isSecondsTurn_12 : decode cX5_isSecondsTurn 12 = .ok (.iconst 1, 1) := by decide +kernel
theorem dX5_isSecondsTurn_13 : decode cX5_isSecondsTurn 13 = .ok (.goto 4, 3) := by decide +kernel
theorem dX5_isSecondsTurn_16 : decode cX5_isSecondsTurn 16 = .ok (.iconst 0, 1) := by decide +kernel
theorem dX5_isSecondsTurn_17 : decode cX5_isSecondsTurn 17 = .ok (.ireturn, 1) := by decide +kernel
set_option maxRecDepth 20000 in
theorem ggX5_piecesOf_X5_isSecondsTurn : GoodIn wsX5_piecesOf wsX5_isSecondsTurn := goodIn_r _ [7, 8, 13, 14, 15, 16, 17, 18, 19, 20, 21, 22, 23, 24, 25, 26, 27, 28, 29, 30, 31, 32] (by decide +kernel) (by decide +kernel)
set_option maxRecDepth 20000 in
theorem gX5_piecesOf_X5_isSecondsTurn : GoodIn wsX5_piecesOf (wsV RX5 115 RX5 yX5_isSecondsTurn wsX5_isSecondsTurn) := goodIn_app (goodIn_of _ (by decide +kernel)) ggX5_piecesOf_X5_isSecondsTurn
set_option maxRecDepth 20000 in
theorem ggX5_piecesOf_X5_at : GoodIn wsX5_piecesOf wsX5_at := goodIn_r _ [12, 8, 13, 14, 15, 16, 17, 18, 19, 20, 21, 22, 23, 24, 25, 26, 27, 28, 29, 30, 31, 32] (by decide +kernel) (by decide +kernel)
set_option maxRecDepth 20000 in
theorem gX5_piecesOf_X5_at : GoodIn wsX5_piecesOf (wsV RX5 118 RX5 yX5_at wsX5_at) := goodIn_app (goodIn_of _ (by decide +kernel)) ggX5_piecesOf_X5_at
theorem dX5_piecesOf_0 : decode cX5_piecesOf 0 = .ok (.iload_n 2, 1) := by decide +kernel
theorem dX5_piecesOf_1 : decode cX5_piecesOf 1 = .ok (.aload_n 0, 1) := by decide +kernel
theorem dX5_piecesOf_2 : decode cX5_piecesOf 2 = .ok (.iload_n 1, 1) := by decide +kernel
theorem dX5_piecesOf_3 : decode cX5_piecesOf 3 = .ok (.invokevirtual 115, 3) := by decide +kernel
theorem dX5_piecesOf_6 : decode cX5_piecesOf 6 = .ok (.if_icmp .ne 16, 3) := by decide +kernel
theorem dX5_piecesOf_9 : decode cX5_piecesOf 9 = .ok (.aload_n 0, 1) := by decide +kernel
theorem dX5_piecesOf_10 : decode cX5_piecesOf 10 = .ok (.getfield 55, 3) := by decide +kernel
theorem dX5_piecesOf_13 : decode cX5_piecesOf 13 = .ok (.aload_n 0, 1) := by decide +kernel
theorem dX5_piecesOf_14 : decode cX5_piecesOf 14 = .ok (.iload_n 1, 1) := by decide +kernel
theorem dX5_piecesOf_15 : decode cX5_piecesOf 15 = .ok (.invokevirtual 118, 3) := by decide +kernel
theorem dX5_piecesOf_18 : decode cX5_piecesOf 18 = .ok (.iaload, 1) := by decide +kernel
theorem dX5_piecesOf_19 : decode cX5_piecesOf 19 = .ok (.goto 13, 3) := by decide +kernel
theorem dX5_piecesOf_22 : decode cX5_piecesOf 22 = .ok (.aload_n 0, 1) := by decide +kernel
theorem dX5_piecesOf_23 : decode cX5_piecesOf 23 = .ok (.getfield 52, 3) := by decide +kernel
theorem dX5_piecesOf_26 : decode cX5_piecesOf 26 = .ok (.aload_n 0, 1) := by decide +kernel
theorem dX5_piecesOf_27 : decode cX5_piecesOf 27 = .ok (.iload_n 1, 1) := by decide +kernel
theorem dX5_piecesOf_28 : decode cX5_piecesOf 28 = .ok (.invokevirtual 118, 3) := by decide +kernel
theorem dX5_piecesOf_31 : decode cX5_piecesOf 31 = .ok (.iaload, 1) := by decide +kernel
theorem dX5_piecesOf_32 : decode cX5_piecesOf 32 = .ok (.ireturn, 1) := by decide +kernel
set_option maxRecDepth 20000 in
theorem ggX5_canNow_X5_piecesOf : GoodIn wsX5_canNow wsX5_piecesOf := goodIn_r _ [9, 10, 11, 12, 13, 14, 8, 15, 16, 17, 18, 19, 20, 37, 38, 39, 40, 41, 42, 43, 44, 45, 46, 47, 48, 49, 50, 51, 52, 53, 54, 55, 56] (by decide +kernel) (by decide +kernel)
set_option maxRecDepth 20000 in
theorem gX5_canNow_X5_piecesOf : GoodIn wsX5_canNow (wsV RX5 121 RX5 yX5_piecesOf wsX5_piecesOf) := goodIn_app (goodIn_of _ (by decide +kernel)) ggX5_canNow_X5_piecesOf
set_option maxRecDepth 20000 in
theorem ggX5_canNow_X5_isSecondsTurn : GoodIn wsX5_canNow wsX5_isSecondsTurn := goodIn_r _ [15, 16, 37, 38, 39, 40, 41, 42, 43, 44, 45, 46, 47, 48, 49, 50, 51, 52, 53, 54, 55, 56] (by decide +kernel) (by decide +kernel)
set_option maxRecDepth 20000 in
theorem gX5_canNow_X5_isSecondsTurn : GoodIn wsX5_canNow (wsV RX5 115 RX5 yX5_isSecondsTurn wsX5_isSecondsTurn) := goodIn_app (goodIn_of _ (by decide +kernel)) ggX5_canNow_X5_isSecondsTurn
set_option maxRecDepth 20000 in
theorem ggX5_canNow_X5_goes : GoodIn wsX5_canNow wsX5_goes := goodIn_r _ [24, 25, 26, 27, 28, 8, 29, 30, 31, 32, 33, 34, 35, 36, 37, 38, 39, 40, 41, 42, 43, 44, 45, 46, 47, 48, 49, 50, 51, 52, 53, 54, 55, 56] (by decide +kernel) (by decide +kernel)
set_option maxRecDepth 20000 in
theorem gX5_canNow_X5_goes : GoodIn wsX5_canNow (wsV RX5 95 RX5 yX5_goes wsX5_goes) := goodIn_app (goodIn_of _ (by decide +kernel)) ggX5_canNow_X5_goes
theorem dX5_canNow_0 : decode cX5_canNow 0 = .ok (.aload_n 0, 1) := by decide +kernel
theorem dX5_canNow_1 : decode cX5_canNow 1 = .ok (.iload_n 1, 1) := by decide +kernel
theorem dX5_canNow_2 : decode cX5_canNow 2 = .ok (.iconst 1, 1) := by decide +kernel
theorem dX5_canNow_3 : decode cX5_canNow 3 = .ok (.invokevirtual 121, 3) := by decide +kernel
theorem dX5_canNow_6 : decode cX5_canNow 6 = .ok (.istore 4, 2) := by decide +kernel
theorem dX5_canNow_8 : decode cX5_canNow 8 = .ok (.aload_n 0, 1) := by decide +kernel
theorem dX5_canNow_9 : decode cX5_canNow 9 = .ok (.getfield 46, 3) := by decide +kernel
theorem dX5_canNow_12 : decode cX5_canNow 12 = .ok (.iload_n 1, 1) := by decide +kernel
theorem dX5_canNow_13 : decode cX5_canNow 13 = .ok (.iaload, 1) := by decide +kernel
theorem dX5_canNow_14 : decode cX5_canNow 14 = .ok (.ifCond .ne 60, 3) := by decide +kernel
theorem dX5_canNow_17 : decode cX5_canNow 17 = .ok (.iload 4, 2) := by decide +kernel
theorem dX5_canNow_19 : decode cX5_canNow 19 = .ok (.iload_n 2, 1) := by decide +kernel
theorem dX5_canNow_20 : decode cX5_canNow 20 = .ok (.ishr, 1) := by decide +kernel
theorem dX5_canNow_21 : decode cX5_canNow 21 = .ok (.iconst 1, 1) := by decide +kernel
theorem dX5_canNow_22 : decode cX5_canNow 22 = .ok (.iand, 1) := by decide +kernel
theorem dX5_canNow_23 : decode cX5_canNow 23 = .ok (.iconst 1, 1) := by decide +kernel
theorem dX5_canNow_24 : decode cX5_canNow 24 = .ok (.if_icmp .ne 50, 3) := by decide +kernel
theorem dX5_canNow_27 : decode cX5_canNow 27 = .ok (.aload_n 0, 1) := by decide +kernel
theorem dX5_canNow_28 : decode cX5_canNow 28 = .ok (.aload_n 0, 1) := by decide +kernel
theorem dX5_canNow_29 : decode cX5_canNow 29 = .ok (.getfield 37, 3) := by decide +kernel
theorem dX5_canNow_32 : decode cX5_canNow 32 = .ok (.iload_n 1, 1) := by decide +kernel
theorem dX5_canNow_33 : decode cX5_canNow 33 = .ok (.iaload, 1) := by decide +kernel
theorem dX5_canNow_34 : decode cX5_canNow 34 = .ok (.aload_n 0, 1) := by decide +kernel
theorem dX5_canNow_35 : decode cX5_canNow 35 = .ok (.getfield 22, 3) := by decide +kernel
theorem dX5_canNow_38 : decode cX5_canNow 38 = .ok (.aload_n 0, 1) := by decide +kernel
theorem dX5_canNow_39 : decode cX5_canNow 39 = .ok (.getfield 34, 3) := by decide +kernel
theorem dX5_canNow_42 : decode cX5_canNow 42 = .ok (.iload_n 1, 1) := by decide +kernel
theorem dX5_canNow_43 : decode cX5_canNow 43 = .ok (.iaload, 1) := by decide +kernel
theorem dX5_canNow_44 : decode cX5_canNow 44 = .ok (.iaload, 1) := by decide +kernel
theorem dX5_canNow_45 : decode cX5_canNow 45 = .ok (.iload 4, 2) := by decide +kernel
theorem dX5_canNow_47 : decode cX5_canNow 47 = .ok (.aload_n 0, 1) := by decide +kernel
theorem dX5_canNow_48 : decode cX5_canNow 48 = .ok (.iload_n 1, 1) := by decide +kernel
theorem dX5_canNow_49 : decode cX5_canNow 49 = .ok (.iconst 0, 1) := by decide +kernel
theorem dX5_canNow_50 : decode cX5_canNow 50 = .ok (.invokevirtual 121, 3) := by decide +kernel
theorem dX5_canNow_53 : decode cX5_canNow 53 = .ok (.aload_n 0, 1) := by decide +kernel
theorem dX5_canNow_54 : decode cX5_canNow 54 = .ok (.iload_n 1, 1) := by decide +kernel
theorem dX5_canNow_55 : decode cX5_canNow 55 = .ok (.invokevirtual 115, 3) := by decide +kernel
theorem dX5_canNow_58 : decode cX5_canNow 58 = .ok (.iload_n 2, 1) := by decide +kernel
theorem dX5_canNow_59 : decode cX5_canNow 59 = .ok (.invokevirtual 95, 3) := by decide +kernel
theorem dX5_canNow_62 : decode cX5_canNow 62 = .ok (.iload_n 3, 1) := by decide +kernel
theorem dX5_canNow_63 : decode cX5_canNow 63 = .ok (.ishr, 1) := by decide +kernel
theorem dX5_canNow_64 : decode cX5_canNow 64 = .ok (.iconst 1, 1) := by decide +kernel
theorem dX5_canNow_65 : decode cX5_canNow 65 = .ok (.iand, 1) := by decide +kernel
theorem dX5_canNow_66 : decode cX5_canNow 66 = .ok (.iconst 1, 1) := by decide +kernel
theorem dX5_canNow_67 : decode cX5_canNow 67 = .ok (.if_icmp .ne 7, 3) := by decide +kernel
theorem dX5_canNow_70 : decode cX5_canNow 70 = .ok (.iconst 1, 1) := by decide +kernel
theorem dX5_canNow_71 : decode cX5_canNow 71 = .ok (.goto 4, 3) := by decide +kernel
theorem dX5_canNow_74 : decode cX5_canNow 74 = .ok (.iconst 0, 1) := by decide +kernel
theorem dX5_canNow_75 : decode cX5_canNow 75 = .ok (.ireturn, 1) := by decide +kernel
set_option maxRecDepth 20000 in
theorem ggX5_can_X5_isGame : GoodIn wsX5_can wsX5_isGame := goodIn_r _ [5, 6, 54, 55, 56, 57, 58, 59, 60, 61, 62, 63, 64, 65, 66, 67, 68, 69, 70, 71, 72, 73] (by decide +kernel) (by decide +kernel)
set_option maxRecDepth 20000 in
theorem gX5_can_X5_isGame : GoodIn wsX5_can (wsV RX5 125 RX5 yX5_isGame wsX5_isGame) := goodIn_app (goodIn_of _ (by decide +kernel)) ggX5_can_X5_isGame
set_option maxRecDepth 20000 in
theorem ggX5_can_X5_isCell : GoodIn wsX5_can wsX5_isCell := goodIn_r _ [9] (by decide +kernel) (by decide +kernel)
set_option maxRecDepth 20000 in
theorem gX5_can_X5_isCell : GoodIn wsX5_can (va_wsS RX5 128 yX5_isCell wsX5_isCell) := goodIn_app (goodIn_of _ (by decide +kernel)) ggX5_can_X5_isCell
set_option maxRecDepth 20000 in
theorem ggX5_can_X5_asks : GoodIn wsX5_can wsX5_asks := goodIn_r _ [13, 14, 54, 55, 56, 57, 58, 59, 60, 61, 62, 63, 64, 65, 66, 67, 68, 69, 70, 71, 72, 73] (by decide +kernel) (by decide +kernel)
set_option maxRecDepth 20000 in
theorem gX5_can_X5_asks : GoodIn wsX5_can (wsV RX5 72 RX5 yX5_asks wsX5_asks) := goodIn_app (goodIn_of _ (by decide +kernel)) ggX5_can_X5_asks
set_option maxRecDepth 20000 in
theorem ggX5_can_X5_canNow : GoodIn wsX5_can wsX5_canNow := goodIn_r _ [18, 19, 20, 21, 22, 23, 24, 25, 4, 26, 27, 28, 29, 30, 31, 32, 33, 34, 35, 36, 37, 38, 39, 40, 41, 42, 43, 44, 45, 46, 47, 48, 49, 50, 51, 52, 53, 54, 55, 56, 57, 58, 59, 60, 61, 62, 63, 64, 65, 66, 67, 68, 69, 70, 71, 72, 73] (by decide +kernel) (by decide +kernel)
set_option maxRecDepth 20000 in
theorem gX5_can_X5_canNow : GoodIn wsX5_can (wsV RX5 131 RX5 yX5_canNow wsX5_canNow) := goodIn_app (goodIn_of _ (by decide +kernel)) ggX5_can_X5_canNow
theorem dX5_can_0 : decode cX5_can 0 = .ok (.aload_n 0, 1) := by decide +kernel
theorem dX5_can_1 : decode cX5_can 1 = .ok (.aload_n 0, 1) := by decide +kernel
theorem dX5_can_2 : decode cX5_can 2 = .ok (.iload_n 1, 1) := by decide +kernel
theorem dX5_can_3 : decode cX5_can 3 = .ok (.invokevirtual 125, 3) := by decide +kernel
theorem dX5_can_6 : decode cX5_can 6 = .ok (.ifCond .eq 21, 3) := by decide +kernel
theorem dX5_can_9 : decode cX5_can 9 = .ok (.iload_n 2, 1) := by decide +kernel
theorem dX5_can_10 : decode cX5_can 10 = .ok (.invokestatic 128, 3) := by decide +kernel
theorem dX5_can_13 : decode cX5_can 13 = .ok (.ifCond .eq 14, 3) := by decide +kernel
theorem dX5_can_16 : decode cX5_can 16 = .ok (.iload_n 3, 1) := by decide +kernel
theorem dX5_can_17 : decode cX5_can 17 = .ok (.invokestatic 128, 3) := by decide +kernel
theorem dX5_can_20 : decode cX5_can 20 = .ok (.ifCond .eq 7, 3) := by decide +kernel
theorem dX5_can_23 : decode cX5_can 23 = .ok (.iconst 1, 1) := by decide +kernel
theorem dX5_can_24 : decode cX5_can 24 = .ok (.goto 4, 3) := by decide +kernel
theorem dX5_can_27 : decode cX5_can 27 = .ok (.iconst 0, 1) := by decide +kernel
theorem dX5_can_28 : decode cX5_can 28 = .ok (.invokevirtual 72, 3) := by decide +kernel
theorem dX5_can_31 : decode cX5_can 31 = .ok (.ifCond .eq 17, 3) := by decide +kernel
theorem dX5_can_34 : decode cX5_can 34 = .ok (.aload_n 0, 1) := by decide +kernel
theorem dX5_can_35 : decode cX5_can 35 = .ok (.iload_n 1, 1) := by decide +kernel
theorem dX5_can_36 : decode cX5_can 36 = .ok (.iload_n 2, 1) := by decide +kernel
theorem dX5_can_37 : decode cX5_can 37 = .ok (.iload_n 3, 1) := by decide +kernel
theorem dX5_can_38 : decode cX5_can 38 = .ok (.invokevirtual 131, 3) := by decide +kernel
theorem dX5_can_41 : decode cX5_can 41 = .ok (.ifCond .eq 7, 3) := by decide +kernel
theorem dX5_can_44 : decode cX5_can 44 = .ok (.iconst 1, 1) := by decide +kernel
theorem dX5_can_45 : decode cX5_can 45 = .ok (.goto 4, 3) := by decide +kernel
theorem dX5_can_48 : decode cX5_can 48 = .ok (.iconst 0, 1) := by decide +kernel
theorem dX5_can_49 : decode cX5_can 49 = .ok (.ireturn, 1) := by decide +kernel
set_option maxRecDepth 20000 in
theorem ggX5_canByAll_X5_isGame : GoodIn wsX5_canByAll wsX5_isGame := goodIn_r _ [5, 6, 54, 55, 56, 57, 58, 59, 60, 61, 62, 63, 64, 65, 66, 67, 68, 69, 70, 71, 72, 73] (by decide +kernel) (by decide +kernel)
set_option maxRecDepth 20000 in
theorem gX5_canByAll_X5_isGame : GoodIn wsX5_canByAll (wsV RX5 125 RX5 yX5_isGame wsX5_isGame) := goodIn_app (goodIn_of _ (by decide +kernel)) ggX5_canByAll_X5_isGame
set_option maxRecDepth 20000 in
theorem ggX5_canByAll_X5_isCell : GoodIn wsX5_canByAll wsX5_isCell := goodIn_r _ [9] (by decide +kernel) (by decide +kernel)
set_option maxRecDepth 20000 in
theorem gX5_canByAll_X5_isCell : GoodIn wsX5_canByAll (va_wsS RX5 128 yX5_isCell wsX5_isCell) := goodIn_app (goodIn_of _ (by decide +kernel)) ggX5_canByAll_X5_isCell
set_option maxRecDepth 20000 in
theorem ggX5_canByAll_X5_asks : GoodIn wsX5_canByAll wsX5_asks := goodIn_r _ [13, 14, 54, 55, 56, 57, 58, 59, 60, 61, 62, 63, 64, 65, 66, 67, 68, 69, 70, 71, 72, 73] (by decide +kernel) (by decide +kernel)
set_option maxRecDepth 20000 in
theorem gX5_canByAll_X5_asks : GoodIn wsX5_canByAll (wsV RX5 72 RX5 yX5_asks wsX5_asks) := goodIn_app (goodIn_of _ (by decide +kernel)) ggX5_canByAll_X5_asks
set_option maxRecDepth 20000 in
theorem ggX5_canByAll_X5_canNow : GoodIn wsX5_canByAll wsX5_canNow := goodIn_r _ [18, 19, 20, 21, 22, 23, 24, 25, 4, 26, 27, 28, 29, 30, 31, 32, 33, 34, 35, 36, 37, 38, 39, 40, 41, 42, 43, 44, 45, 46, 47, 48, 49, 50, 51, 52, 53, 54, 55, 56, 57, 58, 59, 60, 61, 62, 63, 64, 65, 66, 67, 68, 69, 70, 71, 72, 73] (by decide +kernel) (by decide +kernel)
set_option maxRecDepth 20000 in
theorem gX5_canByAll_X5_canNow : GoodIn wsX5_canByAll (wsV RX5 131 RX5 yX5_canNow wsX5_canNow) := goodIn_app (goodIn_of _ (by decide +kernel)) ggX5_canByAll_X5_canNow
theorem dX5_canByAll_0 : decode cX5_canByAll 0 = .ok (.aload_n 0, 1) := by decide +kernel
theorem dX5_canByAll_1 : decode cX5_canByAll 1 = .ok (.aload_n 0, 1) := by decide +kernel
theorem dX5_canByAll_2 : decode cX5_canByAll 2 = .ok (.iload_n 1, 1) := by decide +kernel
theorem dX5_canByAll_3 : decode cX5_canByAll 3 = .ok (.invokevirtual 125, 3) := by decide +kernel
theorem dX5_canByAll_6 : decode cX5_canByAll 6 = .ok (.ifCond .eq 21, 3) := by decide +kernel
theorem dX5_canByAll_9 : decode cX5_canByAll 9 = .ok (.iload_n 2, 1) := by decide +kernel
theorem dX5_canByAll_10 : decode cX5_canByAll 10 = .ok (.invokestatic 128, 3) := by decide +kernel
theorem dX5_canByAll_13 : decode cX5_canByAll 13 = .ok (.ifCond .eq 14, 3) := by decide +kernel
theorem dX5_canByAll_16 : decode cX5_canByAll 16 = .ok (.iload_n 3, 1) := by decide +kernel
theorem dX5_canByAll_17 : decode cX5_canByAll 17 = .ok (.invokestatic 128, 3) := by decide +kernel
theorem dX5_canByAll_20 : decode cX5_canByAll 20 = .ok (.ifCond .eq 7, 3) := by decide +kernel
theorem dX5_canByAll_23 : decode cX5_canByAll 23 = .ok (.iconst 1, 1) := by decide +kernel
theorem dX5_canByAll_24 : decode cX5_canByAll 24 = .ok (.goto 4, 3) := by decide +kernel
theorem dX5_canByAll_27 : decode cX5_canByAll 27 = .ok (.iconst 0, 1) := by decide +kernel
theorem dX5_canByAll_28 : decode cX5_canByAll 28 = .ok (.invokevirtual 72, 3) := by decide +kernel
theorem dX5_canByAll_31 : decode cX5_canByAll 31 = .ok (.ifCond .eq 17, 3) := by decide +kernel
theorem dX5_canByAll_34 : decode cX5_canByAll 34 = .ok (.aload_n 0, 1) := by decide +kernel
theorem dX5_canByAll_35 : decode cX5_canByAll 35 = .ok (.iload_n 1, 1) := by decide +kernel
theorem dX5_canByAll_36 : decode cX5_canByAll 36 = .ok (.iload_n 2, 1) := by decide +kernel
theorem dX5_canByAll_37 : decode cX5_canByAll 37 = .ok (.iload_n 3, 1) := by decide +kernel
theorem dX5_canByAll_38 : decode cX5_canByAll 38 = .ok (.invokevirtual 131, 3) := by decide +kernel
theorem dX5_canByAll_41 : decode cX5_canByAll 41 = .ok (.ifCond .eq 7, 3) := by decide +kernel
theorem dX5_canByAll_44 : decode cX5_canByAll 44 = .ok (.iconst 1, 1) := by decide +kernel
theorem dX5_canByAll_45 : decode cX5_canByAll 45 = .ok (.goto 4, 3) := by decide +kernel
theorem dX5_canByAll_48 : decode cX5_canByAll 48 = .ok (.iconst 0, 1) := by decide +kernel
theorem dX5_canByAll_49 : decode cX5_canByAll 49 = .ok (.ireturn, 1) := by decide +kernel
set_option maxRecDepth 20000 in
theorem ggX5_times_X5_at : GoodIn wsX5_times wsX5_at := goodIn_r _ [8, 1, 9, 10, 11, 12, 13, 14, 15, 16, 17, 18, 19, 20, 21, 22, 23, 24, 25, 26, 27, 28] (by decide +kernel) (by decide +kernel)
set_option maxRecDepth 20000 in
theorem gX5_times_X5_at : GoodIn wsX5_times (wsV RX5 118 RX5 yX5_at wsX5_at) := goodIn_app (goodIn_of _ (by decide +kernel)) ggX5_times_X5_at
theorem dX5_times_0 : decode cX5_times 0 = .ok (.iconst 0, 1) := by decide +kernel
theorem dX5_times_1 : decode cX5_times 1 = .ok (.istore_n 2, 1) := by decide +kernel
theorem dX5_times_2 : decode cX5_times 2 = .ok (.aload_n 0, 1) := by decide +kernel
theorem dX5_times_3 : decode cX5_times 3 = .ok (.getfield 49, 3) := by decide +kernel
theorem dX5_times_6 : decode cX5_times 6 = .ok (.iload_n 1, 1) := by decide +kernel
theorem dX5_times_7 : decode cX5_times 7 = .ok (.iaload, 1) := by decide +kernel
theorem dX5_times_8 : decode cX5_times 8 = .ok (.istore_n 3, 1) := by decide +kernel
theorem dX5_times_9 : decode cX5_times 9 = .ok (.iload_n 3, 1) := by decide +kernel
theorem dX5_times_10 : decode cX5_times 10 = .ok (.ifCond .lt 65, 3) := by decide +kernel
theorem dX5_times_13 : decode cX5_times 13 = .ok (.iload_n 2, 1) := by decide +kernel
theorem dX5_times_14 : decode cX5_times 14 = .ok (.aload_n 0, 1) := by decide +kernel
theorem dX5_times_15 : decode cX5_times 15 = .ok (.getfield 52, 3) := by decide +kernel
theorem dX5_times_18 : decode cX5_times 18 = .ok (.bipush 61, 2) := by decide +kernel
theorem dX5_times_20 : decode cX5_times 20 = .ok (.iload_n 1, 1) := by decide +kernel
theorem dX5_times_21 : decode cX5_times 21 = .ok (.imul, 1) := by decide +kernel
theorem dX5_times_22 : decode cX5_times 22 = .ok (.iload_n 3, 1) := by decide +kernel
theorem dX5_times_23 : decode cX5_times 23 = .ok (.iadd, 1) := by decide +kernel
theorem dX5_times_24 : decode cX5_times 24 = .ok (.iaload, 1) := by decide +kernel
theorem dX5_times_25 : decode cX5_times 25 = .ok (.aload_n 0, 1) := by decide +kernel
theorem dX5_times_26 : decode cX5_times 26 = .ok (.getfield 52, 3) := by decide +kernel
theorem dX5_times_29 : decode cX5_times 29 = .ok (.aload_n 0, 1) := by decide +kernel
theorem dX5_times_30 : decode cX5_times 30 = .ok (.iload_n 1, 1) := by decide +kernel
theorem dX5_times_31 : decode cX5_times 31 = .ok (.invokevirtual 118, 3) := by decide +kernel
theorem dX5_times_34 : decode cX5_times 34 = .ok (.iaload, 1) := by decide +kernel
theorem dX5_times_35 : decode cX5_times 35 = .ok (.if_icmp .ne 31, 3) := by decide +kernel
theorem dX5_times_38 : decode cX5_times 38 = .ok (.aload_n 0, 1) := by decide +kernel
theorem dX5_times_39 : decode cX5_times 39 = .ok (.getfield 55, 3) := by decide +kernel
theorem dX5_times_42 : decode cX5_times 42 = .ok (.bipush 61, 2) := by decide +kernel
theorem dX5_times_44 : decode cX5_times 44 = .ok (.iload_n 1, 1) := by decide +kernel
theorem dX5_times_45 : decode cX5_times 45 = .ok (.imul, 1) := by decide +kernel
theorem dX5_times_46 : decode cX5_times 46 = .ok (.iload_n 3, 1) := by decide +kernel
theorem dX5_times_47 : decode cX5_times 47 = .ok (.iadd, 1) := by decide +kernel
theorem dX5_times_48 : decode cX5_times 48 = .ok (.iaload, 1) := by decide +kernel
theorem dX5_times_49 : decode cX5_times 49 = .ok (.aload_n 0, 1) := by decide +kernel
theorem dX5_times_50 : decode cX5_times 50 = .ok (.getfield 55, 3) := by decide +kernel
theorem dX5_times_53 : decode cX5_times 53 = .ok (.aload_n 0, 1) := by decide +kernel
theorem dX5_times_54 : decode cX5_times 54 = .ok (.iload_n 1, 1) := by decide +kernel
theorem dX5_times_55 : decode cX5_times 55 = .ok (.invokevirtual 118, 3) := by decide +kernel
theorem dX5_times_58 : decode cX5_times 58 = .ok (.iaload, 1) := by decide +kernel
theorem dX5_times_59 : decode cX5_times 59 = .ok (.if_icmp .ne 7, 3) := by decide +kernel
theorem dX5_times_62 : decode cX5_times 62 = .ok (.iconst 1, 1) := by decide +kernel
theorem dX5_times_63 : decode cX5_times 63 = .ok (.goto 4, 3) := by decide +kernel
theorem dX5_times_66 : decode cX5_times 66 = .ok (.iconst 0, 1) := by decide +kernel
theorem dX5_times_67 : decode cX5_times 67 = .ok (.iadd, 1) := by decide +kernel
theorem dX5_times_68 : decode cX5_times 68 = .ok (.istore_n 2, 1) := by decide +kernel
theorem dX5_times_69 : decode cX5_times 69 = .ok (.iinc 3 (-2), 3) := by decide +kernel
theorem dX5_times_72 : decode cX5_times 72 = .ok (.goto (-63), 3) := by decide +kernel
theorem dX5_times_75 : decode cX5_times 75 = .ok (.iload_n 2, 1) := by decide +kernel
theorem dX5_times_76 : decode cX5_times 76 = .ok (.ireturn, 1) := by decide +kernel
set_option maxRecDepth 20000 in
theorem ggX5_move_X5_isGame : GoodIn wsX5_move wsX5_isGame := goodIn_r _ [13, 14, 72, 73, 74, 75, 76, 77, 78, 79, 80, 81, 82, 83, 84, 85, 86, 87, 88, 89, 90, 91] (by decide +kernel) (by decide +kernel)
set_option maxRecDepth 20000 in
theorem gX5_move_X5_isGame : GoodIn wsX5_move (wsV RX5 125 RX5 yX5_isGame wsX5_isGame) := goodIn_app (goodIn_of _ (by decide +kernel)) ggX5_move_X5_isGame
set_option maxRecDepth 20000 in
theorem ggX5_move_X5_isCell : GoodIn wsX5_move wsX5_isCell := goodIn_r _ [17] (by decide +kernel) (by decide +kernel)
set_option maxRecDepth 20000 in
theorem gX5_move_X5_isCell : GoodIn wsX5_move (va_wsS RX5 128 yX5_isCell wsX5_isCell) := goodIn_app (goodIn_of _ (by decide +kernel)) ggX5_move_X5_isCell
set_option maxRecDepth 20000 in
theorem ggX5_move_X5_asks : GoodIn wsX5_move wsX5_asks := goodIn_r _ [21, 22, 72, 73, 74, 75, 76, 77, 78, 79, 80, 81, 82, 83, 84, 85, 86, 87, 88, 89, 90, 91] (by decide +kernel) (by decide +kernel)
set_option maxRecDepth 20000 in
theorem gX5_move_X5_asks : GoodIn wsX5_move (wsV RX5 72 RX5 yX5_asks wsX5_asks) := goodIn_app (goodIn_of _ (by decide +kernel)) ggX5_move_X5_asks
set_option maxRecDepth 20000 in
theorem ggX5_move_X5_isBannedNow : GoodIn wsX5_move wsX5_isBannedNow := goodIn_r _ [26, 27, 8, 72, 73, 74, 75, 76, 77, 78, 79, 80, 81, 82, 83, 84, 85, 86, 87, 88, 89, 90, 91] (by decide +kernel) (by decide +kernel)
set_option maxRecDepth 20000 in
theorem gX5_move_X5_isBannedNow : GoodIn wsX5_move (wsV RX5 108 RX5 yX5_isBannedNow wsX5_isBannedNow) := goodIn_app (goodIn_of _ (by decide +kernel)) ggX5_move_X5_isBannedNow
set_option maxRecDepth 20000 in
theorem ggX5_move_X5_canNow : GoodIn wsX5_move wsX5_canNow := goodIn_r _ [31, 7, 5, 6, 1, 32, 33, 34, 12, 35, 4, 3, 36, 37, 38, 39, 2, 40, 41, 42, 43, 44, 45, 46, 47, 48, 49, 50, 51, 52, 53, 54, 55, 56, 57, 58, 59, 72, 73, 74, 75, 76, 77, 78, 79, 80, 81, 82, 83, 84, 85, 86, 87, 88, 89, 90, 91] (by decide +kernel) (by decide +kernel)
set_option maxRecDepth 20000 in
theorem gX5_move_X5_canNow : GoodIn wsX5_move (wsV RX5 131 RX5 yX5_canNow wsX5_canNow) := goodIn_app (goodIn_of _ (by decide +kernel)) ggX5_move_X5_canNow
set_option maxRecDepth 20000 in
theorem ggX5_move_X5_fails : GoodIn wsX5_move wsX5_fails := goodIn_r _ [63, 22, 72, 73, 74, 75, 76, 77, 78, 79, 80, 81, 82, 83, 84, 85, 86, 87, 88, 89, 90, 91] (by decide +kernel) (by decide +kernel)
set_option maxRecDepth 20000 in
theorem gX5_move_X5_fails : GoodIn wsX5_move (wsV RX5 79 RX5 yX5_fails wsX5_fails) := goodIn_app (goodIn_of _ (by decide +kernel)) ggX5_move_X5_fails
set_option maxRecDepth 20000 in
theorem ggX5_move_X5_piecesOf : GoodIn wsX5_move wsX5_piecesOf := goodIn_r _ [35, 4, 3, 36, 37, 38, 12, 39, 2, 40, 41, 42, 43, 72, 73, 74, 75, 76, 77, 78, 79, 80, 81, 82, 83, 84, 85, 86, 87, 88, 89, 90, 91] (by decide +kernel) (by decide +kernel)
set_option maxRecDepth 20000 in
theorem gX5_move_X5_piecesOf : GoodIn wsX5_move (wsV RX5 121 RX5 yX5_piecesOf wsX5_piecesOf) := goodIn_app (goodIn_of _ (by decide +kernel)) ggX5_move_X5_piecesOf
set_option maxRecDepth 20000 in
theorem ggX5_move_X5_isSecondsTurn : GoodIn wsX5_move wsX5_isSecondsTurn := goodIn_r _ [39, 2, 72, 73, 74, 75, 76, 77, 78, 79, 80, 81, 82, 83, 84, 85, 86, 87, 88, 89, 90, 91] (by decide +kernel) (by decide +kernel)
set_option maxRecDepth 20000 in
theorem gX5_move_X5_isSecondsTurn : GoodIn wsX5_move (wsV RX5 115 RX5 yX5_isSecondsTurn wsX5_isSecondsTurn) := goodIn_app (goodIn_of _ (by decide +kernel)) ggX5_move_X5_isSecondsTurn
set_option maxRecDepth 20000 in
theorem ggX5_move_X5_at : GoodIn wsX5_move wsX5_at := goodIn_r _ [43, 2, 72, 73, 74, 75, 76, 77, 78, 79, 80, 81, 82, 83, 84, 85, 86, 87, 88, 89, 90, 91] (by decide +kernel) (by decide +kernel)
set_option maxRecDepth 20000 in
theorem gX5_move_X5_at : GoodIn wsX5_move (wsV RX5 118 RX5 yX5_at wsX5_at) := goodIn_app (goodIn_of _ (by decide +kernel)) ggX5_move_X5_at
set_option maxRecDepth 20000 in
theorem ggX5_move_X5_moves : GoodIn wsX5_move wsX5_moves := goodIn_r _ [67, 44, 45, 46, 12, 47, 48, 49, 50, 51, 52, 53, 54, 55, 56, 57, 58, 59, 72, 73, 74, 75, 76, 77, 78, 79, 80, 81, 82, 83, 84, 85, 86, 87, 88, 89, 90, 91] (by decide +kernel) (by decide +kernel)
set_option maxRecDepth 20000 in
theorem gX5_move_X5_moves : GoodIn wsX5_move (wsV RX5 111 RX5 yX5_moves wsX5_moves) := goodIn_app (goodIn_of _ (by decide +kernel)) ggX5_move_X5_moves
set_option maxRecDepth 20000 in
theorem ggX5_move_X5_times : GoodIn wsX5_move wsX5_times := goodIn_r _ [71, 2, 3, 4, 40, 41, 42, 12, 43, 72, 73, 74, 75, 76, 77, 78, 79, 80, 81, 82, 83, 84, 85, 86, 87, 88, 89, 90, 91] (by decide +kernel) (by decide +kernel)
set_option maxRecDepth 20000 in
theorem gX5_move_X5_times : GoodIn wsX5_move (wsV RX5 134 RX5 yX5_times wsX5_times) := goodIn_app (goodIn_of _ (by decide +kernel)) ggX5_move_X5_times
theorem dX5_move_0 : decode cX5_move 0 = .ok (.aload_n 0, 1) := by decide +kernel
theorem dX5_move_1 : decode cX5_move 1 = .ok (.aload_n 0, 1) := by decide +kernel
theorem dX5_move_2 : decode cX5_move 2 = .ok (.iload_n 1, 1) := by decide +kernel
theorem dX5_move_3 : decode cX5_move 3 = .ok (.invokevirtual 125, 3) := by decide +kernel
theorem dX5_move_6 : decode cX5_move 6 = .ok (.ifCond .eq 21, 3) := by decide +kernel
theorem dX5_move_9 : decode cX5_move 9 = .ok (.iload_n 2, 1) := by decide +kernel
theorem dX5_move_10 : decode cX5_move 10 = .ok (.invokestatic 128, 3) := by decide +kernel
theorem dX5_move_13 : decode cX5_move 13 = .ok (.ifCond .eq 14, 3) := by decide +kernel
theorem dX5_move_16 : decode cX5_move 16 = .ok (.iload_n 3, 1) := by decide +kernel
theorem dX5_move_17 : decode cX5_move 17 = .ok (.invokestatic 128, 3) := by decide +kernel
theorem dX5_move_20 : decode cX5_move 20 = .ok (.ifCond .eq 7, 3) := by decide +kernel
theorem dX5_move_23 : decode cX5_move 23 = .ok (.iconst 1, 1) := by decide +kernel
theorem dX5_move_24 : decode cX5_move 24 = .ok (.goto 4, 3) := by decide +kernel
theorem dX5_move_27 : decode cX5_move 27 = .ok (.iconst 0, 1) := by decide +kernel
theorem dX5_move_28 : decode cX5_move 28 = .ok (.invokevirtual 72, 3) := by decide +kernel
theorem dX5_move_31 : decode cX5_move 31 = .ok (.ifCond .ne 5, 3) := by decide +kernel
theorem dX5_move_34 : decode cX5_move 34 = .ok (.iconst 0, 1) := by decide +kernel
theorem dX5_move_35 : decode cX5_move 35 = .ok (.ireturn, 1) := by decide +kernel
theorem dX5_move_36 : decode cX5_move 36 = .ok (.aload_n 0, 1) := by decide +kernel
theorem dX5_move_37 : decode cX5_move 37 = .ok (.aload_n 0, 1) := by decide +kernel
theorem dX5_move_38 : decode cX5_move 38 = .ok (.getfield 34, 3) := by decide +kernel
theorem dX5_move_41 : decode cX5_move 41 = .ok (.iload_n 1, 1) := by decide +kernel
theorem dX5_move_42 : decode cX5_move 42 = .ok (.iaload, 1) := by decide +kernel
theorem dX5_move_43 : decode cX5_move 43 = .ok (.invokevirtual 108, 3) := by decide +kernel
theorem dX5_move_46 : decode cX5_move 46 = .ok (.ifCond .ne 13, 3) := by decide +kernel
theorem dX5_move_49 : decode cX5_move 49 = .ok (.aload_n 0, 1) := by decide +kernel
theorem dX5_move_50 : decode cX5_move 50 = .ok (.iload_n 1, 1) := by decide +kernel
theorem dX5_move_51 : decode cX5_move 51 = .ok (.iload_n 2, 1) := by decide +kernel
theorem dX5_move_52 : decode cX5_move 52 = .ok (.iload_n 3, 1) := by decide +kernel
theorem dX5_move_53 : decode cX5_move 53 = .ok (.invokevirtual 131, 3) := by decide +kernel
theorem dX5_move_56 : decode cX5_move 56 = .ok (.ifCond .ne 9, 3) := by decide +kernel
theorem dX5_move_59 : decode cX5_move 59 = .ok (.aload_n 0, 1) := by decide +kernel
theorem dX5_move_60 : decode cX5_move 60 = .ok (.iconst 2, 1) := by decide +kernel
theorem dX5_move_61 : decode cX5_move 61 = .ok (.invokevirtual 79, 3) := by decide +kernel
theorem dX5_move_64 : decode cX5_move 64 = .ok (.ireturn, 1) := by decide +kernel
theorem dX5_move_65 : decode cX5_move 65 = .ok (.aload_n 0, 1) := by decide +kernel
theorem dX5_move_66 : decode cX5_move 66 = .ok (.iload_n 1, 1) := by decide +kernel
theorem dX5_move_67 : decode cX5_move 67 = .ok (.iconst 1, 1) := by decide +kernel
theorem dX5_move_68 : decode cX5_move 68 = .ok (.invokevirtual 121, 3) := by decide +kernel
theorem dX5_move_71 : decode cX5_move 71 = .ok (.iconst 1, 1) := by decide +kernel
theorem dX5_move_72 : decode cX5_move 72 = .ok (.iload_n 2, 1) := by decide +kernel
theorem dX5_move_73 : decode cX5_move 73 = .ok (.ishl, 1) := by decide +kernel
theorem dX5_move_74 : decode cX5_move 74 = .ok (.iconst (-1), 1) := by decide +kernel
theorem dX5_move_75 : decode cX5_move 75 = .ok (.ixor, 1) := by decide +kernel
theorem dX5_move_76 : decode cX5_move 76 = .ok (.iand, 1) := by decide +kernel
theorem dX5_move_77 : decode cX5_move 77 = .ok (.iconst 1, 1) := by decide +kernel
theorem dX5_move_78 : decode cX5_move 78 = .ok (.iload_n 3, 1) := by decide +kernel
theorem dX5_move_79 : decode cX5_move 79 = .ok (.ishl, 1) := by decide +kernel
theorem dX5_move_80 : decode cX5_move 80 = .ok (.ior, 1) := by decide +kernel
theorem dX5_move_81 : decode cX5_move 81 = .ok (.istore 4, 2) := by decide +kernel
theorem dX5_move_83 : decode cX5_move 83 = .ok (.aload_n 0, 1) := by decide +kernel
theorem dX5_move_84 : decode cX5_move 84 = .ok (.iload_n 1, 1) := by decide +kernel
theorem dX5_move_85 : decode cX5_move 85 = .ok (.iconst 0, 1) := by decide +kernel
theorem dX5_move_86 : decode cX5_move 86 = .ok (.invokevirtual 121, 3) := by decide +kernel
theorem dX5_move_89 : decode cX5_move 89 = .ok (.iconst 1, 1) := by decide +kernel
theorem dX5_move_90 : decode cX5_move 90 = .ok (.iload_n 3, 1) := by decide +kernel
theorem dX5_move_91 : decode cX5_move 91 = .ok (.ishl, 1) := by decide +kernel
theorem dX5_move_92 : decode cX5_move 92 = .ok (.iconst (-1), 1) := by decide +kernel
theorem dX5_move_93 : decode cX5_move 93 = .ok (.ixor, 1) := by decide +kernel
theorem dX5_move_94 : decode cX5_move 94 = .ok (.iand, 1) := by decide +kernel
theorem dX5_move_95 : decode cX5_move 95 = .ok (.istore 5, 2) := by decide +kernel
theorem dX5_move_97 : decode cX5_move 97 = .ok (.aload_n 0, 1) := by decide +kernel
theorem dX5_move_98 : decode cX5_move 98 = .ok (.iload_n 1, 1) := by decide +kernel
theorem dX5_move_99 : decode cX5_move 99 = .ok (.invokevirtual 115, 3) := by decide +kernel
theorem dX5_move_102 : decode cX5_move 102 = .ok (.istore 6, 2) := by decide +kernel
theorem dX5_move_104 : decode cX5_move 104 = .ok (.aload_n 0, 1) := by decide +kernel
theorem dX5_move_105 : decode cX5_move 105 = .ok (.getfield 49, 3) := by decide +kernel
theorem dX5_move_108 : decode cX5_move 108 = .ok (.iload_n 1, 1) := by decide +kernel
theorem dX5_move_109 : decode cX5_move 109 = .ok (.dup2, 1) := by decide +kernel
theorem dX5_move_110 : decode cX5_move 110 = .ok (.iaload, 1) := by decide +kernel
theorem dX5_move_111 : decode cX5_move 111 = .ok (.iconst 1, 1) := by decide +kernel
theorem dX5_move_112 : decode cX5_move 112 = .ok (.iadd, 1) := by decide +kernel
theorem dX5_move_113 : decode cX5_move 113 = .ok (.iastore, 1) := by decide +kernel
theorem dX5_move_114 : decode cX5_move 114 = .ok (.aload_n 0, 1) := by decide +kernel
theorem dX5_move_115 : decode cX5_move 115 = .ok (.getfield 52, 3) := by decide +kernel
theorem dX5_move_118 : decode cX5_move 118 = .ok (.aload_n 0, 1) := by decide +kernel
theorem dX5_move_119 : decode cX5_move 119 = .ok (.iload_n 1, 1) := by decide +kernel
theorem dX5_move_120 : decode cX5_move 120 = .ok (.invokevirtual 118, 3) := by decide +kernel
theorem dX5_move_123 : decode cX5_move 123 = .ok (.iload 6, 2) := by decide +kernel
theorem dX5_move_125 : decode cX5_move 125 = .ok (.ifCond .eq 8, 3) := by decide +kernel
theorem dX5_move_128 : decode cX5_move 128 = .ok (.iload 5, 2) := by decide +kernel
theorem dX5_move_130 : decode cX5_move 130 = .ok (.goto 5, 3) := by decide +kernel
theorem dX5_move_133 : decode cX5_move 133 = .ok (.iload 4, 2) := by decide +kernel
theorem dX5_move_135 : decode cX5_move 135 = .ok (.iastore, 1) := by decide +kernel
theorem dX5_move_136 : decode cX5_move 136 = .ok (.aload_n 0, 1) := by decide +kernel
theorem dX5_move_137 : decode cX5_move 137 = .ok (.getfield 55, 3) := by decide +kernel
theorem dX5_move_140 : decode cX5_move 140 = .ok (.aload_n 0, 1) := by decide +kernel
theorem dX5_move_141 : decode cX5_move 141 = .ok (.iload_n 1, 1) := by decide +kernel
theorem dX5_move_142 : decode cX5_move 142 = .ok (.invokevirtual 118, 3) := by decide +kernel
theorem dX5_move_145 : decode cX5_move 145 = .ok (.iload 6, 2) := by decide +kernel
theorem dX5_move_147 : decode cX5_move 147 = .ok (.ifCond .eq 8, 3) := by decide +kernel
theorem dX5_move_150 : decode cX5_move 150 = .ok (.iload 4, 2) := by decide +kernel
theorem dX5_move_152 : decode cX5_move 152 = .ok (.goto 5, 3) := by decide +kernel
theorem dX5_move_155 : decode cX5_move 155 = .ok (.iload 5, 2) := by decide +kernel
theorem dX5_move_157 : decode cX5_move 157 = .ok (.iastore, 1) := by decide +kernel
theorem dX5_move_158 : decode cX5_move 158 = .ok (.aload_n 0, 1) := by decide +kernel
theorem dX5_move_159 : decode cX5_move 159 = .ok (.aload_n 0, 1) := by decide +kernel
theorem dX5_move_160 : decode cX5_move 160 = .ok (.getfield 37, 3) := by decide +kernel
theorem dX5_move_163 : decode cX5_move 163 = .ok (.iload_n 1, 1) := by decide +kernel
theorem dX5_move_164 : decode cX5_move 164 = .ok (.iaload, 1) := by decide +kernel
theorem dX5_move_165 : decode cX5_move 165 = .ok (.aload_n 0, 1) := by decide +kernel
theorem dX5_move_166 : decode cX5_move 166 = .ok (.getfield 22, 3) := by decide +kernel
theorem dX5_move_169 : decode cX5_move 169 = .ok (.aload_n 0, 1) := by decide +kernel
theorem dX5_move_170 : decode cX5_move 170 = .ok (.getfield 34, 3) := by decide +kernel
theorem dX5_move_173 : decode cX5_move 173 = .ok (.iload_n 1, 1) := by decide +kernel
theorem dX5_move_174 : decode cX5_move 174 = .ok (.iaload, 1) := by decide +kernel
theorem dX5_move_175 : decode cX5_move 175 = .ok (.iaload, 1) := by decide +kernel
theorem dX5_move_176 : decode cX5_move 176 = .ok (.iload 5, 2) := by decide +kernel
theorem dX5_move_178 : decode cX5_move 178 = .ok (.iload 4, 2) := by decide +kernel
theorem dX5_move_180 : decode cX5_move 180 = .ok (.iload 6, 2) := by decide +kernel
theorem dX5_move_182 : decode cX5_move 182 = .ok (.ifCond .ne 7, 3) := by decide +kernel
theorem dX5_move_185 : decode cX5_move 185 = .ok (.iconst 1, 1) := by decide +kernel
theorem dX5_move_186 : decode cX5_move 186 = .ok (.goto 4, 3) := by decide +kernel
theorem dX5_move_189 : decode cX5_move 189 = .ok (.iconst 0, 1) := by decide +kernel
theorem dX5_move_190 : decode cX5_move 190 = .ok (.invokevirtual 111, 3) := by decide +kernel
theorem dX5_move_193 : decode cX5_move 193 = .ok (.ifCond .ne 22, 3) := by decide +kernel
theorem dX5_move_196 : decode cX5_move 196 = .ok (.aload_n 0, 1) := by decide +kernel
theorem dX5_move_197 : decode cX5_move 197 = .ok (.getfield 46, 3) := by decide +kernel
theorem dX5_move_200 : decode cX5_move 200 = .ok (.iload_n 1, 1) := by decide +kernel
theorem dX5_move_201 : decode cX5_move 201 = .ok (.iload 6, 2) := by decide +kernel
theorem dX5_move_203 : decode cX5_move 203 = .ok (.ifCond .eq 7, 3) := by decide +kernel
theorem dX5_move_206 : decode cX5_move 206 = .ok (.iconst 2, 1) := by decide +kernel
theorem dX5_move_207 : decode cX5_move 207 = .ok (.goto 4, 3) := by decide +kernel
theorem dX5_move_210 : decode cX5_move 210 = .ok (.iconst 1, 1) := by decide +kernel
theorem dX5_move_211 : decode cX5_move 211 = .ok (.iastore, 1) := by decide +kernel
theorem dX5_move_212 : decode cX5_move 212 = .ok (.goto 55, 3) := by decide +kernel
theorem dX5_move_215 : decode cX5_move 215 = .ok (.aload_n 0, 1) := by decide +kernel
theorem dX5_move_216 : decode cX5_move 216 = .ok (.iload_n 1, 1) := by decide +kernel
theorem dX5_move_217 : decode cX5_move 217 = .ok (.invokevirtual 134, 3) := by decide +kernel
theorem dX5_move_220 : decode cX5_move 220 = .ok (.iconst 3, 1) := by decide +kernel
theorem dX5_move_221 : decode cX5_move 221 = .ok (.if_icmp .lt 28, 3) := by decide +kernel
theorem dX5_move_224 : decode cX5_move 224 = .ok (.aload_n 0, 1) := by decide +kernel
theorem dX5_move_225 : decode cX5_move 225 = .ok (.getfield 46, 3) := by decide +kernel
theorem dX5_move_228 : decode cX5_move 228 = .ok (.iload_n 1, 1) := by decide +kernel
theorem dX5_move_229 : decode cX5_move 229 = .ok (.iconst 3, 1) := by decide +kernel
theorem dX5_move_230 : decode cX5_move 230 = .ok (.iastore, 1) := by decide +kernel
theorem dX5_move_231 : decode cX5_move 231 = .ok (.aload_n 0, 1) := by decide +kernel
theorem dX5_move_232 : decode cX5_move 232 = .ok (.getfield 31, 3) := by decide +kernel
theorem dX5_move_235 : decode cX5_move 235 = .ok (.aload_n 0, 1) := by decide +kernel
theorem dX5_move_236 : decode cX5_move 236 = .ok (.getfield 34, 3) := by decide +kernel
theorem dX5_move_239 : decode cX5_move 239 = .ok (.iload_n 1, 1) := by decide +kernel
theorem dX5_move_240 : decode cX5_move 240 = .ok (.iaload, 1) := by decide +kernel
theorem dX5_move_241 : decode cX5_move 241 = .ok (.dup2, 1) := by decide +kernel
theorem dX5_move_242 : decode cX5_move 242 = .ok (.iaload, 1) := by decide +kernel
theorem dX5_move_243 : decode cX5_move 243 = .ok (.iconst 1, 1) := by decide +kernel
theorem dX5_move_244 : decode cX5_move 244 = .ok (.iadd, 1) := by decide +kernel
theorem dX5_move_245 : decode cX5_move 245 = .ok (.iastore, 1) := by decide +kernel
theorem dX5_move_246 : decode cX5_move 246 = .ok (.goto 21, 3) := by decide +kernel
theorem dX5_move_249 : decode cX5_move 249 = .ok (.aload_n 0, 1) := by decide +kernel
theorem dX5_move_250 : decode cX5_move 250 = .ok (.getfield 49, 3) := by decide +kernel
theorem dX5_move_253 : decode cX5_move 253 = .ok (.iload_n 1, 1) := by decide +kernel
theorem dX5_move_254 : decode cX5_move 254 = .ok (.iaload, 1) := by decide +kernel
theorem dX5_move_255 : decode cX5_move 255 = .ok (.bipush 60, 2) := by decide +kernel
theorem dX5_move_257 : decode cX5_move 257 = .ok (.if_icmp .ne 10, 3) := by decide +kernel
theorem dX5_move_260 : decode cX5_move 260 = .ok (.aload_n 0, 1) := by decide +kernel
theorem dX5_move_261 : decode cX5_move 261 = .ok (.getfield 46, 3) := by decide +kernel
theorem dX5_move_264 : decode cX5_move 264 = .ok (.iload_n 1, 1) := by decide +kernel
theorem dX5_move_265 : decode cX5_move 265 = .ok (.iconst 3, 1) := by decide +kernel
theorem dX5_move_266 : decode cX5_move 266 = .ok (.iastore, 1) := by decide +kernel
theorem dX5_move_267 : decode cX5_move 267 = .ok (.aload_n 0, 1) := by decide +kernel
theorem dX5_move_268 : decode cX5_move 268 = .ok (.getfield 46, 3) := by decide +kernel
theorem dX5_move_271 : decode cX5_move 271 = .ok (.iload_n 1, 1) := by decide +kernel
theorem dX5_move_272 : decode cX5_move 272 = .ok (.iaload, 1) := by decide +kernel
theorem dX5_move_273 : decode cX5_move 273 = .ok (.ireturn, 1) := by decide +kernel
set_option maxRecDepth 20000 in
theorem ggX5_state_X5_isGame : GoodIn wsX5_state wsX5_isGame := goodIn_r _ [6, 7, 13, 14, 15, 16, 17, 18, 19, 20, 21, 22, 23, 24, 25, 26, 27, 28, 29, 30, 31, 32] (by decide +kernel) (by decide +kernel)
set_option maxRecDepth 20000 in
theorem gX5_state_X5_isGame : GoodIn wsX5_state (wsV RX5 125 RX5 yX5_isGame wsX5_isGame) := goodIn_app (goodIn_of _ (by decide +kernel)) ggX5_state_X5_isGame
set_option maxRecDepth 20000 in
theorem ggX5_state_X5_asks : GoodIn wsX5_state wsX5_asks := goodIn_r _ [11, 12, 13, 14, 15, 16, 17, 18, 19, 20, 21, 22, 23, 24, 25, 26, 27, 28, 29, 30, 31, 32] (by decide +kernel) (by decide +kernel)
set_option maxRecDepth 20000 in
theorem gX5_state_X5_asks : GoodIn wsX5_state (wsV RX5 72 RX5 yX5_asks wsX5_asks) := goodIn_app (goodIn_of _ (by decide +kernel)) ggX5_state_X5_asks
theorem dX5_state_0 : decode cX5_state 0 = .ok (.aload_n 0, 1) := by decide +kernel
theorem dX5_state_1 : decode cX5_state 1 = .ok (.aload_n 0, 1) := by decide +kernel
theorem dX5_state_2 : decode cX5_state 2 = .ok (.iload_n 1, 1) := by decide +kernel
theorem dX5_state_3 : decode cX5_state 3 = .ok (.invokevirtual 125, 3) := by decide +kernel
theorem dX5_state_6 : decode cX5_state 6 = .ok (.invokevirtual 72, 3) := by decide +kernel
theorem dX5_state_9 : decode cX5_state 9 = .ok (.ifCond .eq 12, 3) := by decide +kernel
theorem dX5_state_12 : decode cX5_state 12 = .ok (.aload_n 0, 1) := by decide +kernel
theorem dX5_state_13 : decode cX5_state 13 = .ok (.getfield 46, 3) := by decide +kernel
theorem dX5_state_16 : decode cX5_state 16 = .ok (.iload_n 1, 1) := by decide +kernel
theorem dX5_state_17 : decode cX5_state 17 = .ok (.iaload, 1) := by decide +kernel
theorem dX5_state_18 : decode cX5_state 18 = .ok (.goto 4, 3) := by decide +kernel
theorem dX5_state_21 : decode cX5_state 21 = .ok (.iconst 0, 1) := by decide +kernel
theorem dX5_state_22 : decode cX5_state 22 = .ok (.ireturn, 1) := by decide +kernel
set_option maxRecDepth 20000 in
theorem ggX5_pieces_X5_isGame : GoodIn wsX5_pieces wsX5_isGame := goodIn_r _ [7, 8, 19, 20, 21, 22, 23, 24, 25, 26, 27, 28, 29, 30, 31, 32, 33, 34, 35, 36, 37, 38] (by decide +kernel) (by decide +kernel)
set_option maxRecDepth 20000 in
theorem gX5_pieces_X5_isGame : GoodIn wsX5_pieces (wsV RX5 125 RX5 yX5_isGame wsX5_isGame) := goodIn_app (goodIn_of _ (by decide +kernel)) ggX5_pieces_X5_isGame
set_option maxRecDepth 20000 in
theorem ggX5_pieces_X5_asks : GoodIn wsX5_pieces wsX5_asks := goodIn_r _ [12, 13, 19, 20, 21, 22, 23, 24, 25, 26, 27, 28, 29, 30, 31, 32, 33, 34, 35, 36, 37, 38] (by decide +kernel) (by decide +kernel)
set_option maxRecDepth 20000 in
theorem gX5_pieces_X5_asks : GoodIn wsX5_pieces (wsV RX5 72 RX5 yX5_asks wsX5_asks) := goodIn_app (goodIn_of _ (by decide +kernel)) ggX5_pieces_X5_asks
set_option maxRecDepth 20000 in
theorem ggX5_pieces_X5_at : GoodIn wsX5_pieces wsX5_at := goodIn_r _ [17, 18, 19, 20, 21, 22, 23, 24, 25, 26, 27, 28, 29, 30, 31, 32, 33, 34, 35, 36, 37, 38] (by decide +kernel) (by decide +kernel)
set_option maxRecDepth 20000 in
theorem gX5_pieces_X5_at : GoodIn wsX5_pieces (wsV RX5 118 RX5 yX5_at wsX5_at) := goodIn_app (goodIn_of _ (by decide +kernel)) ggX5_pieces_X5_at
theorem dX5_pieces_0 : decode cX5_pieces 0 = .ok (.aload_n 0, 1) := by decide +kernel
theorem dX5_pieces_1 : decode cX5_pieces 1 = .ok (.aload_n 0, 1) := by decide +kernel
theorem dX5_pieces_2 : decode cX5_pieces 2 = .ok (.iload_n 1, 1) := by decide +kernel
theorem dX5_pieces_3 : decode cX5_pieces 3 = .ok (.invokevirtual 125, 3) := by decide +kernel
theorem dX5_pieces_6 : decode cX5_pieces 6 = .ok (.invokevirtual 72, 3) := by decide +kernel
theorem dX5_pieces_9 : decode cX5_pieces 9 = .ok (.ifCond .ne 5, 3) := by decide +kernel
theorem dX5_pieces_12 : decode cX5_pieces 12 = .ok (.iconst 0, 1) := by decide +kernel
theorem dX5_pieces_13 : decode cX5_pieces 13 = .ok (.ireturn, 1) := by decide +kernel
theorem dX5_pieces_14 : decode cX5_pieces 14 = .ok (.iload_n 2, 1) := by decide +kernel
theorem dX5_pieces_15 : decode cX5_pieces 15 = .ok (.ifCond .eq 16, 3) := by decide +kernel
theorem dX5_pieces_18 : decode cX5_pieces 18 = .ok (.aload_n 0, 1) := by decide +kernel
theorem dX5_pieces_19 : decode cX5_pieces 19 = .ok (.getfield 55, 3) := by decide +kernel
theorem dX5_pieces_22 : decode cX5_pieces 22 = .ok (.aload_n 0, 1) := by decide +kernel
theorem dX5_pieces_23 : decode cX5_pieces 23 = .ok (.iload_n 1, 1) := by decide +kernel
theorem dX5_pieces_24 : decode cX5_pieces 24 = .ok (.invokevirtual 118, 3) := by decide +kernel
theorem dX5_pieces_27 : decode cX5_pieces 27 = .ok (.iaload, 1) := by decide +kernel
theorem dX5_pieces_28 : decode cX5_pieces 28 = .ok (.goto 13, 3) := by decide +kernel
theorem dX5_pieces_31 : decode cX5_pieces 31 = .ok (.aload_n 0, 1) := by decide +kernel
theorem dX5_pieces_32 : decode cX5_pieces 32 = .ok (.getfield 52, 3) := by decide +kernel
theorem dX5_pieces_35 : decode cX5_pieces 35 = .ok (.aload_n 0, 1) := by decide +kernel
theorem dX5_pieces_36 : decode cX5_pieces 36 = .ok (.iload_n 1, 1) := by decide +kernel
theorem dX5_pieces_37 : decode cX5_pieces 37 = .ok (.invokevirtual 118, 3) := by decide +kernel
theorem dX5_pieces_40 : decode cX5_pieces 40 = .ok (.iaload, 1) := by decide +kernel
theorem dX5_pieces_41 : decode cX5_pieces 41 = .ok (.ireturn, 1) := by decide +kernel
set_option maxRecDepth 20000 in
theorem ggX5_made_X5_isGame : GoodIn wsX5_made wsX5_isGame := goodIn_r _ [6, 7, 13, 14, 15, 16, 17, 18, 19, 20, 21, 22, 23, 24, 25, 26, 27, 28, 29, 30, 31, 32] (by decide +kernel) (by decide +kernel)
set_option maxRecDepth 20000 in
theorem gX5_made_X5_isGame : GoodIn wsX5_made (wsV RX5 125 RX5 yX5_isGame wsX5_isGame) := goodIn_app (goodIn_of _ (by decide +kernel)) ggX5_made_X5_isGame
set_option maxRecDepth 20000 in
theorem ggX5_made_X5_asks : GoodIn wsX5_made wsX5_asks := goodIn_r _ [11, 12, 13, 14, 15, 16, 17, 18, 19, 20, 21, 22, 23, 24, 25, 26, 27, 28, 29, 30, 31, 32] (by decide +kernel) (by decide +kernel)
set_option maxRecDepth 20000 in
theorem gX5_made_X5_asks : GoodIn wsX5_made (wsV RX5 72 RX5 yX5_asks wsX5_asks) := goodIn_app (goodIn_of _ (by decide +kernel)) ggX5_made_X5_asks
theorem dX5_made_0 : decode cX5_made 0 = .ok (.aload_n 0, 1) := by decide +kernel
theorem dX5_made_1 : decode cX5_made 1 = .ok (.aload_n 0, 1) := by decide +kernel
theorem dX5_made_2 : decode cX5_made 2 = .ok (.iload_n 1, 1) := by decide +kernel
theorem dX5_made_3 : decode cX5_made 3 = .ok (.invokevirtual 125, 3) := by decide +kernel
theorem dX5_made_6 : decode cX5_made 6 = .ok (.invokevirtual 72, 3) := by decide +kernel
theorem dX5_made_9 : decode cX5_made 9 = .ok (.ifCond .eq 12, 3) := by decide +kernel
theorem dX5_made_12 : decode cX5_made 12 = .ok (.aload_n 0, 1) := by decide +kernel
theorem dX5_made_13 : decode cX5_made 13 = .ok (.getfield 49, 3) := by decide +kernel
theorem dX5_made_16 : decode cX5_made 16 = .ok (.iload_n 1, 1) := by decide +kernel
theorem dX5_made_17 : decode cX5_made 17 = .ok (.iaload, 1) := by decide +kernel
theorem dX5_made_18 : decode cX5_made 18 = .ok (.goto 4, 3) := by decide +kernel
theorem dX5_made_21 : decode cX5_made 21 = .ok (.iconst 0, 1) := by decide +kernel
theorem dX5_made_22 : decode cX5_made 22 = .ok (.ireturn, 1) := by decide +kernel
set_option maxRecDepth 20000 in
theorem ggX5_standing_X5_moves : GoodIn wsX5_standing wsX5_moves := goodIn_r _ [8, 9, 10, 11, 7, 12, 13, 14, 15, 16, 17, 18, 19, 20, 21, 22, 23, 24, 28, 29, 30, 31, 32, 33, 34, 35, 36, 37, 38, 39, 40, 41, 42, 43, 44, 45, 46, 47] (by decide +kernel) (by decide +kernel)
set_option maxRecDepth 20000 in
theorem gX5_standing_X5_moves : GoodIn wsX5_standing (wsV RX5 111 RX5 yX5_moves wsX5_moves) := goodIn_app (goodIn_of _ (by decide +kernel)) ggX5_standing_X5_moves
set_option maxRecDepth 20000 in
theorem ggX5_standing_X5_size : GoodIn wsX5_standing wsX5_size := goodIn_r _ [27] (by decide +kernel) (by decide +kernel)
set_option maxRecDepth 20000 in
theorem gX5_standing_X5_size : GoodIn wsX5_standing (va_wsS RX5 98 yX5_size wsX5_size) := goodIn_app (goodIn_of _ (by decide +kernel)) ggX5_standing_X5_size
theorem dX5_standing_0 : decode cX5_standing 0 = .ok (.aload_n 0, 1) := by decide +kernel
theorem dX5_standing_1 : decode cX5_standing 1 = .ok (.aload_n 0, 1) := by decide +kernel
theorem dX5_standing_2 : decode cX5_standing 2 = .ok (.getfield 37, 3) := by decide +kernel
theorem dX5_standing_5 : decode cX5_standing 5 = .ok (.iload_n 1, 1) := by decide +kernel
theorem dX5_standing_6 : decode cX5_standing 6 = .ok (.iaload, 1) := by decide +kernel
theorem dX5_standing_7 : decode cX5_standing 7 = .ok (.aload_n 0, 1) := by decide +kernel
theorem dX5_standing_8 : decode cX5_standing 8 = .ok (.getfield 22, 3) := by decide +kernel
theorem dX5_standing_11 : decode cX5_standing 11 = .ok (.aload_n 0, 1) := by decide +kernel
theorem dX5_standing_12 : decode cX5_standing 12 = .ok (.getfield 34, 3) := by decide +kernel
theorem dX5_standing_15 : decode cX5_standing 15 = .ok (.iload_n 1, 1) := by decide +kernel
theorem dX5_standing_16 : decode cX5_standing 16 = .ok (.iaload, 1) := by decide +kernel
theorem dX5_standing_17 : decode cX5_standing 17 = .ok (.iaload, 1) := by decide +kernel
theorem dX5_standing_18 : decode cX5_standing 18 = .ok (.iload_n 2, 1) := by decide +kernel
theorem dX5_standing_19 : decode cX5_standing 19 = .ok (.iload_n 3, 1) := by decide +kernel
theorem dX5_standing_20 : decode cX5_standing 20 = .ok (.iload 4, 2) := by decide +kernel
theorem dX5_standing_22 : decode cX5_standing 22 = .ok (.invokevirtual 111, 3) := by decide +kernel
theorem dX5_standing_25 : decode cX5_standing 25 = .ok (.ifCond .eq 15, 3) := by decide +kernel
theorem dX5_standing_28 : decode cX5_standing 28 = .ok (.iload_n 2, 1) := by decide +kernel
theorem dX5_standing_29 : decode cX5_standing 29 = .ok (.invokestatic 98, 3) := by decide +kernel
theorem dX5_standing_32 : decode cX5_standing 32 = .ok (.iload_n 3, 1) := by decide +kernel
theorem dX5_standing_33 : decode cX5_standing 33 = .ok (.invokestatic 98, 3) := by decide +kernel
theorem dX5_standing_36 : decode cX5_standing 36 = .ok (.isub, 1) := by decide +kernel
theorem dX5_standing_37 : decode cX5_standing 37 = .ok (.goto 5, 3) := by decide +kernel
theorem dX5_standing_40 : decode cX5_standing 40 = .ok (.bipush (-100), 2) := by decide +kernel
theorem dX5_standing_42 : decode cX5_standing 42 = .ok (.ireturn, 1) := by decide +kernel
set_option maxRecDepth 20000 in
theorem ggX5_onward_X5_goes : GoodIn wsX5_onward wsX5_goes := goodIn_r _ [8, 9, 10, 11, 12, 7, 13, 14, 15, 16, 17, 18, 19, 20, 32, 33, 34, 35, 36, 37, 38, 39, 40, 41, 42, 43, 44, 45, 46, 47, 48, 49, 50, 51] (by decide +kernel) (by decide +kernel)
set_option maxRecDepth 20000 in
theorem gX5_onward_X5_goes : GoodIn wsX5_onward (wsV RX5 95 RX5 yX5_goes wsX5_goes) := goodIn_app (goodIn_of _ (by decide +kernel)) ggX5_onward_X5_goes
set_option maxRecDepth 20000 in
theorem ggX5_onward_X5_standing : GoodIn wsX5_onward wsX5_standing := goodIn_r _ [24, 1, 2, 3, 25, 26, 27, 7, 28, 4, 5, 6, 8, 9, 10, 11, 12, 13, 14, 15, 16, 17, 18, 19, 20, 29, 30, 31, 32, 33, 34, 35, 36, 37, 38, 39, 40, 41, 42, 43, 44, 45, 46, 47, 48, 49, 50, 51] (by decide +kernel) (by decide +kernel)
set_option maxRecDepth 20000 in
theorem gX5_onward_X5_standing : GoodIn wsX5_onward (wsV RX5 137 RX5 yX5_standing wsX5_standing) := goodIn_app (goodIn_of _ (by decide +kernel)) ggX5_onward_X5_standing
theorem dX5_onward_0 : decode cX5_onward 0 = .ok (.bipush (-100), 2) := by decide +kernel
theorem dX5_onward_2 : decode cX5_onward 2 = .ok (.istore 5, 2) := by decide +kernel
theorem dX5_onward_4 : decode cX5_onward 4 = .ok (.iconst 0, 1) := by decide +kernel
theorem dX5_onward_5 : decode cX5_onward 5 = .ok (.istore 6, 2) := by decide +kernel
theorem dX5_onward_7 : decode cX5_onward 7 = .ok (.iload 6, 2) := by decide +kernel
theorem dX5_onward_9 : decode cX5_onward 9 = .ok (.bipush 25, 2) := by decide +kernel
theorem dX5_onward_11 : decode cX5_onward 11 = .ok (.if_icmp .ge 134, 3) := by decide +kernel
theorem dX5_onward_14 : decode cX5_onward 14 = .ok (.iload_n 2, 1) := by decide +kernel
theorem dX5_onward_15 : decode cX5_onward 15 = .ok (.iload 6, 2) := by decide +kernel
theorem dX5_onward_17 : decode cX5_onward 17 = .ok (.ishr, 1) := by decide +kernel
theorem dX5_onward_18 : decode cX5_onward 18 = .ok (.iconst 1, 1) := by decide +kernel
theorem dX5_onward_19 : decode cX5_onward 19 = .ok (.iand, 1) := by decide +kernel
theorem dX5_onward_20 : decode cX5_onward 20 = .ok (.iconst 1, 1) := by decide +kernel
theorem dX5_onward_21 : decode cX5_onward 21 = .ok (.if_icmp .ne 33, 3) := by decide +kernel
theorem dX5_onward_24 : decode cX5_onward 24 = .ok (.aload_n 0, 1) := by decide +kernel
theorem dX5_onward_25 : decode cX5_onward 25 = .ok (.aload_n 0, 1) := by decide +kernel
theorem dX5_onward_26 : decode cX5_onward 26 = .ok (.getfield 37, 3) := by decide +kernel
theorem dX5_onward_29 : decode cX5_onward 29 = .ok (.iload_n 1, 1) := by decide +kernel
theorem dX5_onward_30 : decode cX5_onward 30 = .ok (.iaload, 1) := by decide +kernel
theorem dX5_onward_31 : decode cX5_onward 31 = .ok (.aload_n 0, 1) := by decide +kernel
theorem dX5_onward_32 : decode cX5_onward 32 = .ok (.getfield 22, 3) := by decide +kernel
theorem dX5_onward_35 : decode cX5_onward 35 = .ok (.aload_n 0, 1) := by decide +kernel
theorem dX5_onward_36 : decode cX5_onward 36 = .ok (.getfield 34, 3) := by decide +kernel
theorem dX5_onward_39 : decode cX5_onward 39 = .ok (.iload_n 1, 1) := by decide +kernel
theorem dX5_onward_40 : decode cX5_onward 40 = .ok (.iaload, 1) := by decide +kernel
theorem dX5_onward_41 : decode cX5_onward 41 = .ok (.iaload, 1) := by decide +kernel
theorem dX5_onward_42 : decode cX5_onward 42 = .ok (.iload_n 2, 1) := by decide +kernel
theorem dX5_onward_43 : decode cX5_onward 43 = .ok (.iload_n 3, 1) := by decide +kernel
theorem dX5_onward_44 : decode cX5_onward 44 = .ok (.iload 4, 2) := by decide +kernel
theorem dX5_onward_46 : decode cX5_onward 46 = .ok (.iload 6, 2) := by decide +kernel
theorem dX5_onward_48 : decode cX5_onward 48 = .ok (.invokevirtual 95, 3) := by decide +kernel
theorem dX5_onward_51 : decode cX5_onward 51 = .ok (.goto 4, 3) := by decide +kernel
theorem dX5_onward_54 : decode cX5_onward 54 = .ok (.iconst 0, 1) := by decide +kernel
theorem dX5_onward_55 : decode cX5_onward 55 = .ok (.istore 7, 2) := by decide +kernel
theorem dX5_onward_57 : decode cX5_onward 57 = .ok (.iconst 0, 1) := by decide +kernel
theorem dX5_onward_58 : decode cX5_onward 58 = .ok (.istore 8, 2) := by decide +kernel
theorem dX5_onward_60 : decode cX5_onward 60 = .ok (.iload 8, 2) := by decide +kernel
theorem dX5_onward_62 : decode cX5_onward 62 = .ok (.bipush 25, 2) := by decide +kernel
theorem dX5_onward_64 : decode cX5_onward 64 = .ok (.if_icmp .ge 75, 3) := by decide +kernel
theorem dX5_onward_67 : decode cX5_onward 67 = .ok (.iload 7, 2) := by decide +kernel
theorem dX5_onward_69 : decode cX5_onward 69 = .ok (.iload 8, 2) := by decide +kernel
theorem dX5_onward_71 : decode cX5_onward 71 = .ok (.ishr, 1) := by decide +kernel
theorem dX5_onward_72 : decode cX5_onward 72 = .ok (.iconst 1, 1) := by decide +kernel
theorem dX5_onward_73 : decode cX5_onward 73 = .ok (.iand, 1) := by decide +kernel
theorem dX5_onward_74 : decode cX5_onward 74 = .ok (.iconst 1, 1) := by decide +kernel
theorem dX5_onward_75 : decode cX5_onward 75 = .ok (.if_icmp .ne 58, 3) := by decide +kernel
theorem dX5_onward_78 : decode cX5_onward 78 = .ok (.aload_n 0, 1) := by decide +kernel
theorem dX5_onward_79 : decode cX5_onward 79 = .ok (.iload_n 1, 1) := by decide +kernel
theorem dX5_onward_80 : decode cX5_onward 80 = .ok (.iload_n 3, 1) := by decide +kernel
theorem dX5_onward_81 : decode cX5_onward 81 = .ok (.iconst 1, 1) := by decide +kernel
theorem dX5_onward_82 : decode cX5_onward 82 = .ok (.iload 8, 2) := by decide +kernel
theorem dX5_onward_84 : decode cX5_onward 84 = .ok (.ishl, 1) := by decide +kernel
theorem dX5_onward_85 : decode cX5_onward 85 = .ok (.iconst (-1), 1) := by decide +kernel
theorem dX5_onward_86 : decode cX5_onward 86 = .ok (.ixor, 1) := by decide +kernel
theorem dX5_onward_87 : decode cX5_onward 87 = .ok (.iand, 1) := by decide +kernel
theorem dX5_onward_88 : decode cX5_onward 88 = .ok (.iload_n 2, 1) := by decide +kernel
theorem dX5_onward_89 : decode cX5_onward 89 = .ok (.iconst 1, 1) := by decide +kernel
theorem dX5_onward_90 : decode cX5_onward 90 = .ok (.iload 6, 2) := by decide +kernel
theorem dX5_onward_92 : decode cX5_onward 92 = .ok (.ishl, 1) := by decide +kernel
theorem dX5_onward_93 : decode cX5_onward 93 = .ok (.iconst (-1), 1) := by decide +kernel
theorem dX5_onward_94 : decode cX5_onward 94 = .ok (.ixor, 1) := by decide +kernel
theorem dX5_onward_95 : decode cX5_onward 95 = .ok (.iand, 1) := by decide +kernel
theorem dX5_onward_96 : decode cX5_onward 96 = .ok (.iconst 1, 1) := by decide +kernel
theorem dX5_onward_97 : decode cX5_onward 97 = .ok (.iload 8, 2) := by decide +kernel
theorem dX5_onward_99 : decode cX5_onward 99 = .ok (.ishl, 1) := by decide +kernel
theorem dX5_onward_100 : decode cX5_onward 100 = .ok (.ior, 1) := by decide +kernel
theorem dX5_onward_101 : decode cX5_onward 101 = .ok (.iload 4, 2) := by decide +kernel
theorem dX5_onward_103 : decode cX5_onward 103 = .ok (.ifCond .ne 7, 3) := by decide +kernel
theorem dX5_onward_106 : decode cX5_onward 106 = .ok (.iconst 1, 1) := by decide +kernel
theorem dX5_onward_107 : decode cX5_onward 107 = .ok (.goto 4, 3) := by decide +kernel
theorem dX5_onward_110 : decode cX5_onward 110 = .ok (.iconst 0, 1) := by decide +kernel
theorem dX5_onward_111 : decode cX5_onward 111 = .ok (.invokevirtual 137, 3) := by decide +kernel
theorem dX5_onward_114 : decode cX5_onward 114 = .ok (.ineg, 1) := by decide +kernel
theorem dX5_onward_115 : decode cX5_onward 115 = .ok (.istore 9, 2) := by decide +kernel
theorem dX5_onward_117 : decode cX5_onward 117 = .ok (.iload 9, 2) := by decide +kernel
theorem dX5_onward_119 : decode cX5_onward 119 = .ok (.iload 5, 2) := by decide +kernel
theorem dX5_onward_121 : decode cX5_onward 121 = .ok (.if_icmp .le 8, 3) := by decide +kernel
theorem dX5_onward_124 : decode cX5_onward 124 = .ok (.iload 9, 2) := by decide +kernel
theorem dX5_onward_126 : decode cX5_onward 126 = .ok (.goto 5, 3) := by decide +kernel
theorem dX5_onward_129 : decode cX5_onward 129 = .ok (.iload 5, 2) := by decide +kernel
theorem dX5_onward_131 : decode cX5_onward 131 = .ok (.istore 5, 2) := by decide +kernel
theorem dX5_onward_133 : decode cX5_onward 133 = .ok (.iinc 8 1, 3) := by decide +kernel
theorem dX5_onward_136 : decode cX5_onward 136 = .ok (.goto (-76), 3) := by decide +kernel
theorem dX5_onward_139 : decode cX5_onward 139 = .ok (.iinc 6 1, 3) := by decide +kernel
theorem dX5_onward_142 : decode cX5_onward 142 = .ok (.goto (-135), 3) := by decide +kernel
theorem dX5_onward_145 : decode cX5_onward 145 = .ok (.iload 5, 2) := by decide +kernel
theorem dX5_onward_147 : decode cX5_onward 147 = .ok (.ireturn, 1) := by decide +kernel
set_option maxRecDepth 20000 in
theorem ggX5_farther_X5_goes : GoodIn wsX5_farther wsX5_goes := goodIn_r _ [8, 9, 10, 11, 12, 7, 13, 14, 15, 16, 17, 18, 19, 20, 36, 37, 38, 39, 40, 41, 42, 43, 44, 45, 46, 47, 48, 49, 50, 51, 52, 53, 54, 55] (by decide +kernel) (by decide +kernel)
set_option maxRecDepth 20000 in
theorem gX5_farther_X5_goes : GoodIn wsX5_farther (wsV RX5 95 RX5 yX5_goes wsX5_goes) := goodIn_app (goodIn_of _ (by decide +kernel)) ggX5_farther_X5_goes
set_option maxRecDepth 20000 in
theorem ggX5_farther_X5_onward : GoodIn wsX5_farther wsX5_onward := goodIn_r _ [24, 1, 2, 3, 4, 5, 6, 7, 8, 9, 10, 11, 12, 13, 14, 15, 16, 17, 18, 19, 20, 25, 26, 27, 28, 29, 30, 31, 32, 33, 34, 35, 36, 37, 38, 39, 40, 41, 42, 43, 44, 45, 46, 47, 48, 49, 50, 51, 52, 53, 54, 55] (by decide +kernel) (by decide +kernel)
set_option maxRecDepth 20000 in
theorem gX5_farther_X5_onward : GoodIn wsX5_farther (wsV RX5 141 RX5 yX5_onward wsX5_onward) := goodIn_app (goodIn_of _ (by decide +kernel)) ggX5_farther_X5_onward
theorem dX5_farther_0 : decode cX5_farther 0 = .ok (.bipush (-100), 2) := by decide +kernel
theorem dX5_farther_2 : decode cX5_farther 2 = .ok (.istore 5, 2) := by decide +kernel
theorem dX5_farther_4 : decode cX5_farther 4 = .ok (.iconst 0, 1) := by decide +kernel
theorem dX5_farther_5 : decode cX5_farther 5 = .ok (.istore 6, 2) := by decide +kernel
theorem dX5_farther_7 : decode cX5_farther 7 = .ok (.iload 6, 2) := by decide +kernel
theorem dX5_farther_9 : decode cX5_farther 9 = .ok (.bipush 25, 2) := by decide +kernel
theorem dX5_farther_11 : decode cX5_farther 11 = .ok (.if_icmp .ge 134, 3) := by decide +kernel
theorem dX5_farther_14 : decode cX5_farther 14 = .ok (.iload_n 2, 1) := by decide +kernel
theorem dX5_farther_15 : decode cX5_farther 15 = .ok (.iload 6, 2) := by decide +kernel
theorem dX5_farther_17 : decode cX5_farther 17 = .ok (.ishr, 1) := by decide +kernel
theorem dX5_farther_18 : decode cX5_farther 18 = .ok (.iconst 1, 1) := by decide +kernel
theorem dX5_farther_19 : decode cX5_farther 19 = .ok (.iand, 1) := by decide +kernel
theorem dX5_farther_20 : decode cX5_farther 20 = .ok (.iconst 1, 1) := by decide +kernel
theorem dX5_farther_21 : decode cX5_farther 21 = .ok (.if_icmp .ne 33, 3) := by decide +kernel
theorem dX5_farther_24 : decode cX5_farther 24 = .ok (.aload_n 0, 1) := by decide +kernel
theorem dX5_farther_25 : decode cX5_farther 25 = .ok (.aload_n 0, 1) := by decide +kernel
theorem dX5_farther_26 : decode cX5_farther 26 = .ok (.getfield 37, 3) := by decide +kernel
theorem dX5_farther_29 : decode cX5_farther 29 = .ok (.iload_n 1, 1) := by decide +kernel
theorem dX5_farther_30 : decode cX5_farther 30 = .ok (.iaload, 1) := by decide +kernel
theorem dX5_farther_31 : decode cX5_farther 31 = .ok (.aload_n 0, 1) := by decide +kernel
theorem dX5_farther_32 : decode cX5_farther 32 = .ok (.getfield 22, 3) := by decide +kernel
theorem dX5_farther_35 : decode cX5_farther 35 = .ok (.aload_n 0, 1) := by decide +kernel
theorem dX5_farther_36 : decode cX5_farther 36 = .ok (.getfield 34, 3) := by decide +kernel
theorem dX5_farther_39 : decode cX5_farther 39 = .ok (.iload_n 1, 1) := by decide +kernel
theorem dX5_farther_40 : decode cX5_farther 40 = .ok (.iaload, 1) := by decide +kernel
theorem dX5_farther_41 : decode cX5_farther 41 = .ok (.iaload, 1) := by decide +kernel
theorem dX5_farther_42 : decode cX5_farther 42 = .ok (.iload_n 2, 1) := by decide +kernel
theorem dX5_farther_43 : decode cX5_farther 43 = .ok (.iload_n 3, 1) := by decide +kernel
theorem dX5_farther_44 : decode cX5_farther 44 = .ok (.iload 4, 2) := by decide +kernel
theorem dX5_farther_46 : decode cX5_farther 46 = .ok (.iload 6, 2) := by decide +kernel
theorem dX5_farther_48 : decode cX5_farther 48 = .ok (.invokevirtual 95, 3) := by decide +kernel
theorem dX5_farther_51 : decode cX5_farther 51 = .ok (.goto 4, 3) := by decide +kernel
theorem dX5_farther_54 : decode cX5_farther 54 = .ok (.iconst 0, 1) := by decide +kernel
theorem dX5_farther_55 : decode cX5_farther 55 = .ok (.istore 7, 2) := by decide +kernel
theorem dX5_farther_57 : decode cX5_farther 57 = .ok (.iconst 0, 1) := by decide +kernel
theorem dX5_farther_58 : decode cX5_farther 58 = .ok (.istore 8, 2) := by decide +kernel
theorem dX5_farther_60 : decode cX5_farther 60 = .ok (.iload 8, 2) := by decide +kernel
theorem dX5_farther_62 : decode cX5_farther 62 = .ok (.bipush 25, 2) := by decide +kernel
theorem dX5_farther_64 : decode cX5_farther 64 = .ok (.if_icmp .ge 75, 3) := by decide +kernel
theorem dX5_farther_67 : decode cX5_farther 67 = .ok (.iload 7, 2) := by decide +kernel
theorem dX5_farther_69 : decode cX5_farther 69 = .ok (.iload 8, 2) := by decide +kernel
theorem dX5_farther_71 : decode cX5_farther 71 = .ok (.ishr, 1) := by decide +kernel
theorem dX5_farther_72 : decode cX5_farther 72 = .ok (.iconst 1, 1) := by decide +kernel
theorem dX5_farther_73 : decode cX5_farther 73 = .ok (.iand, 1) := by decide +kernel
theorem dX5_farther_74 : decode cX5_farther 74 = .ok (.iconst 1, 1) := by decide +kernel
theorem dX5_farther_75 : decode cX5_farther 75 = .ok (.if_icmp .ne 58, 3) := by decide +kernel
theorem dX5_farther_78 : decode cX5_farther 78 = .ok (.aload_n 0, 1) := by decide +kernel
theorem dX5_farther_79 : decode cX5_farther 79 = .ok (.iload_n 1, 1) := by decide +kernel
theorem dX5_farther_80 : decode cX5_farther 80 = .ok (.iload_n 3, 1) := by decide +kernel
theorem dX5_farther_81 : decode cX5_farther 81 = .ok (.iconst 1, 1) := by decide +kernel
theorem dX5_farther_82 : decode cX5_farther 82 = .ok (.iload 8, 2) := by decide +kernel
theorem dX5_farther_84 : decode cX5_farther 84 = .ok (.ishl, 1) := by decide +kernel
theorem dX5_farther_85 : decode cX5_farther 85 = .ok (.iconst (-1), 1) := by decide +kernel
theorem dX5_farther_86 : decode cX5_farther 86 = .ok (.ixor, 1) := by decide +kernel
theorem dX5_farther_87 : decode cX5_farther 87 = .ok (.iand, 1) := by decide +kernel
theorem dX5_farther_88 : decode cX5_farther 88 = .ok (.iload_n 2, 1) := by decide +kernel
theorem dX5_farther_89 : decode cX5_farther 89 = .ok (.iconst 1, 1) := by decide +kernel
theorem dX5_farther_90 : decode cX5_farther 90 = .ok (.iload 6, 2) := by decide +kernel
theorem dX5_farther_92 : decode cX5_farther 92 = .ok (.ishl, 1) := by decide +kernel
theorem dX5_farther_93 : decode cX5_farther 93 = .ok (.iconst (-1), 1) := by decide +kernel
theorem dX5_farther_94 : decode cX5_farther 94 = .ok (.ixor, 1) := by decide +kernel
theorem dX5_farther_95 : decode cX5_farther 95 = .ok (.iand, 1) := by decide +kernel
theorem dX5_farther_96 : decode cX5_farther 96 = .ok (.iconst 1, 1) := by decide +kernel
theorem dX5_farther_97 : decode cX5_farther 97 = .ok (.iload 8, 2) := by decide +kernel
theorem dX5_farther_99 : decode cX5_farther 99 = .ok (.ishl, 1) := by decide +kernel
theorem dX5_farther_100 : decode cX5_farther 100 = .ok (.ior, 1) := by decide +kernel
theorem dX5_farther_101 : decode cX5_farther 101 = .ok (.iload 4, 2) := by decide +kernel
theorem dX5_farther_103 : decode cX5_farther 103 = .ok (.ifCond .ne 7, 3) := by decide +kernel
theorem dX5_farther_106 : decode cX5_farther 106 = .ok (.iconst 1, 1) := by decide +kernel
theorem dX5_farther_107 : decode cX5_farther 107 = .ok (.goto 4, 3) := by decide +kernel
theorem dX5_farther_110 : decode cX5_farther 110 = .ok (.iconst 0, 1) := by decide +kernel
theorem dX5_farther_111 : decode cX5_farther 111 = .ok (.invokevirtual 141, 3) := by decide +kernel
theorem dX5_farther_114 : decode cX5_farther 114 = .ok (.ineg, 1) := by decide +kernel
theorem dX5_farther_115 : decode cX5_farther 115 = .ok (.istore 9, 2) := by decide +kernel
theorem dX5_farther_117 : decode cX5_farther 117 = .ok (.iload 9, 2) := by decide +kernel
theorem dX5_farther_119 : decode cX5_farther 119 = .ok (.iload 5, 2) := by decide +kernel
theorem dX5_farther_121 : decode cX5_farther 121 = .ok (.if_icmp .le 8, 3) := by decide +kernel
theorem dX5_farther_124 : decode cX5_farther 124 = .ok (.iload 9, 2) := by decide +kernel
theorem dX5_farther_126 : decode cX5_farther 126 = .ok (.goto 5, 3) := by decide +kernel
theorem dX5_farther_129 : decode cX5_farther 129 = .ok (.iload 5, 2) := by decide +kernel
theorem dX5_farther_131 : decode cX5_farther 131 = .ok (.istore 5, 2) := by decide +kernel
theorem dX5_farther_133 : decode cX5_farther 133 = .ok (.iinc 8 1, 3) := by decide +kernel
theorem dX5_farther_136 : decode cX5_farther 136 = .ok (.goto (-76), 3) := by decide +kernel
theorem dX5_farther_139 : decode cX5_farther 139 = .ok (.iinc 6 1, 3) := by decide +kernel
theorem dX5_farther_142 : decode cX5_farther 142 = .ok (.goto (-135), 3) := by decide +kernel
theorem dX5_farther_145 : decode cX5_farther 145 = .ok (.iload 5, 2) := by decide +kernel
theorem dX5_farther_147 : decode cX5_farther 147 = .ok (.ireturn, 1) := by decide +kernel
set_option maxRecDepth 20000 in
theorem ggX5_valueAt_X5_piecesOf : GoodIn wsX5_valueAt wsX5_piecesOf := goodIn_r _ [5, 6, 7, 8, 9, 10, 4, 11, 12, 13, 14, 15, 16, 55, 56, 57, 58, 59, 60, 61, 62, 63, 64, 65, 66, 67, 68, 69, 70, 71, 72, 73, 74] (by decide +kernel) (by decide +kernel)
set_option maxRecDepth 20000 in
theorem gX5_valueAt_X5_piecesOf : GoodIn wsX5_valueAt (wsV RX5 121 RX5 yX5_piecesOf wsX5_piecesOf) := goodIn_app (goodIn_of _ (by decide +kernel)) ggX5_valueAt_X5_piecesOf
set_option maxRecDepth 20000 in
theorem ggX5_valueAt_X5_isSecondsTurn : GoodIn wsX5_valueAt wsX5_isSecondsTurn := goodIn_r _ [11, 12, 55, 56, 57, 58, 59, 60, 61, 62, 63, 64, 65, 66, 67, 68, 69, 70, 71, 72, 73, 74] (by decide +kernel) (by decide +kernel)
set_option maxRecDepth 20000 in
theorem gX5_valueAt_X5_isSecondsTurn : GoodIn wsX5_valueAt (wsV RX5 115 RX5 yX5_isSecondsTurn wsX5_isSecondsTurn) := goodIn_app (goodIn_of _ (by decide +kernel)) ggX5_valueAt_X5_isSecondsTurn
set_option maxRecDepth 20000 in
theorem ggX5_valueAt_X5_standing : GoodIn wsX5_valueAt wsX5_standing := goodIn_r _ [20, 21, 22, 23, 24, 25, 26, 4, 27, 28, 29, 30, 31, 32, 33, 34, 35, 36, 37, 38, 39, 40, 41, 42, 43, 44, 45, 46, 55, 56, 57, 58, 59, 60, 61, 62, 63, 64, 65, 66, 67, 68, 69, 70, 71, 72, 73, 74] (by decide +kernel) (by decide +kernel)
set_option maxRecDepth 20000 in
theorem gX5_valueAt_X5_standing : GoodIn wsX5_valueAt (wsV RX5 137 RX5 yX5_standing wsX5_standing) := goodIn_app (goodIn_of _ (by decide +kernel)) ggX5_valueAt_X5_standing
set_option maxRecDepth 20000 in
theorem ggX5_valueAt_X5_onward : GoodIn wsX5_valueAt wsX5_onward := goodIn_r _ [50, 21, 22, 23, 28, 29, 30, 4, 31, 32, 33, 34, 35, 36, 37, 38, 39, 40, 41, 42, 43, 17, 18, 19, 20, 24, 25, 26, 27, 44, 45, 46, 55, 56, 57, 58, 59, 60, 61, 62, 63, 64, 65, 66, 67, 68, 69, 70, 71, 72, 73, 74] (by decide +kernel) (by decide +kernel)
set_option maxRecDepth 20000 in
theorem gX5_valueAt_X5_onward : GoodIn wsX5_valueAt (wsV RX5 141 RX5 yX5_onward wsX5_onward) := goodIn_app (goodIn_of _ (by decide +kernel)) ggX5_valueAt_X5_onward
set_option maxRecDepth 20000 in
theorem ggX5_valueAt_X5_farther : GoodIn wsX5_valueAt wsX5_farther := goodIn_r _ [54, 21, 22, 23, 28, 29, 30, 4, 31, 32, 33, 34, 35, 36, 37, 38, 39, 40, 41, 42, 43, 47, 48, 49, 50, 17, 18, 19, 20, 24, 25, 26, 27, 44, 45, 46, 55, 56, 57, 58, 59, 60, 61, 62, 63, 64, 65, 66, 67, 68, 69, 70, 71, 72, 73, 74] (by decide +kernel) (by decide +kernel)
set_option maxRecDepth 20000 in
theorem gX5_valueAt_X5_farther : GoodIn wsX5_valueAt (wsV RX5 144 RX5 yX5_farther wsX5_farther) := goodIn_app (goodIn_of _ (by decide +kernel)) ggX5_valueAt_X5_farther
theorem dX5_valueAt_0 : decode cX5_valueAt 0 = .ok (.aload_n 0, 1) := by decide +kernel
theorem dX5_valueAt_1 : decode cX5_valueAt 1 = .ok (.iload_n 1, 1) := by decide +kernel
theorem dX5_valueAt_2 : decode cX5_valueAt 2 = .ok (.iconst 1, 1) := by decide +kernel
theorem dX5_valueAt_3 : decode cX5_valueAt 3 = .ok (.invokevirtual 121, 3) := by decide +kernel
theorem dX5_valueAt_6 : decode cX5_valueAt 6 = .ok (.istore_n 3, 1) := by decide +kernel
theorem dX5_valueAt_7 : decode cX5_valueAt 7 = .ok (.aload_n 0, 1) := by decide +kernel
theorem dX5_valueAt_8 : decode cX5_valueAt 8 = .ok (.iload_n 1, 1) := by decide +kernel
theorem dX5_valueAt_9 : decode cX5_valueAt 9 = .ok (.iconst 0, 1) := by decide +kernel
theorem dX5_valueAt_10 : decode cX5_valueAt 10 = .ok (.invokevirtual 121, 3) := by decide +kernel
theorem dX5_valueAt_13 : decode cX5_valueAt 13 = .ok (.istore 4, 2) := by decide +kernel
theorem dX5_valueAt_15 : decode cX5_valueAt 15 = .ok (.aload_n 0, 1) := by decide +kernel
theorem dX5_valueAt_16 : decode cX5_valueAt 16 = .ok (.iload_n 1, 1) := by decide +kernel
theorem dX5_valueAt_17 : decode cX5_valueAt 17 = .ok (.invokevirtual 115, 3) := by decide +kernel
theorem dX5_valueAt_20 : decode cX5_valueAt 20 = .ok (.istore 5, 2) := by decide +kernel
theorem dX5_valueAt_22 : decode cX5_valueAt 22 = .ok (.iload_n 2, 1) := by decide +kernel
theorem dX5_valueAt_23 : decode cX5_valueAt 23 = .ok (.ifCond .ne 16, 3) := by decide +kernel
theorem dX5_valueAt_26 : decode cX5_valueAt 26 = .ok (.aload_n 0, 1) := by decide +kernel
theorem dX5_valueAt_27 : decode cX5_valueAt 27 = .ok (.iload_n 1, 1) := by decide +kernel
theorem dX5_valueAt_28 : decode cX5_valueAt 28 = .ok (.iload_n 3, 1) := by decide +kernel
theorem dX5_valueAt_29 : decode cX5_valueAt 29 = .ok (.iload 4, 2) := by decide +kernel
theorem dX5_valueAt_31 : decode cX5_valueAt 31 = .ok (.iload 5, 2) := by decide +kernel
theorem dX5_valueAt_33 : decode cX5_valueAt 33 = .ok (.invokevirtual 137, 3) := by decide +kernel
theorem dX5_valueAt_36 : decode cX5_valueAt 36 = .ok (.goto 31, 3) := by decide +kernel
theorem dX5_valueAt_39 : decode cX5_valueAt 39 = .ok (.iload_n 2, 1) := by decide +kernel
theorem dX5_valueAt_40 : decode cX5_valueAt 40 = .ok (.iconst 1, 1) := by decide +kernel
theorem dX5_valueAt_41 : decode cX5_valueAt 41 = .ok (.if_icmp .ne 16, 3) := by decide +kernel
theorem dX5_valueAt_44 : decode cX5_valueAt 44 = .ok (.aload_n 0, 1) := by decide +kernel
theorem dX5_valueAt_45 : decode cX5_valueAt 45 = .ok (.iload_n 1, 1) := by decide +kernel
theorem dX5_valueAt_46 : decode cX5_valueAt 46 = .ok (.iload_n 3, 1) := by decide +kernel
theorem dX5_valueAt_47 : decode cX5_valueAt 47 = .ok (.iload 4, 2) := by decide +kernel
theorem dX5_valueAt_49 : decode cX5_valueAt 49 = .ok (.iload 5, 2) := by decide +kernel
theorem dX5_valueAt_51 : decode cX5_valueAt 51 = .ok (.invokevirtual 141, 3) := by decide +kernel
theorem dX5_valueAt_54 : decode cX5_valueAt 54 = .ok (.goto 13, 3) := by decide +kernel
theorem dX5_valueAt_57 : decode cX5_valueAt 57 = .ok (.aload_n 0, 1) := by decide +kernel
theorem dX5_valueAt_58 : decode cX5_valueAt 58 = .ok (.iload_n 1, 1) := by decide +kernel
theorem dX5_valueAt_59 : decode cX5_valueAt 59 = .ok (.iload_n 3, 1) := by decide +kernel
theorem dX5_valueAt_60 : decode cX5_valueAt 60 = .ok (.iload 4, 2) := by decide +kernel
theorem dX5_valueAt_62 : decode cX5_valueAt 62 = .ok (.iload 5, 2) := by decide +kernel
theorem dX5_valueAt_64 : decode cX5_valueAt 64 = .ok (.invokevirtual 144, 3) := by decide +kernel
theorem dX5_valueAt_67 : decode cX5_valueAt 67 = .ok (.ireturn, 1) := by decide +kernel
set_option maxRecDepth 20000 in
theorem ggX5_asksValue_X5_isGame : GoodIn wsX5_asksValue wsX5_isGame := goodIn_r _ [5, 6, 73, 74, 75, 76, 77, 78, 79, 80, 81, 82, 83, 84, 85, 86, 87, 88, 89, 90, 91, 92] (by decide +kernel) (by decide +kernel)
set_option maxRecDepth 20000 in
theorem gX5_asksValue_X5_isGame : GoodIn wsX5_asksValue (wsV RX5 125 RX5 yX5_isGame wsX5_isGame) := goodIn_app (goodIn_of _ (by decide +kernel)) ggX5_asksValue_X5_isGame
set_option maxRecDepth 20000 in
theorem ggX5_asksValue_X5_asks : GoodIn wsX5_asksValue wsX5_asks := goodIn_r _ [10, 11, 73, 74, 75, 76, 77, 78, 79, 80, 81, 82, 83, 84, 85, 86, 87, 88, 89, 90, 91, 92] (by decide +kernel) (by decide +kernel)
set_option maxRecDepth 20000 in
theorem gX5_asksValue_X5_asks : GoodIn wsX5_asksValue (wsV RX5 72 RX5 yX5_asks wsX5_asks) := goodIn_app (goodIn_of _ (by decide +kernel)) ggX5_asksValue_X5_asks
set_option maxRecDepth 20000 in
theorem ggX5_asksValue_X5_in : GoodIn wsX5_asksValue wsX5_in := goodIn_r _ [14] (by decide +kernel) (by decide +kernel)
set_option maxRecDepth 20000 in
theorem gX5_asksValue_X5_in : GoodIn wsX5_asksValue (va_wsS RX5 68 yX5_in wsX5_in) := goodIn_app (goodIn_of _ (by decide +kernel)) ggX5_asksValue_X5_in
set_option maxRecDepth 20000 in
theorem ggX5_asksValue_X5_valueAt : GoodIn wsX5_asksValue wsX5_valueAt := goodIn_r _ [18, 19, 20, 21, 4, 22, 23, 24, 25, 26, 27, 28, 29, 30, 31, 32, 33, 34, 35, 36, 37, 38, 39, 40, 41, 42, 43, 44, 45, 46, 47, 48, 49, 50, 51, 52, 53, 54, 55, 56, 57, 12, 13, 14, 58, 59, 60, 61, 62, 63, 64, 65, 66, 67, 68, 73, 74, 75, 76, 77, 78, 79, 80, 81, 82, 83, 84, 85, 86, 87, 88, 89, 90, 91, 92] (by decide +kernel) (by decide +kernel)
set_option maxRecDepth 20000 in
theorem gX5_asksValue_X5_valueAt : GoodIn wsX5_asksValue (wsV RX5 147 RX5 yX5_valueAt wsX5_valueAt) := goodIn_app (goodIn_of _ (by decide +kernel)) ggX5_asksValue_X5_valueAt
set_option maxRecDepth 20000 in
theorem ggX5_asksValue_X5_fails : GoodIn wsX5_asksValue wsX5_fails := goodIn_r _ [72, 11, 73, 74, 75, 76, 77, 78, 79, 80, 81, 82, 83, 84, 85, 86, 87, 88, 89, 90, 91, 92] (by decide +kernel) (by decide +kernel)
set_option maxRecDepth 20000 in
theorem gX5_asksValue_X5_fails : GoodIn wsX5_asksValue (wsV RX5 79 RX5 yX5_fails wsX5_fails) := goodIn_app (goodIn_of _ (by decide +kernel)) ggX5_asksValue_X5_fails
theorem dX5_asksValue_0 : decode cX5_asksValue 0 = .ok (.aload_n 0, 1) := by decide +kernel
theorem dX5_asksValue_1 : decode cX5_asksValue 1 = .ok (.aload_n 0, 1) := by decide +kernel
theorem dX5_asksValue_2 : decode cX5_asksValue 2 = .ok (.iload_n 1, 1) := by decide +kernel
theorem dX5_asksValue_3 : decode cX5_asksValue 3 = .ok (.invokevirtual 125, 3) := by decide +kernel
theorem dX5_asksValue_6 : decode cX5_asksValue 6 = .ok (.invokevirtual 72, 3) := by decide +kernel
theorem dX5_asksValue_9 : decode cX5_asksValue 9 = .ok (.ifCond .ne 5, 3) := by decide +kernel
theorem dX5_asksValue_12 : decode cX5_asksValue 12 = .ok (.iconst 0, 1) := by decide +kernel
theorem dX5_asksValue_13 : decode cX5_asksValue 13 = .ok (.ireturn, 1) := by decide +kernel
theorem dX5_asksValue_14 : decode cX5_asksValue 14 = .ok (.iload_n 2, 1) := by decide +kernel
theorem dX5_asksValue_15 : decode cX5_asksValue 15 = .ok (.iconst 0, 1) := by decide +kernel
theorem dX5_asksValue_16 : decode cX5_asksValue 16 = .ok (.iconst 2, 1) := by decide +kernel
theorem dX5_asksValue_17 : decode cX5_asksValue 17 = .ok (.invokestatic 68, 3) := by decide +kernel
theorem dX5_asksValue_20 : decode cX5_asksValue 20 = .ok (.ifCond .eq 12, 3) := by decide +kernel
theorem dX5_asksValue_23 : decode cX5_asksValue 23 = .ok (.aload_n 0, 1) := by decide +kernel
theorem dX5_asksValue_24 : decode cX5_asksValue 24 = .ok (.iload_n 1, 1) := by decide +kernel
theorem dX5_asksValue_25 : decode cX5_asksValue 25 = .ok (.iload_n 2, 1) := by decide +kernel
theorem dX5_asksValue_26 : decode cX5_asksValue 26 = .ok (.invokevirtual 147, 3) := by decide +kernel
theorem dX5_asksValue_29 : decode cX5_asksValue 29 = .ok (.goto 8, 3) := by decide +kernel
theorem dX5_asksValue_32 : decode cX5_asksValue 32 = .ok (.aload_n 0, 1) := by decide +kernel
theorem dX5_asksValue_33 : decode cX5_asksValue 33 = .ok (.iconst 2, 1) := by decide +kernel
theorem dX5_asksValue_34 : decode cX5_asksValue 34 = .ok (.invokevirtual 79, 3) := by decide +kernel
theorem dX5_asksValue_37 : decode cX5_asksValue 37 = .ok (.ireturn, 1) := by decide +kernel
set_option maxRecDepth 20000 in
theorem ggX5_value_X5_asksValue : GoodIn wsX5_value wsX5_asksValue := goodIn_r _ [5, 6, 7, 8, 4, 9, 10, 11, 12, 13, 14, 15, 16, 17, 18, 19, 20, 21, 22, 23, 24, 25, 26, 27, 28, 29, 30, 31, 32, 33, 34, 35, 36, 37, 38, 39, 40, 41, 42, 43, 44, 45, 46, 47, 48, 49, 50, 51, 52, 53, 54, 55, 56, 57, 58, 59, 60, 61, 62, 63, 64, 65, 66, 67, 68, 69, 70, 71, 72, 73, 74, 75, 76, 77, 78, 79, 80, 81, 82, 83, 84, 85, 86, 87, 88, 89, 90, 91, 92, 93, 94, 95, 96] (by decide +kernel) (by decide +kernel)
set_option maxRecDepth 20000 in
theorem gX5_value_X5_asksValue : GoodIn wsX5_value (wsV RX5 151 RX5 yX5_asksValue wsX5_asksValue) := goodIn_app (goodIn_of _ (by decide +kernel)) ggX5_value_X5_asksValue
theorem dX5_value_0 : decode cX5_value 0 = .ok (.aload_n 0, 1) := by decide +kernel
theorem dX5_value_1 : decode cX5_value 1 = .ok (.iload_n 1, 1) := by decide +kernel
theorem dX5_value_2 : decode cX5_value 2 = .ok (.iload_n 2, 1) := by decide +kernel
theorem dX5_value_3 : decode cX5_value 3 = .ok (.invokevirtual 151, 3) := by decide +kernel
theorem dX5_value_6 : decode cX5_value 6 = .ok (.ireturn, 1) := by decide +kernel
set_option maxRecDepth 20000 in
theorem ggX5_valueByAll_X5_asksValue : GoodIn wsX5_valueByAll wsX5_asksValue := goodIn_r _ [5, 6, 7, 8, 4, 9, 10, 11, 12, 13, 14, 15, 16, 17, 18, 19, 20, 21, 22, 23, 24, 25, 26, 27, 28, 29, 30, 31, 32, 33, 34, 35, 36, 37, 38, 39, 40, 41, 42, 43, 44, 45, 46, 47, 48, 49, 50, 51, 52, 53, 54, 55, 56, 57, 58, 59, 60, 61, 62, 63, 64, 65, 66, 67, 68, 69, 70, 71, 72, 73, 74, 75, 76, 77, 78, 79, 80, 81, 82, 83, 84, 85, 86, 87, 88, 89, 90, 91, 92, 93, 94, 95, 96] (by decide +kernel) (by decide +kernel)
set_option maxRecDepth 20000 in
theorem gX5_valueByAll_X5_asksValue : GoodIn wsX5_valueByAll (wsV RX5 151 RX5 yX5_asksValue wsX5_asksValue) := goodIn_app (goodIn_of _ (by decide +kernel)) ggX5_valueByAll_X5_asksValue
theorem dX5_valueByAll_0 : decode cX5_valueByAll 0 = .ok (.aload_n 0, 1) := by decide +kernel
theorem dX5_valueByAll_1 : decode cX5_valueByAll 1 = .ok (.iload_n 1, 1) := by decide +kernel
theorem dX5_valueByAll_2 : decode cX5_valueByAll 2 = .ok (.iload_n 2, 1) := by decide +kernel
theorem dX5_valueByAll_3 : decode cX5_valueByAll 3 = .ok (.invokevirtual 151, 3) := by decide +kernel
theorem dX5_valueByAll_6 : decode cX5_valueByAll 6 = .ok (.ireturn, 1) := by decide +kernel
set_option maxRecDepth 20000 in
theorem ggX5_vote_X5_isPlayer : GoodIn wsX5_vote wsX5_isPlayer := goodIn_r _ [5] (by decide +kernel) (by decide +kernel)
set_option maxRecDepth 20000 in
theorem gX5_vote_X5_isPlayer : GoodIn wsX5_vote (va_wsS RX5 101 yX5_isPlayer wsX5_isPlayer) := goodIn_app (goodIn_of _ (by decide +kernel)) ggX5_vote_X5_isPlayer
set_option maxRecDepth 20000 in
theorem ggX5_vote_X5_isVariant : GoodIn wsX5_vote wsX5_isVariant := goodIn_r _ [9, 10, 19, 20, 21, 22, 23, 24, 25, 26, 27, 28, 29, 30, 31, 32, 33, 34, 35, 36, 37, 38] (by decide +kernel) (by decide +kernel)
set_option maxRecDepth 20000 in
theorem gX5_vote_X5_isVariant : GoodIn wsX5_vote (wsV RX5 88 RX5 yX5_isVariant wsX5_isVariant) := goodIn_app (goodIn_of _ (by decide +kernel)) ggX5_vote_X5_isVariant
set_option maxRecDepth 20000 in
theorem ggX5_vote_X5_asks : GoodIn wsX5_vote wsX5_asks := goodIn_r _ [14, 15, 19, 20, 21, 22, 23, 24, 25, 26, 27, 28, 29, 30, 31, 32, 33, 34, 35, 36, 37, 38] (by decide +kernel) (by decide +kernel)
set_option maxRecDepth 20000 in
theorem gX5_vote_X5_asks : GoodIn wsX5_vote (wsV RX5 72 RX5 yX5_asks wsX5_asks) := goodIn_app (goodIn_of _ (by decide +kernel)) ggX5_vote_X5_asks
set_option maxRecDepth 20000 in
theorem ggX5_vote_X5_size : GoodIn wsX5_vote wsX5_size := goodIn_r _ [18] (by decide +kernel) (by decide +kernel)
set_option maxRecDepth 20000 in
theorem gX5_vote_X5_size : GoodIn wsX5_vote (va_wsS RX5 98 yX5_size wsX5_size) := goodIn_app (goodIn_of _ (by decide +kernel)) ggX5_vote_X5_size
theorem dX5_vote_0 : decode cX5_vote 0 = .ok (.aload_n 0, 1) := by decide +kernel
theorem dX5_vote_1 : decode cX5_vote 1 = .ok (.iload_n 1, 1) := by decide +kernel
theorem dX5_vote_2 : decode cX5_vote 2 = .ok (.invokestatic 101, 3) := by decide +kernel
theorem dX5_vote_5 : decode cX5_vote 5 = .ok (.ifCond .eq 15, 3) := by decide +kernel
theorem dX5_vote_8 : decode cX5_vote 8 = .ok (.aload_n 0, 1) := by decide +kernel
theorem dX5_vote_9 : decode cX5_vote 9 = .ok (.iload_n 2, 1) := by decide +kernel
theorem dX5_vote_10 : decode cX5_vote 10 = .ok (.invokevirtual 88, 3) := by decide +kernel
theorem dX5_vote_13 : decode cX5_vote 13 = .ok (.ifCond .eq 7, 3) := by decide +kernel
theorem dX5_vote_16 : decode cX5_vote 16 = .ok (.iconst 1, 1) := by decide +kernel
theorem dX5_vote_17 : decode cX5_vote 17 = .ok (.goto 4, 3) := by decide +kernel
theorem dX5_vote_20 : decode cX5_vote 20 = .ok (.iconst 0, 1) := by decide +kernel
theorem dX5_vote_21 : decode cX5_vote 21 = .ok (.invokevirtual 72, 3) := by decide +kernel
theorem dX5_vote_24 : decode cX5_vote 24 = .ok (.ifCond .ne 5, 3) := by decide +kernel
theorem dX5_vote_27 : decode cX5_vote 27 = .ok (.iconst 0, 1) := by decide +kernel
theorem dX5_vote_28 : decode cX5_vote 28 = .ok (.ireturn, 1) := by decide +kernel
theorem dX5_vote_29 : decode cX5_vote 29 = .ok (.aload_n 0, 1) := by decide +kernel
theorem dX5_vote_30 : decode cX5_vote 30 = .ok (.getfield 28, 3) := by decide +kernel
theorem dX5_vote_33 : decode cX5_vote 33 = .ok (.iload_n 2, 1) := by decide +kernel
theorem dX5_vote_34 : decode cX5_vote 34 = .ok (.dup2, 1) := by decide +kernel
theorem dX5_vote_35 : decode cX5_vote 35 = .ok (.iaload, 1) := by decide +kernel
theorem dX5_vote_36 : decode cX5_vote 36 = .ok (.iconst 1, 1) := by decide +kernel
theorem dX5_vote_37 : decode cX5_vote 37 = .ok (.iload_n 1, 1) := by decide +kernel
theorem dX5_vote_38 : decode cX5_vote 38 = .ok (.ishl, 1) := by decide +kernel
theorem dX5_vote_39 : decode cX5_vote 39 = .ok (.ixor, 1) := by decide +kernel
theorem dX5_vote_40 : decode cX5_vote 40 = .ok (.iastore, 1) := by decide +kernel
theorem dX5_vote_41 : decode cX5_vote 41 = .ok (.aload_n 0, 1) := by decide +kernel
theorem dX5_vote_42 : decode cX5_vote 42 = .ok (.getfield 28, 3) := by decide +kernel
theorem dX5_vote_45 : decode cX5_vote 45 = .ok (.iload_n 2, 1) := by decide +kernel
theorem dX5_vote_46 : decode cX5_vote 46 = .ok (.iaload, 1) := by decide +kernel
theorem dX5_vote_47 : decode cX5_vote 47 = .ok (.invokestatic 98, 3) := by decide +kernel
theorem dX5_vote_50 : decode cX5_vote 50 = .ok (.ireturn, 1) := by decide +kernel
set_option maxRecDepth 20000 in
theorem ggX5_isBanned_X5_isVariant : GoodIn wsX5_isBanned wsX5_isVariant := goodIn_r _ [5, 6, 18, 19, 20, 21, 22, 23, 24, 25, 26, 27, 28, 29, 30, 31, 32, 33, 34, 35, 36, 37] (by decide +kernel) (by decide +kernel)
set_option maxRecDepth 20000 in
theorem gX5_isBanned_X5_isVariant : GoodIn wsX5_isBanned (wsV RX5 88 RX5 yX5_isVariant wsX5_isVariant) := goodIn_app (goodIn_of _ (by decide +kernel)) ggX5_isBanned_X5_isVariant
set_option maxRecDepth 20000 in
theorem ggX5_isBanned_X5_asks : GoodIn wsX5_isBanned wsX5_asks := goodIn_r _ [10, 11, 18, 19, 20, 21, 22, 23, 24, 25, 26, 27, 28, 29, 30, 31, 32, 33, 34, 35, 36, 37] (by decide +kernel) (by decide +kernel)
set_option maxRecDepth 20000 in
theorem gX5_isBanned_X5_asks : GoodIn wsX5_isBanned (wsV RX5 72 RX5 yX5_asks wsX5_asks) := goodIn_app (goodIn_of _ (by decide +kernel)) ggX5_isBanned_X5_asks
set_option maxRecDepth 20000 in
theorem ggX5_isBanned_X5_isBannedNow : GoodIn wsX5_isBanned wsX5_isBannedNow := goodIn_r _ [15, 16, 17, 18, 19, 20, 21, 22, 23, 24, 25, 26, 27, 28, 29, 30, 31, 32, 33, 34, 35, 36, 37] (by decide +kernel) (by decide +kernel)
set_option maxRecDepth 20000 in
theorem gX5_isBanned_X5_isBannedNow : GoodIn wsX5_isBanned (wsV RX5 108 RX5 yX5_isBannedNow wsX5_isBannedNow) := goodIn_app (goodIn_of _ (by decide +kernel)) ggX5_isBanned_X5_isBannedNow
theorem dX5_isBanned_0 : decode cX5_isBanned 0 = .ok (.aload_n 0, 1) := by decide +kernel
theorem dX5_isBanned_1 : decode cX5_isBanned 1 = .ok (.aload_n 0, 1) := by decide +kernel
theorem dX5_isBanned_2 : decode cX5_isBanned 2 = .ok (.iload_n 1, 1) := by decide +kernel
theorem dX5_isBanned_3 : decode cX5_isBanned 3 = .ok (.invokevirtual 88, 3) := by decide +kernel
theorem dX5_isBanned_6 : decode cX5_isBanned 6 = .ok (.invokevirtual 72, 3) := by decide +kernel
theorem dX5_isBanned_9 : decode cX5_isBanned 9 = .ok (.ifCond .eq 15, 3) := by decide +kernel
theorem dX5_isBanned_12 : decode cX5_isBanned 12 = .ok (.aload_n 0, 1) := by decide +kernel
theorem dX5_isBanned_13 : decode cX5_isBanned 13 = .ok (.iload_n 1, 1) := by decide +kernel
theorem dX5_isBanned_14 : decode cX5_isBanned 14 = .ok (.invokevirtual 108, 3) := by decide +kernel
theorem dX5_isBanned_17 : decode cX5_isBanned 17 = .ok (.ifCond .eq 7, 3) := by decide +kernel
theorem dX5_isBanned_20 : decode cX5_isBanned 20 = .ok (.iconst 1, 1) := by decide +kernel
theorem dX5_isBanned_21 : decode cX5_isBanned 21 = .ok (.goto 4, 3) := by decide +kernel
theorem dX5_isBanned_24 : decode cX5_isBanned 24 = .ok (.iconst 0, 1) := by decide +kernel
theorem dX5_isBanned_25 : decode cX5_isBanned 25 = .ok (.ireturn, 1) := by decide +kernel
set_option maxRecDepth 20000 in
theorem ggX5_endless_X5_isVariant : GoodIn wsX5_endless wsX5_isVariant := goodIn_r _ [6, 7, 13, 14, 15, 16, 17, 18, 19, 20, 21, 22, 23, 24, 25, 26, 27, 28, 29, 30, 31, 32] (by decide +kernel) (by decide +kernel)
set_option maxRecDepth 20000 in
theorem gX5_endless_X5_isVariant : GoodIn wsX5_endless (wsV RX5 88 RX5 yX5_isVariant wsX5_isVariant) := goodIn_app (goodIn_of _ (by decide +kernel)) ggX5_endless_X5_isVariant
set_option maxRecDepth 20000 in
theorem ggX5_endless_X5_asks : GoodIn wsX5_endless wsX5_asks := goodIn_r _ [11, 12, 13, 14, 15, 16, 17, 18, 19, 20, 21, 22, 23, 24, 25, 26, 27, 28, 29, 30, 31, 32] (by decide +kernel) (by decide +kernel)
set_option maxRecDepth 20000 in
theorem gX5_endless_X5_asks : GoodIn wsX5_endless (wsV RX5 72 RX5 yX5_asks wsX5_asks) := goodIn_app (goodIn_of _ (by decide +kernel)) ggX5_endless_X5_asks
theorem dX5_endless_0 : decode cX5_endless 0 = .ok (.aload_n 0, 1) := by decide +kernel
theorem dX5_endless_1 : decode cX5_endless 1 = .ok (.aload_n 0, 1) := by decide +kernel
theorem dX5_endless_2 : decode cX5_endless 2 = .ok (.iload_n 1, 1) := by decide +kernel
theorem dX5_endless_3 : decode cX5_endless 3 = .ok (.invokevirtual 88, 3) := by decide +kernel
theorem dX5_endless_6 : decode cX5_endless 6 = .ok (.invokevirtual 72, 3) := by decide +kernel
theorem dX5_endless_9 : decode cX5_endless 9 = .ok (.ifCond .eq 12, 3) := by decide +kernel
theorem dX5_endless_12 : decode cX5_endless 12 = .ok (.aload_n 0, 1) := by decide +kernel
theorem dX5_endless_13 : decode cX5_endless 13 = .ok (.getfield 31, 3) := by decide +kernel
theorem dX5_endless_16 : decode cX5_endless 16 = .ok (.iload_n 1, 1) := by decide +kernel
theorem dX5_endless_17 : decode cX5_endless 17 = .ok (.iaload, 1) := by decide +kernel
theorem dX5_endless_18 : decode cX5_endless 18 = .ok (.goto 4, 3) := by decide +kernel
theorem dX5_endless_21 : decode cX5_endless 21 = .ok (.iconst 0, 1) := by decide +kernel
theorem dX5_endless_22 : decode cX5_endless 22 = .ok (.ireturn, 1) := by decide +kernel
set_option maxRecDepth 20000 in
theorem ggX5_points_X5_isPlayer : GoodIn wsX5_points wsX5_isPlayer := goodIn_r _ [9] (by decide +kernel) (by decide +kernel)
set_option maxRecDepth 20000 in
theorem gX5_points_X5_isPlayer : GoodIn wsX5_points (va_wsS RX5 101 yX5_isPlayer wsX5_isPlayer) := goodIn_app (goodIn_of _ (by decide +kernel)) ggX5_points_X5_isPlayer
set_option maxRecDepth 20000 in
theorem ggX5_points_X5_isVariant : GoodIn wsX5_points wsX5_isVariant := goodIn_r _ [13, 14, 26, 27, 28, 29, 30, 31, 32, 33, 34, 35, 36, 37, 38, 39, 40, 41, 42, 43, 44, 45] (by decide +kernel) (by decide +kernel)
set_option maxRecDepth 20000 in
theorem gX5_points_X5_isVariant : GoodIn wsX5_points (wsV RX5 88 RX5 yX5_isVariant wsX5_isVariant) := goodIn_app (goodIn_of _ (by decide +kernel)) ggX5_points_X5_isVariant
set_option maxRecDepth 20000 in
theorem ggX5_points_X5_asks : GoodIn wsX5_points wsX5_asks := goodIn_r _ [18, 19, 26, 27, 28, 29, 30, 31, 32, 33, 34, 35, 36, 37, 38, 39, 40, 41, 42, 43, 44, 45] (by decide +kernel) (by decide +kernel)
set_option maxRecDepth 20000 in
theorem gX5_points_X5_asks : GoodIn wsX5_points (wsV RX5 72 RX5 yX5_asks wsX5_asks) := goodIn_app (goodIn_of _ (by decide +kernel)) ggX5_points_X5_asks
set_option maxRecDepth 20000 in
theorem ggX5_points_X5_isBannedNow : GoodIn wsX5_points wsX5_isBannedNow := goodIn_r _ [23, 24, 25, 26, 27, 28, 29, 30, 31, 32, 33, 34, 35, 36, 37, 38, 39, 40, 41, 42, 43, 44, 45] (by decide +kernel) (by decide +kernel)
set_option maxRecDepth 20000 in
theorem gX5_points_X5_isBannedNow : GoodIn wsX5_points (wsV RX5 108 RX5 yX5_isBannedNow wsX5_isBannedNow) := goodIn_app (goodIn_of _ (by decide +kernel)) ggX5_points_X5_isBannedNow
theorem dX5_points_0 : decode cX5_points 0 = .ok (.aload_n 0, 1) := by decide +kernel
theorem dX5_points_1 : decode cX5_points 1 = .ok (.iload_n 1, 1) := by decide +kernel
theorem dX5_points_2 : decode cX5_points 2 = .ok (.invokestatic 101, 3) := by decide +kernel
theorem dX5_points_5 : decode cX5_points 5 = .ok (.ifCond .eq 15, 3) := by decide +kernel
theorem dX5_points_8 : decode cX5_points 8 = .ok (.aload_n 0, 1) := by decide +kernel
theorem dX5_points_9 : decode cX5_points 9 = .ok (.iload_n 2, 1) := by decide +kernel
theorem dX5_points_10 : decode cX5_points 10 = .ok (.invokevirtual 88, 3) := by decide +kernel
theorem dX5_points_13 : decode cX5_points 13 = .ok (.ifCond .eq 7, 3) := by decide +kernel
theorem dX5_points_16 : decode cX5_points 16 = .ok (.iconst 1, 1) := by decide +kernel
theorem dX5_points_17 : decode cX5_points 17 = .ok (.goto 4, 3) := by decide +kernel
theorem dX5_points_20 : decode cX5_points 20 = .ok (.iconst 0, 1) := by decide +kernel
theorem dX5_points_21 : decode cX5_points 21 = .ok (.invokevirtual 72, 3) := by decide +kernel
theorem dX5_points_24 : decode cX5_points 24 = .ok (.ifCond .ne 5, 3) := by decide +kernel
theorem dX5_points_27 : decode cX5_points 27 = .ok (.iconst 0, 1) := by decide +kernel
theorem dX5_points_28 : decode cX5_points 28 = .ok (.ireturn, 1) := by decide +kernel
theorem dX5_points_29 : decode cX5_points 29 = .ok (.iconst 0, 1) := by decide +kernel
theorem dX5_points_30 : decode cX5_points 30 = .ok (.istore_n 3, 1) := by decide +kernel
theorem dX5_points_31 : decode cX5_points 31 = .ok (.iconst 0, 1) := by decide +kernel
theorem dX5_points_32 : decode cX5_points 32 = .ok (.istore 4, 2) := by decide +kernel
theorem dX5_points_34 : decode cX5_points 34 = .ok (.iload 4, 2) := by decide +kernel
theorem dX5_points_36 : decode cX5_points 36 = .ok (.aload_n 0, 1) := by decide +kernel
theorem dX5_points_37 : decode cX5_points 37 = .ok (.getfield 65, 3) := by decide +kernel
theorem dX5_points_40 : decode cX5_points 40 = .ok (.if_icmp .ge 137, 3) := by decide +kernel
theorem dX5_points_43 : decode cX5_points 43 = .ok (.aload_n 0, 1) := by decide +kernel
theorem dX5_points_44 : decode cX5_points 44 = .ok (.getfield 46, 3) := by decide +kernel
theorem dX5_points_47 : decode cX5_points 47 = .ok (.iload 4, 2) := by decide +kernel
theorem dX5_points_49 : decode cX5_points 49 = .ok (.iaload, 1) := by decide +kernel
theorem dX5_points_50 : decode cX5_points 50 = .ok (.iconst 1, 1) := by decide +kernel
theorem dX5_points_51 : decode cX5_points 51 = .ok (.if_icmp .ne 14, 3) := by decide +kernel
theorem dX5_points_54 : decode cX5_points 54 = .ok (.aload_n 0, 1) := by decide +kernel
theorem dX5_points_55 : decode cX5_points 55 = .ok (.getfield 40, 3) := by decide +kernel
theorem dX5_points_58 : decode cX5_points 58 = .ok (.iload 4, 2) := by decide +kernel
theorem dX5_points_60 : decode cX5_points 60 = .ok (.iaload, 1) := by decide +kernel
theorem dX5_points_61 : decode cX5_points 61 = .ok (.iload_n 1, 1) := by decide +kernel
theorem dX5_points_62 : decode cX5_points 62 = .ok (.if_icmp .eq 25, 3) := by decide +kernel
theorem dX5_points_65 : decode cX5_points 65 = .ok (.aload_n 0, 1) := by decide +kernel
theorem dX5_points_66 : decode cX5_points 66 = .ok (.getfield 46, 3) := by decide +kernel
theorem dX5_points_69 : decode cX5_points 69 = .ok (.iload 4, 2) := by decide +kernel
theorem dX5_points_71 : decode cX5_points 71 = .ok (.iaload, 1) := by decide +kernel
theorem dX5_points_72 : decode cX5_points 72 = .ok (.iconst 2, 1) := by decide +kernel
theorem dX5_points_73 : decode cX5_points 73 = .ok (.if_icmp .ne 18, 3) := by decide +kernel
theorem dX5_points_76 : decode cX5_points 76 = .ok (.aload_n 0, 1) := by decide +kernel
theorem dX5_points_77 : decode cX5_points 77 = .ok (.getfield 43, 3) := by decide +kernel
theorem dX5_points_80 : decode cX5_points 80 = .ok (.iload 4, 2) := by decide +kernel
theorem dX5_points_82 : decode cX5_points 82 = .ok (.iaload, 1) := by decide +kernel
theorem dX5_points_83 : decode cX5_points 83 = .ok (.iload_n 1, 1) := by decide +kernel
theorem dX5_points_84 : decode cX5_points 84 = .ok (.if_icmp .ne 7, 3) := by decide +kernel
theorem dX5_points_87 : decode cX5_points 87 = .ok (.iconst 1, 1) := by decide +kernel
theorem dX5_points_88 : decode cX5_points 88 = .ok (.goto 4, 3) := by decide +kernel
theorem dX5_points_91 : decode cX5_points 91 = .ok (.iconst 0, 1) := by decide +kernel
theorem dX5_points_92 : decode cX5_points 92 = .ok (.istore 5, 2) := by decide +kernel
theorem dX5_points_94 : decode cX5_points 94 = .ok (.aload_n 0, 1) := by decide +kernel
theorem dX5_points_95 : decode cX5_points 95 = .ok (.getfield 46, 3) := by decide +kernel
theorem dX5_points_98 : decode cX5_points 98 = .ok (.iload 4, 2) := by decide +kernel
theorem dX5_points_100 : decode cX5_points 100 = .ok (.iaload, 1) := by decide +kernel
theorem dX5_points_101 : decode cX5_points 101 = .ok (.iconst 3, 1) := by decide +kernel
theorem dX5_points_102 : decode cX5_points 102 = .ok (.if_icmp .ne 29, 3) := by decide +kernel
theorem dX5_points_105 : decode cX5_points 105 = .ok (.aload_n 0, 1) := by decide +kernel
theorem dX5_points_106 : decode cX5_points 106 = .ok (.getfield 40, 3) := by decide +kernel
theorem dX5_points_109 : decode cX5_points 109 = .ok (.iload 4, 2) := by decide +kernel
theorem dX5_points_111 : decode cX5_points 111 = .ok (.iaload, 1) := by decide +kernel
theorem dX5_points_112 : decode cX5_points 112 = .ok (.iload_n 1, 1) := by decide +kernel
theorem dX5_points_113 : decode cX5_points 113 = .ok (.if_icmp .eq 14, 3) := by decide +kernel
theorem dX5_points_116 : decode cX5_points 116 = .ok (.aload_n 0, 1) := by decide +kernel
theorem dX5_points_117 : decode cX5_points 117 = .ok (.getfield 43, 3) := by decide +kernel
theorem dX5_points_120 : decode cX5_points 120 = .ok (.iload 4, 2) := by decide +kernel
theorem dX5_points_122 : decode cX5_points 122 = .ok (.iaload, 1) := by decide +kernel
theorem dX5_points_123 : decode cX5_points 123 = .ok (.iload_n 1, 1) := by decide +kernel
theorem dX5_points_124 : decode cX5_points 124 = .ok (.if_icmp .ne 7, 3) := by decide +kernel
theorem dX5_points_127 : decode cX5_points 127 = .ok (.iconst 1, 1) := by decide +kernel
theorem dX5_points_128 : decode cX5_points 128 = .ok (.goto 4, 3) := by decide +kernel
theorem dX5_points_131 : decode cX5_points 131 = .ok (.iconst 0, 1) := by decide +kernel
theorem dX5_points_132 : decode cX5_points 132 = .ok (.istore 6, 2) := by decide +kernel
theorem dX5_points_134 : decode cX5_points 134 = .ok (.iload_n 3, 1) := by decide +kernel
theorem dX5_points_135 : decode cX5_points 135 = .ok (.aload_n 0, 1) := by decide +kernel
theorem dX5_points_136 : decode cX5_points 136 = .ok (.getfield 34, 3) := by decide +kernel
theorem dX5_points_139 : decode cX5_points 139 = .ok (.iload 4, 2) := by decide +kernel
theorem dX5_points_141 : decode cX5_points 141 = .ok (.iaload, 1) := by decide +kernel
theorem dX5_points_142 : decode cX5_points 142 = .ok (.iload_n 2, 1) := by decide +kernel
theorem dX5_points_143 : decode cX5_points 143 = .ok (.if_icmp .eq 7, 3) := by decide +kernel
theorem dX5_points_146 : decode cX5_points 146 = .ok (.iconst 0, 1) := by decide +kernel
theorem dX5_points_147 : decode cX5_points 147 = .ok (.goto 22, 3) := by decide +kernel
theorem dX5_points_150 : decode cX5_points 150 = .ok (.iload 5, 2) := by decide +kernel
theorem dX5_points_152 : decode cX5_points 152 = .ok (.ifCond .eq 7, 3) := by decide +kernel
theorem dX5_points_155 : decode cX5_points 155 = .ok (.iconst 3, 1) := by decide +kernel
theorem dX5_points_156 : decode cX5_points 156 = .ok (.goto 13, 3) := by decide +kernel
theorem dX5_points_159 : decode cX5_points 159 = .ok (.iload 6, 2) := by decide +kernel
theorem dX5_points_161 : decode cX5_points 161 = .ok (.ifCond .eq 7, 3) := by decide +kernel
theorem dX5_points_164 : decode cX5_points 164 = .ok (.iconst 1, 1) := by decide +kernel
theorem dX5_points_165 : decode cX5_points 165 = .ok (.goto 4, 3) := by decide +kernel
theorem dX5_points_168 : decode cX5_points 168 = .ok (.iconst 0, 1) := by decide +kernel
theorem dX5_points_169 : decode cX5_points 169 = .ok (.iadd, 1) := by decide +kernel
theorem dX5_points_170 : decode cX5_points 170 = .ok (.istore_n 3, 1) := by decide +kernel
theorem dX5_points_171 : decode cX5_points 171 = .ok (.iinc 4 1, 3) := by decide +kernel
theorem dX5_points_174 : decode cX5_points 174 = .ok (.goto (-140), 3) := by decide +kernel
theorem dX5_points_177 : decode cX5_points 177 = .ok (.aload_n 0, 1) := by decide +kernel
theorem dX5_points_178 : decode cX5_points 178 = .ok (.iload_n 2, 1) := by decide +kernel
theorem dX5_points_179 : decode cX5_points 179 = .ok (.invokevirtual 108, 3) := by decide +kernel
theorem dX5_points_182 : decode cX5_points 182 = .ok (.ifCond .eq 7, 3) := by decide +kernel
theorem dX5_points_185 : decode cX5_points 185 = .ok (.iconst 0, 1) := by decide +kernel
theorem dX5_points_186 : decode cX5_points 186 = .ok (.goto 4, 3) := by decide +kernel
theorem dX5_points_189 : decode cX5_points 189 = .ok (.iload_n 3, 1) := by decide +kernel
theorem dX5_points_190 : decode cX5_points 190 = .ok (.ireturn, 1) := by decide +kernel
theorem dJ6_bitCount_0f7a4_0 : decode cJ6_bitCount_0f7a4 0 = .ok (.iload_n 0, 1) := by decide +kernel
theorem dJ6_bitCount_0f7a4_1 : decode cJ6_bitCount_0f7a4 1 = .ok (.iload_n 0, 1) := by decide +kernel
theorem dJ6_bitCount_0f7a4_2 : decode cJ6_bitCount_0f7a4 2 = .ok (.iconst 1, 1) := by decide +kernel
theorem dJ6_bitCount_0f7a4_3 : decode cJ6_bitCount_0f7a4 3 = .ok (.iushr, 1) := by decide +kernel
theorem dJ6_bitCount_0f7a4_4 : decode cJ6_bitCount_0f7a4 4 = .ok (.ldc_w 265, 3) := by decide +kernel
theorem dJ6_bitCount_0f7a4_7 : decode cJ6_bitCount_0f7a4 7 = .ok (.iand, 1) := by decide +kernel
theorem dJ6_bitCount_0f7a4_8 : decode cJ6_bitCount_0f7a4 8 = .ok (.isub, 1) := by decide +kernel
theorem dJ6_bitCount_0f7a4_9 : decode cJ6_bitCount_0f7a4 9 = .ok (.istore_n 0, 1) := by decide +kernel
theorem dJ6_bitCount_0f7a4_10 : decode cJ6_bitCount_0f7a4 10 = .ok (.iload_n 0, 1) := by decide +kernel
theorem dJ6_bitCount_0f7a4_11 : decode cJ6_bitCount_0f7a4 11 = .ok (.ldc_w 266, 3) := by decide +kernel
theorem dJ6_bitCount_0f7a4_14 : decode cJ6_bitCount_0f7a4 14 = .ok (.iand, 1) := by decide +kernel
theorem dJ6_bitCount_0f7a4_15 : decode cJ6_bitCount_0f7a4 15 = .ok (.iload_n 0, 1) := by decide +kernel
theorem dJ6_bitCount_0f7a4_16 : decode cJ6_bitCount_0f7a4 16 = .ok (.iconst 2, 1) := by decide +kernel
theorem dJ6_bitCount_0f7a4_17 : decode cJ6_bitCount_0f7a4 17 = .ok (.iushr, 1) := by decide +kernel
theorem dJ6_bitCount_0f7a4_18 : decode cJ6_bitCount_0f7a4 18 = .ok (.ldc_w 266, 3) := by decide +kernel
theorem dJ6_bitCount_0f7a4_21 : decode cJ6_bitCount_0f7a4 21 = .ok (.iand, 1) := by decide +kernel
theorem dJ6_bitCount_0f7a4_22 : decode cJ6_bitCount_0f7a4 22 = .ok (.iadd, 1) := by decide +kernel
theorem dJ6_bitCount_0f7a4_23 : decode cJ6_bitCount_0f7a4 23 = .ok (.istore_n 0, 1) := by decide +kernel
theorem dJ6_bitCount_0f7a4_24 : decode cJ6_bitCount_0f7a4 24 = .ok (.iload_n 0, 1) := by decide +kernel
theorem dJ6_bitCount_0f7a4_25 : decode cJ6_bitCount_0f7a4 25 = .ok (.iload_n 0, 1) := by decide +kernel
theorem dJ6_bitCount_0f7a4_26 : decode cJ6_bitCount_0f7a4 26 = .ok (.iconst 4, 1) := by decide +kernel
theorem dJ6_bitCount_0f7a4_27 : decode cJ6_bitCount_0f7a4 27 = .ok (.iushr, 1) := by decide +kernel
theorem dJ6_bitCount_0f7a4_28 : decode cJ6_bitCount_0f7a4 28 = .ok (.iadd, 1) := by decide +kernel
theorem dJ6_bitCount_0f7a4_29 : decode cJ6_bitCount_0f7a4 29 = .ok (.ldc_w 267, 3) := by decide +kernel
theorem dJ6_bitCount_0f7a4_32 : decode cJ6_bitCount_0f7a4 32 = .ok (.iand, 1) := by decide +kernel
theorem dJ6_bitCount_0f7a4_33 : decode cJ6_bitCount_0f7a4 33 = .ok (.istore_n 0, 1) := by decide +kernel
theorem dJ6_bitCount_0f7a4_34 : decode cJ6_bitCount_0f7a4 34 = .ok (.iload_n 0, 1) := by decide +kernel
theorem dJ6_bitCount_0f7a4_35 : decode cJ6_bitCount_0f7a4 35 = .ok (.iload_n 0, 1) := by decide +kernel
theorem dJ6_bitCount_0f7a4_36 : decode cJ6_bitCount_0f7a4 36 = .ok (.bipush 8, 2) := by decide +kernel
theorem dJ6_bitCount_0f7a4_38 : decode cJ6_bitCount_0f7a4 38 = .ok (.iushr, 1) := by decide +kernel
theorem dJ6_bitCount_0f7a4_39 : decode cJ6_bitCount_0f7a4 39 = .ok (.iadd, 1) := by decide +kernel
theorem dJ6_bitCount_0f7a4_40 : decode cJ6_bitCount_0f7a4 40 = .ok (.istore_n 0, 1) := by decide +kernel
theorem dJ6_bitCount_0f7a4_41 : decode cJ6_bitCount_0f7a4 41 = .ok (.iload_n 0, 1) := by decide +kernel
theorem dJ6_bitCount_0f7a4_42 : decode cJ6_bitCount_0f7a4 42 = .ok (.iload_n 0, 1) := by decide +kernel
theorem dJ6_bitCount_0f7a4_43 : decode cJ6_bitCount_0f7a4 43 = .ok (.bipush 16, 2) := by decide +kernel
theorem dJ6_bitCount_0f7a4_45 : decode cJ6_bitCount_0f7a4 45 = .ok (.iushr, 1) := by decide +kernel
theorem dJ6_bitCount_0f7a4_46 : decode cJ6_bitCount_0f7a4 46 = .ok (.iadd, 1) := by decide +kernel
theorem dJ6_bitCount_0f7a4_47 : decode cJ6_bitCount_0f7a4 47 = .ok (.istore_n 0, 1) := by decide +kernel
theorem dJ6_bitCount_0f7a4_48 : decode cJ6_bitCount_0f7a4 48 = .ok (.iload_n 0, 1) := by decide +kernel
theorem dJ6_bitCount_0f7a4_49 : decode cJ6_bitCount_0f7a4 49 = .ok (.bipush 63, 2) := by decide +kernel
theorem dJ6_bitCount_0f7a4_51 : decode cJ6_bitCount_0f7a4 51 = .ok (.iand, 1) := by decide +kernel
theorem dJ6_bitCount_0f7a4_52 : decode cJ6_bitCount_0f7a4 52 = .ok (.ireturn, 1) := by decide +kernel
theorem dJ9_max_7cf53_0 : decode cJ9_max_7cf53 0 = .ok (.iload_n 0, 1) := by decide +kernel
theorem dJ9_max_7cf53_1 : decode cJ9_max_7cf53 1 = .ok (.iload_n 1, 1) := by decide +kernel
theorem dJ9_max_7cf53_2 : decode cJ9_max_7cf53 2 = .ok (.if_icmp .lt 7, 3) := by decide +kernel
theorem dJ9_max_7cf53_5 : decode cJ9_max_7cf53 5 = .ok (.iload_n 0, 1) := by decide +kernel
theorem dJ9_max_7cf53_6 : decode cJ9_max_7cf53 6 = .ok (.goto 4, 3) := by decide +kernel
theorem dJ9_max_7cf53_9 : decode cJ9_max_7cf53 9 = .ok (.iload_n 1, 1) := by decide +kernel
theorem dJ9_max_7cf53_10 : decode cJ9_max_7cf53 10 = .ok (.ireturn, 1) := by decide +kernel
set_option maxRecDepth 20000 in
theorem ggL_card_X4_card : GoodIn wsL_card wsX4_card := goodIn_ca (goodIn_ca (goodIn_r _ [7, 8, 9, 10, 11, 12, 13, 14, 15, 16, 17, 18, 6, 19, 20, 21, 22, 23, 24, 25, 26, 27, 28, 29, 30, 31, 32, 33, 34, 35, 36, 37, 38, 39] (by decide +kernel) (by decide +kernel)) (goodIn_sub (fun _ h => List.mem_cons_of_mem _ (List.mem_append_left _ (List.mem_append_right _ h))) (by decide +kernel))) (goodIn_sub (fun _ h => List.mem_cons_of_mem _ (List.mem_append_right _ h)) (by decide +kernel))
set_option maxRecDepth 20000 in
theorem gL_card_X4_card : GoodIn wsL_card (wsV RL 7 RX4 yX4_card wsX4_card) := goodIn_app (goodIn_of _ (by decide +kernel)) ggL_card_X4_card
end
section
/-! the world as a function: what each cell of ours holds, by its address; the rows of the kit over it (after va_get, va_put, va_iast .. of the kit) -/
abbrev xG : Type := va_G × (Nat → ClassId) × Nat
abbrev xE : Type := Nat → Option va_E
def xtys (G : xG) : List (ClassId × FieldType) := [(G.2.1 0, .int), (G.2.1 1, .long), (G.2.1 2, .object RX0), (G.2.1 3, .object RX3), (G.2.1 4, .object RX1)]
def xU (E : xE) (a : Nat) (e : va_E) : xE := fun b => if b = a then some e else E b
def xA (G : xG) : Nat → Prop := fun q => G.2.2 ≤ q
def xW (G : xG) (E : xE) (H : Heap) : Prop := G.2.2 ≤ H.size ∧ ∀ (a : Nat) (e : va_E), E a = some e → G.2.2 ≤ a ∧ va_at G.1 vwCl (a, e) H
theorem xU_self (E : xE) (a : Nat) (e : va_E) : xU E a e a = some e := by simp [xU]
theorem xU_ne (E : xE) {a b : Nat} (e : va_E) (h : b ≠ a) : xU E a e b = E b := by simp [xU, h]
theorem xU_of {E : xE} {a b : Nat} {e f g : va_E} (hb : E b = some f) (ha : E a = some g) (h : f ≠ g) : xU E a e b = some f := by
  have hn : b ≠ a := fun q => h (Option.some.inj (by rw [← hb, ← ha, q]))
  rw [xU_ne E e hn, hb]
theorem xU_xU (E : xE) (a : Nat) (e f : va_E) : xU (xU E a e) a f = xU E a f := by
  funext b
  by_cases h : b = a <;> simp [xU, h]
theorem xW.lt {G : xG} {E : xE} {H : Heap} (h : xW G E H) {a : Nat} {e : va_E} (hE : E a = some e) : a < H.size := (h.2 a e hE).2.lt
theorem xW.new {G : xG} {E : xE} {H : Heap} (h : xW G E H) : E H.size = none := by
  cases q : E H.size with
  | none => rfl
  | some e => exact absurd (h.lt q) (Nat.lt_irrefl _)
theorem x1 {G : xG} {E : xE} {H : Heap} {a : Nat} {e : va_E} (h : xW G E H) (hE : E a = some e) : va_P G.1 vwCl [(a, e)] H := by
  intro k q hk
  have h0 : k < 1 := (List.getElem?_eq_some_iff.mp hk).1
  rw [show k = 0 by omega] at hk
  cases hk
  exact (h.2 a e hE).2
theorem xW.kept {G : xG} {E : xE} {H H1 : Heap} (h : xW G E H) (hz : H.size ≤ H1.size) (hq : ∀ q : Nat, q < H.size → H1[q]? = H[q]?) : xW G E H1 :=
  ⟨Nat.le_trans h.1 hz, fun a e hE => ⟨(h.2 a e hE).1, (h.2 a e hE).2.kept (hq a (h.lt hE))⟩⟩
theorem xW.put {G : xG} {E : xE} {H H1 : Heap} {a : Nat} {e : va_E} (h : xW G E H) (z : H1.size = H.size) (oq : ∀ q : Nat, q ≠ a → H1[q]? = H[q]?) (ha : G.2.2 ≤ a) (he : va_at G.1 vwCl (a, e) H1) : xW G (xU E a e) H1 := by
  refine ⟨by rw [z]; exact h.1, fun b f hb => ?_⟩
  by_cases hba : b = a
  · subst hba
    rw [xU_self] at hb
    cases hb
    exact ⟨ha, he⟩
  · rw [xU_ne E e hba] at hb
    exact ⟨(h.2 b f hb).1, (h.2 b f hb).2.kept (oq b hba)⟩
theorem xW.push {G : xG} {E : xE} {H H1 : Heap} {e : va_E} (h : xW G E H) (z : H1.size = H.size + 1) (oq : ∀ q : Nat, q < H.size → H1[q]? = H[q]?) (he : va_at G.1 vwCl (H.size, e) H1) : xW G (xU E H.size e) H1 := by
  refine ⟨by rw [z]; exact Nat.le_succ_of_le h.1, fun b f hb => ?_⟩
  by_cases hba : b = H.size
  · subst hba
    rw [xU_self] at hb
    cases hb
    exact ⟨h.1, he⟩
  · rw [xU_ne E e hba] at hb
    exact ⟨(h.2 b f hb).1, (h.2 b f hb).2.kept (oq b (h.lt hb))⟩
theorem xA_in {G : xG} {H : Heap} {A : Nat → Prop} (h : A = xA G) {H0 : Heap} {locs : List Loc} (hS : va_S A H0 H locs) : True := trivial
section XR
variable {p : Program} {l : Launch} {e : Env} {R : Room} {s : State} {m : MethodId} {args : Array Value} {below : List Frame} {meth : Method} {c : Code} {H : Heap} {locs : List Loc} {cells slots : Nat} {Q : State → Prop}
variable {cc : ByteArray} {pc : Nat} {ls : Array Slot} {rest : List Value} {G : xG} {E : xE} {a : Nat} {H0 : Heap}
theorem x_put (hexec : p.tables.exec = Jvm.exec) (hb : c.code = cc) {own ref C : String} {T : u_T} {N ci index : Nat} {Ts : List Cond} (hts : ∀ w ∈ Ts, w.before args s = true) (hin : ∀ w ∈ u_ws C T N, w ∈ Ts) (ty0 : Nat → FieldType) (hty : ∀ k, k < N → parseFieldDescriptor (T k).2.2.1 = some (ty0 k)) (hnm : ∀ a, a < N → ∀ b, b < N → a ≠ b → (T a).2.1 ≠ (T b).2.1) (hown : s.vm.findClass own = some m.cls) (hK : va_K G.1 vwCl (xtys G) s) (hW : xW G E H) (hS0 : va_S (xA G) H0 H locs) {fs : List Value} (he : E a = some (.inr (ci, fs))) (hc : vwCl[ci]? = some (C, T, N)) (k : Nat) (hk : k < N) (hlink : (Cond.fieldLink own index ref (T k).2.1 (T k).2.2.1).before args s = true) (hsame : ∀ x, s.fieldFound? (T k).1 (T k).2.1 (T k).2.2.1 = some x → s.fieldFound? ref (T k).2.1 (T k).2.2.1 = some x) (hfin : (T k).2.2.2 = false) {ty : FieldType} {v : Value} (hd : parseFieldDescriptor (T k).2.2.1 = some ty) (hn : narrow ty v = v) (hfit : fits ty v = true) (hl : k < fs.length)
    (hdg : decode cc pc = .ok (.putfield index, 3)) (kk : ∀ (H1 : Heap) (locs1 : List Loc), xW G (xU E a (.inr (ci, fs.set k v))) H1 → va_S (xA G) H0 H1 locs1 → W p l e R s m args below meth c H1 locs1 cells slots Q (F0 m (pc + 3) ls rest)) : W p l e R s m args below meth c H locs cells slots Q (F0 m pc ls (v :: .ref a :: rest)) := by
  have hap := va_apart (own := own) hts hin ty0 hty hnm hK hc
  obtain ⟨hNa, r, h1, cell, q1, q2, q3, q4⟩ := hW.2 a _ he
  have hr : r = (C, T, N) := Option.some.inj (h1.symm.trans hc)
  subst hr
  obtain ⟨hS, hfc, kC, hkC, hkind⟩ := hK.1 ci _ hc
  obtain ⟨cf, kf, fi, f, hi, hsl⟩ := hS k hk
  have hlay := hts _ (hin _ (u_in_lay hk))
  unfold u_lay at hlay
  rw [if_neg (by rw [hfin]; decide)] at hlay
  have hst := (u_facts hfc hkC (u_lays hts hin hk) hi).1
  have h6 := u_store hfc hkC hkind hlay hi hd hn hfit
  refine W.putK hexec hb (f := f) ⟨hown, hlink, ⟨_, _, _, hsame _ hi⟩, hst⟩ (by rw [q2]; exact h6) q1 q3 (by rw [hsl]; exact k2_hasslot (q4 k hk)) rfl rfl hdg fun H' e1 e2 e3 => ?_
  rw [hsl] at e1 ⊢
  exact kk H' _ (hW.put e2 e3 hNa ⟨_, hc, t_OB.to (V := updV (vp_V fs) k v) ⟨_, e1, q2, q3, t_set q4 hap hk v⟩ (fun j _ => vp_updV_set hl v j)⟩) (hS0.put e2 e3 hNa)
theorem x_putF (hexec : p.tables.exec = Jvm.exec) (hb : c.code = cc) {own ref C : String} {T : u_T} {N ci index : Nat} {Ts : List Cond} (hts : ∀ w ∈ Ts, w.before args s = true) (hin : ∀ w ∈ u_ws C T N, w ∈ Ts) (ty0 : Nat → FieldType) (hty : ∀ k, k < N → parseFieldDescriptor (T k).2.2.1 = some (ty0 k)) (hnm : ∀ a, a < N → ∀ b, b < N → a ≠ b → (T a).2.1 ≠ (T b).2.1) (hown : s.vm.findClass own = some m.cls) (hK : va_K G.1 vwCl (xtys G) s) (hW : xW G E H) (hS0 : va_S (xA G) H0 H locs) {fs : List Value} (he : E a = some (.inr (ci, fs))) (hc : vwCl[ci]? = some (C, T, N)) (k : Nat) (hk : k < N) (hlink : (Cond.fieldLink own index ref (T k).2.1 (T k).2.2.1).before args s = true) (hsame : ∀ x, s.fieldFound? (T k).1 (T k).2.1 (T k).2.2.1 = some x → s.fieldFound? ref (T k).2.1 (T k).2.2.1 = some x) (hfin : (T k).2.2.2 = true) (hin2 : meth.name = "<init>") (hdecl : (T k).1 = own) {ty : FieldType} {v : Value} (hd : parseFieldDescriptor (T k).2.2.1 = some ty) (hn : narrow ty v = v) (hfit : fits ty v = true) (hl : k < fs.length)
    (hdg : decode cc pc = .ok (.putfield index, 3)) (kk : ∀ (H1 : Heap) (locs1 : List Loc), xW G (xU E a (.inr (ci, fs.set k v))) H1 → va_S (xA G) H0 H1 locs1 → W p l e R s m args below meth c H1 locs1 cells slots Q (F0 m (pc + 3) ls rest)) : W p l e R s m args below meth c H locs cells slots Q (F0 m pc ls (v :: .ref a :: rest)) := by
  have hap := va_apart (own := own) hts hin ty0 hty hnm hK hc
  obtain ⟨hNa, r, h1, cell, q1, q2, q3, q4⟩ := hW.2 a _ he
  have hr : r = (C, T, N) := Option.some.inj (h1.symm.trans hc)
  subst hr
  obtain ⟨hS, hfc, kC, hkC, hkind⟩ := hK.1 ci _ hc
  obtain ⟨cf, kf, fi, f, hi, hsl⟩ := hS k hk
  have hlay := hts _ (hin _ (u_in_lay hk))
  unfold u_lay at hlay
  rw [if_pos hfin] at hlay
  have hst := (u_facts hfc hkC (u_lays hts hin hk) hi).1
  have hcf : m.cls = cf := by
    obtain ⟨_, _, c', _, _, _, -, -, hf', -, -, -, hown2, -⟩ := Cond.laysFinal_spec hlay
    have e1 : c' = cf := by have := hi.symm.trans hf'; simp at this; exact this.1.symm
    rw [hdecl] at hown2
    rw [← e1]; exact Option.some.inj (hown.symm.trans hown2)
  have h6 := u_fits hfc hkC hkind (Or.inr hlay) hi hd hn hfit
  refine W.putFinK hexec hb hown hlink (hsame _ hi) hst hcf hin2 (by rw [q2]; exact h6) q1 q3 (by rw [hsl]; exact k2_hasslot (q4 k hk)) rfl rfl hdg fun H' e1 e2 e3 => ?_
  rw [hsl] at e1 ⊢
  exact kk H' _ (hW.put e2 e3 hNa ⟨_, hc, t_OB.to (V := updV (vp_V fs) k v) ⟨_, e1, q2, q3, t_set q4 hap hk v⟩ (fun j _ => vp_updV_set hl v j)⟩) (hS0.put e2 e3 hNa)
theorem x_iast (hexec : p.tables.exec = Jvm.exec) (hb : c.code = cc) (hK : va_K G.1 vwCl (xtys G) s) (hW : xW G E H) (hS : va_S (xA G) H0 H locs) {n : Nat} {f : Nat → Int32} (ha : E a = some (.inl (G.2.1 0, n, .inl f))) {i : Int32} {x : Int32} (hin : vp_in i n) (hdg : decode cc pc = .ok (.iastore, 1))
    (kk : ∀ (H1 : Heap) (locs1 : List Loc), xW G (xU E a (.inl (G.2.1 0, n, .inl (upd f i.toNatClampNeg x)))) H1 → va_S (xA G) H0 H1 locs1 → W p l e R s m args below meth c H1 locs1 cells slots Q (F0 m (pc + 1) ls rest)) : W p l e R s m args below meth c H locs cells slots Q (F0 m pc ls (.int x :: .int i :: .ref a :: rest)) := by
  refine W.iast hexec hb (hW.2 a _ ha).2 ((hK.2 0 _ rfl).1 n (fun j => .int (f j))) (fun q => by cases q) (by show ¬ (i < 0 ∨ (arrV _ _ _).slots.size ≤ _); rw [arrV_size]; exact hin) rfl rfl hdg fun H1 e z oq => ?_
  refine kk H1 _ (hW.put z oq (hW.2 a _ ha).1 ?_) (hS.put z oq (hW.2 a _ ha).1)
  show H1[a]? = some (vp_cell _ _)
  rw [e]
  rw [vp_cell_i, vp_cell_i, arrV_store]
  congr 2
  funext q
  by_cases hq : q = i.toNatClampNeg
  · subst hq
    simp [updV, upd]
  · simp [updV, upd, hq]
theorem x_last (hexec : p.tables.exec = Jvm.exec) (hb : c.code = cc) (hK : va_K G.1 vwCl (xtys G) s) (hW : xW G E H) (hS : va_S (xA G) H0 H locs) {n : Nat} {f : Nat → Int64} (ha : E a = some (.inl (G.2.1 1, n, .inr (.inl f)))) {i : Int32} {x : Int64} (hin : vp_in i n) (hdg : decode cc pc = .ok (.lastore, 1))
    (kk : ∀ (H1 : Heap) (locs1 : List Loc), xW G (xU E a (.inl (G.2.1 1, n, .inr (.inl (vp_updL f i.toNatClampNeg x))))) H1 → va_S (xA G) H0 H1 locs1 → W p l e R s m args below meth c H1 locs1 cells slots Q (F0 m (pc + 1) ls rest)) : W p l e R s m args below meth c H locs cells slots Q (F0 m pc ls (.long x :: .int i :: .ref a :: rest)) := by
  refine W.last hexec hb (hW.2 a _ ha).2 ((hK.2 1 _ rfl).1 n (fun j => .long (f j))) (fun q => by cases q) (by show ¬ (i < 0 ∨ (arrV _ _ _).slots.size ≤ _); rw [arrV_size]; exact hin) rfl rfl hdg fun H1 e z oq => ?_
  refine kk H1 _ (hW.put z oq (hW.2 a _ ha).1 ?_) (hS.put z oq (hW.2 a _ ha).1)
  show H1[a]? = some (vp_cell _ _)
  rw [e]
  rw [vp_cell_l, vp_cell_l, arrV_store]
  congr 2
  funext q
  by_cases hq : q = i.toNatClampNeg
  · subst hq
    simp [updV, vp_updL]
  · simp [updV, vp_updL, hq]
theorem x_astq (hexec : p.tables.exec = Jvm.exec) (hb : c.code = cc) (hK : va_K G.1 vwCl (xtys G) s) (hW : xW G E H) (hS : va_S (xA G) H0 H locs) (t0 ci : Nat) {cA : ClassId} {r : vw_C} {n v : Nat} {vs : List Value} {f : Nat → Option Nat} (ha : E a = some (.inl (cA, n, .inr (.inr (.inr (.inr f)))))) (ht : (xtys G)[t0]? = some (cA, .object r.1)) (hv : E v = some (.inr (ci, vs))) (hc : vwCl[ci]? = some r) {i : Int32} (hin : vp_in i n) (hdg : decode cc pc = .ok (.aastore, 1))
    (kk : ∀ (H1 : Heap) (locs1 : List Loc), xW G (xU E a (.inl (cA, n, .inr (.inr (.inr (.inr (va_up f i.toNatClampNeg (some v)))))))) H1 → va_S (xA G) H0 H1 locs1 → W p l e R s m args below meth c H1 locs1 cells slots Q (F0 m (pc + 1) ls rest)) : W p l e R s m args below meth c H locs cells slots Q (F0 m pc ls (.ref v :: .int i :: .ref a :: rest)) := by
  have hlt : i.toNatClampNeg < n := Nat.not_le.mp fun q => hin (Or.inr q)
  have h0 : ¬ i < 0 := fun q => hin (Or.inl q)
  obtain ⟨-, r', hr', cellV, g1, g2, g3, -⟩ := hW.2 v _ hv
  have hcls := (hK.1 ci r hc).2
  obtain ⟨kA, comp, k1, k2, k3, -⟩ := (hK.2 t0 _ ht).2
  have hcomp : comp = G.1.1 ci := Option.some.inj (k3.symm.trans hcls.1)
  subst hcomp
  obtain ⟨kC, hkC, -⟩ := hcls.2
  refine W.aast hexec hb (hW.2 a _ ha).2 (fun q h => by cases h) (fun h => by cases h) k1 k2 rfl hkC ⟨h0, by show _ < (arrV _ _ _).slots.size; rw [arrV_size]; exact hlt⟩ g1 (fun q h => by rw [g3] at h; cases h) (by rw [g2]; exact hkC) (by rw [g2]; exact va_assign hcls) rfl rfl hdg fun H1 e z oq => ?_
  refine kk H1 _ (hW.put z oq (hW.2 a _ ha).1 ?_) (hS.put z oq (hW.2 a _ ha).1)
  show H1[a]? = some (vp_cell _ _)
  rw [e]
  rw [vp_cell_q, vp_cell_q, arrV_store]
  congr 2
  funext q
  by_cases hq : q = i.toNatClampNeg
  · subst hq
    simp [updV, va_up, va_rf]
  · simp [updV, va_up, hq]
theorem xS_push {H H1 : Heap} (hW : xW G E H) (hS : va_S (xA G) H0 H locs) (z : H1.size = H.size + 1) (o1 : ∀ q : Nat, q < H.size → H1[q]? = H[q]?) : va_S (xA G) H0 H1 locs :=
  ⟨Nat.le_trans hS.1 (by omega), fun x h1 h2 => (o1 x (Nat.lt_of_lt_of_le h1 hS.1)).trans (hS.2.1 x h1 h2), hS.2.2⟩
theorem x_new {c0 : Code} (hexec : p.tables.exec = Jvm.exec) (hb : c0.code = cc) {own C : String} {T : u_T} {N ci index : Nat} {Ts : List Cond} (hts : ∀ w ∈ Ts, w.before args s = true) (hin : ∀ w ∈ u_ws C T N, w ∈ Ts) (ty : Nat → FieldType) (hty : ∀ k, k < N → parseFieldDescriptor (T k).2.2.1 = some (ty k)) (hown : s.vm.findClass own = some m.cls) (hcl : (Cond.classLink own index C).before args s = true) (hinst : (Cond.instantiable C N).before args s = true) (hini : (Cond.initialized C).before args s = true)
    (hK : va_K G.1 vwCl (xtys G) s) (hW : xW G E H) (hS : va_S (xA G) H0 H locs) (hc : vwCl[ci]? = some (C, T, N)) {fs : List Value} (hfs : ∀ j, j < N → defaultValue (ty j) = vp_V fs j) (hcells : cells + 1 ≤ R.cells) (hslots : slots + N ≤ R.slots) (hdg : decode cc pc = .ok (.new index, 3))
    (kk : ∀ (q : Nat) (H1 : Heap), q = H.size → H1.size = H.size + 1 → xW G (xU E q (.inr (ci, fs))) H1 → va_S (xA G) H0 H1 locs →
      W p l e R s m args below meth c0 H1 locs (cells + 1) (slots + N) Q (F0 m (pc + 3) ls (.ref q :: rest))) : W p l e R s m args below meth c0 H locs cells slots Q (F0 m pc ls rest) := by
  have hKn := hK.1 ci _ hc
  refine W.newcK hexec hb hown hcl hinst hini rfl hdg hcells hslots hKn.2.1 rfl fun H1 kC hkC e1 z1 o1 => ?_
  exact kk H.size H1 rfl z1 (hW.push z1 o1 ⟨_, hc, (u_born ty hts hin hKn hkC e1 hty).to hfs⟩) (xS_push hW hS z1 o1)
theorem x_newI (hexec : p.tables.exec = Jvm.exec) (hb : c.code = cc) (harr : (Cond.arrayClass .int).before args s = true) (hK : va_K G.1 vwCl (xtys G) s) (hW : xW G E H) (hS : va_S (xA G) H0 H locs)
    {n : Int32} {N' : Nat} (hn : ¬ n < 0) (hN : n.toNatClampNeg = N') (hbytes : N' * componentBytes .int ≤ 536870912) (hcells : cells + 1 ≤ R.cells) (hslots : slots + N' ≤ R.slots) (hdg : decode cc pc = .ok (.newarray .int, 2))
    (kk : ∀ (q : Nat) (H1 : Heap), q = H.size → H1.size = H.size + 1 → xW G (xU E q (.inl (G.2.1 0, N', .inl (fun _ => 0)))) H1 → va_S (xA G) H0 H1 locs →
      W p l e R s m args below meth c H1 locs (cells + 1) (slots + N') Q (F0 m (pc + 2) ls (.ref q :: rest))) : W p l e R s m args below meth c H locs cells slots Q (F0 m pc ls (.int n :: rest)) := by
  refine va_newaK (atype := .int) hexec hb harr rfl hdg rfl hn hN hbytes hcells hslots rfl fun H1 cA e1 z1 o1 hAr hNm => ?_
  have hcA : cA = G.2.1 0 := Option.some.inj (hNm.symm.trans (hK.2 0 _ rfl).2)
  subst hcA
  exact kk H.size H1 rfl z1 (hW.push z1 o1 (by show H1[H.size]? = some (vp_cell _ _); rw [e1]; rfl)) (xS_push hW hS z1 o1)
theorem x_newL (hexec : p.tables.exec = Jvm.exec) (hb : c.code = cc) (harr : (Cond.arrayClass .long).before args s = true) (hK : va_K G.1 vwCl (xtys G) s) (hW : xW G E H) (hS : va_S (xA G) H0 H locs)
    {n : Int32} {N' : Nat} (hn : ¬ n < 0) (hN : n.toNatClampNeg = N') (hbytes : N' * componentBytes .long ≤ 536870912) (hcells : cells + 1 ≤ R.cells) (hslots : slots + N' ≤ R.slots) (hdg : decode cc pc = .ok (.newarray .long, 2))
    (kk : ∀ (q : Nat) (H1 : Heap), q = H.size → H1.size = H.size + 1 → xW G (xU E q (.inl (G.2.1 1, N', .inr (.inl (fun _ => 0))))) H1 → va_S (xA G) H0 H1 locs →
      W p l e R s m args below meth c H1 locs (cells + 1) (slots + N') Q (F0 m (pc + 2) ls (.ref q :: rest))) : W p l e R s m args below meth c H locs cells slots Q (F0 m pc ls (.int n :: rest)) := by
  refine va_newaK (atype := .long) hexec hb harr rfl hdg rfl hn hN hbytes hcells hslots rfl fun H1 cA e1 z1 o1 hAr hNm => ?_
  have hcA : cA = G.2.1 1 := Option.some.inj (hNm.symm.trans (hK.2 1 _ rfl).2)
  subst hcA
  exact kk H.size H1 rfl z1 (hW.push z1 o1 (by show H1[H.size]? = some (vp_cell _ _); rw [e1]; rfl)) (xS_push hW hS z1 o1)
theorem x_newq (hexec : p.tables.exec = Jvm.exec) (hb : c.code = cc) {own C : String} {index : Nat} (hown : s.vm.findClass own = some m.cls) (hclink : (Cond.classLink own index C).before args s = true) (hover : va_AO C s) (hK : va_K G.1 vwCl (xtys G) s) (hW : xW G E H) (hS : va_S (xA G) H0 H locs) (t0 : Nat) {cA : ClassId} (ht : (xtys G)[t0]? = some (cA, .object C))
    {n : Int32} {N' : Nat} (hn : ¬ n < 0) (hN : n.toNatClampNeg = N') (hbytes : N' * 4 ≤ 536870912) (hcells : cells + 1 ≤ R.cells) (hslots : slots + N' ≤ R.slots) (hdg : decode cc pc = .ok (.anewarray index, 3))
    (kk : ∀ (q : Nat) (H1 : Heap), q = H.size → H1.size = H.size + 1 → xW G (xU E q (.inl (cA, N', .inr (.inr (.inr (.inr (fun _ => none))))))) H1 → va_S (xA G) H0 H1 locs →
      W p l e R s m args below meth c H1 locs (cells + 1) (slots + N') Q (F0 m (pc + 3) ls (.ref q :: rest))) : W p l e R s m args below meth c H locs cells slots Q (F0 m pc ls (.int n :: rest)) := by
  subst hN
  refine W.anew hexec hb hown hclink (va_AO.use hover) rfl hdg rfl hn hbytes hcells hslots fun cA' kA comp f1 f2 f3 f4 => ?_
  obtain ⟨kA2, comp2, k1, k2, k3, k4⟩ := (hK.2 t0 _ ht).2
  have hcA : cA' = cA := Option.some.inj (f1.symm.trans k4)
  subst hcA
  generalize hH1 : H.push ({ cls := cA', slots := Array.replicate n.toNatClampNeg .null, vm := .none } : Cell) = H1
  have z1 : H1.size = H.size + 1 := by rw [← hH1, Array.size_push]
  have e1 : H1[H.size]? = some (arrV cA' n.toNatClampNeg (fun _ => .null)) := by rw [← hH1, Array.getElem?_push_size, ← arrV_new]
  have o1 : ∀ q : Nat, q < H.size → H1[q]? = H[q]? := fun q hq => by rw [← hH1, Array.getElem?_push, if_neg (Nat.ne_of_lt hq)]
  refine kk H.size H1 rfl z1 (hW.push z1 o1 ?_) (xS_push hW hS z1 o1)
  show H1[H.size]? = some (vp_cell _ _)
  rw [vp_cell_q]
  exact e1
end XR
end
section
/-! what every method of ours is given of the machine: the classes, the private calls between nest mates, the two statics of Throwable, the message texts; and calls over the world -/
def xExc : List String := ["java/lang/IllegalArgumentException", "java/lang/IllegalStateException", "java/lang/IndexOutOfBoundsException"]
def xStr : List (Nat × String) := [(106, "banned, 12 games, or no move"), (132, "not open, void, or no card says so"), (189, "no such variant"), (192, "no such game"), (194, "no such player"), (196, "no such cell"), (198, "the depth is 0 to 2"), (33, "no such card can be"), (44, "there are 8 cards"), (55, "no such holes or cards"), (60, "there are 4 variants"), (74, "no such cards"), (93, "no such game can be")]
def xN (U : State) : Prop := va_Nw (.methodLinkNest RX2 29 yX4_isIn RX4) U ∧ va_Nw (.methodLinkNest RX0 28 yX4_cellAhead RX4) U ∧ va_Nw (.methodLinkNest RX0 32 yX4_isIn RX4) U ∧ va_Nw (.methodLinkNest RX1 57 yX4_isIn RX4) U ∧ va_Nw (.methodLinkNest RX1 67 yX4_moved RX4) U
theorem xN.warm {s U : State} (hW : s.WarmedH U.vm) (h : xN s) : xN U := ⟨h.1.warmM hW, h.2.1.warmM hW, h.2.2.1.warmM hW, h.2.2.2.1.warmM hW, h.2.2.2.2.warmM hW⟩
theorem xN.same {s U : State} (hv : s.vm = U.vm) (h : xN s) : xN U := ⟨h.1.same rfl hv, h.2.1.same rfl hv, h.2.2.1.same rfl hv, h.2.2.2.1.same rfl hv, h.2.2.2.2.same rfl hv⟩
def xT (G : xG) (U : State) : Prop := vx_Zq Bundle.tN "UNASSIGNED_STACK" Bundle.steD (xA G) U U.heap ∧ vx_Zq Bundle.tN "SUPPRESSED_SENTINEL" Bundle.listD (xA G) U U.heap ∧ (∀ n ∈ xExc, va_Nw (.castable n n) U) ∧ ∀ q ∈ xStr, ∃ sa : Nat, vk_R RX4 q.1 q.2 sa U
def xS (G : xG) (U : State) : Prop := va_K G.1 vwCl (xtys G) U ∧ xN U ∧ xT G U
theorem xS.go {G : xG} {s U : State} {H : Heap} {locs : List Loc} (h : xS G s) (hS : va_S (xA G) s.heap H locs) (hU : U.heap = H) (hW : s.WarmedH U.vm) : xS G U := by
  obtain ⟨h1, h2, h3, h4, h5, h6⟩ := h
  refine ⟨va_K.moved hW.alike h1, h2.warm hW, ?_, ?_, fun n hn => (h5 n hn).warmC hW, fun q hq => ?_⟩
  · rw [hU]; exact vx_Zq.moved hW.alike (h3.kept hS.2.1)
  · rw [hU]; exact vx_Zq.moved hW.alike (h4.kept hS.2.1)
  · obtain ⟨sa, h⟩ := h6 q hq
    exact ⟨sa, h.warm hW⟩
theorem xS.same {G : xG} {s U : State} (h : xS G s) (hv : s.vm = U.vm) (hh : s.heap = U.heap) : xS G U := by
  obtain ⟨h1, h2, h3, h4, h5, h6⟩ := h
  have hA : s.vm.Alike U.vm := by rw [← hv]; exact Vm.Alike.refl s.vm
  refine ⟨va_K.moved hA h1, h2.same hv, ?_, ?_, fun n hn => (h5 n hn).same rfl hv, fun q hq => ?_⟩
  · rw [← hh]; exact vx_Zq.moved hA h3
  · rw [← hh]; exact vx_Zq.moved hA h4
  · obtain ⟨sa, h⟩ := h6 q hq
    exact ⟨sa, h.same hv.symm⟩
abbrev xB (G : xG) (E : xE) : State → Prop := fun U => xS G U ∧ xW G E U.heap
theorem x_blind {G : xG} {E : xE} {av : List Value} : FrameBlind (va_Pc av (xB G E)) := fun a U g mk h => ⟨h.1, h.2.1.same (U := U.calling g mk a) rfl rfl, h.2.2⟩
theorem x_blindT {av : List Value} : FrameBlind (va_Pc av (fun _ => True)) := fun a U g mk h => ⟨h.1, trivial⟩
section XC
variable {p : Program} {l : Launch} {e : Env} {R : Room} {s : State} {m : MethodId} {args : Array Value} {below : List Frame} {meth : Method} {c : Code} {H : Heap} {locs : List Loc} {cells slots : Nat} {Q : State → Prop}
variable {pc : Nat} {ls : Array Slot} {rest st0 : List Value} {G : xG} {E : xE} {a : Array Value}
theorem x_preS {As : List Value} (hX : xS G s) (hS : va_S (xA G) s.heap H locs) (hW : xW G E H) : PreS s H (va_Pc As (xB G E)) As :=
  ⟨x_blind, fun U hU hw => ⟨rfl, hX.go hS hU hw, by rw [hU]; exact hW⟩⟩
theorem x_preT {As : List Value} : PreS s H (va_Pc As (fun _ => True)) As := ⟨x_blindT, fun U hU hw => ⟨rfl, trivial⟩⟩
theorem x_preV {b ci N : Nat} {C : String} {T : u_T} {fs : List Value} {As : List Value} (hX : xS G s) (hS : va_S (xA G) s.heap H locs) (hW : xW G E H) (hE : E b = some (.inr (ci, fs))) (hc : vwCl[ci]? = some (C, T, N)) : PreV s H C b (va_Pc (.ref b :: As) (xB G E)) As :=
  ⟨x_blind, va_recv (q := (C, T, N)) hX.1 (x1 hW hE) hc (q0 := 0) rfl, fun U hU hw => ⟨rfl, hX.go hS hU hw, by rw [hU]; exact hW⟩⟩
/-- a call that reads and answers an int: the heap is as it was -/
theorem x_callSi {post : Int32 → Prop} (hr : va_Run p l e R s m args below meth c H locs cells slots 0 0 (F0 m pc ls st0) rest (vp_Si post a) (fun _ => False))
    (kk : ∀ r : Int32, post r → W p l e R s m args below meth c H locs cells slots Q (F0 m (pc + 3) ls (.int r :: rest))) : W p l e R s m args below meth c H locs cells slots Q (F0 m pc ls st0) := by
  intro T hT X
  obtain ⟨v, st₀, t, T', L, h0, X', hL, e1, -, ⟨r, hv, hp, hh⟩, st⟩ := hr T hT X
  cases hv
  obtain ⟨t2, a1, b1⟩ := kk r hp T' (by rw [e1, hh, h0]) (by
    have hLn : L = [] := by
      cases L with
      | nil => rfl
      | cons q L => exact (hL q List.mem_cons_self).elim
    subst hLn
    rw [List.append_nil] at X'
    exact X')
  exact ⟨t2, st t2 a1, b1⟩
theorem x_callSl {post : Int64 → Prop} (hr : va_Run p l e R s m args below meth c H locs cells slots 0 0 (F0 m pc ls st0) rest (vp_Sl post a) (fun _ => False))
    (kk : ∀ r : Int64, post r → W p l e R s m args below meth c H locs cells slots Q (F0 m (pc + 3) ls (.long r :: rest))) : W p l e R s m args below meth c H locs cells slots Q (F0 m pc ls st0) := by
  intro T hT X
  obtain ⟨v, st₀, t, T', L, h0, X', hL, e1, -, ⟨r, hv, hp, hh⟩, st⟩ := hr T hT X
  cases hv
  obtain ⟨t2, a1, b1⟩ := kk r hp T' (by rw [e1, hh, h0]) (by
    have hLn : L = [] := by
      cases L with
      | nil => rfl
      | cons q L => exact (hL q List.mem_cons_self).elim
    subst hLn
    rw [List.append_nil] at X'
    exact X')
  exact ⟨t2, st t2 a1, b1⟩
end XC
/-- the world behind an exception: as it was, the exception's class by its name -/
abbrev xX (G : xG) (E : xE) (px : String → Prop) : String → State → State → Prop := vx_X (S := Unit) (fun _ => True) (fun n _ t => px n ∧ xW G E t.heap) (xA G)
section XT
variable {p : Program} {l : Launch} {e : Env} {R : Room} {s : State} {m : MethodId} {args : Array Value} {below : List Frame} {meth : Method} {c : Code} {H : Heap} {locs : List Loc} {cells slots : Nat}
variable {pc : Nat} {ls : Array Slot} {rest : List Value} {G : xG} {E : xE} {cc : ByteArray} {Qc : Array Value → State → Outcome → State → Prop} {mc ms : Nat} {px : String → Prop}
abbrev xNames : List String := ["java/lang/RuntimeException", "java/lang/Exception"]
theorem x_throw (hexec : p.tables.exec = Jvm.exec) (hb : c.code = cc) (hl : l.stackTraces = false) (hown : s.vm.findClass RX4 = some m.cls) {cls text : String} {ik is ic : Nat} {Ts : List Cond} (hts : ∀ w ∈ Ts, w.before args s = true) (hX : xS G s) (hS : va_S (xA G) s.heap H locs) (hW : xW G E H)
    (hcl : cls ∈ xExc) (hfit : Bundle.fit cls = true) (htx : (is, text) ∈ xStr) (hk : Cond.classLink RX4 ik cls ∈ Ts) (hini : Cond.initialized cls ∈ Ts) (hat : ∀ w ∈ (vx_atS RX4 ic cls xNames).filter goodWord, w ∈ Ts)
    (hbad : ∀ w ∈ (vx_atS RX4 ic cls xNames).filter (fun w => !goodWord w), w = .castable cls cls) (hgood : ∀ w ∈ Cond.classLink RX4 ik cls :: Cond.initialized cls :: vx_atS RX4 ic cls xNames, vx_ot w = true)
    (hsize : ls.size = c.maxLocals) (d0 : decode cc pc = .ok (.new ik, 3)) (d3 : decode cc (pc + 3) = .ok (.dup, 1)) (d4 : decode cc (pc + 4) = .ok (.ldc is, 2)) (d6 : decode cc (pc + 6) = .ok (.invokespecial ic, 3)) (d9 : decode cc (pc + 9) = .ok (.athrow, 1))
    (hno : ∀ x ∈ c.exceptionTable.toList, False) (hRframes : 5 < R.frames) (hRlocals : (rest.map fun v => v.category).sum + 82 ≤ R.locals) (hRcells : cells + 1 ≤ R.cells) (hRslots : slots + 6 ≤ R.slots) (hlocks : meth.locks = false)
    (hpx : px cls) (hc : cells + 1 ≤ mc) (hs : slots + 6 ≤ ms) :
    W p l e R s m args below meth c H locs cells slots (vx_MQ below Qc (xX G E px) args s mc ms (xA G)) (F0 m pc ls rest) := by
  obtain ⟨hK, hN, hZ1, hZ2, hC, hQ⟩ := hX
  obtain ⟨sa, hstr⟩ := hQ _ htx
  refine vx_throwS (names := xNames) hexec hb hl hown hfit (by decide +kernel) (hts _ hk) (hts _ hini) hstr ?_ hgood hZ1 hZ2 hS hsize d0 d3 d4 d6 d9 (fun x hx => (hno x hx).elim) hRframes hRlocals hRcells hRslots hlocks ?_ hS.2.2 hc hs
  · refine vx_hat (B := [.castable cls cls]) (fun w hw => hts w (hat w hw)) (fun w hw => by rw [hbad w hw]; exact List.mem_cons_self) ?_
    intro w hw
    rw [List.mem_singleton.mp hw]
    exact (hC cls hcl).use rfl
  · intro t ht hz hq
    exact ⟨(), trivial, ⟨hpx, hW.kept hz hq⟩, Nat.le_trans hS.1 hz, fun q h1 h2 => by rw [hq q (Nat.lt_of_lt_of_le h1 hS.1)]; exact hS.2.1 q h1 h2⟩
end XT
end
section
/-! rows of branches on truth values, of arrays by a natural index, of calls whose answer is a function -/
def zI (b : Bool) : Int32 := if b = true then 1 else 0
theorem zI_inj {a b : Bool} : zI a = zI b ↔ a = b := by cases a <;> cases b <;> decide
theorem xz_nar (b : Bool) : narrow .boolean (.int (zI b)) = .int (zI b) := by cases b <;> rfl
section XI
variable {p : Program} {l : Launch} {e : Env} {R : Room} {s : State} {m : MethodId} {args : Array Value} {below : List Frame} {meth : Method} {c : Code} {H : Heap} {locs : List Loc} {cells slots : Nat} {Q : State → Prop}
variable {cc : ByteArray} {pc : Nat} {ls : Array Slot} {rest st0 : List Value} {G : xG} {E : xE} {a : Nat} {ar : Array Value}
theorem x_ifz_eq (hexec : p.tables.exec = Jvm.exec) (hb : c.code = cc) {b : Bool} {off : Int} {tgt : Nat} (hdg : decode cc pc = .ok (.ifCond .eq off, 3)) (ht : (pc : Int) + off = (tgt : Int))
    (kt : b = false → W p l e R s m args below meth c H locs cells slots Q (F0 m tgt ls rest)) (kf : b = true → W p l e R s m args below meth c H locs cells slots Q (F0 m (pc + 3) ls rest)) : W p l e R s m args below meth c H locs cells slots Q (F0 m pc ls (.int (zI b) :: rest)) :=
  lv_if_eq hexec hb hdg ht (fun h => kt (by cases b; rfl; exact absurd h (by decide))) (fun h => kf (by cases b; exact absurd rfl h; rfl))
theorem x_ifz_ne (hexec : p.tables.exec = Jvm.exec) (hb : c.code = cc) {b : Bool} {off : Int} {tgt : Nat} (hdg : decode cc pc = .ok (.ifCond .ne off, 3)) (ht : (pc : Int) + off = (tgt : Int))
    (kt : b = true → W p l e R s m args below meth c H locs cells slots Q (F0 m tgt ls rest)) (kf : b = false → W p l e R s m args below meth c H locs cells slots Q (F0 m (pc + 3) ls rest)) : W p l e R s m args below meth c H locs cells slots Q (F0 m pc ls (.int (zI b) :: rest)) :=
  lv_if_ne hexec hb hdg ht (fun h => kt (by cases b; exact absurd rfl h; rfl)) (fun h => kf (by cases b; rfl; exact absurd h (by decide)))
theorem x_ild {n : Nat} {f : Nat → Int32} {i : Int32} {k : Nat} (hexec : p.tables.exec = Jvm.exec) (hb : c.code = cc) (hK : va_K G.1 vwCl (xtys G) s) (hW : xW G E H) (ha : E a = some (.inl (G.2.1 0, n, .inl f))) (hin : vp_in i n) (hk : i.toNatClampNeg = k) (hdg : decode cc pc = .ok (.iaload, 1))
    (kk : W p l e R s m args below meth c H locs cells slots Q (F0 m (pc + 1) ls (.int (f k) :: rest))) : W p l e R s m args below meth c H locs cells slots Q (F0 m pc ls (.int i :: .ref a :: rest)) := by
  subst hk
  exact va_iald hexec hb hK (x1 hW ha) 0 0 rfl rfl hin hdg kk
theorem x_lld {n : Nat} {f : Nat → Int64} {i : Int32} {k : Nat} (hexec : p.tables.exec = Jvm.exec) (hb : c.code = cc) (hK : va_K G.1 vwCl (xtys G) s) (hW : xW G E H) (ha : E a = some (.inl (G.2.1 1, n, .inr (.inl f)))) (hin : vp_in i n) (hk : i.toNatClampNeg = k) (hdg : decode cc pc = .ok (.laload, 1))
    (kk : W p l e R s m args below meth c H locs cells slots Q (F0 m (pc + 1) ls (.long (f k) :: rest))) : W p l e R s m args below meth c H locs cells slots Q (F0 m pc ls (.int i :: .ref a :: rest)) := by
  subst hk
  exact va_lald hexec hb hK (x1 hW ha) 0 1 rfl rfl hin hdg kk
theorem x_qld {n : Nat} {f : Nat → Option Nat} {i : Int32} {k t0 : Nat} {cA : ClassId} {C : String} (hexec : p.tables.exec = Jvm.exec) (hb : c.code = cc) (hK : va_K G.1 vwCl (xtys G) s) (hW : xW G E H) (ha : E a = some (.inl (cA, n, .inr (.inr (.inr (.inr f)))))) (ht : (xtys G)[t0]? = some (cA, .object C)) (hin : vp_in i n) (hk : i.toNatClampNeg = k) (hdg : decode cc pc = .ok (.aaload, 1))
    (kk : W p l e R s m args below meth c H locs cells slots Q (F0 m (pc + 1) ls (va_rf (f k) :: rest))) : W p l e R s m args below meth c H locs cells slots Q (F0 m pc ls (.int i :: .ref a :: rest)) := by
  subst hk
  exact va_aldq hexec hb hK (x1 hW ha) 0 t0 rfl ht hin hdg kk
theorem x_callSe {x : Int32} (hr : va_Run p l e R s m args below meth c H locs cells slots 0 0 (F0 m pc ls st0) rest (vp_Si (fun r => r = x) ar) (fun _ => False))
    (kk : W p l e R s m args below meth c H locs cells slots Q (F0 m (pc + 3) ls (.int x :: rest))) : W p l e R s m args below meth c H locs cells slots Q (F0 m pc ls st0) := x_callSi hr (fun r h => by rw [h]; exact kk)
theorem x_callSle {x : Int64} (hr : va_Run p l e R s m args below meth c H locs cells slots 0 0 (F0 m pc ls st0) rest (vp_Sl (fun r => r = x) ar) (fun _ => False))
    (kk : W p l e R s m args below meth c H locs cells slots Q (F0 m (pc + 3) ls (.long x :: rest))) : W p l e R s m args below meth c H locs cells slots Q (F0 m pc ls st0) := x_callSl hr (fun r h => by rw [h]; exact kk)
/-- branches that come together with an int -/
theorem x_join {g : JFrame} {ls' : Array Slot} {rest' : List Value} (pcJ : Nat) (x : Int32) (h : ∀ v, v = x → W p l e R s m args below meth c H locs cells slots Q (F0 m pcJ ls' (.int v :: rest')))
    (k : (∀ v, v = x → W p l e R s m args below meth c H locs cells slots Q (F0 m pcJ ls' (.int v :: rest'))) → W p l e R s m args below meth c H locs cells slots Q g) : W p l e R s m args below meth c H locs cells slots Q g := k h
/-- a loop that writes no cell: the locals out of the state, a measure that falls -/
theorem x_loop {σ : Type} (pc0 nL : Nat) (lv : σ → List (Nat × Value)) (I : σ → Prop) (μ : σ → Nat)
    (step : ∀ (x : σ) (ls : Array Slot), I x → lv_has ls nL (lv x) → (∀ (y : σ) (ls' : Array Slot), μ y < μ x → I y → lv_has ls' nL (lv y) → W p l e R s m args below meth c H locs cells slots Q (F0 m pc0 ls' [])) → W p l e R s m args below meth c H locs cells slots Q (F0 m pc0 ls []))
    (x : σ) (ls : Array Slot) (h0 : I x) (hl : lv_has ls nL (lv x)) : W p l e R s m args below meth c H locs cells slots Q (F0 m pc0 ls []) := by
  have key : ∀ (n : Nat) (x : σ) (ls : Array Slot), μ x < n → I x → lv_has ls nL (lv x) → W p l e R s m args below meth c H locs cells slots Q (F0 m pc0 ls []) := by
    intro n
    induction n with
    | zero => intro x ls h; omega
    | succ n ih => exact fun x ls h hI hl => step x ls hI hl (fun y ls' hy hIy hly => ih y ls' (by omega) hIy hly)
  exact key (μ x + 1) x ls (Nat.lt_succ_self _) h0 hl
end XI
section XJ
variable {p : Program} {l : Launch} {e : Env} {R : Room} {s : State} {m : MethodId} {args : Array Value} {below : List Frame} {meth : Method} {c : Code} {H : Heap} {locs : List Loc} {cells slots : Nat} {Q : State → Prop}
/-- .. the loop ahead of the code that comes to it -/
theorem x_loopK {σ : Type} {g : JFrame} (pc0 nL : Nat) (lv : σ → List (Nat × Value)) (I : σ → Prop) (μ : σ → Nat)
    (step : ∀ (x : σ) (ls : Array Slot), I x → lv_has ls nL (lv x) → (∀ (y : σ) (ls' : Array Slot), μ y < μ x → I y → lv_has ls' nL (lv y) → W p l e R s m args below meth c H locs cells slots Q (F0 m pc0 ls' [])) → W p l e R s m args below meth c H locs cells slots Q (F0 m pc0 ls []))
    (k : (∀ (x : σ) (ls : Array Slot), I x → lv_has ls nL (lv x) → W p l e R s m args below meth c H locs cells slots Q (F0 m pc0 ls [])) → W p l e R s m args below meth c H locs cells slots Q g) : W p l e R s m args below meth c H locs cells slots Q g :=
  k (fun x ls h0 hl => x_loop pc0 nL lv I μ step x ls h0 hl)
end XJ
theorem x_nge {k B : Nat} (c : ¬ nI B ≤ nI k) (hk : k < 2 ^ 31) : k < B := by
  rcases Nat.lt_or_ge k B with h | h
  · exact h
  · exact absurd (nI_le h hk) c
theorem x_nlt {k B : Nat} (c : ¬ nI B < nI k) (hk : k < 2 ^ 31) (hB : B < 2 ^ 31) : k ≤ B := by
  rcases Nat.lt_or_ge B k with h | h
  · exact absurd (nI_lt h hk) c
  · exact h
end
section
def fX4_isIn (a0 : Int32) (a1 : Int32) : Bool := if ((a0 >>> (a1 &&& 31)) &&& 1) = 0 then false else true
set_option maxHeartbeats 4000000 in
set_option maxRecDepth 100000 in
theorem kX4_isIn (l : Launch) (a0 : Int32) (a1 : Int32) : Met l yX4_isIn wsX4_isIn ({ frames := 0, cells := 0, slots := 0, locals := 0 }) (va_Pc [.int a0, .int a1] (fun _ => True)) (vp_Si (fun r => r = zI (fX4_isIn a0 a1))) 0 0 (fun _ => False) := by
  refine Met.ofW (cc := cX4_isIn) (maxL := 2) (ret := (some .boolean)) (by decide) rfl ?_
  intro p e s m args below meth c s₁ B hml hv
  obtain ⟨rfl, -⟩ := hv
  have hx := B.exec
  have hb := B.bytes
  have hr := B.returns
  have hts := atoms_spec (ws := wsX4_isIn) B.pre
  have hown : s.vm.findClass RX4 = some m.cls := findClass_of_methodNamed B.named
  have hlocks := B.notSynchronized
  have hl := lv_entry ([.int a0, .int a1]) (n := 2) (Nat.le_of_ble_eq_true rfl)
  rw [lg_entry_eq]
  generalize (lg_sl ([.int a0, .int a1]) ++ List.replicate (2 - (lg_sl ([.int a0, .int a1])).length) Slot.unset).toArray = ls at hl ⊢
  have hl : lv_has ls 2 [(0, .int a0), (1, .int a1)] := hl
  refine lv_iload_n hx hb dX4_isIn_0 rfl (lv_at hl 0 rfl) ?_
  refine lv_iload_n hx hb dX4_isIn_1 rfl (lv_at hl 1 rfl) ?_
  refine lv_ishr hx hb dX4_isIn_2 ?_
  refine lv_iconst (v := 1) hx hb dX4_isIn_3 (by decide) ?_
  refine lv_iand hx hb dX4_isIn_4 ?_
  refine lv_if_eq (tgt := 12) hx hb dX4_isIn_5 (by decide) (fun c_1 => ?_) (fun c_1 => ?_)
  · refine lv_iconst (v := 0) hx hb dX4_isIn_12 (by decide) ?_
    exact W.zret (v := 0) hx hb hr rfl (fun t ht hw => ⟨_, rfl, (congrArg zI (show false = fX4_isIn a0 a1 from by unfold fX4_isIn; rw [if_pos c_1])), ht⟩) (fun _ h => nomatch h) dX4_isIn_13
  · refine lv_iconst (v := 1) hx hb dX4_isIn_8 (by decide) ?_
    refine lv_goto (tgt := 13) hx hb dX4_isIn_9 (by decide) ?_
    exact W.zret (v := 1) hx hb hr rfl (fun t ht hw => ⟨_, rfl, (congrArg zI (show true = fX4_isIn a0 a1 from by unfold fX4_isIn; rw [if_neg c_1])), ht⟩) (fun _ h => nomatch h) dX4_isIn_13

def fX4_cellAhead (a0 : Int32) (a1 : Int32) (a2 : Int32) : Int32 := if ((a0 - a0 / 5 * 5) + a1) < 0 then (-1) else (if 5 ≤ ((a0 - a0 / 5 * 5) + a1) then (-1) else (if ((a0 / 5) + a2) < 0 then (-1) else (if 5 ≤ ((a0 / 5) + a2) then (-1) else (((5 : Int32) * ((a0 / 5) + a2)) + ((a0 - a0 / 5 * 5) + a1)))))
set_option maxHeartbeats 4000000 in
set_option maxRecDepth 100000 in
theorem kX4_cellAhead (l : Launch) (a0 : Int32) (a1 : Int32) (a2 : Int32) : Met l yX4_cellAhead wsX4_cellAhead ({ frames := 0, cells := 0, slots := 0, locals := 0 }) (va_Pc [.int a0, .int a1, .int a2] (fun _ => True)) (vp_Si (fun r => r = fX4_cellAhead a0 a1 a2)) 0 0 (fun _ => False) := by
  refine Met.ofW (cc := cX4_cellAhead) (maxL := 6) (ret := (some .int)) (by decide) rfl ?_
  intro p e s m args below meth c s₁ B hml hv
  obtain ⟨rfl, -⟩ := hv
  have hx := B.exec
  have hb := B.bytes
  have hr := B.returns
  have hts := atoms_spec (ws := wsX4_cellAhead) B.pre
  have hown : s.vm.findClass RX4 = some m.cls := findClass_of_methodNamed B.named
  have hlocks := B.notSynchronized
  have hl := lv_entry ([.int a0, .int a1, .int a2]) (n := 6) (Nat.le_of_ble_eq_true rfl)
  rw [lg_entry_eq]
  generalize (lg_sl ([.int a0, .int a1, .int a2]) ++ List.replicate (6 - (lg_sl ([.int a0, .int a1, .int a2])).length) Slot.unset).toArray = ls at hl ⊢
  have hl : lv_has ls 6 [(0, .int a0), (1, .int a1), (2, .int a2)] := hl
  refine lv_iload_n hx hb dX4_cellAhead_0 rfl (lv_at hl 0 rfl) ?_
  refine lv_iconst (v := 5) hx hb dX4_cellAhead_1 (by decide) ?_
  refine lv_irem hx hb dX4_cellAhead_2 (by decide) ?_
  refine lv_iload_n hx hb dX4_cellAhead_3 rfl (lv_at hl 1 rfl) ?_
  refine lv_iadd hx hb dX4_cellAhead_4 ?_
  refine lv_istore_n (lv' := [(3, .int ((a0 - a0 / 5 * 5) + a1)), (0, .int a0), (1, .int a1), (2, .int a2)]) hx hb dX4_cellAhead_5 rfl hl (by decide) rfl (fun ls hl => ?_)
  refine lv_iload_n hx hb dX4_cellAhead_6 rfl (lv_at hl 1 rfl) ?_
  refine lv_iconst (v := 5) hx hb dX4_cellAhead_7 (by decide) ?_
  refine lv_idiv hx hb dX4_cellAhead_8 (by decide) ?_
  refine lv_iload_n hx hb dX4_cellAhead_9 rfl (lv_at hl 3 rfl) ?_
  refine lv_iadd hx hb dX4_cellAhead_10 ?_
  refine lv_istore (lv' := [(4, .int ((a0 / 5) + a2)), (3, .int ((a0 - a0 / 5 * 5) + a1)), (0, .int a0), (1, .int a1), (2, .int a2)]) hx hb dX4_cellAhead_11 hl (by decide) rfl (fun ls hl => ?_)
  refine lv_iload_n hx hb dX4_cellAhead_13 rfl (lv_at hl 1 rfl) ?_
  refine lv_if_lt (tgt := 37) hx hb dX4_cellAhead_14 (by decide) (fun c_1 => ?_) (fun c_1 => ?_)
  · refine lv_iconst (v := 0) hx hb dX4_cellAhead_37 (by decide) ?_
    refine lv_istore (lv' := [(5, .int 0), (4, .int ((a0 / 5) + a2)), (3, .int ((a0 - a0 / 5 * 5) + a1)), (0, .int a0), (1, .int a1), (2, .int a2)]) hx hb dX4_cellAhead_38 hl (by decide) rfl (fun ls hl => ?_)
    refine lv_iload hx hb dX4_cellAhead_40 (lv_at hl 0 rfl) ?_
    refine lv_if_eq (tgt := 54) hx hb dX4_cellAhead_42 (by decide) (fun _ => ?_) (fun c9 => absurd (by decide) c9)
    refine lv_iconst (v := (-1)) hx hb dX4_cellAhead_54 (by decide) ?_
    exact W.iret (v := (-1)) hx hb hr (fun t ht hw => ⟨_, rfl, (show ((-1) : Int32) = fX4_cellAhead a0 a1 a2 from by unfold fX4_cellAhead; rw [if_pos c_1]), ht⟩) (fun _ h => nomatch h) dX4_cellAhead_55
  · refine lv_iload_n hx hb dX4_cellAhead_17 rfl (lv_at hl 1 rfl) ?_
    refine lv_iconst (v := 5) hx hb dX4_cellAhead_18 (by decide) ?_
    refine lv_icmp_ge (tgt := 37) hx hb dX4_cellAhead_19 (by decide) (fun c_2 => ?_) (fun c_2 => ?_)
    · refine lv_iconst (v := 0) hx hb dX4_cellAhead_37 (by decide) ?_
      refine lv_istore (lv' := [(5, .int 0), (4, .int ((a0 / 5) + a2)), (3, .int ((a0 - a0 / 5 * 5) + a1)), (0, .int a0), (1, .int a1), (2, .int a2)]) hx hb dX4_cellAhead_38 hl (by decide) rfl (fun ls hl => ?_)
      refine lv_iload hx hb dX4_cellAhead_40 (lv_at hl 0 rfl) ?_
      refine lv_if_eq (tgt := 54) hx hb dX4_cellAhead_42 (by decide) (fun _ => ?_) (fun c9 => absurd (by decide) c9)
      refine lv_iconst (v := (-1)) hx hb dX4_cellAhead_54 (by decide) ?_
      exact W.iret (v := (-1)) hx hb hr (fun t ht hw => ⟨_, rfl, (show ((-1) : Int32) = fX4_cellAhead a0 a1 a2 from by unfold fX4_cellAhead; rw [if_neg c_1, if_pos c_2]), ht⟩) (fun _ h => nomatch h) dX4_cellAhead_55
    · refine lv_iload hx hb dX4_cellAhead_22 (lv_at hl 0 rfl) ?_
      refine lv_if_lt (tgt := 37) hx hb dX4_cellAhead_24 (by decide) (fun c_3 => ?_) (fun c_3 => ?_)
      · refine lv_iconst (v := 0) hx hb dX4_cellAhead_37 (by decide) ?_
        refine lv_istore (lv' := [(5, .int 0), (4, .int ((a0 / 5) + a2)), (3, .int ((a0 - a0 / 5 * 5) + a1)), (0, .int a0), (1, .int a1), (2, .int a2)]) hx hb dX4_cellAhead_38 hl (by decide) rfl (fun ls hl => ?_)
        refine lv_iload hx hb dX4_cellAhead_40 (lv_at hl 0 rfl) ?_
        refine lv_if_eq (tgt := 54) hx hb dX4_cellAhead_42 (by decide) (fun _ => ?_) (fun c9 => absurd (by decide) c9)
        refine lv_iconst (v := (-1)) hx hb dX4_cellAhead_54 (by decide) ?_
        exact W.iret (v := (-1)) hx hb hr (fun t ht hw => ⟨_, rfl, (show ((-1) : Int32) = fX4_cellAhead a0 a1 a2 from by unfold fX4_cellAhead; rw [if_neg c_1, if_neg c_2, if_pos c_3]), ht⟩) (fun _ h => nomatch h) dX4_cellAhead_55
      · refine lv_iload hx hb dX4_cellAhead_27 (lv_at hl 0 rfl) ?_
        refine lv_iconst (v := 5) hx hb dX4_cellAhead_29 (by decide) ?_
        refine lv_icmp_ge (tgt := 37) hx hb dX4_cellAhead_30 (by decide) (fun c_4 => ?_) (fun c_4 => ?_)
        · refine lv_iconst (v := 0) hx hb dX4_cellAhead_37 (by decide) ?_
          refine lv_istore (lv' := [(5, .int 0), (4, .int ((a0 / 5) + a2)), (3, .int ((a0 - a0 / 5 * 5) + a1)), (0, .int a0), (1, .int a1), (2, .int a2)]) hx hb dX4_cellAhead_38 hl (by decide) rfl (fun ls hl => ?_)
          refine lv_iload hx hb dX4_cellAhead_40 (lv_at hl 0 rfl) ?_
          refine lv_if_eq (tgt := 54) hx hb dX4_cellAhead_42 (by decide) (fun _ => ?_) (fun c9 => absurd (by decide) c9)
          refine lv_iconst (v := (-1)) hx hb dX4_cellAhead_54 (by decide) ?_
          exact W.iret (v := (-1)) hx hb hr (fun t ht hw => ⟨_, rfl, (show ((-1) : Int32) = fX4_cellAhead a0 a1 a2 from by unfold fX4_cellAhead; rw [if_neg c_1, if_neg c_2, if_neg c_3, if_pos c_4]), ht⟩) (fun _ h => nomatch h) dX4_cellAhead_55
        · refine lv_iconst (v := 1) hx hb dX4_cellAhead_33 (by decide) ?_
          refine lv_goto (tgt := 38) hx hb dX4_cellAhead_34 (by decide) ?_
          refine lv_istore (lv' := [(5, .int 1), (4, .int ((a0 / 5) + a2)), (3, .int ((a0 - a0 / 5 * 5) + a1)), (0, .int a0), (1, .int a1), (2, .int a2)]) hx hb dX4_cellAhead_38 hl (by decide) rfl (fun ls hl => ?_)
          refine lv_iload hx hb dX4_cellAhead_40 (lv_at hl 0 rfl) ?_
          refine lv_if_eq (tgt := 54) hx hb dX4_cellAhead_42 (by decide) (fun c9 => absurd c9 (by decide)) (fun _ => ?_)
          refine lv_iconst (v := 5) hx hb dX4_cellAhead_45 (by decide) ?_
          refine lv_iload hx hb dX4_cellAhead_46 (lv_at hl 1 rfl) ?_
          refine lv_imul hx hb dX4_cellAhead_48 ?_
          refine lv_iload_n hx hb dX4_cellAhead_49 rfl (lv_at hl 2 rfl) ?_
          refine lv_iadd hx hb dX4_cellAhead_50 ?_
          refine lv_goto (tgt := 55) hx hb dX4_cellAhead_51 (by decide) ?_
          exact W.iret (v := ((5 : Int32) * ((a0 / 5) + a2)) + ((a0 - a0 / 5 * 5) + a1)) hx hb hr (fun t ht hw => ⟨_, rfl, (show (((5 : Int32) * ((a0 / 5) + a2)) + ((a0 - a0 / 5 * 5) + a1) : Int32) = fX4_cellAhead a0 a1 a2 from by unfold fX4_cellAhead; rw [if_neg c_1, if_neg c_2, if_neg c_3, if_neg c_4]), ht⟩) (fun _ h => nomatch h) dX4_cellAhead_55

def fX4_moved (a0 : Int32) (a1 : Int32) (a2 : Int32) : Int32 := (a0 &&& (((1 : Int32) <<< (a1 &&& 31)) ^^^ (-1))) ||| ((1 : Int32) <<< (a2 &&& 31))
set_option maxHeartbeats 4000000 in
set_option maxRecDepth 100000 in
theorem kX4_moved (l : Launch) (a0 : Int32) (a1 : Int32) (a2 : Int32) : Met l yX4_moved wsX4_moved ({ frames := 0, cells := 0, slots := 0, locals := 0 }) (va_Pc [.int a0, .int a1, .int a2] (fun _ => True)) (vp_Si (fun r => r = fX4_moved a0 a1 a2)) 0 0 (fun _ => False) := by
  refine Met.ofW (cc := cX4_moved) (maxL := 3) (ret := (some .int)) (by decide) rfl ?_
  intro p e s m args below meth c s₁ B hml hv
  obtain ⟨rfl, -⟩ := hv
  have hx := B.exec
  have hb := B.bytes
  have hr := B.returns
  have hts := atoms_spec (ws := wsX4_moved) B.pre
  have hown : s.vm.findClass RX4 = some m.cls := findClass_of_methodNamed B.named
  have hlocks := B.notSynchronized
  have hl := lv_entry ([.int a0, .int a1, .int a2]) (n := 3) (Nat.le_of_ble_eq_true rfl)
  rw [lg_entry_eq]
  generalize (lg_sl ([.int a0, .int a1, .int a2]) ++ List.replicate (3 - (lg_sl ([.int a0, .int a1, .int a2])).length) Slot.unset).toArray = ls at hl ⊢
  have hl : lv_has ls 3 [(0, .int a0), (1, .int a1), (2, .int a2)] := hl
  refine lv_iload_n hx hb dX4_moved_0 rfl (lv_at hl 0 rfl) ?_
  refine lv_iconst (v := 1) hx hb dX4_moved_1 (by decide) ?_
  refine lv_iload_n hx hb dX4_moved_2 rfl (lv_at hl 1 rfl) ?_
  refine lv_ishl hx hb dX4_moved_3 ?_
  refine lv_iconst (v := (-1)) hx hb dX4_moved_4 (by decide) ?_
  refine lv_ixor hx hb dX4_moved_5 ?_
  refine lv_iand hx hb dX4_moved_6 ?_
  refine lv_iconst (v := 1) hx hb dX4_moved_7 (by decide) ?_
  refine lv_iload_n hx hb dX4_moved_8 rfl (lv_at hl 2 rfl) ?_
  refine lv_ishl hx hb dX4_moved_9 ?_
  refine lv_ior hx hb dX4_moved_10 ?_
  exact W.iret (v := (a0 &&& (((1 : Int32) <<< (a1 &&& 31)) ^^^ (-1))) ||| ((1 : Int32) <<< (a2 &&& 31))) hx hb hr (fun t ht hw => ⟨_, rfl, (show ((a0 &&& (((1 : Int32) <<< (a1 &&& 31)) ^^^ (-1))) ||| ((1 : Int32) <<< (a2 &&& 31)) : Int32) = fX4_moved a0 a1 a2 from by unfold fX4_moved; rfl), ht⟩) (fun _ h => nomatch h) dX4_moved_11

def fX4_isStep (a0 : Int32) (a1 : Int32) : Bool := if a0 < (-2) then false else (if 2 < a0 then false else (if a1 < (-2) then false else (if 2 < a1 then false else (if a0 = 0 then (if a1 = 0 then false else true) else true))))
set_option maxHeartbeats 4000000 in
set_option maxRecDepth 100000 in
theorem kX4_isStep (l : Launch) (a0 : Int32) (a1 : Int32) : Met l yX4_isStep wsX4_isStep ({ frames := 0, cells := 0, slots := 0, locals := 0 }) (va_Pc [.int a0, .int a1] (fun _ => True)) (vp_Si (fun r => r = zI (fX4_isStep a0 a1))) 0 0 (fun _ => False) := by
  refine Met.ofW (cc := cX4_isStep) (maxL := 3) (ret := (some .boolean)) (by decide) rfl ?_
  intro p e s m args below meth c s₁ B hml hv
  obtain ⟨rfl, -⟩ := hv
  have hx := B.exec
  have hb := B.bytes
  have hr := B.returns
  have hts := atoms_spec (ws := wsX4_isStep) B.pre
  have hown : s.vm.findClass RX4 = some m.cls := findClass_of_methodNamed B.named
  have hlocks := B.notSynchronized
  have hl := lv_entry ([.int a0, .int a1]) (n := 3) (Nat.le_of_ble_eq_true rfl)
  rw [lg_entry_eq]
  generalize (lg_sl ([.int a0, .int a1]) ++ List.replicate (3 - (lg_sl ([.int a0, .int a1])).length) Slot.unset).toArray = ls at hl ⊢
  have hl : lv_has ls 3 [(0, .int a0), (1, .int a1)] := hl
  refine lv_iload_n hx hb dX4_isStep_0 rfl (lv_at hl 0 rfl) ?_
  refine lv_bipush (v := (-2)) hx hb dX4_isStep_1 (by decide) ?_
  refine lv_icmp_lt (tgt := 26) hx hb dX4_isStep_3 (by decide) (fun c_1 => ?_) (fun c_1 => ?_)
  · refine lv_iconst (v := 0) hx hb dX4_isStep_26 (by decide) ?_
    refine lv_istore_n (lv' := [(2, .int 0), (0, .int a0), (1, .int a1)]) hx hb dX4_isStep_27 rfl hl (by decide) rfl (fun ls hl => ?_)
    refine lv_iload_n hx hb dX4_isStep_28 rfl (lv_at hl 0 rfl) ?_
    refine lv_if_eq (tgt := 44) hx hb dX4_isStep_29 (by decide) (fun _ => ?_) (fun c9 => absurd (by decide) c9)
    refine lv_iconst (v := 0) hx hb dX4_isStep_44 (by decide) ?_
    exact W.zret (v := 0) hx hb hr rfl (fun t ht hw => ⟨_, rfl, (congrArg zI (show false = fX4_isStep a0 a1 from by unfold fX4_isStep; rw [if_pos c_1])), ht⟩) (fun _ h => nomatch h) dX4_isStep_45
  · refine lv_iload_n hx hb dX4_isStep_6 rfl (lv_at hl 0 rfl) ?_
    refine lv_iconst (v := 2) hx hb dX4_isStep_7 (by decide) ?_
    refine lv_icmp_gt (tgt := 26) hx hb dX4_isStep_8 (by decide) (fun c_2 => ?_) (fun c_2 => ?_)
    · refine lv_iconst (v := 0) hx hb dX4_isStep_26 (by decide) ?_
      refine lv_istore_n (lv' := [(2, .int 0), (0, .int a0), (1, .int a1)]) hx hb dX4_isStep_27 rfl hl (by decide) rfl (fun ls hl => ?_)
      refine lv_iload_n hx hb dX4_isStep_28 rfl (lv_at hl 0 rfl) ?_
      refine lv_if_eq (tgt := 44) hx hb dX4_isStep_29 (by decide) (fun _ => ?_) (fun c9 => absurd (by decide) c9)
      refine lv_iconst (v := 0) hx hb dX4_isStep_44 (by decide) ?_
      exact W.zret (v := 0) hx hb hr rfl (fun t ht hw => ⟨_, rfl, (congrArg zI (show false = fX4_isStep a0 a1 from by unfold fX4_isStep; rw [if_neg c_1, if_pos c_2])), ht⟩) (fun _ h => nomatch h) dX4_isStep_45
    · refine lv_iload_n hx hb dX4_isStep_11 rfl (lv_at hl 1 rfl) ?_
      refine lv_bipush (v := (-2)) hx hb dX4_isStep_12 (by decide) ?_
      refine lv_icmp_lt (tgt := 26) hx hb dX4_isStep_14 (by decide) (fun c_3 => ?_) (fun c_3 => ?_)
      · refine lv_iconst (v := 0) hx hb dX4_isStep_26 (by decide) ?_
        refine lv_istore_n (lv' := [(2, .int 0), (0, .int a0), (1, .int a1)]) hx hb dX4_isStep_27 rfl hl (by decide) rfl (fun ls hl => ?_)
        refine lv_iload_n hx hb dX4_isStep_28 rfl (lv_at hl 0 rfl) ?_
        refine lv_if_eq (tgt := 44) hx hb dX4_isStep_29 (by decide) (fun _ => ?_) (fun c9 => absurd (by decide) c9)
        refine lv_iconst (v := 0) hx hb dX4_isStep_44 (by decide) ?_
        exact W.zret (v := 0) hx hb hr rfl (fun t ht hw => ⟨_, rfl, (congrArg zI (show false = fX4_isStep a0 a1 from by unfold fX4_isStep; rw [if_neg c_1, if_neg c_2, if_pos c_3])), ht⟩) (fun _ h => nomatch h) dX4_isStep_45
      · refine lv_iload_n hx hb dX4_isStep_17 rfl (lv_at hl 1 rfl) ?_
        refine lv_iconst (v := 2) hx hb dX4_isStep_18 (by decide) ?_
        refine lv_icmp_gt (tgt := 26) hx hb dX4_isStep_19 (by decide) (fun c_4 => ?_) (fun c_4 => ?_)
        · refine lv_iconst (v := 0) hx hb dX4_isStep_26 (by decide) ?_
          refine lv_istore_n (lv' := [(2, .int 0), (0, .int a0), (1, .int a1)]) hx hb dX4_isStep_27 rfl hl (by decide) rfl (fun ls hl => ?_)
          refine lv_iload_n hx hb dX4_isStep_28 rfl (lv_at hl 0 rfl) ?_
          refine lv_if_eq (tgt := 44) hx hb dX4_isStep_29 (by decide) (fun _ => ?_) (fun c9 => absurd (by decide) c9)
          refine lv_iconst (v := 0) hx hb dX4_isStep_44 (by decide) ?_
          exact W.zret (v := 0) hx hb hr rfl (fun t ht hw => ⟨_, rfl, (congrArg zI (show false = fX4_isStep a0 a1 from by unfold fX4_isStep; rw [if_neg c_1, if_neg c_2, if_neg c_3, if_pos c_4])), ht⟩) (fun _ h => nomatch h) dX4_isStep_45
        · refine lv_iconst (v := 1) hx hb dX4_isStep_22 (by decide) ?_
          refine lv_goto (tgt := 27) hx hb dX4_isStep_23 (by decide) ?_
          refine lv_istore_n (lv' := [(2, .int 1), (0, .int a0), (1, .int a1)]) hx hb dX4_isStep_27 rfl hl (by decide) rfl (fun ls hl => ?_)
          refine lv_iload_n hx hb dX4_isStep_28 rfl (lv_at hl 0 rfl) ?_
          refine lv_if_eq (tgt := 44) hx hb dX4_isStep_29 (by decide) (fun c9 => absurd c9 (by decide)) (fun _ => ?_)
          refine lv_iload_n hx hb dX4_isStep_32 rfl (lv_at hl 1 rfl) ?_
          refine lv_if_ne (tgt := 40) hx hb dX4_isStep_33 (by decide) (fun c_5 => ?_) (fun c_5 => ?_)
          · refine lv_iconst (v := 1) hx hb dX4_isStep_40 (by decide) ?_
            refine lv_goto (tgt := 45) hx hb dX4_isStep_41 (by decide) ?_
            exact W.zret (v := 1) hx hb hr rfl (fun t ht hw => ⟨_, rfl, (congrArg zI (show true = fX4_isStep a0 a1 from by unfold fX4_isStep; rw [if_neg c_1, if_neg c_2, if_neg c_3, if_neg c_4, if_neg c_5])), ht⟩) (fun _ h => nomatch h) dX4_isStep_45
          · refine lv_iload_n hx hb dX4_isStep_36 rfl (lv_at hl 2 rfl) ?_
            refine lv_if_eq (tgt := 44) hx hb dX4_isStep_37 (by decide) (fun c_6 => ?_) (fun c_6 => ?_)
            · refine lv_iconst (v := 0) hx hb dX4_isStep_44 (by decide) ?_
              exact W.zret (v := 0) hx hb hr rfl (fun t ht hw => ⟨_, rfl, (congrArg zI (show false = fX4_isStep a0 a1 from by unfold fX4_isStep; rw [if_neg c_1, if_neg c_2, if_neg c_3, if_neg c_4, if_pos c_5, if_pos c_6])), ht⟩) (fun _ h => nomatch h) dX4_isStep_45
            · refine lv_iconst (v := 1) hx hb dX4_isStep_40 (by decide) ?_
              refine lv_goto (tgt := 45) hx hb dX4_isStep_41 (by decide) ?_
              exact W.zret (v := 1) hx hb hr rfl (fun t ht hw => ⟨_, rfl, (congrArg zI (show true = fX4_isStep a0 a1 from by unfold fX4_isStep; rw [if_neg c_1, if_neg c_2, if_neg c_3, if_neg c_4, if_pos c_5, if_neg c_6])), ht⟩) (fun _ h => nomatch h) dX4_isStep_45

def fX1_placing (a0 : Int32) (a1 : Int32) (a2 : Bool) : Int64 := if a2 = true then ((((a1.toInt64 <<< ((25 : Int32).toInt64 &&& 63)) ||| a0.toInt64) <<< ((1 : Int32).toInt64 &&& 63)) ||| ((1 : Int32).toInt64)) else ((((a1.toInt64 <<< ((25 : Int32).toInt64 &&& 63)) ||| a0.toInt64) <<< ((1 : Int32).toInt64 &&& 63)) ||| ((0 : Int32).toInt64))
set_option maxHeartbeats 4000000 in
set_option maxRecDepth 100000 in
theorem kX1_placing (l : Launch) (a0 : Int32) (a1 : Int32) (a2 : Bool) : Met l yX1_placing wsX1_placing ({ frames := 0, cells := 0, slots := 0, locals := 0 }) (va_Pc [.int a0, .int a1, .int (zI a2)] (fun _ => True)) (vp_Sl (fun r => r = fX1_placing a0 a1 a2)) 0 0 (fun _ => False) := by
  refine Met.ofW (cc := cX1_placing) (maxL := 5) (ret := (some .long)) (by decide) rfl ?_
  intro p e s m args below meth c s₁ B hml hv
  obtain ⟨rfl, -⟩ := hv
  have hx := B.exec
  have hb := B.bytes
  have hr := B.returns
  have hts := atoms_spec (ws := wsX1_placing) B.pre
  have hown : s.vm.findClass RX1 = some m.cls := findClass_of_methodNamed B.named
  have hlocks := B.notSynchronized
  have hl := lv_entry ([.int a0, .int a1, .int (zI a2)]) (n := 5) (Nat.le_of_ble_eq_true rfl)
  rw [lg_entry_eq]
  generalize (lg_sl ([.int a0, .int a1, .int (zI a2)]) ++ List.replicate (5 - (lg_sl ([.int a0, .int a1, .int (zI a2)])).length) Slot.unset).toArray = ls at hl ⊢
  have hl : lv_has ls 5 [(0, .int a0), (1, .int a1), (2, .int (zI a2))] := hl
  refine lv_iload_n hx hb dX1_placing_0 rfl (lv_at hl 1 rfl) ?_
  refine lv_i2l (v := a1.toInt64) hx hb dX1_placing_1 rfl ?_
  refine lv_bipush (v := 25) hx hb dX1_placing_2 (by decide) ?_
  refine lv_lshl (v := a1.toInt64 <<< ((25 : Int32).toInt64 &&& 63)) hx hb dX1_placing_4 rfl ?_
  refine lv_iload_n hx hb dX1_placing_5 rfl (lv_at hl 0 rfl) ?_
  refine lv_i2l (v := a0.toInt64) hx hb dX1_placing_6 rfl ?_
  refine lv_lor hx hb dX1_placing_7 ?_
  refine lv_lstore_n (lv' := [(3, .long ((a1.toInt64 <<< ((25 : Int32).toInt64 &&& 63)) ||| a0.toInt64)), (0, .int a0), (1, .int a1), (2, .int (zI a2))]) hx hb dX1_placing_8 rfl hl (by decide) rfl (fun ls hl => ?_)
  refine lv_lload_n hx hb dX1_placing_9 rfl (lv_at hl 0 rfl) ?_
  refine lv_iconst (v := 1) hx hb dX1_placing_10 (by decide) ?_
  refine lv_lshl (v := ((a1.toInt64 <<< ((25 : Int32).toInt64 &&& 63)) ||| a0.toInt64) <<< ((1 : Int32).toInt64 &&& 63)) hx hb dX1_placing_11 rfl ?_
  refine lv_iload_n hx hb dX1_placing_12 rfl (lv_at hl 3 rfl) ?_
  refine x_ifz_eq (b := a2) (tgt := 20) hx hb dX1_placing_13 (by decide) (fun c_1 => ?_) (fun c_1 => ?_)
  · refine lv_iconst (v := 0) hx hb dX1_placing_20 (by decide) ?_
    refine lv_i2l (v := (0 : Int32).toInt64) hx hb dX1_placing_21 rfl ?_
    refine lv_lor hx hb dX1_placing_22 ?_
    exact W.lret (v := (((a1.toInt64 <<< ((25 : Int32).toInt64 &&& 63)) ||| a0.toInt64) <<< ((1 : Int32).toInt64 &&& 63)) ||| ((0 : Int32).toInt64)) hx hb hr (fun t ht hw => ⟨_, rfl, (show ((((a1.toInt64 <<< ((25 : Int32).toInt64 &&& 63)) ||| a0.toInt64) <<< ((1 : Int32).toInt64 &&& 63)) ||| ((0 : Int32).toInt64) : Int64) = fX1_placing a0 a1 a2 from by unfold fX1_placing; rw [if_neg (Bool.eq_false_iff.mp c_1)]), ht⟩) (fun _ h => nomatch h) dX1_placing_23
  · refine lv_iconst (v := 1) hx hb dX1_placing_16 (by decide) ?_
    refine lv_goto (tgt := 21) hx hb dX1_placing_17 (by decide) ?_
    refine lv_i2l (v := (1 : Int32).toInt64) hx hb dX1_placing_21 rfl ?_
    refine lv_lor hx hb dX1_placing_22 ?_
    exact W.lret (v := (((a1.toInt64 <<< ((25 : Int32).toInt64 &&& 63)) ||| a0.toInt64) <<< ((1 : Int32).toInt64 &&& 63)) ||| ((1 : Int32).toInt64)) hx hb hr (fun t ht hw => ⟨_, rfl, (show ((((a1.toInt64 <<< ((25 : Int32).toInt64 &&& 63)) ||| a0.toInt64) <<< ((1 : Int32).toInt64 &&& 63)) ||| ((1 : Int32).toInt64) : Int64) = fX1_placing a0 a1 a2 from by unfold fX1_placing; rw [if_pos c_1]), ht⟩) (fun _ h => nomatch h) dX1_placing_23

def fJ6_bitCount_0f7a4 (a0 : Int32) : Int32 := (((((((a0 - (((a0.toUInt32 >>> ((1 : Int32).toUInt32 &&& Int32.toUInt32 31)).toInt32) &&& 1431655765)) &&& 858993459) + ((((a0 - (((a0.toUInt32 >>> ((1 : Int32).toUInt32 &&& Int32.toUInt32 31)).toInt32) &&& 1431655765)).toUInt32 >>> ((2 : Int32).toUInt32 &&& Int32.toUInt32 31)).toInt32) &&& 858993459)) + (((((a0 - (((a0.toUInt32 >>> ((1 : Int32).toUInt32 &&& Int32.toUInt32 31)).toInt32) &&& 1431655765)) &&& 858993459) + ((((a0 - (((a0.toUInt32 >>> ((1 : Int32).toUInt32 &&& Int32.toUInt32 31)).toInt32) &&& 1431655765)).toUInt32 >>> ((2 : Int32).toUInt32 &&& Int32.toUInt32 31)).toInt32) &&& 858993459)).toUInt32 >>> ((4 : Int32).toUInt32 &&& Int32.toUInt32 31)).toInt32)) &&& 252645135) + (((((((a0 - (((a0.toUInt32 >>> ((1 : Int32).toUInt32 &&& Int32.toUInt32 31)).toInt32) &&& 1431655765)) &&& 858993459) + ((((a0 - (((a0.toUInt32 >>> ((1 : Int32).toUInt32 &&& Int32.toUInt32 31)).toInt32) &&& 1431655765)).toUInt32 >>> ((2 : Int32).toUInt32 &&& Int32.toUInt32 31)).toInt32) &&& 858993459)) + (((((a0 - (((a0.toUInt32 >>> ((1 : Int32).toUInt32 &&& Int32.toUInt32 31)).toInt32) &&& 1431655765)) &&& 858993459) + ((((a0 - (((a0.toUInt32 >>> ((1 : Int32).toUInt32 &&& Int32.toUInt32 31)).toInt32) &&& 1431655765)).toUInt32 >>> ((2 : Int32).toUInt32 &&& Int32.toUInt32 31)).toInt32) &&& 858993459)).toUInt32 >>> ((4 : Int32).toUInt32 &&& Int32.toUInt32 31)).toInt32)) &&& 252645135).toUInt32 >>> ((8 : Int32).toUInt32 &&& Int32.toUInt32 31)).toInt32)) + ((((((((a0 - (((a0.toUInt32 >>> ((1 : Int32).toUInt32 &&& Int32.toUInt32 31)).toInt32) &&& 1431655765)) &&& 858993459) + ((((a0 - (((a0.toUInt32 >>> ((1 : Int32).toUInt32 &&& Int32.toUInt32 31)).toInt32) &&& 1431655765)).toUInt32 >>> ((2 : Int32).toUInt32 &&& Int32.toUInt32 31)).toInt32) &&& 858993459)) + (((((a0 - (((a0.toUInt32 >>> ((1 : Int32).toUInt32 &&& Int32.toUInt32 31)).toInt32) &&& 1431655765)) &&& 858993459) + ((((a0 - (((a0.toUInt32 >>> ((1 : Int32).toUInt32 &&& Int32.toUInt32 31)).toInt32) &&& 1431655765)).toUInt32 >>> ((2 : Int32).toUInt32 &&& Int32.toUInt32 31)).toInt32) &&& 858993459)).toUInt32 >>> ((4 : Int32).toUInt32 &&& Int32.toUInt32 31)).toInt32)) &&& 252645135) + (((((((a0 - (((a0.toUInt32 >>> ((1 : Int32).toUInt32 &&& Int32.toUInt32 31)).toInt32) &&& 1431655765)) &&& 858993459) + ((((a0 - (((a0.toUInt32 >>> ((1 : Int32).toUInt32 &&& Int32.toUInt32 31)).toInt32) &&& 1431655765)).toUInt32 >>> ((2 : Int32).toUInt32 &&& Int32.toUInt32 31)).toInt32) &&& 858993459)) + (((((a0 - (((a0.toUInt32 >>> ((1 : Int32).toUInt32 &&& Int32.toUInt32 31)).toInt32) &&& 1431655765)) &&& 858993459) + ((((a0 - (((a0.toUInt32 >>> ((1 : Int32).toUInt32 &&& Int32.toUInt32 31)).toInt32) &&& 1431655765)).toUInt32 >>> ((2 : Int32).toUInt32 &&& Int32.toUInt32 31)).toInt32) &&& 858993459)).toUInt32 >>> ((4 : Int32).toUInt32 &&& Int32.toUInt32 31)).toInt32)) &&& 252645135).toUInt32 >>> ((8 : Int32).toUInt32 &&& Int32.toUInt32 31)).toInt32)).toUInt32 >>> ((16 : Int32).toUInt32 &&& Int32.toUInt32 31)).toInt32)) &&& 63
set_option maxHeartbeats 4000000 in
set_option maxRecDepth 100000 in
theorem kJ6_bitCount_0f7a4 (l : Launch) (a0 : Int32) : Met l yJ6_bitCount_0f7a4 wsJ6_bitCount_0f7a4 ({ frames := 0, cells := 0, slots := 0, locals := 0 }) (va_Pc [.int a0] (fun _ => True)) (vp_Si (fun r => r = fJ6_bitCount_0f7a4 a0)) 0 0 (fun _ => False) := by
  refine Met.ofW (cc := cJ6_bitCount_0f7a4) (maxL := 1) (ret := (some .int)) (by decide) rfl ?_
  intro p e s m args below meth c s₁ B hml hv
  obtain ⟨rfl, -⟩ := hv
  have hx := B.exec
  have hb := B.bytes
  have hr := B.returns
  have hts := atoms_spec (ws := wsJ6_bitCount_0f7a4) B.pre
  have hown : s.vm.findClass RJ6 = some m.cls := findClass_of_methodNamed B.named
  have hlocks := B.notSynchronized
  have hk265 := hts (Cond.constant RJ6 265 (1431655765)) (by decide +kernel)
  have hk266 := hts (Cond.constant RJ6 266 (858993459)) (by decide +kernel)
  have hk267 := hts (Cond.constant RJ6 267 (252645135)) (by decide +kernel)
  have hl := lv_entry ([.int a0]) (n := 1) (Nat.le_of_ble_eq_true rfl)
  rw [lg_entry_eq]
  generalize (lg_sl ([.int a0]) ++ List.replicate (1 - (lg_sl ([.int a0])).length) Slot.unset).toArray = ls at hl ⊢
  have hl : lv_has ls 1 [(0, .int a0)] := hl
  refine lv_iload_n hx hb dJ6_bitCount_0f7a4_0 rfl (lv_at hl 0 rfl) ?_
  refine lv_iload_n hx hb dJ6_bitCount_0f7a4_1 rfl (lv_at hl 0 rfl) ?_
  refine lv_iconst (v := 1) hx hb dJ6_bitCount_0f7a4_2 (by decide) ?_
  refine lv_iushr (v := (a0.toUInt32 >>> ((1 : Int32).toUInt32 &&& Int32.toUInt32 31)).toInt32) hx hb dJ6_bitCount_0f7a4_3 rfl ?_
  refine lv_ldcw (v := 1431655765) hx hb hown hk265 dJ6_bitCount_0f7a4_4 ?_
  refine lv_iand hx hb dJ6_bitCount_0f7a4_7 ?_
  refine lv_isub hx hb dJ6_bitCount_0f7a4_8 ?_
  refine lv_istore_n (lv' := [(0, .int (a0 - (((a0.toUInt32 >>> ((1 : Int32).toUInt32 &&& Int32.toUInt32 31)).toInt32) &&& 1431655765)))]) hx hb dJ6_bitCount_0f7a4_9 rfl hl (by decide) rfl (fun ls hl => ?_)
  refine lv_iload_n hx hb dJ6_bitCount_0f7a4_10 rfl (lv_at hl 0 rfl) ?_
  refine lv_ldcw (v := 858993459) hx hb hown hk266 dJ6_bitCount_0f7a4_11 ?_
  refine lv_iand hx hb dJ6_bitCount_0f7a4_14 ?_
  refine lv_iload_n hx hb dJ6_bitCount_0f7a4_15 rfl (lv_at hl 0 rfl) ?_
  refine lv_iconst (v := 2) hx hb dJ6_bitCount_0f7a4_16 (by decide) ?_
  refine lv_iushr (v := ((a0 - (((a0.toUInt32 >>> ((1 : Int32).toUInt32 &&& Int32.toUInt32 31)).toInt32) &&& 1431655765)).toUInt32 >>> ((2 : Int32).toUInt32 &&& Int32.toUInt32 31)).toInt32) hx hb dJ6_bitCount_0f7a4_17 rfl ?_
  refine lv_ldcw (v := 858993459) hx hb hown hk266 dJ6_bitCount_0f7a4_18 ?_
  refine lv_iand hx hb dJ6_bitCount_0f7a4_21 ?_
  refine lv_iadd hx hb dJ6_bitCount_0f7a4_22 ?_
  refine lv_istore_n (lv' := [(0, .int (((a0 - (((a0.toUInt32 >>> ((1 : Int32).toUInt32 &&& Int32.toUInt32 31)).toInt32) &&& 1431655765)) &&& 858993459) + ((((a0 - (((a0.toUInt32 >>> ((1 : Int32).toUInt32 &&& Int32.toUInt32 31)).toInt32) &&& 1431655765)).toUInt32 >>> ((2 : Int32).toUInt32 &&& Int32.toUInt32 31)).toInt32) &&& 858993459)))]) hx hb dJ6_bitCount_0f7a4_23 rfl hl (by decide) rfl (fun ls hl => ?_)
  refine lv_iload_n hx hb dJ6_bitCount_0f7a4_24 rfl (lv_at hl 0 rfl) ?_
  refine lv_iload_n hx hb dJ6_bitCount_0f7a4_25 rfl (lv_at hl 0 rfl) ?_
  refine lv_iconst (v := 4) hx hb dJ6_bitCount_0f7a4_26 (by decide) ?_
  refine lv_iushr (v := ((((a0 - (((a0.toUInt32 >>> ((1 : Int32).toUInt32 &&& Int32.toUInt32 31)).toInt32) &&& 1431655765)) &&& 858993459) + ((((a0 - (((a0.toUInt32 >>> ((1 : Int32).toUInt32 &&& Int32.toUInt32 31)).toInt32) &&& 1431655765)).toUInt32 >>> ((2 : Int32).toUInt32 &&& Int32.toUInt32 31)).toInt32) &&& 858993459)).toUInt32 >>> ((4 : Int32).toUInt32 &&& Int32.toUInt32 31)).toInt32) hx hb dJ6_bitCount_0f7a4_27 rfl ?_
  refine lv_iadd hx hb dJ6_bitCount_0f7a4_28 ?_
  refine lv_ldcw (v := 252645135) hx hb hown hk267 dJ6_bitCount_0f7a4_29 ?_
  refine lv_iand hx hb dJ6_bitCount_0f7a4_32 ?_
  refine lv_istore_n (lv' := [(0, .int (((((a0 - (((a0.toUInt32 >>> ((1 : Int32).toUInt32 &&& Int32.toUInt32 31)).toInt32) &&& 1431655765)) &&& 858993459) + ((((a0 - (((a0.toUInt32 >>> ((1 : Int32).toUInt32 &&& Int32.toUInt32 31)).toInt32) &&& 1431655765)).toUInt32 >>> ((2 : Int32).toUInt32 &&& Int32.toUInt32 31)).toInt32) &&& 858993459)) + (((((a0 - (((a0.toUInt32 >>> ((1 : Int32).toUInt32 &&& Int32.toUInt32 31)).toInt32) &&& 1431655765)) &&& 858993459) + ((((a0 - (((a0.toUInt32 >>> ((1 : Int32).toUInt32 &&& Int32.toUInt32 31)).toInt32) &&& 1431655765)).toUInt32 >>> ((2 : Int32).toUInt32 &&& Int32.toUInt32 31)).toInt32) &&& 858993459)).toUInt32 >>> ((4 : Int32).toUInt32 &&& Int32.toUInt32 31)).toInt32)) &&& 252645135))]) hx hb dJ6_bitCount_0f7a4_33 rfl hl (by decide) rfl (fun ls hl => ?_)
  refine lv_iload_n hx hb dJ6_bitCount_0f7a4_34 rfl (lv_at hl 0 rfl) ?_
  refine lv_iload_n hx hb dJ6_bitCount_0f7a4_35 rfl (lv_at hl 0 rfl) ?_
  refine lv_bipush (v := 8) hx hb dJ6_bitCount_0f7a4_36 (by decide) ?_
  refine lv_iushr (v := ((((((a0 - (((a0.toUInt32 >>> ((1 : Int32).toUInt32 &&& Int32.toUInt32 31)).toInt32) &&& 1431655765)) &&& 858993459) + ((((a0 - (((a0.toUInt32 >>> ((1 : Int32).toUInt32 &&& Int32.toUInt32 31)).toInt32) &&& 1431655765)).toUInt32 >>> ((2 : Int32).toUInt32 &&& Int32.toUInt32 31)).toInt32) &&& 858993459)) + (((((a0 - (((a0.toUInt32 >>> ((1 : Int32).toUInt32 &&& Int32.toUInt32 31)).toInt32) &&& 1431655765)) &&& 858993459) + ((((a0 - (((a0.toUInt32 >>> ((1 : Int32).toUInt32 &&& Int32.toUInt32 31)).toInt32) &&& 1431655765)).toUInt32 >>> ((2 : Int32).toUInt32 &&& Int32.toUInt32 31)).toInt32) &&& 858993459)).toUInt32 >>> ((4 : Int32).toUInt32 &&& Int32.toUInt32 31)).toInt32)) &&& 252645135).toUInt32 >>> ((8 : Int32).toUInt32 &&& Int32.toUInt32 31)).toInt32) hx hb dJ6_bitCount_0f7a4_38 rfl ?_
  refine lv_iadd hx hb dJ6_bitCount_0f7a4_39 ?_
  refine lv_istore_n (lv' := [(0, .int ((((((a0 - (((a0.toUInt32 >>> ((1 : Int32).toUInt32 &&& Int32.toUInt32 31)).toInt32) &&& 1431655765)) &&& 858993459) + ((((a0 - (((a0.toUInt32 >>> ((1 : Int32).toUInt32 &&& Int32.toUInt32 31)).toInt32) &&& 1431655765)).toUInt32 >>> ((2 : Int32).toUInt32 &&& Int32.toUInt32 31)).toInt32) &&& 858993459)) + (((((a0 - (((a0.toUInt32 >>> ((1 : Int32).toUInt32 &&& Int32.toUInt32 31)).toInt32) &&& 1431655765)) &&& 858993459) + ((((a0 - (((a0.toUInt32 >>> ((1 : Int32).toUInt32 &&& Int32.toUInt32 31)).toInt32) &&& 1431655765)).toUInt32 >>> ((2 : Int32).toUInt32 &&& Int32.toUInt32 31)).toInt32) &&& 858993459)).toUInt32 >>> ((4 : Int32).toUInt32 &&& Int32.toUInt32 31)).toInt32)) &&& 252645135) + (((((((a0 - (((a0.toUInt32 >>> ((1 : Int32).toUInt32 &&& Int32.toUInt32 31)).toInt32) &&& 1431655765)) &&& 858993459) + ((((a0 - (((a0.toUInt32 >>> ((1 : Int32).toUInt32 &&& Int32.toUInt32 31)).toInt32) &&& 1431655765)).toUInt32 >>> ((2 : Int32).toUInt32 &&& Int32.toUInt32 31)).toInt32) &&& 858993459)) + (((((a0 - (((a0.toUInt32 >>> ((1 : Int32).toUInt32 &&& Int32.toUInt32 31)).toInt32) &&& 1431655765)) &&& 858993459) + ((((a0 - (((a0.toUInt32 >>> ((1 : Int32).toUInt32 &&& Int32.toUInt32 31)).toInt32) &&& 1431655765)).toUInt32 >>> ((2 : Int32).toUInt32 &&& Int32.toUInt32 31)).toInt32) &&& 858993459)).toUInt32 >>> ((4 : Int32).toUInt32 &&& Int32.toUInt32 31)).toInt32)) &&& 252645135).toUInt32 >>> ((8 : Int32).toUInt32 &&& Int32.toUInt32 31)).toInt32)))]) hx hb dJ6_bitCount_0f7a4_40 rfl hl (by decide) rfl (fun ls hl => ?_)
  refine lv_iload_n hx hb dJ6_bitCount_0f7a4_41 rfl (lv_at hl 0 rfl) ?_
  refine lv_iload_n hx hb dJ6_bitCount_0f7a4_42 rfl (lv_at hl 0 rfl) ?_
  refine lv_bipush (v := 16) hx hb dJ6_bitCount_0f7a4_43 (by decide) ?_
  refine lv_iushr (v := (((((((a0 - (((a0.toUInt32 >>> ((1 : Int32).toUInt32 &&& Int32.toUInt32 31)).toInt32) &&& 1431655765)) &&& 858993459) + ((((a0 - (((a0.toUInt32 >>> ((1 : Int32).toUInt32 &&& Int32.toUInt32 31)).toInt32) &&& 1431655765)).toUInt32 >>> ((2 : Int32).toUInt32 &&& Int32.toUInt32 31)).toInt32) &&& 858993459)) + (((((a0 - (((a0.toUInt32 >>> ((1 : Int32).toUInt32 &&& Int32.toUInt32 31)).toInt32) &&& 1431655765)) &&& 858993459) + ((((a0 - (((a0.toUInt32 >>> ((1 : Int32).toUInt32 &&& Int32.toUInt32 31)).toInt32) &&& 1431655765)).toUInt32 >>> ((2 : Int32).toUInt32 &&& Int32.toUInt32 31)).toInt32) &&& 858993459)).toUInt32 >>> ((4 : Int32).toUInt32 &&& Int32.toUInt32 31)).toInt32)) &&& 252645135) + (((((((a0 - (((a0.toUInt32 >>> ((1 : Int32).toUInt32 &&& Int32.toUInt32 31)).toInt32) &&& 1431655765)) &&& 858993459) + ((((a0 - (((a0.toUInt32 >>> ((1 : Int32).toUInt32 &&& Int32.toUInt32 31)).toInt32) &&& 1431655765)).toUInt32 >>> ((2 : Int32).toUInt32 &&& Int32.toUInt32 31)).toInt32) &&& 858993459)) + (((((a0 - (((a0.toUInt32 >>> ((1 : Int32).toUInt32 &&& Int32.toUInt32 31)).toInt32) &&& 1431655765)) &&& 858993459) + ((((a0 - (((a0.toUInt32 >>> ((1 : Int32).toUInt32 &&& Int32.toUInt32 31)).toInt32) &&& 1431655765)).toUInt32 >>> ((2 : Int32).toUInt32 &&& Int32.toUInt32 31)).toInt32) &&& 858993459)).toUInt32 >>> ((4 : Int32).toUInt32 &&& Int32.toUInt32 31)).toInt32)) &&& 252645135).toUInt32 >>> ((8 : Int32).toUInt32 &&& Int32.toUInt32 31)).toInt32)).toUInt32 >>> ((16 : Int32).toUInt32 &&& Int32.toUInt32 31)).toInt32) hx hb dJ6_bitCount_0f7a4_45 rfl ?_
  refine lv_iadd hx hb dJ6_bitCount_0f7a4_46 ?_
  refine lv_istore_n (lv' := [(0, .int (((((((a0 - (((a0.toUInt32 >>> ((1 : Int32).toUInt32 &&& Int32.toUInt32 31)).toInt32) &&& 1431655765)) &&& 858993459) + ((((a0 - (((a0.toUInt32 >>> ((1 : Int32).toUInt32 &&& Int32.toUInt32 31)).toInt32) &&& 1431655765)).toUInt32 >>> ((2 : Int32).toUInt32 &&& Int32.toUInt32 31)).toInt32) &&& 858993459)) + (((((a0 - (((a0.toUInt32 >>> ((1 : Int32).toUInt32 &&& Int32.toUInt32 31)).toInt32) &&& 1431655765)) &&& 858993459) + ((((a0 - (((a0.toUInt32 >>> ((1 : Int32).toUInt32 &&& Int32.toUInt32 31)).toInt32) &&& 1431655765)).toUInt32 >>> ((2 : Int32).toUInt32 &&& Int32.toUInt32 31)).toInt32) &&& 858993459)).toUInt32 >>> ((4 : Int32).toUInt32 &&& Int32.toUInt32 31)).toInt32)) &&& 252645135) + (((((((a0 - (((a0.toUInt32 >>> ((1 : Int32).toUInt32 &&& Int32.toUInt32 31)).toInt32) &&& 1431655765)) &&& 858993459) + ((((a0 - (((a0.toUInt32 >>> ((1 : Int32).toUInt32 &&& Int32.toUInt32 31)).toInt32) &&& 1431655765)).toUInt32 >>> ((2 : Int32).toUInt32 &&& Int32.toUInt32 31)).toInt32) &&& 858993459)) + (((((a0 - (((a0.toUInt32 >>> ((1 : Int32).toUInt32 &&& Int32.toUInt32 31)).toInt32) &&& 1431655765)) &&& 858993459) + ((((a0 - (((a0.toUInt32 >>> ((1 : Int32).toUInt32 &&& Int32.toUInt32 31)).toInt32) &&& 1431655765)).toUInt32 >>> ((2 : Int32).toUInt32 &&& Int32.toUInt32 31)).toInt32) &&& 858993459)).toUInt32 >>> ((4 : Int32).toUInt32 &&& Int32.toUInt32 31)).toInt32)) &&& 252645135).toUInt32 >>> ((8 : Int32).toUInt32 &&& Int32.toUInt32 31)).toInt32)) + ((((((((a0 - (((a0.toUInt32 >>> ((1 : Int32).toUInt32 &&& Int32.toUInt32 31)).toInt32) &&& 1431655765)) &&& 858993459) + ((((a0 - (((a0.toUInt32 >>> ((1 : Int32).toUInt32 &&& Int32.toUInt32 31)).toInt32) &&& 1431655765)).toUInt32 >>> ((2 : Int32).toUInt32 &&& Int32.toUInt32 31)).toInt32) &&& 858993459)) + (((((a0 - (((a0.toUInt32 >>> ((1 : Int32).toUInt32 &&& Int32.toUInt32 31)).toInt32) &&& 1431655765)) &&& 858993459) + ((((a0 - (((a0.toUInt32 >>> ((1 : Int32).toUInt32 &&& Int32.toUInt32 31)).toInt32) &&& 1431655765)).toUInt32 >>> ((2 : Int32).toUInt32 &&& Int32.toUInt32 31)).toInt32) &&& 858993459)).toUInt32 >>> ((4 : Int32).toUInt32 &&& Int32.toUInt32 31)).toInt32)) &&& 252645135) + (((((((a0 - (((a0.toUInt32 >>> ((1 : Int32).toUInt32 &&& Int32.toUInt32 31)).toInt32) &&& 1431655765)) &&& 858993459) + ((((a0 - (((a0.toUInt32 >>> ((1 : Int32).toUInt32 &&& Int32.toUInt32 31)).toInt32) &&& 1431655765)).toUInt32 >>> ((2 : Int32).toUInt32 &&& Int32.toUInt32 31)).toInt32) &&& 858993459)) + (((((a0 - (((a0.toUInt32 >>> ((1 : Int32).toUInt32 &&& Int32.toUInt32 31)).toInt32) &&& 1431655765)) &&& 858993459) + ((((a0 - (((a0.toUInt32 >>> ((1 : Int32).toUInt32 &&& Int32.toUInt32 31)).toInt32) &&& 1431655765)).toUInt32 >>> ((2 : Int32).toUInt32 &&& Int32.toUInt32 31)).toInt32) &&& 858993459)).toUInt32 >>> ((4 : Int32).toUInt32 &&& Int32.toUInt32 31)).toInt32)) &&& 252645135).toUInt32 >>> ((8 : Int32).toUInt32 &&& Int32.toUInt32 31)).toInt32)).toUInt32 >>> ((16 : Int32).toUInt32 &&& Int32.toUInt32 31)).toInt32)))]) hx hb dJ6_bitCount_0f7a4_47 rfl hl (by decide) rfl (fun ls hl => ?_)
  refine lv_iload_n hx hb dJ6_bitCount_0f7a4_48 rfl (lv_at hl 0 rfl) ?_
  refine lv_bipush (v := 63) hx hb dJ6_bitCount_0f7a4_49 (by decide) ?_
  refine lv_iand hx hb dJ6_bitCount_0f7a4_51 ?_
  exact W.iret (v := (((((((a0 - (((a0.toUInt32 >>> ((1 : Int32).toUInt32 &&& Int32.toUInt32 31)).toInt32) &&& 1431655765)) &&& 858993459) + ((((a0 - (((a0.toUInt32 >>> ((1 : Int32).toUInt32 &&& Int32.toUInt32 31)).toInt32) &&& 1431655765)).toUInt32 >>> ((2 : Int32).toUInt32 &&& Int32.toUInt32 31)).toInt32) &&& 858993459)) + (((((a0 - (((a0.toUInt32 >>> ((1 : Int32).toUInt32 &&& Int32.toUInt32 31)).toInt32) &&& 1431655765)) &&& 858993459) + ((((a0 - (((a0.toUInt32 >>> ((1 : Int32).toUInt32 &&& Int32.toUInt32 31)).toInt32) &&& 1431655765)).toUInt32 >>> ((2 : Int32).toUInt32 &&& Int32.toUInt32 31)).toInt32) &&& 858993459)).toUInt32 >>> ((4 : Int32).toUInt32 &&& Int32.toUInt32 31)).toInt32)) &&& 252645135) + (((((((a0 - (((a0.toUInt32 >>> ((1 : Int32).toUInt32 &&& Int32.toUInt32 31)).toInt32) &&& 1431655765)) &&& 858993459) + ((((a0 - (((a0.toUInt32 >>> ((1 : Int32).toUInt32 &&& Int32.toUInt32 31)).toInt32) &&& 1431655765)).toUInt32 >>> ((2 : Int32).toUInt32 &&& Int32.toUInt32 31)).toInt32) &&& 858993459)) + (((((a0 - (((a0.toUInt32 >>> ((1 : Int32).toUInt32 &&& Int32.toUInt32 31)).toInt32) &&& 1431655765)) &&& 858993459) + ((((a0 - (((a0.toUInt32 >>> ((1 : Int32).toUInt32 &&& Int32.toUInt32 31)).toInt32) &&& 1431655765)).toUInt32 >>> ((2 : Int32).toUInt32 &&& Int32.toUInt32 31)).toInt32) &&& 858993459)).toUInt32 >>> ((4 : Int32).toUInt32 &&& Int32.toUInt32 31)).toInt32)) &&& 252645135).toUInt32 >>> ((8 : Int32).toUInt32 &&& Int32.toUInt32 31)).toInt32)) + ((((((((a0 - (((a0.toUInt32 >>> ((1 : Int32).toUInt32 &&& Int32.toUInt32 31)).toInt32) &&& 1431655765)) &&& 858993459) + ((((a0 - (((a0.toUInt32 >>> ((1 : Int32).toUInt32 &&& Int32.toUInt32 31)).toInt32) &&& 1431655765)).toUInt32 >>> ((2 : Int32).toUInt32 &&& Int32.toUInt32 31)).toInt32) &&& 858993459)) + (((((a0 - (((a0.toUInt32 >>> ((1 : Int32).toUInt32 &&& Int32.toUInt32 31)).toInt32) &&& 1431655765)) &&& 858993459) + ((((a0 - (((a0.toUInt32 >>> ((1 : Int32).toUInt32 &&& Int32.toUInt32 31)).toInt32) &&& 1431655765)).toUInt32 >>> ((2 : Int32).toUInt32 &&& Int32.toUInt32 31)).toInt32) &&& 858993459)).toUInt32 >>> ((4 : Int32).toUInt32 &&& Int32.toUInt32 31)).toInt32)) &&& 252645135) + (((((((a0 - (((a0.toUInt32 >>> ((1 : Int32).toUInt32 &&& Int32.toUInt32 31)).toInt32) &&& 1431655765)) &&& 858993459) + ((((a0 - (((a0.toUInt32 >>> ((1 : Int32).toUInt32 &&& Int32.toUInt32 31)).toInt32) &&& 1431655765)).toUInt32 >>> ((2 : Int32).toUInt32 &&& Int32.toUInt32 31)).toInt32) &&& 858993459)) + (((((a0 - (((a0.toUInt32 >>> ((1 : Int32).toUInt32 &&& Int32.toUInt32 31)).toInt32) &&& 1431655765)) &&& 858993459) + ((((a0 - (((a0.toUInt32 >>> ((1 : Int32).toUInt32 &&& Int32.toUInt32 31)).toInt32) &&& 1431655765)).toUInt32 >>> ((2 : Int32).toUInt32 &&& Int32.toUInt32 31)).toInt32) &&& 858993459)).toUInt32 >>> ((4 : Int32).toUInt32 &&& Int32.toUInt32 31)).toInt32)) &&& 252645135).toUInt32 >>> ((8 : Int32).toUInt32 &&& Int32.toUInt32 31)).toInt32)).toUInt32 >>> ((16 : Int32).toUInt32 &&& Int32.toUInt32 31)).toInt32)) &&& 63) hx hb hr (fun t ht hw => ⟨_, rfl, (show ((((((((a0 - (((a0.toUInt32 >>> ((1 : Int32).toUInt32 &&& Int32.toUInt32 31)).toInt32) &&& 1431655765)) &&& 858993459) + ((((a0 - (((a0.toUInt32 >>> ((1 : Int32).toUInt32 &&& Int32.toUInt32 31)).toInt32) &&& 1431655765)).toUInt32 >>> ((2 : Int32).toUInt32 &&& Int32.toUInt32 31)).toInt32) &&& 858993459)) + (((((a0 - (((a0.toUInt32 >>> ((1 : Int32).toUInt32 &&& Int32.toUInt32 31)).toInt32) &&& 1431655765)) &&& 858993459) + ((((a0 - (((a0.toUInt32 >>> ((1 : Int32).toUInt32 &&& Int32.toUInt32 31)).toInt32) &&& 1431655765)).toUInt32 >>> ((2 : Int32).toUInt32 &&& Int32.toUInt32 31)).toInt32) &&& 858993459)).toUInt32 >>> ((4 : Int32).toUInt32 &&& Int32.toUInt32 31)).toInt32)) &&& 252645135) + (((((((a0 - (((a0.toUInt32 >>> ((1 : Int32).toUInt32 &&& Int32.toUInt32 31)).toInt32) &&& 1431655765)) &&& 858993459) + ((((a0 - (((a0.toUInt32 >>> ((1 : Int32).toUInt32 &&& Int32.toUInt32 31)).toInt32) &&& 1431655765)).toUInt32 >>> ((2 : Int32).toUInt32 &&& Int32.toUInt32 31)).toInt32) &&& 858993459)) + (((((a0 - (((a0.toUInt32 >>> ((1 : Int32).toUInt32 &&& Int32.toUInt32 31)).toInt32) &&& 1431655765)) &&& 858993459) + ((((a0 - (((a0.toUInt32 >>> ((1 : Int32).toUInt32 &&& Int32.toUInt32 31)).toInt32) &&& 1431655765)).toUInt32 >>> ((2 : Int32).toUInt32 &&& Int32.toUInt32 31)).toInt32) &&& 858993459)).toUInt32 >>> ((4 : Int32).toUInt32 &&& Int32.toUInt32 31)).toInt32)) &&& 252645135).toUInt32 >>> ((8 : Int32).toUInt32 &&& Int32.toUInt32 31)).toInt32)) + ((((((((a0 - (((a0.toUInt32 >>> ((1 : Int32).toUInt32 &&& Int32.toUInt32 31)).toInt32) &&& 1431655765)) &&& 858993459) + ((((a0 - (((a0.toUInt32 >>> ((1 : Int32).toUInt32 &&& Int32.toUInt32 31)).toInt32) &&& 1431655765)).toUInt32 >>> ((2 : Int32).toUInt32 &&& Int32.toUInt32 31)).toInt32) &&& 858993459)) + (((((a0 - (((a0.toUInt32 >>> ((1 : Int32).toUInt32 &&& Int32.toUInt32 31)).toInt32) &&& 1431655765)) &&& 858993459) + ((((a0 - (((a0.toUInt32 >>> ((1 : Int32).toUInt32 &&& Int32.toUInt32 31)).toInt32) &&& 1431655765)).toUInt32 >>> ((2 : Int32).toUInt32 &&& Int32.toUInt32 31)).toInt32) &&& 858993459)).toUInt32 >>> ((4 : Int32).toUInt32 &&& Int32.toUInt32 31)).toInt32)) &&& 252645135) + (((((((a0 - (((a0.toUInt32 >>> ((1 : Int32).toUInt32 &&& Int32.toUInt32 31)).toInt32) &&& 1431655765)) &&& 858993459) + ((((a0 - (((a0.toUInt32 >>> ((1 : Int32).toUInt32 &&& Int32.toUInt32 31)).toInt32) &&& 1431655765)).toUInt32 >>> ((2 : Int32).toUInt32 &&& Int32.toUInt32 31)).toInt32) &&& 858993459)) + (((((a0 - (((a0.toUInt32 >>> ((1 : Int32).toUInt32 &&& Int32.toUInt32 31)).toInt32) &&& 1431655765)) &&& 858993459) + ((((a0 - (((a0.toUInt32 >>> ((1 : Int32).toUInt32 &&& Int32.toUInt32 31)).toInt32) &&& 1431655765)).toUInt32 >>> ((2 : Int32).toUInt32 &&& Int32.toUInt32 31)).toInt32) &&& 858993459)).toUInt32 >>> ((4 : Int32).toUInt32 &&& Int32.toUInt32 31)).toInt32)) &&& 252645135).toUInt32 >>> ((8 : Int32).toUInt32 &&& Int32.toUInt32 31)).toInt32)).toUInt32 >>> ((16 : Int32).toUInt32 &&& Int32.toUInt32 31)).toInt32)) &&& 63 : Int32) = fJ6_bitCount_0f7a4 a0 from by unfold fJ6_bitCount_0f7a4; rfl), ht⟩) (fun _ h => nomatch h) dJ6_bitCount_0f7a4_52

def fX5_in (a0 : Int32) (a1 : Int32) (a2 : Int32) : Bool := if a0 < a1 then false else (if a2 < a0 then false else true)
set_option maxHeartbeats 4000000 in
set_option maxRecDepth 100000 in
theorem kX5_in (l : Launch) (a0 : Int32) (a1 : Int32) (a2 : Int32) : Met l yX5_in wsX5_in ({ frames := 0, cells := 0, slots := 0, locals := 0 }) (va_Pc [.int a0, .int a1, .int a2] (fun _ => True)) (vp_Si (fun r => r = zI (fX5_in a0 a1 a2))) 0 0 (fun _ => False) := by
  refine Met.ofW (cc := cX5_in) (maxL := 3) (ret := (some .boolean)) (by decide) rfl ?_
  intro p e s m args below meth c s₁ B hml hv
  obtain ⟨rfl, -⟩ := hv
  have hx := B.exec
  have hb := B.bytes
  have hr := B.returns
  have hts := atoms_spec (ws := wsX5_in) B.pre
  have hown : s.vm.findClass RX5 = some m.cls := findClass_of_methodNamed B.named
  have hlocks := B.notSynchronized
  have hl := lv_entry ([.int a0, .int a1, .int a2]) (n := 3) (Nat.le_of_ble_eq_true rfl)
  rw [lg_entry_eq]
  generalize (lg_sl ([.int a0, .int a1, .int a2]) ++ List.replicate (3 - (lg_sl ([.int a0, .int a1, .int a2])).length) Slot.unset).toArray = ls at hl ⊢
  have hl : lv_has ls 3 [(0, .int a0), (1, .int a1), (2, .int a2)] := hl
  refine lv_iload_n hx hb dX5_in_0 rfl (lv_at hl 0 rfl) ?_
  refine lv_iload_n hx hb dX5_in_1 rfl (lv_at hl 1 rfl) ?_
  refine lv_icmp_lt (tgt := 14) hx hb dX5_in_2 (by decide) (fun c_1 => ?_) (fun c_1 => ?_)
  · refine lv_iconst (v := 0) hx hb dX5_in_14 (by decide) ?_
    exact W.zret (v := 0) hx hb hr rfl (fun t ht hw => ⟨_, rfl, (congrArg zI (show false = fX5_in a0 a1 a2 from by unfold fX5_in; rw [if_pos c_1])), ht⟩) (fun _ h => nomatch h) dX5_in_15
  · refine lv_iload_n hx hb dX5_in_5 rfl (lv_at hl 0 rfl) ?_
    refine lv_iload_n hx hb dX5_in_6 rfl (lv_at hl 2 rfl) ?_
    refine lv_icmp_gt (tgt := 14) hx hb dX5_in_7 (by decide) (fun c_2 => ?_) (fun c_2 => ?_)
    · refine lv_iconst (v := 0) hx hb dX5_in_14 (by decide) ?_
      exact W.zret (v := 0) hx hb hr rfl (fun t ht hw => ⟨_, rfl, (congrArg zI (show false = fX5_in a0 a1 a2 from by unfold fX5_in; rw [if_neg c_1, if_pos c_2])), ht⟩) (fun _ h => nomatch h) dX5_in_15
    · refine lv_iconst (v := 1) hx hb dX5_in_10 (by decide) ?_
      refine lv_goto (tgt := 15) hx hb dX5_in_11 (by decide) ?_
      exact W.zret (v := 1) hx hb hr rfl (fun t ht hw => ⟨_, rfl, (congrArg zI (show true = fX5_in a0 a1 a2 from by unfold fX5_in; rw [if_neg c_1, if_neg c_2])), ht⟩) (fun _ h => nomatch h) dX5_in_15

def fX5_isPlayer (a0 : Int32) : Bool := if a0 < 0 then false else (if 5 ≤ a0 then false else true)
set_option maxHeartbeats 4000000 in
set_option maxRecDepth 100000 in
theorem kX5_isPlayer (l : Launch) (a0 : Int32) : Met l yX5_isPlayer wsX5_isPlayer ({ frames := 0, cells := 0, slots := 0, locals := 0 }) (va_Pc [.int a0] (fun _ => True)) (vp_Si (fun r => r = zI (fX5_isPlayer a0))) 0 0 (fun _ => False) := by
  refine Met.ofW (cc := cX5_isPlayer) (maxL := 1) (ret := (some .boolean)) (by decide) rfl ?_
  intro p e s m args below meth c s₁ B hml hv
  obtain ⟨rfl, -⟩ := hv
  have hx := B.exec
  have hb := B.bytes
  have hr := B.returns
  have hts := atoms_spec (ws := wsX5_isPlayer) B.pre
  have hown : s.vm.findClass RX5 = some m.cls := findClass_of_methodNamed B.named
  have hlocks := B.notSynchronized
  have hl := lv_entry ([.int a0]) (n := 1) (Nat.le_of_ble_eq_true rfl)
  rw [lg_entry_eq]
  generalize (lg_sl ([.int a0]) ++ List.replicate (1 - (lg_sl ([.int a0])).length) Slot.unset).toArray = ls at hl ⊢
  have hl : lv_has ls 1 [(0, .int a0)] := hl
  refine lv_iload_n hx hb dX5_isPlayer_0 rfl (lv_at hl 0 rfl) ?_
  refine lv_if_lt (tgt := 13) hx hb dX5_isPlayer_1 (by decide) (fun c_1 => ?_) (fun c_1 => ?_)
  · refine lv_iconst (v := 0) hx hb dX5_isPlayer_13 (by decide) ?_
    exact W.zret (v := 0) hx hb hr rfl (fun t ht hw => ⟨_, rfl, (congrArg zI (show false = fX5_isPlayer a0 from by unfold fX5_isPlayer; rw [if_pos c_1])), ht⟩) (fun _ h => nomatch h) dX5_isPlayer_14
  · refine lv_iload_n hx hb dX5_isPlayer_4 rfl (lv_at hl 0 rfl) ?_
    refine lv_iconst (v := 5) hx hb dX5_isPlayer_5 (by decide) ?_
    refine lv_icmp_ge (tgt := 13) hx hb dX5_isPlayer_6 (by decide) (fun c_2 => ?_) (fun c_2 => ?_)
    · refine lv_iconst (v := 0) hx hb dX5_isPlayer_13 (by decide) ?_
      exact W.zret (v := 0) hx hb hr rfl (fun t ht hw => ⟨_, rfl, (congrArg zI (show false = fX5_isPlayer a0 from by unfold fX5_isPlayer; rw [if_neg c_1, if_pos c_2])), ht⟩) (fun _ h => nomatch h) dX5_isPlayer_14
    · refine lv_iconst (v := 1) hx hb dX5_isPlayer_9 (by decide) ?_
      refine lv_goto (tgt := 14) hx hb dX5_isPlayer_10 (by decide) ?_
      exact W.zret (v := 1) hx hb hr rfl (fun t ht hw => ⟨_, rfl, (congrArg zI (show true = fX5_isPlayer a0 from by unfold fX5_isPlayer; rw [if_neg c_1, if_neg c_2])), ht⟩) (fun _ h => nomatch h) dX5_isPlayer_14

def fX5_isCell (a0 : Int32) : Bool := if a0 < 0 then false else (if 25 ≤ a0 then false else true)
set_option maxHeartbeats 4000000 in
set_option maxRecDepth 100000 in
theorem kX5_isCell (l : Launch) (a0 : Int32) : Met l yX5_isCell wsX5_isCell ({ frames := 0, cells := 0, slots := 0, locals := 0 }) (va_Pc [.int a0] (fun _ => True)) (vp_Si (fun r => r = zI (fX5_isCell a0))) 0 0 (fun _ => False) := by
  refine Met.ofW (cc := cX5_isCell) (maxL := 1) (ret := (some .boolean)) (by decide) rfl ?_
  intro p e s m args below meth c s₁ B hml hv
  obtain ⟨rfl, -⟩ := hv
  have hx := B.exec
  have hb := B.bytes
  have hr := B.returns
  have hts := atoms_spec (ws := wsX5_isCell) B.pre
  have hown : s.vm.findClass RX5 = some m.cls := findClass_of_methodNamed B.named
  have hlocks := B.notSynchronized
  have hl := lv_entry ([.int a0]) (n := 1) (Nat.le_of_ble_eq_true rfl)
  rw [lg_entry_eq]
  generalize (lg_sl ([.int a0]) ++ List.replicate (1 - (lg_sl ([.int a0])).length) Slot.unset).toArray = ls at hl ⊢
  have hl : lv_has ls 1 [(0, .int a0)] := hl
  refine lv_iload_n hx hb dX5_isCell_0 rfl (lv_at hl 0 rfl) ?_
  refine lv_if_lt (tgt := 14) hx hb dX5_isCell_1 (by decide) (fun c_1 => ?_) (fun c_1 => ?_)
  · refine lv_iconst (v := 0) hx hb dX5_isCell_14 (by decide) ?_
    exact W.zret (v := 0) hx hb hr rfl (fun t ht hw => ⟨_, rfl, (congrArg zI (show false = fX5_isCell a0 from by unfold fX5_isCell; rw [if_pos c_1])), ht⟩) (fun _ h => nomatch h) dX5_isCell_15
  · refine lv_iload_n hx hb dX5_isCell_4 rfl (lv_at hl 0 rfl) ?_
    refine lv_bipush (v := 25) hx hb dX5_isCell_5 (by decide) ?_
    refine lv_icmp_ge (tgt := 14) hx hb dX5_isCell_7 (by decide) (fun c_2 => ?_) (fun c_2 => ?_)
    · refine lv_iconst (v := 0) hx hb dX5_isCell_14 (by decide) ?_
      exact W.zret (v := 0) hx hb hr rfl (fun t ht hw => ⟨_, rfl, (congrArg zI (show false = fX5_isCell a0 from by unfold fX5_isCell; rw [if_neg c_1, if_pos c_2])), ht⟩) (fun _ h => nomatch h) dX5_isCell_15
    · refine lv_iconst (v := 1) hx hb dX5_isCell_10 (by decide) ?_
      refine lv_goto (tgt := 15) hx hb dX5_isCell_11 (by decide) ?_
      exact W.zret (v := 1) hx hb hr rfl (fun t ht hw => ⟨_, rfl, (congrArg zI (show true = fX5_isCell a0 from by unfold fX5_isCell; rw [if_neg c_1, if_neg c_2])), ht⟩) (fun _ h => nomatch h) dX5_isCell_15

def fX0_rows (kd : Int32) (dx : Int32) (dy : Int32) (re : Int32) (a0 : Bool) : Int32 := if a0 = true then (-dy) else dy
set_option maxHeartbeats 4000000 in
set_option maxRecDepth 100000 in
theorem kX0_rows (l : Launch) (G : xG) (E : xE) (kd : Int32) (dx : Int32) (dy : Int32) (re : Int32) (o : Nat) (a0 : Bool) (hE : E o = some (.inr (0, [.int kd, .int dx, .int dy, .int re]))) : Met l yX0_rows wsX0_rows ({ frames := 0, cells := 0, slots := 0, locals := 0 }) (va_Pc [.ref o, .int (zI a0)] (xB G E)) (vp_Si (fun r => r = fX0_rows kd dx dy re a0)) 0 0 (fun _ => False) := by
  refine Met.ofW (cc := cX0_rows) (maxL := 2) (ret := (some .int)) (by decide) rfl ?_
  intro p e s m args below meth c s₁ B hml hv
  obtain ⟨rfl, hX, hW⟩ := hv
  have hx := B.exec
  have hb := B.bytes
  have hr := B.returns
  have hts := atoms_spec (ws := wsX0_rows) B.pre
  have hown : s.vm.findClass RX0 = some m.cls := findClass_of_methodNamed B.named
  have hlocks := B.notSynchronized
  have hS : va_S (xA G) s.heap s.heap [] := va_S.rf
  have hiX0 : ∀ w ∈ u_ws RX0 TX0 4, w ∈ wsX0_rows := by decide +kernel
  have hf18 := hts (Cond.fieldLink RX0 18 "VariantMill$Card" "dy" "I") (by decide +kernel)
  have hl := lv_entry ([.ref o, .int (zI a0)]) (n := 2) (Nat.le_of_ble_eq_true rfl)
  rw [lg_entry_eq]
  generalize (lg_sl ([.ref o, .int (zI a0)]) ++ List.replicate (2 - (lg_sl ([.ref o, .int (zI a0)])).length) Slot.unset).toArray = ls at hl ⊢
  have hl : lv_has ls 2 [(0, .ref o), (1, .int (zI a0))] := hl
  refine lv_iload_n hx hb dX0_rows_0 rfl (lv_at hl 1 rfl) ?_
  refine x_ifz_eq (b := a0) (tgt := 12) hx hb dX0_rows_1 (by decide) (fun c_1 => ?_) (fun c_1 => ?_)
  · refine lv_aload_n hx hb dX0_rows_12 rfl (lv_at hl 0 rfl) ?_
    refine va_get (D := G.1) (ci := 0) (v := .int dy) (C := RX0) (T := TX0) (N := 4) hx hb hts hiX0 hown hX.1 (x1 hW hE) 0 rfl rfl 2 (by decide) hf18 (fun _ h9 => h9) rfl dX0_rows_13 ?_
    exact W.iret (v := dy) hx hb hr (fun t ht hw => ⟨_, rfl, (show (dy : Int32) = fX0_rows kd dx dy re a0 from by unfold fX0_rows; rw [if_neg (Bool.eq_false_iff.mp c_1)]), ht⟩) (fun _ h => nomatch h) dX0_rows_16
  · refine lv_aload_n hx hb dX0_rows_4 rfl (lv_at hl 0 rfl) ?_
    refine va_get (D := G.1) (ci := 0) (v := .int dy) (C := RX0) (T := TX0) (N := 4) hx hb hts hiX0 hown hX.1 (x1 hW hE) 0 rfl rfl 2 (by decide) hf18 (fun _ h9 => h9) rfl dX0_rows_5 ?_
    refine lv_ineg hx hb dX0_rows_8 ?_
    refine lv_goto (tgt := 16) hx hb dX0_rows_9 (by decide) ?_
    exact W.iret (v := -dy) hx hb hr (fun t ht hw => ⟨_, rfl, (show (-dy : Int32) = fX0_rows kd dx dy re a0 from by unfold fX0_rows; rw [if_pos c_1]), ht⟩) (fun _ h => nomatch h) dX0_rows_16

def fX0_isRightPath (kd : Int32) (dx : Int32) (dy : Int32) (re : Int32) (a0 : Int32) (a1 : Int32) (a2 : Int32) : Bool := if kd = 2 then (if a1 = (-1) then false else (if (a0 &&& a2) = ((1 : Int32) <<< (a1 &&& 31)) then true else false)) else (if (a0 &&& a2) = 0 then true else false)
set_option maxHeartbeats 4000000 in
set_option maxRecDepth 100000 in
theorem kX0_isRightPath (l : Launch) (G : xG) (E : xE) (kd : Int32) (dx : Int32) (dy : Int32) (re : Int32) (o : Nat) (a0 : Int32) (a1 : Int32) (a2 : Int32) (hE : E o = some (.inr (0, [.int kd, .int dx, .int dy, .int re]))) : Met l yX0_isRightPath wsX0_isRightPath ({ frames := 0, cells := 0, slots := 0, locals := 0 }) (va_Pc [.ref o, .int a0, .int a1, .int a2] (xB G E)) (vp_Si (fun r => r = zI (fX0_isRightPath kd dx dy re a0 a1 a2))) 0 0 (fun _ => False) := by
  refine Met.ofW (cc := cX0_isRightPath) (maxL := 5) (ret := (some .boolean)) (by decide) rfl ?_
  intro p e s m args below meth c s₁ B hml hv
  obtain ⟨rfl, hX, hW⟩ := hv
  have hx := B.exec
  have hb := B.bytes
  have hr := B.returns
  have hts := atoms_spec (ws := wsX0_isRightPath) B.pre
  have hown : s.vm.findClass RX0 = some m.cls := findClass_of_methodNamed B.named
  have hlocks := B.notSynchronized
  have hS : va_S (xA G) s.heap s.heap [] := va_S.rf
  have hiX0 : ∀ w ∈ u_ws RX0 TX0 4, w ∈ wsX0_isRightPath := by decide +kernel
  have hf9 := hts (Cond.fieldLink RX0 9 "VariantMill$Card" "kind" "I") (by decide +kernel)
  have hl := lv_entry ([.ref o, .int a0, .int a1, .int a2]) (n := 5) (Nat.le_of_ble_eq_true rfl)
  rw [lg_entry_eq]
  generalize (lg_sl ([.ref o, .int a0, .int a1, .int a2]) ++ List.replicate (5 - (lg_sl ([.ref o, .int a0, .int a1, .int a2])).length) Slot.unset).toArray = ls at hl ⊢
  have hl : lv_has ls 5 [(0, .ref o), (1, .int a0), (2, .int a1), (3, .int a2)] := hl
  refine lv_iload_n hx hb dX0_isRightPath_0 rfl (lv_at hl 1 rfl) ?_
  refine lv_iload_n hx hb dX0_isRightPath_1 rfl (lv_at hl 3 rfl) ?_
  refine lv_iand hx hb dX0_isRightPath_2 ?_
  refine lv_istore (lv' := [(4, .int (a0 &&& a2)), (0, .ref o), (1, .int a0), (2, .int a1), (3, .int a2)]) hx hb dX0_isRightPath_3 hl (by decide) rfl (fun ls hl => ?_)
  refine lv_aload_n hx hb dX0_isRightPath_5 rfl (lv_at hl 1 rfl) ?_
  refine va_get (D := G.1) (ci := 0) (v := .int kd) (C := RX0) (T := TX0) (N := 4) hx hb hts hiX0 hown hX.1 (x1 hW hE) 0 rfl rfl 0 (by decide) hf9 (fun _ h9 => h9) rfl dX0_isRightPath_6 ?_
  refine lv_iconst (v := 2) hx hb dX0_isRightPath_9 (by decide) ?_
  refine lv_icmp_eq (tgt := 24) hx hb dX0_isRightPath_10 (by decide) (fun c_1 => ?_) (fun c_1 => ?_)
  · refine lv_iload_n hx hb dX0_isRightPath_24 rfl (lv_at hl 3 rfl) ?_
    refine lv_iconst (v := (-1)) hx hb dX0_isRightPath_25 (by decide) ?_
    refine lv_icmp_eq (tgt := 41) hx hb dX0_isRightPath_26 (by decide) (fun c_2 => ?_) (fun c_2 => ?_)
    · refine lv_iconst (v := 0) hx hb dX0_isRightPath_41 (by decide) ?_
      exact W.zret (v := 0) hx hb hr rfl (fun t ht hw => ⟨_, rfl, (congrArg zI (show false = fX0_isRightPath kd dx dy re a0 a1 a2 from by unfold fX0_isRightPath; rw [if_pos c_1, if_pos c_2])), ht⟩) (fun _ h => nomatch h) dX0_isRightPath_42
    · refine lv_iload hx hb dX0_isRightPath_29 (lv_at hl 0 rfl) ?_
      refine lv_iconst (v := 1) hx hb dX0_isRightPath_31 (by decide) ?_
      refine lv_iload_n hx hb dX0_isRightPath_32 rfl (lv_at hl 3 rfl) ?_
      refine lv_ishl hx hb dX0_isRightPath_33 ?_
      refine lv_icmp_ne (tgt := 41) hx hb dX0_isRightPath_34 (by decide) (fun c_3 => ?_) (fun c_3 => ?_)
      · refine lv_iconst (v := 0) hx hb dX0_isRightPath_41 (by decide) ?_
        exact W.zret (v := 0) hx hb hr rfl (fun t ht hw => ⟨_, rfl, (congrArg zI (show false = fX0_isRightPath kd dx dy re a0 a1 a2 from by unfold fX0_isRightPath; rw [if_pos c_1, if_neg c_2, if_neg c_3])), ht⟩) (fun _ h => nomatch h) dX0_isRightPath_42
      · refine lv_iconst (v := 1) hx hb dX0_isRightPath_37 (by decide) ?_
        refine lv_goto (tgt := 42) hx hb dX0_isRightPath_38 (by decide) ?_
        exact W.zret (v := 1) hx hb hr rfl (fun t ht hw => ⟨_, rfl, (congrArg zI (show true = fX0_isRightPath kd dx dy re a0 a1 a2 from by unfold fX0_isRightPath; rw [if_pos c_1, if_neg c_2, if_pos c_3])), ht⟩) (fun _ h => nomatch h) dX0_isRightPath_42
  · refine lv_iload hx hb dX0_isRightPath_13 (lv_at hl 0 rfl) ?_
    refine lv_if_ne (tgt := 22) hx hb dX0_isRightPath_15 (by decide) (fun c_4 => ?_) (fun c_4 => ?_)
    · refine lv_iconst (v := 0) hx hb dX0_isRightPath_22 (by decide) ?_
      exact W.zret (v := 0) hx hb hr rfl (fun t ht hw => ⟨_, rfl, (congrArg zI (show false = fX0_isRightPath kd dx dy re a0 a1 a2 from by unfold fX0_isRightPath; rw [if_neg c_1, if_neg c_4])), ht⟩) (fun _ h => nomatch h) dX0_isRightPath_23
    · refine lv_iconst (v := 1) hx hb dX0_isRightPath_18 (by decide) ?_
      refine lv_goto (tgt := 23) hx hb dX0_isRightPath_19 (by decide) ?_
      exact W.zret (v := 1) hx hb hr rfl (fun t ht hw => ⟨_, rfl, (congrArg zI (show true = fX0_isRightPath kd dx dy re a0 a1 a2 from by unfold fX0_isRightPath; rw [if_neg c_1, if_pos c_4])), ht⟩) (fun _ h => nomatch h) dX0_isRightPath_23

def gX0_endsFrom (kd : Int32) (dx : Int32) (dy : Int32) (re : Int32) (a0 : Int32) (a1 : Int32) (a2 : Int32) (a3 : Bool) : Nat → Nat → Int32 → Int32 → Int32 → Int32
  | 0, _, _, _, _ => 0
  | n + 1, k, v5, v6, v7 => if re < (nI k) then v5 else (if (fX4_cellAhead v6 dx (fX0_rows kd dx dy re a3)) = (-1) then v5 else (if (fX4_isIn a1 (fX4_cellAhead v6 dx (fX0_rows kd dx dy re a3))) = true then v5 else (if v7 = 0 then (if kd = 2 then (if v7 = 0 then (if kd = 2 then (if (fX4_isIn a2 (fX4_cellAhead v6 dx (fX0_rows kd dx dy re a3))) = true then (gX0_endsFrom kd dx dy re a0 a1 a2 a3 n (k + 1) v5 (fX4_cellAhead v6 dx (fX0_rows kd dx dy re a3)) 1) else (gX0_endsFrom kd dx dy re a0 a1 a2 a3 n (k + 1) v5 (fX4_cellAhead v6 dx (fX0_rows kd dx dy re a3)) 0)) else (gX0_endsFrom kd dx dy re a0 a1 a2 a3 n (k + 1) v5 (fX4_cellAhead v6 dx (fX0_rows kd dx dy re a3)) 1)) else v5) else (if (fX4_isIn a2 (fX4_cellAhead v6 dx (fX0_rows kd dx dy re a3))) = true then v5 else (if kd = 2 then (if (fX4_isIn a2 (fX4_cellAhead v6 dx (fX0_rows kd dx dy re a3))) = true then (gX0_endsFrom kd dx dy re a0 a1 a2 a3 n (k + 1) v5 (fX4_cellAhead v6 dx (fX0_rows kd dx dy re a3)) 1) else (gX0_endsFrom kd dx dy re a0 a1 a2 a3 n (k + 1) v5 (fX4_cellAhead v6 dx (fX0_rows kd dx dy re a3)) 0)) else (gX0_endsFrom kd dx dy re a0 a1 a2 a3 n (k + 1) v5 (fX4_cellAhead v6 dx (fX0_rows kd dx dy re a3)) 1)))) else (if kd = 2 then (if v7 = 0 then (if kd = 2 then (if (fX4_isIn a2 (fX4_cellAhead v6 dx (fX0_rows kd dx dy re a3))) = true then (gX0_endsFrom kd dx dy re a0 a1 a2 a3 n (k + 1) (v5 ||| ((1 : Int32) <<< ((fX4_cellAhead v6 dx (fX0_rows kd dx dy re a3)) &&& 31))) (fX4_cellAhead v6 dx (fX0_rows kd dx dy re a3)) 1) else (gX0_endsFrom kd dx dy re a0 a1 a2 a3 n (k + 1) (v5 ||| ((1 : Int32) <<< ((fX4_cellAhead v6 dx (fX0_rows kd dx dy re a3)) &&& 31))) (fX4_cellAhead v6 dx (fX0_rows kd dx dy re a3)) 0)) else (gX0_endsFrom kd dx dy re a0 a1 a2 a3 n (k + 1) (v5 ||| ((1 : Int32) <<< ((fX4_cellAhead v6 dx (fX0_rows kd dx dy re a3)) &&& 31))) (fX4_cellAhead v6 dx (fX0_rows kd dx dy re a3)) 1)) else (v5 ||| ((1 : Int32) <<< ((fX4_cellAhead v6 dx (fX0_rows kd dx dy re a3)) &&& 31)))) else (if (fX4_isIn a2 (fX4_cellAhead v6 dx (fX0_rows kd dx dy re a3))) = true then (v5 ||| ((1 : Int32) <<< ((fX4_cellAhead v6 dx (fX0_rows kd dx dy re a3)) &&& 31))) else (if kd = 2 then (if (fX4_isIn a2 (fX4_cellAhead v6 dx (fX0_rows kd dx dy re a3))) = true then (gX0_endsFrom kd dx dy re a0 a1 a2 a3 n (k + 1) (v5 ||| ((1 : Int32) <<< ((fX4_cellAhead v6 dx (fX0_rows kd dx dy re a3)) &&& 31))) (fX4_cellAhead v6 dx (fX0_rows kd dx dy re a3)) 1) else (gX0_endsFrom kd dx dy re a0 a1 a2 a3 n (k + 1) (v5 ||| ((1 : Int32) <<< ((fX4_cellAhead v6 dx (fX0_rows kd dx dy re a3)) &&& 31))) (fX4_cellAhead v6 dx (fX0_rows kd dx dy re a3)) 0)) else (gX0_endsFrom kd dx dy re a0 a1 a2 a3 n (k + 1) (v5 ||| ((1 : Int32) <<< ((fX4_cellAhead v6 dx (fX0_rows kd dx dy re a3)) &&& 31))) (fX4_cellAhead v6 dx (fX0_rows kd dx dy re a3)) 1)))))))
def fX0_endsFrom (kd : Int32) (dx : Int32) (dy : Int32) (re : Int32) (a0 : Int32) (a1 : Int32) (a2 : Int32) (a3 : Bool) : Int32 := if kd = 2 then (gX0_endsFrom kd dx dy re a0 a1 a2 a3 5 1 0 a0 0) else (gX0_endsFrom kd dx dy re a0 a1 a2 a3 5 1 0 a0 1)
set_option maxHeartbeats 4000000 in
set_option maxRecDepth 100000 in
theorem kX0_endsFrom (l : Launch) (G : xG) (E : xE) (kd : Int32) (dx : Int32) (dy : Int32) (re : Int32) (o : Nat) (a0 : Int32) (a1 : Int32) (a2 : Int32) (a3 : Bool) (hE : E o = some (.inr (0, [.int kd, .int dx, .int dy, .int re]))) (r : Nat) (hre : re = nI r) (h4 : r ≤ 4) : Met l yX0_endsFrom wsX0_endsFrom ({ frames := 1, cells := 0, slots := 0, locals := 25 }) (va_Pc [.ref o, .int a0, .int a1, .int a2, .int (zI a3)] (xB G E)) (vp_Si (fun r => r = fX0_endsFrom kd dx dy re a0 a1 a2 a3)) 0 0 (fun _ => False) := by
  refine Met.ofW (cc := cX0_endsFrom) (maxL := 10) (ret := (some .int)) (by decide) rfl ?_
  intro p e s m args below meth c s₁ B hml hv
  obtain ⟨rfl, hX, hW⟩ := hv
  have hx := B.exec
  have hb := B.bytes
  have hr := B.returns
  have hts := atoms_spec (ws := wsX0_endsFrom) B.pre
  have hown : s.vm.findClass RX0 = some m.cls := findClass_of_methodNamed B.named
  have hlocks := B.notSynchronized
  have hS : va_S (xA G) s.heap s.heap [] := va_S.rf
  have hiX0 : ∀ w ∈ u_ws RX0 TX0 4, w ∈ wsX0_endsFrom := by decide +kernel
  have hf21 := hts (Cond.fieldLink RX0 21 "VariantMill$Card" "reach" "I") (by decide +kernel)
  have hf15 := hts (Cond.fieldLink RX0 15 "VariantMill$Card" "dx" "I") (by decide +kernel)
  have hiniRX4 := hts (Cond.initialized RX4) (by decide +kernel)
  have hstX4_cellAhead := hts (Cond.static yX4_cellAhead) (by decide +kernel)
  have hstX4_isIn := hts (Cond.static yX4_isIn) (by decide +kernel)
  have hf9 := hts (Cond.fieldLink RX0 9 "VariantMill$Card" "kind" "I") (by decide +kernel)
  have hl := lv_entry ([.ref o, .int a0, .int a1, .int a2, .int (zI a3)]) (n := 10) (Nat.le_of_ble_eq_true rfl)
  rw [lg_entry_eq]
  generalize (lg_sl ([.ref o, .int a0, .int a1, .int a2, .int (zI a3)]) ++ List.replicate (10 - (lg_sl ([.ref o, .int a0, .int a1, .int a2, .int (zI a3)])).length) Slot.unset).toArray = ls at hl ⊢
  have hl : lv_has ls 10 [(0, .ref o), (1, .int a0), (2, .int a1), (3, .int a2), (4, .int (zI a3))] := hl
  refine x_loopK (σ := Nat × Nat × Int32 × Int32 × Int32) 24 10 (fun x => [(0, .ref o), (1, .int a0), (2, .int a1), (3, .int a2), (4, .int (zI a3)), (8, .int (nI x.2.1)), (5, .int x.2.2.1), (6, .int x.2.2.2.1), (7, .int x.2.2.2.2)]) (fun x => fX0_endsFrom kd dx dy re a0 a1 a2 a3 = gX0_endsFrom kd dx dy re a0 a1 a2 a3 x.1 x.2.1 x.2.2.1 x.2.2.2.1 x.2.2.2.2 ∧ x.2.1 ≤ 5 ∧ x.1 + x.2.1 = 5 + 1) (fun x => x.1) ?_ (fun LP => ?_)
  · rintro ⟨n, k, v5, v6, v7⟩ ls ⟨hv, hk, hn⟩ hl ih
    dsimp only at hv hk hn
    rcases n with _ | n
    · omega
    · have hl : lv_has ls 10 [(0, .ref o), (1, .int a0), (2, .int a1), (3, .int a2), (4, .int (zI a3)), (8, .int (nI k)), (5, .int v5), (6, .int v6), (7, .int v7)] := hl
      refine lv_iload hx hb dX0_endsFrom_24 (lv_at hl 5 rfl) ?_
      refine lv_aload_n hx hb dX0_endsFrom_26 rfl (lv_at hl 0 rfl) ?_
      refine va_get (D := G.1) (ci := 0) (v := .int re) (C := RX0) (T := TX0) (N := 4) hx hb hts hiX0 hown hX.1 (x1 hW hE) 0 rfl rfl 3 (by decide) hf21 (fun _ h9 => h9) rfl dX0_endsFrom_27 ?_
      refine lv_icmp_gt (tgt := 140) hx hb dX0_endsFrom_30 (by decide) (fun c_1 => ?_) (fun c_1 => ?_)
      · refine lv_iload hx hb dX0_endsFrom_140 (lv_at hl 6 rfl) ?_
        exact W.iret (v := v5) hx hb hr (fun t ht hw => ⟨_, rfl, (show (v5 : Int32) = fX0_endsFrom kd dx dy re a0 a1 a2 a3 from by rw [hv, gX0_endsFrom]; rw [if_pos c_1]), ht⟩) (fun _ h => nomatch h) dX0_endsFrom_142
      · have hk1 : k < 5 := Nat.lt_of_le_of_lt (x_nlt (B := r) (by rw [← hre]; exact c_1) (by omega) (by omega)) (by omega)
        refine lv_iload hx hb dX0_endsFrom_33 (lv_at hl 7 rfl) ?_
        refine lv_aload_n hx hb dX0_endsFrom_35 rfl (lv_at hl 0 rfl) ?_
        refine va_get (D := G.1) (ci := 0) (v := .int dx) (C := RX0) (T := TX0) (N := 4) hx hb hts hiX0 hown hX.1 (x1 hW hE) 0 rfl rfl 1 (by decide) hf15 (fun _ h9 => h9) rfl dX0_endsFrom_36 ?_
        refine lv_aload_n hx hb dX0_endsFrom_39 rfl (lv_at hl 0 rfl) ?_
        refine lv_iload hx hb dX0_endsFrom_40 (lv_at hl 4 rfl) ?_
        refine x_callSe (va_runV (As := [.int (zI a3)]) (rest := [.int dx, .int v6]) ⟨hx, hb, hml, hown, hts⟩ (kX0_rows l G _ kd dx dy re o a3 hE) (cwV 1 hts gX0_endsFrom_X0_rows rfl rfl rfl (by decide +kernel) ⟨Nat.le_of_ble_eq_true rfl, Nat.le_of_ble_eq_true rfl⟩) (x_preV hX hS hW hE rfl) rfl rfl hl.1 rfl (lv_room (Nat.le_of_ble_eq_true rfl)) dX0_endsFrom_42 ⟨Nat.le_of_ble_eq_true rfl, Nat.le_of_ble_eq_true rfl⟩) ?_
        refine x_callSe (va_runSN (As := [.int v6, .int dx, .int (fX0_rows kd dx dy re a3)]) (rest := []) ⟨hx, hb, hml, hown, hts⟩ (kX4_cellAhead l v6 dx (fX0_rows kd dx dy re a3)) ⟨va_cnB 3 hts gX0_endsFrom_X4_cellAhead_n28 rfl rfl rfl hX.2.1.2.1 hiniRX4 (by decide +kernel) ⟨Nat.le_of_ble_eq_true rfl, Nat.le_of_ble_eq_true rfl⟩, hstX4_cellAhead, trivial⟩ x_preT rfl rfl hl.1 rfl (lv_room (Nat.le_of_ble_eq_true rfl)) dX0_endsFrom_45 ⟨Nat.le_of_ble_eq_true rfl, Nat.le_of_ble_eq_true rfl⟩) ?_
        refine lv_istore (lv' := [(6, .int (fX4_cellAhead v6 dx (fX0_rows kd dx dy re a3))), (0, .ref o), (1, .int a0), (2, .int a1), (3, .int a2), (4, .int (zI a3)), (8, .int (nI k)), (5, .int v5), (7, .int v7)]) hx hb dX0_endsFrom_48 hl (by decide) rfl (fun ls hl => ?_)
        refine lv_iload hx hb dX0_endsFrom_50 (lv_at hl 0 rfl) ?_
        refine lv_iconst (v := (-1)) hx hb dX0_endsFrom_52 (by decide) ?_
        refine lv_icmp_eq (tgt := 65) hx hb dX0_endsFrom_53 (by decide) (fun c_2 => ?_) (fun c_2 => ?_)
        · refine lv_iload hx hb dX0_endsFrom_65 (lv_at hl 7 rfl) ?_
          exact W.iret (v := v5) hx hb hr (fun t ht hw => ⟨_, rfl, (show (v5 : Int32) = fX0_endsFrom kd dx dy re a0 a1 a2 a3 from by rw [hv, gX0_endsFrom]; rw [if_neg c_1, if_pos c_2]), ht⟩) (fun _ h => nomatch h) dX0_endsFrom_67
        · refine lv_iload_n hx hb dX0_endsFrom_56 rfl (lv_at hl 3 rfl) ?_
          refine lv_iload hx hb dX0_endsFrom_57 (lv_at hl 0 rfl) ?_
          refine x_callSe (va_runSN (As := [.int a1, .int (fX4_cellAhead v6 dx (fX0_rows kd dx dy re a3))]) (rest := []) ⟨hx, hb, hml, hown, hts⟩ (kX4_isIn l a1 (fX4_cellAhead v6 dx (fX0_rows kd dx dy re a3))) ⟨va_cnB 2 hts gX0_endsFrom_X4_isIn_n32 rfl rfl rfl hX.2.1.2.2.1 hiniRX4 (by decide +kernel) ⟨Nat.le_of_ble_eq_true rfl, Nat.le_of_ble_eq_true rfl⟩, hstX4_isIn, trivial⟩ x_preT rfl rfl hl.1 rfl (lv_room (Nat.le_of_ble_eq_true rfl)) dX0_endsFrom_59 ⟨Nat.le_of_ble_eq_true rfl, Nat.le_of_ble_eq_true rfl⟩) ?_
          refine x_ifz_eq (b := fX4_isIn a1 (fX4_cellAhead v6 dx (fX0_rows kd dx dy re a3))) (tgt := 68) hx hb dX0_endsFrom_62 (by decide) (fun c_3 => ?_) (fun c_3 => ?_)
          · refine lv_iload hx hb dX0_endsFrom_68 (lv_at hl 8 rfl) ?_
            refine lv_if_eq (tgt := 82) hx hb dX0_endsFrom_70 (by decide) (fun c_4 => ?_) (fun c_4 => ?_)
            · refine lv_iload_n hx hb dX0_endsFrom_82 rfl (lv_at hl 4 rfl) ?_
              refine lv_iload hx hb dX0_endsFrom_83 (lv_at hl 0 rfl) ?_
              refine x_callSe (va_runSN (As := [.int a2, .int (fX4_cellAhead v6 dx (fX0_rows kd dx dy re a3))]) (rest := []) ⟨hx, hb, hml, hown, hts⟩ (kX4_isIn l a2 (fX4_cellAhead v6 dx (fX0_rows kd dx dy re a3))) ⟨va_cnB 2 hts gX0_endsFrom_X4_isIn_n32 rfl rfl rfl hX.2.1.2.2.1 hiniRX4 (by decide +kernel) ⟨Nat.le_of_ble_eq_true rfl, Nat.le_of_ble_eq_true rfl⟩, hstX4_isIn, trivial⟩ x_preT rfl rfl hl.1 rfl (lv_room (Nat.le_of_ble_eq_true rfl)) dX0_endsFrom_85 ⟨Nat.le_of_ble_eq_true rfl, Nat.le_of_ble_eq_true rfl⟩) ?_
              refine lv_istore (lv' := [(9, .int (zI (fX4_isIn a2 (fX4_cellAhead v6 dx (fX0_rows kd dx dy re a3))))), (6, .int (fX4_cellAhead v6 dx (fX0_rows kd dx dy re a3))), (0, .ref o), (1, .int a0), (2, .int a1), (3, .int a2), (4, .int (zI a3)), (8, .int (nI k)), (5, .int v5), (7, .int v7)]) hx hb dX0_endsFrom_88 hl (by decide) rfl (fun ls hl => ?_)
              refine lv_aload_n hx hb dX0_endsFrom_90 rfl (lv_at hl 2 rfl) ?_
              refine va_get (D := G.1) (ci := 0) (v := .int kd) (C := RX0) (T := TX0) (N := 4) hx hb hts hiX0 hown hX.1 (x1 hW hE) 0 rfl rfl 0 (by decide) hf9 (fun _ h9 => h9) rfl dX0_endsFrom_91 ?_
              refine lv_iconst (v := 2) hx hb dX0_endsFrom_94 (by decide) ?_
              refine lv_icmp_ne (tgt := 106) hx hb dX0_endsFrom_95 (by decide) (fun c_5 => ?_) (fun c_5 => ?_)
              · refine lv_iload hx hb dX0_endsFrom_106 (lv_at hl 0 rfl) ?_
                refine x_ifz_eq (b := fX4_isIn a2 (fX4_cellAhead v6 dx (fX0_rows kd dx dy re a3))) (tgt := 114) hx hb dX0_endsFrom_108 (by decide) (fun c_6 => ?_) (fun c_6 => ?_)
                · refine lv_aload_n hx hb dX0_endsFrom_114 rfl (lv_at hl 2 rfl) ?_
                  refine va_get (D := G.1) (ci := 0) (v := .int kd) (C := RX0) (T := TX0) (N := 4) hx hb hts hiX0 hown hX.1 (x1 hW hE) 0 rfl rfl 0 (by decide) hf9 (fun _ h9 => h9) rfl dX0_endsFrom_115 ?_
                  refine lv_iconst (v := 2) hx hb dX0_endsFrom_118 (by decide) ?_
                  refine lv_icmp_ne (tgt := 127) hx hb dX0_endsFrom_119 (by decide) (fun c_7 => ?_) (fun c_7 => ?_)
                  · refine lv_iconst (v := 1) hx hb dX0_endsFrom_127 (by decide) ?_
                    refine lv_goto (tgt := 132) hx hb dX0_endsFrom_128 (by decide) ?_
                    refine lv_istore (lv' := [(7, .int 1), (9, .int (zI (fX4_isIn a2 (fX4_cellAhead v6 dx (fX0_rows kd dx dy re a3))))), (6, .int (fX4_cellAhead v6 dx (fX0_rows kd dx dy re a3))), (0, .ref o), (1, .int a0), (2, .int a1), (3, .int a2), (4, .int (zI a3)), (8, .int (nI k)), (5, .int v5)]) hx hb dX0_endsFrom_132 hl (by decide) rfl (fun ls hl => ?_)
                    refine lv_iinc (v := nI (k + 1)) (lv' := [(8, .int (nI (k + 1))), (7, .int 1), (9, .int (zI (fX4_isIn a2 (fX4_cellAhead v6 dx (fX0_rows kd dx dy re a3))))), (6, .int (fX4_cellAhead v6 dx (fX0_rows kd dx dy re a3))), (0, .ref o), (1, .int a0), (2, .int a1), (3, .int a2), (4, .int (zI a3)), (5, .int v5)]) hx hb dX0_endsFrom_134 hl (k := 8) rfl (nI_1 _) (by decide) rfl (fun ls hl => ?_)
                    refine lv_goto (tgt := 24) hx hb dX0_endsFrom_137 (by decide) ?_
                    exact ih (n, k + 1, v5, (fX4_cellAhead v6 dx (fX0_rows kd dx dy re a3)), 1) ls (Nat.lt_succ_self _) ⟨by rw [hv, gX0_endsFrom]; rw [if_neg c_1, if_neg c_2, if_neg (Bool.eq_false_iff.mp c_3), if_pos c_4, if_neg c_5, if_neg (Bool.eq_false_iff.mp c_6), if_neg c_7], hk1, by dsimp only <;> omega⟩ (lv_sub hl [4, 5, 6, 7, 8, 0, 9, 3, 1] rfl)
                  · refine lv_iload hx hb dX0_endsFrom_122 (lv_at hl 0 rfl) ?_
                    refine x_ifz_eq (b := fX4_isIn a2 (fX4_cellAhead v6 dx (fX0_rows kd dx dy re a3))) (tgt := 131) hx hb dX0_endsFrom_124 (by decide) (fun c_8 => ?_) (fun c_8 => ?_)
                    · refine lv_iconst (v := 0) hx hb dX0_endsFrom_131 (by decide) ?_
                      refine lv_istore (lv' := [(7, .int 0), (9, .int (zI (fX4_isIn a2 (fX4_cellAhead v6 dx (fX0_rows kd dx dy re a3))))), (6, .int (fX4_cellAhead v6 dx (fX0_rows kd dx dy re a3))), (0, .ref o), (1, .int a0), (2, .int a1), (3, .int a2), (4, .int (zI a3)), (8, .int (nI k)), (5, .int v5)]) hx hb dX0_endsFrom_132 hl (by decide) rfl (fun ls hl => ?_)
                      refine lv_iinc (v := nI (k + 1)) (lv' := [(8, .int (nI (k + 1))), (7, .int 0), (9, .int (zI (fX4_isIn a2 (fX4_cellAhead v6 dx (fX0_rows kd dx dy re a3))))), (6, .int (fX4_cellAhead v6 dx (fX0_rows kd dx dy re a3))), (0, .ref o), (1, .int a0), (2, .int a1), (3, .int a2), (4, .int (zI a3)), (5, .int v5)]) hx hb dX0_endsFrom_134 hl (k := 8) rfl (nI_1 _) (by decide) rfl (fun ls hl => ?_)
                      refine lv_goto (tgt := 24) hx hb dX0_endsFrom_137 (by decide) ?_
                      exact ih (n, k + 1, v5, (fX4_cellAhead v6 dx (fX0_rows kd dx dy re a3)), 0) ls (Nat.lt_succ_self _) ⟨by rw [hv, gX0_endsFrom]; rw [if_neg c_1, if_neg c_2, if_neg (Bool.eq_false_iff.mp c_3), if_pos c_4, if_neg c_5, if_neg (Bool.eq_false_iff.mp c_6), if_pos c_7, if_neg (Bool.eq_false_iff.mp c_8)], hk1, by dsimp only <;> omega⟩ (lv_sub hl [4, 5, 6, 7, 8, 0, 9, 3, 1] rfl)
                    · refine lv_iconst (v := 1) hx hb dX0_endsFrom_127 (by decide) ?_
                      refine lv_goto (tgt := 132) hx hb dX0_endsFrom_128 (by decide) ?_
                      refine lv_istore (lv' := [(7, .int 1), (9, .int (zI (fX4_isIn a2 (fX4_cellAhead v6 dx (fX0_rows kd dx dy re a3))))), (6, .int (fX4_cellAhead v6 dx (fX0_rows kd dx dy re a3))), (0, .ref o), (1, .int a0), (2, .int a1), (3, .int a2), (4, .int (zI a3)), (8, .int (nI k)), (5, .int v5)]) hx hb dX0_endsFrom_132 hl (by decide) rfl (fun ls hl => ?_)
                      refine lv_iinc (v := nI (k + 1)) (lv' := [(8, .int (nI (k + 1))), (7, .int 1), (9, .int (zI (fX4_isIn a2 (fX4_cellAhead v6 dx (fX0_rows kd dx dy re a3))))), (6, .int (fX4_cellAhead v6 dx (fX0_rows kd dx dy re a3))), (0, .ref o), (1, .int a0), (2, .int a1), (3, .int a2), (4, .int (zI a3)), (5, .int v5)]) hx hb dX0_endsFrom_134 hl (k := 8) rfl (nI_1 _) (by decide) rfl (fun ls hl => ?_)
                      refine lv_goto (tgt := 24) hx hb dX0_endsFrom_137 (by decide) ?_
                      exact ih (n, k + 1, v5, (fX4_cellAhead v6 dx (fX0_rows kd dx dy re a3)), 1) ls (Nat.lt_succ_self _) ⟨by rw [hv, gX0_endsFrom]; rw [if_neg c_1, if_neg c_2, if_neg (Bool.eq_false_iff.mp c_3), if_pos c_4, if_neg c_5, if_neg (Bool.eq_false_iff.mp c_6), if_pos c_7, if_pos c_8], hk1, by dsimp only <;> omega⟩ (lv_sub hl [4, 5, 6, 7, 8, 0, 9, 3, 1] rfl)
                · refine lv_iload hx hb dX0_endsFrom_111 (lv_at hl 8 rfl) ?_
                  exact W.iret (v := v5) hx hb hr (fun t ht hw => ⟨_, rfl, (show (v5 : Int32) = fX0_endsFrom kd dx dy re a0 a1 a2 a3 from by rw [hv, gX0_endsFrom]; rw [if_neg c_1, if_neg c_2, if_neg (Bool.eq_false_iff.mp c_3), if_pos c_4, if_neg c_5, if_pos c_6]), ht⟩) (fun _ h => nomatch h) dX0_endsFrom_113
              · refine lv_iload hx hb dX0_endsFrom_98 (lv_at hl 9 rfl) ?_
                refine lv_if_eq (tgt := 114) hx hb dX0_endsFrom_100 (by decide) (fun c_9 => ?_) (fun c_9 => ?_)
                · refine lv_aload_n hx hb dX0_endsFrom_114 rfl (lv_at hl 2 rfl) ?_
                  refine va_get (D := G.1) (ci := 0) (v := .int kd) (C := RX0) (T := TX0) (N := 4) hx hb hts hiX0 hown hX.1 (x1 hW hE) 0 rfl rfl 0 (by decide) hf9 (fun _ h9 => h9) rfl dX0_endsFrom_115 ?_
                  refine lv_iconst (v := 2) hx hb dX0_endsFrom_118 (by decide) ?_
                  refine lv_icmp_ne (tgt := 127) hx hb dX0_endsFrom_119 (by decide) (fun c_10 => ?_) (fun c_10 => ?_)
                  · refine lv_iconst (v := 1) hx hb dX0_endsFrom_127 (by decide) ?_
                    refine lv_goto (tgt := 132) hx hb dX0_endsFrom_128 (by decide) ?_
                    refine lv_istore (lv' := [(7, .int 1), (9, .int (zI (fX4_isIn a2 (fX4_cellAhead v6 dx (fX0_rows kd dx dy re a3))))), (6, .int (fX4_cellAhead v6 dx (fX0_rows kd dx dy re a3))), (0, .ref o), (1, .int a0), (2, .int a1), (3, .int a2), (4, .int (zI a3)), (8, .int (nI k)), (5, .int v5)]) hx hb dX0_endsFrom_132 hl (by decide) rfl (fun ls hl => ?_)
                    refine lv_iinc (v := nI (k + 1)) (lv' := [(8, .int (nI (k + 1))), (7, .int 1), (9, .int (zI (fX4_isIn a2 (fX4_cellAhead v6 dx (fX0_rows kd dx dy re a3))))), (6, .int (fX4_cellAhead v6 dx (fX0_rows kd dx dy re a3))), (0, .ref o), (1, .int a0), (2, .int a1), (3, .int a2), (4, .int (zI a3)), (5, .int v5)]) hx hb dX0_endsFrom_134 hl (k := 8) rfl (nI_1 _) (by decide) rfl (fun ls hl => ?_)
                    refine lv_goto (tgt := 24) hx hb dX0_endsFrom_137 (by decide) ?_
                    exact ih (n, k + 1, v5, (fX4_cellAhead v6 dx (fX0_rows kd dx dy re a3)), 1) ls (Nat.lt_succ_self _) ⟨by rw [hv, gX0_endsFrom]; rw [if_neg c_1, if_neg c_2, if_neg (Bool.eq_false_iff.mp c_3), if_pos c_4, if_pos c_5, if_pos c_9, if_neg c_10], hk1, by dsimp only <;> omega⟩ (lv_sub hl [4, 5, 6, 7, 8, 0, 9, 3, 1] rfl)
                  · refine lv_iload hx hb dX0_endsFrom_122 (lv_at hl 0 rfl) ?_
                    refine x_ifz_eq (b := fX4_isIn a2 (fX4_cellAhead v6 dx (fX0_rows kd dx dy re a3))) (tgt := 131) hx hb dX0_endsFrom_124 (by decide) (fun c_11 => ?_) (fun c_11 => ?_)
                    · refine lv_iconst (v := 0) hx hb dX0_endsFrom_131 (by decide) ?_
                      refine lv_istore (lv' := [(7, .int 0), (9, .int (zI (fX4_isIn a2 (fX4_cellAhead v6 dx (fX0_rows kd dx dy re a3))))), (6, .int (fX4_cellAhead v6 dx (fX0_rows kd dx dy re a3))), (0, .ref o), (1, .int a0), (2, .int a1), (3, .int a2), (4, .int (zI a3)), (8, .int (nI k)), (5, .int v5)]) hx hb dX0_endsFrom_132 hl (by decide) rfl (fun ls hl => ?_)
                      refine lv_iinc (v := nI (k + 1)) (lv' := [(8, .int (nI (k + 1))), (7, .int 0), (9, .int (zI (fX4_isIn a2 (fX4_cellAhead v6 dx (fX0_rows kd dx dy re a3))))), (6, .int (fX4_cellAhead v6 dx (fX0_rows kd dx dy re a3))), (0, .ref o), (1, .int a0), (2, .int a1), (3, .int a2), (4, .int (zI a3)), (5, .int v5)]) hx hb dX0_endsFrom_134 hl (k := 8) rfl (nI_1 _) (by decide) rfl (fun ls hl => ?_)
                      refine lv_goto (tgt := 24) hx hb dX0_endsFrom_137 (by decide) ?_
                      exact ih (n, k + 1, v5, (fX4_cellAhead v6 dx (fX0_rows kd dx dy re a3)), 0) ls (Nat.lt_succ_self _) ⟨by rw [hv, gX0_endsFrom]; rw [if_neg c_1, if_neg c_2, if_neg (Bool.eq_false_iff.mp c_3), if_pos c_4, if_pos c_5, if_pos c_9, if_pos c_10, if_neg (Bool.eq_false_iff.mp c_11)], hk1, by dsimp only <;> omega⟩ (lv_sub hl [4, 5, 6, 7, 8, 0, 9, 3, 1] rfl)
                    · refine lv_iconst (v := 1) hx hb dX0_endsFrom_127 (by decide) ?_
                      refine lv_goto (tgt := 132) hx hb dX0_endsFrom_128 (by decide) ?_
                      refine lv_istore (lv' := [(7, .int 1), (9, .int (zI (fX4_isIn a2 (fX4_cellAhead v6 dx (fX0_rows kd dx dy re a3))))), (6, .int (fX4_cellAhead v6 dx (fX0_rows kd dx dy re a3))), (0, .ref o), (1, .int a0), (2, .int a1), (3, .int a2), (4, .int (zI a3)), (8, .int (nI k)), (5, .int v5)]) hx hb dX0_endsFrom_132 hl (by decide) rfl (fun ls hl => ?_)
                      refine lv_iinc (v := nI (k + 1)) (lv' := [(8, .int (nI (k + 1))), (7, .int 1), (9, .int (zI (fX4_isIn a2 (fX4_cellAhead v6 dx (fX0_rows kd dx dy re a3))))), (6, .int (fX4_cellAhead v6 dx (fX0_rows kd dx dy re a3))), (0, .ref o), (1, .int a0), (2, .int a1), (3, .int a2), (4, .int (zI a3)), (5, .int v5)]) hx hb dX0_endsFrom_134 hl (k := 8) rfl (nI_1 _) (by decide) rfl (fun ls hl => ?_)
                      refine lv_goto (tgt := 24) hx hb dX0_endsFrom_137 (by decide) ?_
                      exact ih (n, k + 1, v5, (fX4_cellAhead v6 dx (fX0_rows kd dx dy re a3)), 1) ls (Nat.lt_succ_self _) ⟨by rw [hv, gX0_endsFrom]; rw [if_neg c_1, if_neg c_2, if_neg (Bool.eq_false_iff.mp c_3), if_pos c_4, if_pos c_5, if_pos c_9, if_pos c_10, if_pos c_11], hk1, by dsimp only <;> omega⟩ (lv_sub hl [4, 5, 6, 7, 8, 0, 9, 3, 1] rfl)
                · refine lv_goto (tgt := 111) hx hb dX0_endsFrom_103 (by decide) ?_
                  refine lv_iload hx hb dX0_endsFrom_111 (lv_at hl 8 rfl) ?_
                  exact W.iret (v := v5) hx hb hr (fun t ht hw => ⟨_, rfl, (show (v5 : Int32) = fX0_endsFrom kd dx dy re a0 a1 a2 a3 from by rw [hv, gX0_endsFrom]; rw [if_neg c_1, if_neg c_2, if_neg (Bool.eq_false_iff.mp c_3), if_pos c_4, if_pos c_5, if_neg c_9]), ht⟩) (fun _ h => nomatch h) dX0_endsFrom_113
            · refine lv_iload hx hb dX0_endsFrom_73 (lv_at hl 7 rfl) ?_
              refine lv_iconst (v := 1) hx hb dX0_endsFrom_75 (by decide) ?_
              refine lv_iload hx hb dX0_endsFrom_76 (lv_at hl 0 rfl) ?_
              refine lv_ishl hx hb dX0_endsFrom_78 ?_
              refine lv_ior hx hb dX0_endsFrom_79 ?_
              refine lv_istore (lv' := [(5, .int (v5 ||| ((1 : Int32) <<< ((fX4_cellAhead v6 dx (fX0_rows kd dx dy re a3)) &&& 31)))), (6, .int (fX4_cellAhead v6 dx (fX0_rows kd dx dy re a3))), (0, .ref o), (1, .int a0), (2, .int a1), (3, .int a2), (4, .int (zI a3)), (8, .int (nI k)), (7, .int v7)]) hx hb dX0_endsFrom_80 hl (by decide) rfl (fun ls hl => ?_)
              refine lv_iload_n hx hb dX0_endsFrom_82 rfl (lv_at hl 5 rfl) ?_
              refine lv_iload hx hb dX0_endsFrom_83 (lv_at hl 1 rfl) ?_
              refine x_callSe (va_runSN (As := [.int a2, .int (fX4_cellAhead v6 dx (fX0_rows kd dx dy re a3))]) (rest := []) ⟨hx, hb, hml, hown, hts⟩ (kX4_isIn l a2 (fX4_cellAhead v6 dx (fX0_rows kd dx dy re a3))) ⟨va_cnB 2 hts gX0_endsFrom_X4_isIn_n32 rfl rfl rfl hX.2.1.2.2.1 hiniRX4 (by decide +kernel) ⟨Nat.le_of_ble_eq_true rfl, Nat.le_of_ble_eq_true rfl⟩, hstX4_isIn, trivial⟩ x_preT rfl rfl hl.1 rfl (lv_room (Nat.le_of_ble_eq_true rfl)) dX0_endsFrom_85 ⟨Nat.le_of_ble_eq_true rfl, Nat.le_of_ble_eq_true rfl⟩) ?_
              refine lv_istore (lv' := [(9, .int (zI (fX4_isIn a2 (fX4_cellAhead v6 dx (fX0_rows kd dx dy re a3))))), (5, .int (v5 ||| ((1 : Int32) <<< ((fX4_cellAhead v6 dx (fX0_rows kd dx dy re a3)) &&& 31)))), (6, .int (fX4_cellAhead v6 dx (fX0_rows kd dx dy re a3))), (0, .ref o), (1, .int a0), (2, .int a1), (3, .int a2), (4, .int (zI a3)), (8, .int (nI k)), (7, .int v7)]) hx hb dX0_endsFrom_88 hl (by decide) rfl (fun ls hl => ?_)
              refine lv_aload_n hx hb dX0_endsFrom_90 rfl (lv_at hl 3 rfl) ?_
              refine va_get (D := G.1) (ci := 0) (v := .int kd) (C := RX0) (T := TX0) (N := 4) hx hb hts hiX0 hown hX.1 (x1 hW hE) 0 rfl rfl 0 (by decide) hf9 (fun _ h9 => h9) rfl dX0_endsFrom_91 ?_
              refine lv_iconst (v := 2) hx hb dX0_endsFrom_94 (by decide) ?_
              refine lv_icmp_ne (tgt := 106) hx hb dX0_endsFrom_95 (by decide) (fun c_12 => ?_) (fun c_12 => ?_)
              · refine lv_iload hx hb dX0_endsFrom_106 (lv_at hl 0 rfl) ?_
                refine x_ifz_eq (b := fX4_isIn a2 (fX4_cellAhead v6 dx (fX0_rows kd dx dy re a3))) (tgt := 114) hx hb dX0_endsFrom_108 (by decide) (fun c_13 => ?_) (fun c_13 => ?_)
                · refine lv_aload_n hx hb dX0_endsFrom_114 rfl (lv_at hl 3 rfl) ?_
                  refine va_get (D := G.1) (ci := 0) (v := .int kd) (C := RX0) (T := TX0) (N := 4) hx hb hts hiX0 hown hX.1 (x1 hW hE) 0 rfl rfl 0 (by decide) hf9 (fun _ h9 => h9) rfl dX0_endsFrom_115 ?_
                  refine lv_iconst (v := 2) hx hb dX0_endsFrom_118 (by decide) ?_
                  refine lv_icmp_ne (tgt := 127) hx hb dX0_endsFrom_119 (by decide) (fun c_14 => ?_) (fun c_14 => ?_)
                  · refine lv_iconst (v := 1) hx hb dX0_endsFrom_127 (by decide) ?_
                    refine lv_goto (tgt := 132) hx hb dX0_endsFrom_128 (by decide) ?_
                    refine lv_istore (lv' := [(7, .int 1), (9, .int (zI (fX4_isIn a2 (fX4_cellAhead v6 dx (fX0_rows kd dx dy re a3))))), (5, .int (v5 ||| ((1 : Int32) <<< ((fX4_cellAhead v6 dx (fX0_rows kd dx dy re a3)) &&& 31)))), (6, .int (fX4_cellAhead v6 dx (fX0_rows kd dx dy re a3))), (0, .ref o), (1, .int a0), (2, .int a1), (3, .int a2), (4, .int (zI a3)), (8, .int (nI k))]) hx hb dX0_endsFrom_132 hl (by decide) rfl (fun ls hl => ?_)
                    refine lv_iinc (v := nI (k + 1)) (lv' := [(8, .int (nI (k + 1))), (7, .int 1), (9, .int (zI (fX4_isIn a2 (fX4_cellAhead v6 dx (fX0_rows kd dx dy re a3))))), (5, .int (v5 ||| ((1 : Int32) <<< ((fX4_cellAhead v6 dx (fX0_rows kd dx dy re a3)) &&& 31)))), (6, .int (fX4_cellAhead v6 dx (fX0_rows kd dx dy re a3))), (0, .ref o), (1, .int a0), (2, .int a1), (3, .int a2), (4, .int (zI a3))]) hx hb dX0_endsFrom_134 hl (k := 9) rfl (nI_1 _) (by decide) rfl (fun ls hl => ?_)
                    refine lv_goto (tgt := 24) hx hb dX0_endsFrom_137 (by decide) ?_
                    exact ih (n, k + 1, (v5 ||| ((1 : Int32) <<< ((fX4_cellAhead v6 dx (fX0_rows kd dx dy re a3)) &&& 31))), (fX4_cellAhead v6 dx (fX0_rows kd dx dy re a3)), 1) ls (Nat.lt_succ_self _) ⟨by rw [hv, gX0_endsFrom]; rw [if_neg c_1, if_neg c_2, if_neg (Bool.eq_false_iff.mp c_3), if_neg c_4, if_neg c_12, if_neg (Bool.eq_false_iff.mp c_13), if_neg c_14], hk1, by dsimp only <;> omega⟩ (lv_sub hl [5, 6, 7, 8, 9, 0, 3, 4, 1] rfl)
                  · refine lv_iload hx hb dX0_endsFrom_122 (lv_at hl 0 rfl) ?_
                    refine x_ifz_eq (b := fX4_isIn a2 (fX4_cellAhead v6 dx (fX0_rows kd dx dy re a3))) (tgt := 131) hx hb dX0_endsFrom_124 (by decide) (fun c_15 => ?_) (fun c_15 => ?_)
                    · refine lv_iconst (v := 0) hx hb dX0_endsFrom_131 (by decide) ?_
                      refine lv_istore (lv' := [(7, .int 0), (9, .int (zI (fX4_isIn a2 (fX4_cellAhead v6 dx (fX0_rows kd dx dy re a3))))), (5, .int (v5 ||| ((1 : Int32) <<< ((fX4_cellAhead v6 dx (fX0_rows kd dx dy re a3)) &&& 31)))), (6, .int (fX4_cellAhead v6 dx (fX0_rows kd dx dy re a3))), (0, .ref o), (1, .int a0), (2, .int a1), (3, .int a2), (4, .int (zI a3)), (8, .int (nI k))]) hx hb dX0_endsFrom_132 hl (by decide) rfl (fun ls hl => ?_)
                      refine lv_iinc (v := nI (k + 1)) (lv' := [(8, .int (nI (k + 1))), (7, .int 0), (9, .int (zI (fX4_isIn a2 (fX4_cellAhead v6 dx (fX0_rows kd dx dy re a3))))), (5, .int (v5 ||| ((1 : Int32) <<< ((fX4_cellAhead v6 dx (fX0_rows kd dx dy re a3)) &&& 31)))), (6, .int (fX4_cellAhead v6 dx (fX0_rows kd dx dy re a3))), (0, .ref o), (1, .int a0), (2, .int a1), (3, .int a2), (4, .int (zI a3))]) hx hb dX0_endsFrom_134 hl (k := 9) rfl (nI_1 _) (by decide) rfl (fun ls hl => ?_)
                      refine lv_goto (tgt := 24) hx hb dX0_endsFrom_137 (by decide) ?_
                      exact ih (n, k + 1, (v5 ||| ((1 : Int32) <<< ((fX4_cellAhead v6 dx (fX0_rows kd dx dy re a3)) &&& 31))), (fX4_cellAhead v6 dx (fX0_rows kd dx dy re a3)), 0) ls (Nat.lt_succ_self _) ⟨by rw [hv, gX0_endsFrom]; rw [if_neg c_1, if_neg c_2, if_neg (Bool.eq_false_iff.mp c_3), if_neg c_4, if_neg c_12, if_neg (Bool.eq_false_iff.mp c_13), if_pos c_14, if_neg (Bool.eq_false_iff.mp c_15)], hk1, by dsimp only <;> omega⟩ (lv_sub hl [5, 6, 7, 8, 9, 0, 3, 4, 1] rfl)
                    · refine lv_iconst (v := 1) hx hb dX0_endsFrom_127 (by decide) ?_
                      refine lv_goto (tgt := 132) hx hb dX0_endsFrom_128 (by decide) ?_
                      refine lv_istore (lv' := [(7, .int 1), (9, .int (zI (fX4_isIn a2 (fX4_cellAhead v6 dx (fX0_rows kd dx dy re a3))))), (5, .int (v5 ||| ((1 : Int32) <<< ((fX4_cellAhead v6 dx (fX0_rows kd dx dy re a3)) &&& 31)))), (6, .int (fX4_cellAhead v6 dx (fX0_rows kd dx dy re a3))), (0, .ref o), (1, .int a0), (2, .int a1), (3, .int a2), (4, .int (zI a3)), (8, .int (nI k))]) hx hb dX0_endsFrom_132 hl (by decide) rfl (fun ls hl => ?_)
                      refine lv_iinc (v := nI (k + 1)) (lv' := [(8, .int (nI (k + 1))), (7, .int 1), (9, .int (zI (fX4_isIn a2 (fX4_cellAhead v6 dx (fX0_rows kd dx dy re a3))))), (5, .int (v5 ||| ((1 : Int32) <<< ((fX4_cellAhead v6 dx (fX0_rows kd dx dy re a3)) &&& 31)))), (6, .int (fX4_cellAhead v6 dx (fX0_rows kd dx dy re a3))), (0, .ref o), (1, .int a0), (2, .int a1), (3, .int a2), (4, .int (zI a3))]) hx hb dX0_endsFrom_134 hl (k := 9) rfl (nI_1 _) (by decide) rfl (fun ls hl => ?_)
                      refine lv_goto (tgt := 24) hx hb dX0_endsFrom_137 (by decide) ?_
                      exact ih (n, k + 1, (v5 ||| ((1 : Int32) <<< ((fX4_cellAhead v6 dx (fX0_rows kd dx dy re a3)) &&& 31))), (fX4_cellAhead v6 dx (fX0_rows kd dx dy re a3)), 1) ls (Nat.lt_succ_self _) ⟨by rw [hv, gX0_endsFrom]; rw [if_neg c_1, if_neg c_2, if_neg (Bool.eq_false_iff.mp c_3), if_neg c_4, if_neg c_12, if_neg (Bool.eq_false_iff.mp c_13), if_pos c_14, if_pos c_15], hk1, by dsimp only <;> omega⟩ (lv_sub hl [5, 6, 7, 8, 9, 0, 3, 4, 1] rfl)
                · refine lv_iload hx hb dX0_endsFrom_111 (lv_at hl 1 rfl) ?_
                  exact W.iret (v := v5 ||| ((1 : Int32) <<< ((fX4_cellAhead v6 dx (fX0_rows kd dx dy re a3)) &&& 31))) hx hb hr (fun t ht hw => ⟨_, rfl, (show (v5 ||| ((1 : Int32) <<< ((fX4_cellAhead v6 dx (fX0_rows kd dx dy re a3)) &&& 31)) : Int32) = fX0_endsFrom kd dx dy re a0 a1 a2 a3 from by rw [hv, gX0_endsFrom]; rw [if_neg c_1, if_neg c_2, if_neg (Bool.eq_false_iff.mp c_3), if_neg c_4, if_neg c_12, if_pos c_13]), ht⟩) (fun _ h => nomatch h) dX0_endsFrom_113
              · refine lv_iload hx hb dX0_endsFrom_98 (lv_at hl 9 rfl) ?_
                refine lv_if_eq (tgt := 114) hx hb dX0_endsFrom_100 (by decide) (fun c_16 => ?_) (fun c_16 => ?_)
                · refine lv_aload_n hx hb dX0_endsFrom_114 rfl (lv_at hl 3 rfl) ?_
                  refine va_get (D := G.1) (ci := 0) (v := .int kd) (C := RX0) (T := TX0) (N := 4) hx hb hts hiX0 hown hX.1 (x1 hW hE) 0 rfl rfl 0 (by decide) hf9 (fun _ h9 => h9) rfl dX0_endsFrom_115 ?_
                  refine lv_iconst (v := 2) hx hb dX0_endsFrom_118 (by decide) ?_
                  refine lv_icmp_ne (tgt := 127) hx hb dX0_endsFrom_119 (by decide) (fun c_17 => ?_) (fun c_17 => ?_)
                  · refine lv_iconst (v := 1) hx hb dX0_endsFrom_127 (by decide) ?_
                    refine lv_goto (tgt := 132) hx hb dX0_endsFrom_128 (by decide) ?_
                    refine lv_istore (lv' := [(7, .int 1), (9, .int (zI (fX4_isIn a2 (fX4_cellAhead v6 dx (fX0_rows kd dx dy re a3))))), (5, .int (v5 ||| ((1 : Int32) <<< ((fX4_cellAhead v6 dx (fX0_rows kd dx dy re a3)) &&& 31)))), (6, .int (fX4_cellAhead v6 dx (fX0_rows kd dx dy re a3))), (0, .ref o), (1, .int a0), (2, .int a1), (3, .int a2), (4, .int (zI a3)), (8, .int (nI k))]) hx hb dX0_endsFrom_132 hl (by decide) rfl (fun ls hl => ?_)
                    refine lv_iinc (v := nI (k + 1)) (lv' := [(8, .int (nI (k + 1))), (7, .int 1), (9, .int (zI (fX4_isIn a2 (fX4_cellAhead v6 dx (fX0_rows kd dx dy re a3))))), (5, .int (v5 ||| ((1 : Int32) <<< ((fX4_cellAhead v6 dx (fX0_rows kd dx dy re a3)) &&& 31)))), (6, .int (fX4_cellAhead v6 dx (fX0_rows kd dx dy re a3))), (0, .ref o), (1, .int a0), (2, .int a1), (3, .int a2), (4, .int (zI a3))]) hx hb dX0_endsFrom_134 hl (k := 9) rfl (nI_1 _) (by decide) rfl (fun ls hl => ?_)
                    refine lv_goto (tgt := 24) hx hb dX0_endsFrom_137 (by decide) ?_
                    exact ih (n, k + 1, (v5 ||| ((1 : Int32) <<< ((fX4_cellAhead v6 dx (fX0_rows kd dx dy re a3)) &&& 31))), (fX4_cellAhead v6 dx (fX0_rows kd dx dy re a3)), 1) ls (Nat.lt_succ_self _) ⟨by rw [hv, gX0_endsFrom]; rw [if_neg c_1, if_neg c_2, if_neg (Bool.eq_false_iff.mp c_3), if_neg c_4, if_pos c_12, if_pos c_16, if_neg c_17], hk1, by dsimp only <;> omega⟩ (lv_sub hl [5, 6, 7, 8, 9, 0, 3, 4, 1] rfl)
                  · refine lv_iload hx hb dX0_endsFrom_122 (lv_at hl 0 rfl) ?_
                    refine x_ifz_eq (b := fX4_isIn a2 (fX4_cellAhead v6 dx (fX0_rows kd dx dy re a3))) (tgt := 131) hx hb dX0_endsFrom_124 (by decide) (fun c_18 => ?_) (fun c_18 => ?_)
                    · refine lv_iconst (v := 0) hx hb dX0_endsFrom_131 (by decide) ?_
                      refine lv_istore (lv' := [(7, .int 0), (9, .int (zI (fX4_isIn a2 (fX4_cellAhead v6 dx (fX0_rows kd dx dy re a3))))), (5, .int (v5 ||| ((1 : Int32) <<< ((fX4_cellAhead v6 dx (fX0_rows kd dx dy re a3)) &&& 31)))), (6, .int (fX4_cellAhead v6 dx (fX0_rows kd dx dy re a3))), (0, .ref o), (1, .int a0), (2, .int a1), (3, .int a2), (4, .int (zI a3)), (8, .int (nI k))]) hx hb dX0_endsFrom_132 hl (by decide) rfl (fun ls hl => ?_)
                      refine lv_iinc (v := nI (k + 1)) (lv' := [(8, .int (nI (k + 1))), (7, .int 0), (9, .int (zI (fX4_isIn a2 (fX4_cellAhead v6 dx (fX0_rows kd dx dy re a3))))), (5, .int (v5 ||| ((1 : Int32) <<< ((fX4_cellAhead v6 dx (fX0_rows kd dx dy re a3)) &&& 31)))), (6, .int (fX4_cellAhead v6 dx (fX0_rows kd dx dy re a3))), (0, .ref o), (1, .int a0), (2, .int a1), (3, .int a2), (4, .int (zI a3))]) hx hb dX0_endsFrom_134 hl (k := 9) rfl (nI_1 _) (by decide) rfl (fun ls hl => ?_)
                      refine lv_goto (tgt := 24) hx hb dX0_endsFrom_137 (by decide) ?_
                      exact ih (n, k + 1, (v5 ||| ((1 : Int32) <<< ((fX4_cellAhead v6 dx (fX0_rows kd dx dy re a3)) &&& 31))), (fX4_cellAhead v6 dx (fX0_rows kd dx dy re a3)), 0) ls (Nat.lt_succ_self _) ⟨by rw [hv, gX0_endsFrom]; rw [if_neg c_1, if_neg c_2, if_neg (Bool.eq_false_iff.mp c_3), if_neg c_4, if_pos c_12, if_pos c_16, if_pos c_17, if_neg (Bool.eq_false_iff.mp c_18)], hk1, by dsimp only <;> omega⟩ (lv_sub hl [5, 6, 7, 8, 9, 0, 3, 4, 1] rfl)
                    · refine lv_iconst (v := 1) hx hb dX0_endsFrom_127 (by decide) ?_
                      refine lv_goto (tgt := 132) hx hb dX0_endsFrom_128 (by decide) ?_
                      refine lv_istore (lv' := [(7, .int 1), (9, .int (zI (fX4_isIn a2 (fX4_cellAhead v6 dx (fX0_rows kd dx dy re a3))))), (5, .int (v5 ||| ((1 : Int32) <<< ((fX4_cellAhead v6 dx (fX0_rows kd dx dy re a3)) &&& 31)))), (6, .int (fX4_cellAhead v6 dx (fX0_rows kd dx dy re a3))), (0, .ref o), (1, .int a0), (2, .int a1), (3, .int a2), (4, .int (zI a3)), (8, .int (nI k))]) hx hb dX0_endsFrom_132 hl (by decide) rfl (fun ls hl => ?_)
                      refine lv_iinc (v := nI (k + 1)) (lv' := [(8, .int (nI (k + 1))), (7, .int 1), (9, .int (zI (fX4_isIn a2 (fX4_cellAhead v6 dx (fX0_rows kd dx dy re a3))))), (5, .int (v5 ||| ((1 : Int32) <<< ((fX4_cellAhead v6 dx (fX0_rows kd dx dy re a3)) &&& 31)))), (6, .int (fX4_cellAhead v6 dx (fX0_rows kd dx dy re a3))), (0, .ref o), (1, .int a0), (2, .int a1), (3, .int a2), (4, .int (zI a3))]) hx hb dX0_endsFrom_134 hl (k := 9) rfl (nI_1 _) (by decide) rfl (fun ls hl => ?_)
                      refine lv_goto (tgt := 24) hx hb dX0_endsFrom_137 (by decide) ?_
                      exact ih (n, k + 1, (v5 ||| ((1 : Int32) <<< ((fX4_cellAhead v6 dx (fX0_rows kd dx dy re a3)) &&& 31))), (fX4_cellAhead v6 dx (fX0_rows kd dx dy re a3)), 1) ls (Nat.lt_succ_self _) ⟨by rw [hv, gX0_endsFrom]; rw [if_neg c_1, if_neg c_2, if_neg (Bool.eq_false_iff.mp c_3), if_neg c_4, if_pos c_12, if_pos c_16, if_pos c_17, if_pos c_18], hk1, by dsimp only <;> omega⟩ (lv_sub hl [5, 6, 7, 8, 9, 0, 3, 4, 1] rfl)
                · refine lv_goto (tgt := 111) hx hb dX0_endsFrom_103 (by decide) ?_
                  refine lv_iload hx hb dX0_endsFrom_111 (lv_at hl 1 rfl) ?_
                  exact W.iret (v := v5 ||| ((1 : Int32) <<< ((fX4_cellAhead v6 dx (fX0_rows kd dx dy re a3)) &&& 31))) hx hb hr (fun t ht hw => ⟨_, rfl, (show (v5 ||| ((1 : Int32) <<< ((fX4_cellAhead v6 dx (fX0_rows kd dx dy re a3)) &&& 31)) : Int32) = fX0_endsFrom kd dx dy re a0 a1 a2 a3 from by rw [hv, gX0_endsFrom]; rw [if_neg c_1, if_neg c_2, if_neg (Bool.eq_false_iff.mp c_3), if_neg c_4, if_pos c_12, if_neg c_16]), ht⟩) (fun _ h => nomatch h) dX0_endsFrom_113
          · refine lv_iload hx hb dX0_endsFrom_65 (lv_at hl 7 rfl) ?_
            exact W.iret (v := v5) hx hb hr (fun t ht hw => ⟨_, rfl, (show (v5 : Int32) = fX0_endsFrom kd dx dy re a0 a1 a2 a3 from by rw [hv, gX0_endsFrom]; rw [if_neg c_1, if_neg c_2, if_pos c_3]), ht⟩) (fun _ h => nomatch h) dX0_endsFrom_67
  · refine lv_iconst (v := 0) hx hb dX0_endsFrom_0 (by decide) ?_
    refine lv_istore (lv' := [(5, .int 0), (0, .ref o), (1, .int a0), (2, .int a1), (3, .int a2), (4, .int (zI a3))]) hx hb dX0_endsFrom_1 hl (by decide) rfl (fun ls hl => ?_)
    refine lv_iload_n hx hb dX0_endsFrom_3 rfl (lv_at hl 2 rfl) ?_
    refine lv_istore (lv' := [(6, .int a0), (5, .int 0), (0, .ref o), (1, .int a0), (2, .int a1), (3, .int a2), (4, .int (zI a3))]) hx hb dX0_endsFrom_4 hl (by decide) rfl (fun ls hl => ?_)
    refine lv_aload_n hx hb dX0_endsFrom_6 rfl (lv_at hl 2 rfl) ?_
    refine va_get (D := G.1) (ci := 0) (v := .int kd) (C := RX0) (T := TX0) (N := 4) hx hb hts hiX0 hown hX.1 (x1 hW hE) 0 rfl rfl 0 (by decide) hf9 (fun _ h9 => h9) rfl dX0_endsFrom_7 ?_
    refine lv_iconst (v := 2) hx hb dX0_endsFrom_10 (by decide) ?_
    refine lv_icmp_eq (tgt := 18) hx hb dX0_endsFrom_11 (by decide) (fun c_19 => ?_) (fun c_19 => ?_)
    · refine lv_iconst (v := 0) hx hb dX0_endsFrom_18 (by decide) ?_
      refine lv_istore (lv' := [(7, .int 0), (6, .int a0), (5, .int 0), (0, .ref o), (1, .int a0), (2, .int a1), (3, .int a2), (4, .int (zI a3))]) hx hb dX0_endsFrom_19 hl (by decide) rfl (fun ls hl => ?_)
      refine lv_iconst (v := 1) hx hb dX0_endsFrom_21 (by decide) ?_
      refine lv_istore (lv' := [(8, .int 1), (7, .int 0), (6, .int a0), (5, .int 0), (0, .ref o), (1, .int a0), (2, .int a1), (3, .int a2), (4, .int (zI a3))]) hx hb dX0_endsFrom_22 hl (by decide) rfl (fun ls hl => ?_)
      exact LP (5, 1, 0, a0, 0) ls ⟨by unfold fX0_endsFrom; rw [if_pos c_19], by dsimp only <;> omega, by dsimp only <;> omega⟩ (lv_sub hl [4, 5, 6, 7, 8, 0, 3, 2, 1] rfl)
    · refine lv_iconst (v := 1) hx hb dX0_endsFrom_14 (by decide) ?_
      refine lv_goto (tgt := 19) hx hb dX0_endsFrom_15 (by decide) ?_
      refine lv_istore (lv' := [(7, .int 1), (6, .int a0), (5, .int 0), (0, .ref o), (1, .int a0), (2, .int a1), (3, .int a2), (4, .int (zI a3))]) hx hb dX0_endsFrom_19 hl (by decide) rfl (fun ls hl => ?_)
      refine lv_iconst (v := 1) hx hb dX0_endsFrom_21 (by decide) ?_
      refine lv_istore (lv' := [(8, .int 1), (7, .int 1), (6, .int a0), (5, .int 0), (0, .ref o), (1, .int a0), (2, .int a1), (3, .int a2), (4, .int (zI a3))]) hx hb dX0_endsFrom_22 hl (by decide) rfl (fun ls hl => ?_)
      exact LP (5, 1, 0, a0, 1) ls ⟨by unfold fX0_endsFrom; rw [if_neg c_19], by dsimp only <;> omega, by dsimp only <;> omega⟩ (lv_sub hl [4, 5, 6, 7, 8, 0, 3, 2, 1] rfl)

def gX0_leads (kd : Int32) (dx : Int32) (dy : Int32) (re : Int32) (a0 : Int32) (a1 : Int32) (a2 : Int32) (a3 : Int32) (a4 : Bool) : Nat → Nat → Int32 → Int32 → Int32 → Bool
  | 0, _, _, _, _ => false
  | n + 1, k, v6, v7, v8 => if re < (nI k) then false else (if (fX4_cellAhead v8 dx (fX0_rows kd dx dy re a4)) = (-1) then false else (if (fX4_isIn a2 (fX4_cellAhead v8 dx (fX0_rows kd dx dy re a4))) = true then false else (if (fX4_cellAhead v8 dx (fX0_rows kd dx dy re a4)) = a1 then (fX0_isRightPath kd dx dy re v6 v7 a3) else (gX0_leads kd dx dy re a0 a1 a2 a3 a4 n (k + 1) (v6 ||| ((1 : Int32) <<< ((fX4_cellAhead v8 dx (fX0_rows kd dx dy re a4)) &&& 31))) (fX4_cellAhead v8 dx (fX0_rows kd dx dy re a4)) (fX4_cellAhead v8 dx (fX0_rows kd dx dy re a4))))))
def fX0_leads (kd : Int32) (dx : Int32) (dy : Int32) (re : Int32) (a0 : Int32) (a1 : Int32) (a2 : Int32) (a3 : Int32) (a4 : Bool) : Bool := gX0_leads kd dx dy re a0 a1 a2 a3 a4 5 1 0 (-1) a0
set_option maxHeartbeats 4000000 in
set_option maxRecDepth 100000 in
theorem kX0_leads (l : Launch) (G : xG) (E : xE) (kd : Int32) (dx : Int32) (dy : Int32) (re : Int32) (o : Nat) (a0 : Int32) (a1 : Int32) (a2 : Int32) (a3 : Int32) (a4 : Bool) (hE : E o = some (.inr (0, [.int kd, .int dx, .int dy, .int re]))) (r : Nat) (hre : re = nI r) (h4 : r ≤ 4) : Met l yX0_leads wsX0_leads ({ frames := 1, cells := 0, slots := 0, locals := 25 }) (va_Pc [.ref o, .int a0, .int a1, .int a2, .int a3, .int (zI a4)] (xB G E)) (vp_Si (fun r => r = zI (fX0_leads kd dx dy re a0 a1 a2 a3 a4))) 0 0 (fun _ => False) := by
  refine Met.ofW (cc := cX0_leads) (maxL := 10) (ret := (some .boolean)) (by decide) rfl ?_
  intro p e s m args below meth c s₁ B hml hv
  obtain ⟨rfl, hX, hW⟩ := hv
  have hx := B.exec
  have hb := B.bytes
  have hr := B.returns
  have hts := atoms_spec (ws := wsX0_leads) B.pre
  have hown : s.vm.findClass RX0 = some m.cls := findClass_of_methodNamed B.named
  have hlocks := B.notSynchronized
  have hS : va_S (xA G) s.heap s.heap [] := va_S.rf
  have hiX0 : ∀ w ∈ u_ws RX0 TX0 4, w ∈ wsX0_leads := by decide +kernel
  have hf21 := hts (Cond.fieldLink RX0 21 "VariantMill$Card" "reach" "I") (by decide +kernel)
  have hf15 := hts (Cond.fieldLink RX0 15 "VariantMill$Card" "dx" "I") (by decide +kernel)
  have hiniRX4 := hts (Cond.initialized RX4) (by decide +kernel)
  have hstX4_cellAhead := hts (Cond.static yX4_cellAhead) (by decide +kernel)
  have hstX4_isIn := hts (Cond.static yX4_isIn) (by decide +kernel)
  have hl := lv_entry ([.ref o, .int a0, .int a1, .int a2, .int a3, .int (zI a4)]) (n := 10) (Nat.le_of_ble_eq_true rfl)
  rw [lg_entry_eq]
  generalize (lg_sl ([.ref o, .int a0, .int a1, .int a2, .int a3, .int (zI a4)]) ++ List.replicate (10 - (lg_sl ([.ref o, .int a0, .int a1, .int a2, .int a3, .int (zI a4)])).length) Slot.unset).toArray = ls at hl ⊢
  have hl : lv_has ls 10 [(0, .ref o), (1, .int a0), (2, .int a1), (3, .int a2), (4, .int a3), (5, .int (zI a4))] := hl
  refine x_loopK (σ := Nat × Nat × Int32 × Int32 × Int32) 12 10 (fun x => [(0, .ref o), (1, .int a0), (2, .int a1), (3, .int a2), (4, .int a3), (5, .int (zI a4)), (9, .int (nI x.2.1)), (6, .int x.2.2.1), (7, .int x.2.2.2.1), (8, .int x.2.2.2.2)]) (fun x => fX0_leads kd dx dy re a0 a1 a2 a3 a4 = gX0_leads kd dx dy re a0 a1 a2 a3 a4 x.1 x.2.1 x.2.2.1 x.2.2.2.1 x.2.2.2.2 ∧ x.2.1 ≤ 5 ∧ x.1 + x.2.1 = 5 + 1) (fun x => x.1) ?_ (fun LP => ?_)
  · rintro ⟨n, k, v6, v7, v8⟩ ls ⟨hv, hk, hn⟩ hl ih
    dsimp only at hv hk hn
    rcases n with _ | n
    · omega
    · have hl : lv_has ls 10 [(0, .ref o), (1, .int a0), (2, .int a1), (3, .int a2), (4, .int a3), (5, .int (zI a4)), (9, .int (nI k)), (6, .int v6), (7, .int v7), (8, .int v8)] := hl
      refine lv_iload hx hb dX0_leads_12 (lv_at hl 6 rfl) ?_
      refine lv_aload_n hx hb dX0_leads_14 rfl (lv_at hl 0 rfl) ?_
      refine va_get (D := G.1) (ci := 0) (v := .int re) (C := RX0) (T := TX0) (N := 4) hx hb hts hiX0 hown hX.1 (x1 hW hE) 0 rfl rfl 3 (by decide) hf21 (fun _ h9 => h9) rfl dX0_leads_15 ?_
      refine lv_icmp_gt (tgt := 91) hx hb dX0_leads_18 (by decide) (fun c_1 => ?_) (fun c_1 => ?_)
      · refine lv_iconst (v := 0) hx hb dX0_leads_91 (by decide) ?_
        exact W.zret (v := 0) hx hb hr rfl (fun t ht hw => ⟨_, rfl, (congrArg zI (show false = fX0_leads kd dx dy re a0 a1 a2 a3 a4 from by rw [hv, gX0_leads]; rw [if_pos c_1])), ht⟩) (fun _ h => nomatch h) dX0_leads_92
      · have hk1 : k < 5 := Nat.lt_of_le_of_lt (x_nlt (B := r) (by rw [← hre]; exact c_1) (by omega) (by omega)) (by omega)
        refine lv_iload hx hb dX0_leads_21 (lv_at hl 9 rfl) ?_
        refine lv_aload_n hx hb dX0_leads_23 rfl (lv_at hl 0 rfl) ?_
        refine va_get (D := G.1) (ci := 0) (v := .int dx) (C := RX0) (T := TX0) (N := 4) hx hb hts hiX0 hown hX.1 (x1 hW hE) 0 rfl rfl 1 (by decide) hf15 (fun _ h9 => h9) rfl dX0_leads_24 ?_
        refine lv_aload_n hx hb dX0_leads_27 rfl (lv_at hl 0 rfl) ?_
        refine lv_iload hx hb dX0_leads_28 (lv_at hl 5 rfl) ?_
        refine x_callSe (va_runV (As := [.int (zI a4)]) (rest := [.int dx, .int v8]) ⟨hx, hb, hml, hown, hts⟩ (kX0_rows l G _ kd dx dy re o a4 hE) (cwV 1 hts gX0_leads_X0_rows rfl rfl rfl (by decide +kernel) ⟨Nat.le_of_ble_eq_true rfl, Nat.le_of_ble_eq_true rfl⟩) (x_preV hX hS hW hE rfl) rfl rfl hl.1 rfl (lv_room (Nat.le_of_ble_eq_true rfl)) dX0_leads_30 ⟨Nat.le_of_ble_eq_true rfl, Nat.le_of_ble_eq_true rfl⟩) ?_
        refine x_callSe (va_runSN (As := [.int v8, .int dx, .int (fX0_rows kd dx dy re a4)]) (rest := []) ⟨hx, hb, hml, hown, hts⟩ (kX4_cellAhead l v8 dx (fX0_rows kd dx dy re a4)) ⟨va_cnB 3 hts gX0_leads_X4_cellAhead_n28 rfl rfl rfl hX.2.1.2.1 hiniRX4 (by decide +kernel) ⟨Nat.le_of_ble_eq_true rfl, Nat.le_of_ble_eq_true rfl⟩, hstX4_cellAhead, trivial⟩ x_preT rfl rfl hl.1 rfl (lv_room (Nat.le_of_ble_eq_true rfl)) dX0_leads_33 ⟨Nat.le_of_ble_eq_true rfl, Nat.le_of_ble_eq_true rfl⟩) ?_
        refine lv_istore (lv' := [(8, .int (fX4_cellAhead v8 dx (fX0_rows kd dx dy re a4))), (0, .ref o), (1, .int a0), (2, .int a1), (3, .int a2), (4, .int a3), (5, .int (zI a4)), (9, .int (nI k)), (6, .int v6), (7, .int v7)]) hx hb dX0_leads_36 hl (by decide) rfl (fun ls hl => ?_)
        refine lv_iload hx hb dX0_leads_38 (lv_at hl 0 rfl) ?_
        refine lv_iconst (v := (-1)) hx hb dX0_leads_40 (by decide) ?_
        refine lv_icmp_eq (tgt := 53) hx hb dX0_leads_41 (by decide) (fun c_2 => ?_) (fun c_2 => ?_)
        · refine lv_iconst (v := 0) hx hb dX0_leads_53 (by decide) ?_
          exact W.zret (v := 0) hx hb hr rfl (fun t ht hw => ⟨_, rfl, (congrArg zI (show false = fX0_leads kd dx dy re a0 a1 a2 a3 a4 from by rw [hv, gX0_leads]; rw [if_neg c_1, if_pos c_2])), ht⟩) (fun _ h => nomatch h) dX0_leads_54
        · refine lv_iload_n hx hb dX0_leads_44 rfl (lv_at hl 4 rfl) ?_
          refine lv_iload hx hb dX0_leads_45 (lv_at hl 0 rfl) ?_
          refine x_callSe (va_runSN (As := [.int a2, .int (fX4_cellAhead v8 dx (fX0_rows kd dx dy re a4))]) (rest := []) ⟨hx, hb, hml, hown, hts⟩ (kX4_isIn l a2 (fX4_cellAhead v8 dx (fX0_rows kd dx dy re a4))) ⟨va_cnB 2 hts gX0_leads_X4_isIn_n32 rfl rfl rfl hX.2.1.2.2.1 hiniRX4 (by decide +kernel) ⟨Nat.le_of_ble_eq_true rfl, Nat.le_of_ble_eq_true rfl⟩, hstX4_isIn, trivial⟩ x_preT rfl rfl hl.1 rfl (lv_room (Nat.le_of_ble_eq_true rfl)) dX0_leads_47 ⟨Nat.le_of_ble_eq_true rfl, Nat.le_of_ble_eq_true rfl⟩) ?_
          refine x_ifz_eq (b := fX4_isIn a2 (fX4_cellAhead v8 dx (fX0_rows kd dx dy re a4))) (tgt := 55) hx hb dX0_leads_50 (by decide) (fun c_3 => ?_) (fun c_3 => ?_)
          · refine lv_iload hx hb dX0_leads_55 (lv_at hl 0 rfl) ?_
            refine lv_iload_n hx hb dX0_leads_57 rfl (lv_at hl 3 rfl) ?_
            refine lv_icmp_ne (tgt := 72) hx hb dX0_leads_58 (by decide) (fun c_4 => ?_) (fun c_4 => ?_)
            · refine lv_iload hx hb dX0_leads_72 (lv_at hl 8 rfl) ?_
              refine lv_iconst (v := 1) hx hb dX0_leads_74 (by decide) ?_
              refine lv_iload hx hb dX0_leads_75 (lv_at hl 0 rfl) ?_
              refine lv_ishl hx hb dX0_leads_77 ?_
              refine lv_ior hx hb dX0_leads_78 ?_
              refine lv_istore (lv' := [(6, .int (v6 ||| ((1 : Int32) <<< ((fX4_cellAhead v8 dx (fX0_rows kd dx dy re a4)) &&& 31)))), (8, .int (fX4_cellAhead v8 dx (fX0_rows kd dx dy re a4))), (0, .ref o), (1, .int a0), (2, .int a1), (3, .int a2), (4, .int a3), (5, .int (zI a4)), (9, .int (nI k)), (7, .int v7)]) hx hb dX0_leads_79 hl (by decide) rfl (fun ls hl => ?_)
              refine lv_iload hx hb dX0_leads_81 (lv_at hl 1 rfl) ?_
              refine lv_istore (lv' := [(7, .int (fX4_cellAhead v8 dx (fX0_rows kd dx dy re a4))), (6, .int (v6 ||| ((1 : Int32) <<< ((fX4_cellAhead v8 dx (fX0_rows kd dx dy re a4)) &&& 31)))), (8, .int (fX4_cellAhead v8 dx (fX0_rows kd dx dy re a4))), (0, .ref o), (1, .int a0), (2, .int a1), (3, .int a2), (4, .int a3), (5, .int (zI a4)), (9, .int (nI k))]) hx hb dX0_leads_83 hl (by decide) rfl (fun ls hl => ?_)
              refine lv_iinc (v := nI (k + 1)) (lv' := [(9, .int (nI (k + 1))), (7, .int (fX4_cellAhead v8 dx (fX0_rows kd dx dy re a4))), (6, .int (v6 ||| ((1 : Int32) <<< ((fX4_cellAhead v8 dx (fX0_rows kd dx dy re a4)) &&& 31)))), (8, .int (fX4_cellAhead v8 dx (fX0_rows kd dx dy re a4))), (0, .ref o), (1, .int a0), (2, .int a1), (3, .int a2), (4, .int a3), (5, .int (zI a4))]) hx hb dX0_leads_85 hl (k := 9) rfl (nI_1 _) (by decide) rfl (fun ls hl => ?_)
              refine lv_goto (tgt := 12) hx hb dX0_leads_88 (by decide) ?_
              exact ih (n, k + 1, (v6 ||| ((1 : Int32) <<< ((fX4_cellAhead v8 dx (fX0_rows kd dx dy re a4)) &&& 31))), (fX4_cellAhead v8 dx (fX0_rows kd dx dy re a4)), (fX4_cellAhead v8 dx (fX0_rows kd dx dy re a4))) ls (Nat.lt_succ_self _) ⟨by rw [hv, gX0_leads]; rw [if_neg c_1, if_neg c_2, if_neg (Bool.eq_false_iff.mp c_3), if_neg c_4], hk1, by dsimp only <;> omega⟩ (lv_sub hl [4, 5, 6, 7, 8, 9, 0, 2, 1, 3] rfl)
            · refine lv_aload_n hx hb dX0_leads_61 rfl (lv_at hl 1 rfl) ?_
              refine lv_iload hx hb dX0_leads_62 (lv_at hl 8 rfl) ?_
              refine lv_iload hx hb dX0_leads_64 (lv_at hl 9 rfl) ?_
              refine lv_iload hx hb dX0_leads_66 (lv_at hl 5 rfl) ?_
              refine x_callSe (va_runV (As := [.int v6, .int v7, .int a3]) (rest := []) ⟨hx, hb, hml, hown, hts⟩ (kX0_isRightPath l G _ kd dx dy re o v6 v7 a3 hE) (cwV 3 hts gX0_leads_X0_isRightPath rfl rfl rfl (by decide +kernel) ⟨Nat.le_of_ble_eq_true rfl, Nat.le_of_ble_eq_true rfl⟩) (x_preV hX hS hW hE rfl) rfl rfl hl.1 rfl (lv_room (Nat.le_of_ble_eq_true rfl)) dX0_leads_68 ⟨Nat.le_of_ble_eq_true rfl, Nat.le_of_ble_eq_true rfl⟩) ?_
              exact W.zret (v := zI (fX0_isRightPath kd dx dy re v6 v7 a3)) hx hb hr (xz_nar _) (fun t ht hw => ⟨_, rfl, (congrArg zI (show fX0_isRightPath kd dx dy re v6 v7 a3 = fX0_leads kd dx dy re a0 a1 a2 a3 a4 from by rw [hv, gX0_leads]; rw [if_neg c_1, if_neg c_2, if_neg (Bool.eq_false_iff.mp c_3), if_pos c_4])), ht⟩) (fun _ h => nomatch h) dX0_leads_71
          · refine lv_iconst (v := 0) hx hb dX0_leads_53 (by decide) ?_
            exact W.zret (v := 0) hx hb hr rfl (fun t ht hw => ⟨_, rfl, (congrArg zI (show false = fX0_leads kd dx dy re a0 a1 a2 a3 a4 from by rw [hv, gX0_leads]; rw [if_neg c_1, if_neg c_2, if_pos c_3])), ht⟩) (fun _ h => nomatch h) dX0_leads_54
  · refine lv_iconst (v := 0) hx hb dX0_leads_0 (by decide) ?_
    refine lv_istore (lv' := [(6, .int 0), (0, .ref o), (1, .int a0), (2, .int a1), (3, .int a2), (4, .int a3), (5, .int (zI a4))]) hx hb dX0_leads_1 hl (by decide) rfl (fun ls hl => ?_)
    refine lv_iconst (v := (-1)) hx hb dX0_leads_3 (by decide) ?_
    refine lv_istore (lv' := [(7, .int (-1)), (6, .int 0), (0, .ref o), (1, .int a0), (2, .int a1), (3, .int a2), (4, .int a3), (5, .int (zI a4))]) hx hb dX0_leads_4 hl (by decide) rfl (fun ls hl => ?_)
    refine lv_iload_n hx hb dX0_leads_6 rfl (lv_at hl 3 rfl) ?_
    refine lv_istore (lv' := [(8, .int a0), (7, .int (-1)), (6, .int 0), (0, .ref o), (1, .int a0), (2, .int a1), (3, .int a2), (4, .int a3), (5, .int (zI a4))]) hx hb dX0_leads_7 hl (by decide) rfl (fun ls hl => ?_)
    refine lv_iconst (v := 1) hx hb dX0_leads_9 (by decide) ?_
    refine lv_istore (lv' := [(9, .int 1), (8, .int a0), (7, .int (-1)), (6, .int 0), (0, .ref o), (1, .int a0), (2, .int a1), (3, .int a2), (4, .int a3), (5, .int (zI a4))]) hx hb dX0_leads_10 hl (by decide) rfl (fun ls hl => ?_)
    exact LP (5, 1, 0, (-1), a0) ls ⟨by rfl, by dsimp only <;> omega, by dsimp only <;> omega⟩ (lv_sub hl [4, 5, 6, 7, 8, 9, 0, 3, 2, 1] rfl)
end
section
/-! the table of cards: by the numbers of a state (1 to 4: kind, dx, dy, reach of the card k) -/
abbrev xSg : Type := Nat → Nat → Int32
def xCardsAt (G : xG) (E : xE) (ta : Nat) (tb : Nat → Option Nat) (nC : Nat) (σ : xSg) : Prop :=
  E ta = some (.inl (G.2.1 2, 8, .inr (.inr (.inr (.inr tb))))) ∧ nC ≤ 8 ∧ (∀ k, nC ≤ k → tb k = none) ∧ ∀ k, k < nC → ∃ ca r : Nat, tb k = some ca ∧ E ca = some (.inr (0, [.int (σ 1 k), .int (σ 2 k), .int (σ 3 k), .int (σ 4 k)])) ∧ σ 4 k = nI r ∧ r ≤ 4
section XQ
variable {p : Program} {l : Launch} {e : Env} {R : Room} {s : State} {m : MethodId} {args : Array Value} {below : List Frame} {meth : Method} {c : Code} {H : Heap} {locs : List Loc} {cells slots : Nat} {Q : State → Prop}
variable {cc : ByteArray} {pc : Nat} {ls : Array Slot} {rest : List Value} {G : xG} {E : xE} {a : Nat}
theorem x_qldS {n : Nat} {f : Nat → Option Nat} {i : Int32} {k t0 v : Nat} {cA : ClassId} {C : String} (hexec : p.tables.exec = Jvm.exec) (hb : c.code = cc) (hK : va_K G.1 vwCl (xtys G) s) (hW : xW G E H) (ha : E a = some (.inl (cA, n, .inr (.inr (.inr (.inr f)))))) (ht : (xtys G)[t0]? = some (cA, .object C)) (hin : vp_in i n) (hk : i.toNatClampNeg = k) (hf : f k = some v) (hdg : decode cc pc = .ok (.aaload, 1))
    (kk : W p l e R s m args below meth c H locs cells slots Q (F0 m (pc + 1) ls (.ref v :: rest))) : W p l e R s m args below meth c H locs cells slots Q (F0 m pc ls (.int i :: .ref a :: rest)) :=
  x_qld hexec hb hK hW ha ht hin hk hdg (by rw [hf]; exact kk)
theorem x_qldN {n : Nat} {f : Nat → Option Nat} {i : Int32} {k t0 : Nat} {cA : ClassId} {C : String} (hexec : p.tables.exec = Jvm.exec) (hb : c.code = cc) (hK : va_K G.1 vwCl (xtys G) s) (hW : xW G E H) (ha : E a = some (.inl (cA, n, .inr (.inr (.inr (.inr f)))))) (ht : (xtys G)[t0]? = some (cA, .object C)) (hin : vp_in i n) (hk : i.toNatClampNeg = k) (hf : f k = none) (hdg : decode cc pc = .ok (.aaload, 1))
    (kk : W p l e R s m args below meth c H locs cells slots Q (F0 m (pc + 1) ls (.null :: rest))) : W p l e R s m args below meth c H locs cells slots Q (F0 m pc ls (.int i :: .ref a :: rest)) :=
  x_qld hexec hb hK hW ha ht hin hk hdg (by rw [hf]; exact kk)
end XQ
end
section
def gX2_endsFrom (σ : xSg) (nC : Nat) (S : Int32) (h : Int32) (a0 : Int32) (a1 : Int32) (a2 : Int32) (a3 : Bool) : Nat → Nat → Int32 → Int32
  | 0, _, _ => 0
  | n + 1, k, v5 => if 8 ≤ (nI k) then (v5 &&& (a1 ^^^ (-1))) else (if k < nC then (if (fX4_isIn S (nI k)) = true then (gX2_endsFrom σ nC S h a0 a1 a2 a3 n (k + 1) (v5 ||| (fX0_endsFrom (σ 1 k) (σ 2 k) (σ 3 k) (σ 4 k) a0 h (a1 ||| a2) a3))) else (gX2_endsFrom σ nC S h a0 a1 a2 a3 n (k + 1) v5)) else (gX2_endsFrom σ nC S h a0 a1 a2 a3 n (k + 1) v5))
def fX2_endsFrom (σ : xSg) (nC : Nat) (S : Int32) (h : Int32) (a0 : Int32) (a1 : Int32) (a2 : Int32) (a3 : Bool) : Int32 := if (fX4_isIn a1 a0) = true then (gX2_endsFrom σ nC S h a0 a1 a2 a3 9 0 0) else ((0 : Int32) &&& (a1 ^^^ (-1)))
set_option maxHeartbeats 4000000 in
set_option maxRecDepth 100000 in
theorem kX2_endsFrom (l : Launch) (G : xG) (E : xE) (σ : xSg) (nC : Nat) (S : Int32) (h : Int32) (o : Nat) (a0 : Int32) (a1 : Int32) (a2 : Int32) (a3 : Bool) (ta : Nat) (tb : Nat → Option Nat) (hE : E o = some (.inr (2, [.ref ta, .int S, .int h]))) (hT : xCardsAt G E ta tb nC σ) : Met l yX2_endsFrom wsX2_endsFrom ({ frames := 2, cells := 0, slots := 0, locals := 54 }) (va_Pc [.ref o, .int a0, .int a1, .int a2, .int (zI a3)] (xB G E)) (vp_Si (fun r => r = fX2_endsFrom σ nC S h a0 a1 a2 a3)) 0 0 (fun _ => False) := by
  refine Met.ofW (cc := cX2_endsFrom) (maxL := 8) (ret := (some .int)) (by decide) rfl ?_
  intro p e s m args below meth c s₁ B hml hv
  obtain ⟨rfl, hX, hW⟩ := hv
  have hx := B.exec
  have hb := B.bytes
  have hr := B.returns
  have hts := atoms_spec (ws := wsX2_endsFrom) B.pre
  have hown : s.vm.findClass RX2 = some m.cls := findClass_of_methodNamed B.named
  have hlocks := B.notSynchronized
  have hS : va_S (xA G) s.heap s.heap [] := va_S.rf
  have hiX2 : ∀ w ∈ u_ws RX2 TX2 3, w ∈ wsX2_endsFrom := by decide +kernel
  have hf9 := hts (Cond.fieldLink RX2 9 "VariantMill$Rules" "table" "[LVariantMill$Card;") (by decide +kernel)
  have hf15 := hts (Cond.fieldLink RX2 15 "VariantMill$Rules" "cards" "I") (by decide +kernel)
  have hiniRX4 := hts (Cond.initialized RX4) (by decide +kernel)
  have hstX4_isIn := hts (Cond.static yX4_isIn) (by decide +kernel)
  have hf19 := hts (Cond.fieldLink RX2 19 "VariantMill$Rules" "holes" "I") (by decide +kernel)
  have hl := lv_entry ([.ref o, .int a0, .int a1, .int a2, .int (zI a3)]) (n := 8) (Nat.le_of_ble_eq_true rfl)
  rw [lg_entry_eq]
  generalize (lg_sl ([.ref o, .int a0, .int a1, .int a2, .int (zI a3)]) ++ List.replicate (8 - (lg_sl ([.ref o, .int a0, .int a1, .int a2, .int (zI a3)])).length) Slot.unset).toArray = ls at hl ⊢
  have hl : lv_has ls 8 [(0, .ref o), (1, .int a0), (2, .int a1), (3, .int a2), (4, .int (zI a3))] := hl
  refine x_loopK (σ := Nat × Nat × Int32) 14 8 (fun x => [(0, .ref o), (1, .int a0), (2, .int a1), (3, .int a2), (4, .int (zI a3)), (6, .int (nI x.2.1)), (5, .int x.2.2)]) (fun x => fX2_endsFrom σ nC S h a0 a1 a2 a3 = gX2_endsFrom σ nC S h a0 a1 a2 a3 x.1 x.2.1 x.2.2 ∧ x.2.1 ≤ 8 ∧ x.1 + x.2.1 = 8 + 1) (fun x => x.1) ?_ (fun LP => ?_)
  · rintro ⟨n, k, v5⟩ ls ⟨hv, hk, hn⟩ hl ih
    dsimp only at hv hk hn
    rcases n with _ | n
    · omega
    · have hl : lv_has ls 8 [(0, .ref o), (1, .int a0), (2, .int a1), (3, .int a2), (4, .int (zI a3)), (6, .int (nI k)), (5, .int v5)] := hl
      refine lv_iload hx hb dX2_endsFrom_14 (lv_at hl 5 rfl) ?_
      refine lv_aload_n hx hb dX2_endsFrom_16 rfl (lv_at hl 0 rfl) ?_
      refine va_get (D := G.1) (ci := 2) (v := .ref ta) (C := RX2) (T := TX2) (N := 3) hx hb hts hiX2 hown hX.1 (x1 hW hE) 0 rfl rfl 0 (by decide) hf9 (fun _ h9 => h9) rfl dX2_endsFrom_17 ?_
      refine va_alen (D := G.1) hx hb hX.1 (x1 hW hT.1) 0 2 rfl rfl (v := 8) rfl dX2_endsFrom_20 ?_
      refine lv_icmp_ge (tgt := 76) hx hb dX2_endsFrom_21 (by decide) (fun c_1 => ?_) (fun c_1 => ?_)
      · refine lv_iload hx hb dX2_endsFrom_76 (lv_at hl 6 rfl) ?_
        refine lv_iload_n hx hb dX2_endsFrom_78 rfl (lv_at hl 2 rfl) ?_
        refine lv_iconst (v := (-1)) hx hb dX2_endsFrom_79 (by decide) ?_
        refine lv_ixor hx hb dX2_endsFrom_80 ?_
        refine lv_iand hx hb dX2_endsFrom_81 ?_
        exact W.iret (v := v5 &&& (a1 ^^^ (-1))) hx hb hr (fun t ht hw => ⟨_, rfl, (show (v5 &&& (a1 ^^^ (-1)) : Int32) = fX2_endsFrom σ nC S h a0 a1 a2 a3 from by rw [hv, gX2_endsFrom]; rw [if_pos c_1]), ht⟩) (fun _ h => nomatch h) dX2_endsFrom_82
      · have hk1 : k < 8 := x_nge (B := 8) c_1 (by omega)
        refine lv_aload_n hx hb dX2_endsFrom_24 rfl (lv_at hl 0 rfl) ?_
        refine va_get (D := G.1) (ci := 2) (v := .ref ta) (C := RX2) (T := TX2) (N := 3) hx hb hts hiX2 hown hX.1 (x1 hW hE) 0 rfl rfl 0 (by decide) hf9 (fun _ h9 => h9) rfl dX2_endsFrom_25 ?_
        refine lv_iload hx hb dX2_endsFrom_28 (lv_at hl 5 rfl) ?_
        rcases Nat.lt_or_ge k nC with c_2 | c_2
        · obtain ⟨ca, r, htb, hca, hre, h4⟩ := hT.2.2.2 k c_2
          refine x_qldS (t0 := 2) (k := k) (v := ca) hx hb hX.1 hW hT.1 rfl (vp_in_nI hk1 (by omega)) (nI_clamp (by omega)) htb dX2_endsFrom_30 ?_
          refine lv_astore (lv' := [(7, .ref ca), (0, .ref o), (1, .int a0), (2, .int a1), (3, .int a2), (4, .int (zI a3)), (6, .int (nI k)), (5, .int v5)]) hx hb dX2_endsFrom_31 hl (by decide) rfl (fun ls hl => ?_)
          refine lv_aload hx hb dX2_endsFrom_33 (lv_at hl 0 rfl) ?_
          refine lv_ifnull hx hb dX2_endsFrom_35 ?_
          refine lv_aload_n hx hb dX2_endsFrom_38 rfl (lv_at hl 1 rfl) ?_
          refine va_get (D := G.1) (ci := 2) (v := .int S) (C := RX2) (T := TX2) (N := 3) hx hb hts hiX2 hown hX.1 (x1 hW hE) 0 rfl rfl 1 (by decide) hf15 (fun _ h9 => h9) rfl dX2_endsFrom_39 ?_
          refine lv_iload hx hb dX2_endsFrom_42 (lv_at hl 6 rfl) ?_
          refine x_callSe (va_runSN (As := [.int S, .int (nI k)]) (rest := []) ⟨hx, hb, hml, hown, hts⟩ (kX4_isIn l S (nI k)) ⟨va_cnB 2 hts gX2_endsFrom_X4_isIn_n29 rfl rfl rfl hX.2.1.1 hiniRX4 (by decide +kernel) ⟨Nat.le_of_ble_eq_true rfl, Nat.le_of_ble_eq_true rfl⟩, hstX4_isIn, trivial⟩ x_preT rfl rfl hl.1 rfl (lv_room (Nat.le_of_ble_eq_true rfl)) dX2_endsFrom_44 ⟨Nat.le_of_ble_eq_true rfl, Nat.le_of_ble_eq_true rfl⟩) ?_
          refine x_ifz_eq (b := fX4_isIn S (nI k)) (tgt := 70) hx hb dX2_endsFrom_47 (by decide) (fun c_3 => ?_) (fun c_3 => ?_)
          · refine lv_iinc (v := nI (k + 1)) (lv' := [(6, .int (nI (k + 1))), (7, .ref ca), (0, .ref o), (1, .int a0), (2, .int a1), (3, .int a2), (4, .int (zI a3)), (5, .int v5)]) hx hb dX2_endsFrom_70 hl (k := 6) rfl (nI_1 _) (by decide) rfl (fun ls hl => ?_)
            refine lv_goto (tgt := 14) hx hb dX2_endsFrom_73 (by decide) ?_
            exact ih (n, k + 1, v5) ls (Nat.lt_succ_self _) ⟨by rw [hv, gX2_endsFrom]; rw [if_neg c_1, if_pos c_2, if_neg (Bool.eq_false_iff.mp c_3)], hk1, by dsimp only <;> omega⟩ (lv_sub hl [2, 3, 4, 5, 6, 0, 7] rfl)
          · refine lv_iload hx hb dX2_endsFrom_50 (lv_at hl 7 rfl) ?_
            refine lv_aload hx hb dX2_endsFrom_52 (lv_at hl 0 rfl) ?_
            refine lv_iload_n hx hb dX2_endsFrom_54 rfl (lv_at hl 2 rfl) ?_
            refine lv_aload_n hx hb dX2_endsFrom_55 rfl (lv_at hl 1 rfl) ?_
            refine va_get (D := G.1) (ci := 2) (v := .int h) (C := RX2) (T := TX2) (N := 3) hx hb hts hiX2 hown hX.1 (x1 hW hE) 0 rfl rfl 2 (by decide) hf19 (fun _ h9 => h9) rfl dX2_endsFrom_56 ?_
            refine lv_iload_n hx hb dX2_endsFrom_59 rfl (lv_at hl 3 rfl) ?_
            refine lv_iload_n hx hb dX2_endsFrom_60 rfl (lv_at hl 4 rfl) ?_
            refine lv_ior hx hb dX2_endsFrom_61 ?_
            refine lv_iload hx hb dX2_endsFrom_62 (lv_at hl 5 rfl) ?_
            refine x_callSe (va_runV (As := [.int a0, .int h, .int (a1 ||| a2), .int (zI a3)]) (rest := [.int v5]) ⟨hx, hb, hml, hown, hts⟩ (kX0_endsFrom l G _ (σ 1 k) (σ 2 k) (σ 3 k) (σ 4 k) ca a0 h (a1 ||| a2) a3 hca r hre h4) (cwV 4 hts gX2_endsFrom_X0_endsFrom rfl rfl rfl (by decide +kernel) ⟨Nat.le_of_ble_eq_true rfl, Nat.le_of_ble_eq_true rfl⟩) (x_preV hX hS hW hca rfl) rfl rfl hl.1 rfl (lv_room (Nat.le_of_ble_eq_true rfl)) dX2_endsFrom_64 ⟨Nat.le_of_ble_eq_true rfl, Nat.le_of_ble_eq_true rfl⟩) ?_
            refine lv_ior hx hb dX2_endsFrom_67 ?_
            refine lv_istore (lv' := [(5, .int (v5 ||| (fX0_endsFrom (σ 1 k) (σ 2 k) (σ 3 k) (σ 4 k) a0 h (a1 ||| a2) a3))), (7, .ref ca), (0, .ref o), (1, .int a0), (2, .int a1), (3, .int a2), (4, .int (zI a3)), (6, .int (nI k))]) hx hb dX2_endsFrom_68 hl (by decide) rfl (fun ls hl => ?_)
            refine lv_iinc (v := nI (k + 1)) (lv' := [(6, .int (nI (k + 1))), (5, .int (v5 ||| (fX0_endsFrom (σ 1 k) (σ 2 k) (σ 3 k) (σ 4 k) a0 h (a1 ||| a2) a3))), (7, .ref ca), (0, .ref o), (1, .int a0), (2, .int a1), (3, .int a2), (4, .int (zI a3))]) hx hb dX2_endsFrom_70 hl (k := 7) rfl (nI_1 _) (by decide) rfl (fun ls hl => ?_)
            refine lv_goto (tgt := 14) hx hb dX2_endsFrom_73 (by decide) ?_
            exact ih (n, k + 1, (v5 ||| (fX0_endsFrom (σ 1 k) (σ 2 k) (σ 3 k) (σ 4 k) a0 h (a1 ||| a2) a3))) ls (Nat.lt_succ_self _) ⟨by rw [hv, gX2_endsFrom]; rw [if_neg c_1, if_pos c_2, if_pos c_3], hk1, by dsimp only <;> omega⟩ (lv_sub hl [3, 4, 5, 6, 7, 0, 1] rfl)
        · refine x_qldN (t0 := 2) (k := k) hx hb hX.1 hW hT.1 rfl (vp_in_nI hk1 (by omega)) (nI_clamp (by omega)) (hT.2.2.1 k c_2) dX2_endsFrom_30 ?_
          refine lv_astoreN (lv' := [(7, .null), (0, .ref o), (1, .int a0), (2, .int a1), (3, .int a2), (4, .int (zI a3)), (6, .int (nI k)), (5, .int v5)]) hx hb dX2_endsFrom_31 hl (by decide) rfl (fun ls hl => ?_)
          refine lv_aloadN hx hb dX2_endsFrom_33 (lv_at hl 0 rfl) ?_
          refine lv_ifnullN (tgt := 70) hx hb dX2_endsFrom_35 (by decide) ?_
          refine lv_iinc (v := nI (k + 1)) (lv' := [(6, .int (nI (k + 1))), (7, .null), (0, .ref o), (1, .int a0), (2, .int a1), (3, .int a2), (4, .int (zI a3)), (5, .int v5)]) hx hb dX2_endsFrom_70 hl (k := 6) rfl (nI_1 _) (by decide) rfl (fun ls hl => ?_)
          refine lv_goto (tgt := 14) hx hb dX2_endsFrom_73 (by decide) ?_
          exact ih (n, k + 1, v5) ls (Nat.lt_succ_self _) ⟨by rw [hv, gX2_endsFrom]; rw [if_neg c_1, if_neg (Nat.not_lt.mpr c_2)], hk1, by dsimp only <;> omega⟩ (lv_sub hl [2, 3, 4, 5, 6, 0, 7] rfl)
  · refine lv_iconst (v := 0) hx hb dX2_endsFrom_0 (by decide) ?_
    refine lv_istore (lv' := [(5, .int 0), (0, .ref o), (1, .int a0), (2, .int a1), (3, .int a2), (4, .int (zI a3))]) hx hb dX2_endsFrom_1 hl (by decide) rfl (fun ls hl => ?_)
    refine lv_iload_n hx hb dX2_endsFrom_3 rfl (lv_at hl 3 rfl) ?_
    refine lv_iload_n hx hb dX2_endsFrom_4 rfl (lv_at hl 2 rfl) ?_
    refine x_callSe (va_runSN (As := [.int a1, .int a0]) (rest := []) ⟨hx, hb, hml, hown, hts⟩ (kX4_isIn l a1 a0) ⟨va_cnB 2 hts gX2_endsFrom_X4_isIn_n29 rfl rfl rfl hX.2.1.1 hiniRX4 (by decide +kernel) ⟨Nat.le_of_ble_eq_true rfl, Nat.le_of_ble_eq_true rfl⟩, hstX4_isIn, trivial⟩ x_preT rfl rfl hl.1 rfl (lv_room (Nat.le_of_ble_eq_true rfl)) dX2_endsFrom_5 ⟨Nat.le_of_ble_eq_true rfl, Nat.le_of_ble_eq_true rfl⟩) ?_
    refine x_ifz_eq (b := fX4_isIn a1 a0) (tgt := 76) hx hb dX2_endsFrom_8 (by decide) (fun c_4 => ?_) (fun c_4 => ?_)
    · refine lv_iload hx hb dX2_endsFrom_76 (lv_at hl 0 rfl) ?_
      refine lv_iload_n hx hb dX2_endsFrom_78 rfl (lv_at hl 3 rfl) ?_
      refine lv_iconst (v := (-1)) hx hb dX2_endsFrom_79 (by decide) ?_
      refine lv_ixor hx hb dX2_endsFrom_80 ?_
      refine lv_iand hx hb dX2_endsFrom_81 ?_
      exact W.iret (v := (0 : Int32) &&& (a1 ^^^ (-1))) hx hb hr (fun t ht hw => ⟨_, rfl, (show ((0 : Int32) &&& (a1 ^^^ (-1)) : Int32) = fX2_endsFrom σ nC S h a0 a1 a2 a3 from by unfold fX2_endsFrom; rw [if_neg (Bool.eq_false_iff.mp c_4)]), ht⟩) (fun _ h => nomatch h) dX2_endsFrom_82
    · refine lv_iconst (v := 0) hx hb dX2_endsFrom_11 (by decide) ?_
      refine lv_istore (lv' := [(6, .int 0), (5, .int 0), (0, .ref o), (1, .int a0), (2, .int a1), (3, .int a2), (4, .int (zI a3))]) hx hb dX2_endsFrom_12 hl (by decide) rfl (fun ls hl => ?_)
      exact LP (9, 0, 0) ls ⟨by unfold fX2_endsFrom; rw [if_pos c_4], by dsimp only <;> omega, by dsimp only <;> omega⟩ (lv_sub hl [2, 3, 4, 5, 6, 0, 1] rfl)

def gX2_hasMove (σ : xSg) (nC : Nat) (S : Int32) (h : Int32) (a0 : Int32) (a1 : Int32) (a2 : Bool) : Nat → Nat → Bool
  | 0, _ => false
  | n + 1, k => if 25 ≤ (nI k) then false else (if (fX2_endsFrom (σ) nC S h (nI k) a0 a1 a2) = 0 then (gX2_hasMove σ nC S h a0 a1 a2 n (k + 1)) else true)
def fX2_hasMove (σ : xSg) (nC : Nat) (S : Int32) (h : Int32) (a0 : Int32) (a1 : Int32) (a2 : Bool) : Bool := gX2_hasMove σ nC S h a0 a1 a2 26 0
set_option maxHeartbeats 4000000 in
set_option maxRecDepth 100000 in
theorem kX2_hasMove (l : Launch) (G : xG) (E : xE) (σ : xSg) (nC : Nat) (S : Int32) (h : Int32) (o : Nat) (a0 : Int32) (a1 : Int32) (a2 : Bool) (ta : Nat) (tb : Nat → Option Nat) (hE : E o = some (.inr (2, [.ref ta, .int S, .int h]))) (hT : xCardsAt G E ta tb nC σ) : Met l yX2_hasMove wsX2_hasMove ({ frames := 3, cells := 0, slots := 0, locals := 81 }) (va_Pc [.ref o, .int a0, .int a1, .int (zI a2)] (xB G E)) (vp_Si (fun r => r = zI (fX2_hasMove σ nC S h a0 a1 a2))) 0 0 (fun _ => False) := by
  refine Met.ofW (cc := cX2_hasMove) (maxL := 5) (ret := (some .boolean)) (by decide) rfl ?_
  intro p e s m args below meth c s₁ B hml hv
  obtain ⟨rfl, hX, hW⟩ := hv
  have hx := B.exec
  have hb := B.bytes
  have hr := B.returns
  have hts := atoms_spec (ws := wsX2_hasMove) B.pre
  have hown : s.vm.findClass RX2 = some m.cls := findClass_of_methodNamed B.named
  have hlocks := B.notSynchronized
  have hS : va_S (xA G) s.heap s.heap [] := va_S.rf
  have hl := lv_entry ([.ref o, .int a0, .int a1, .int (zI a2)]) (n := 5) (Nat.le_of_ble_eq_true rfl)
  rw [lg_entry_eq]
  generalize (lg_sl ([.ref o, .int a0, .int a1, .int (zI a2)]) ++ List.replicate (5 - (lg_sl ([.ref o, .int a0, .int a1, .int (zI a2)])).length) Slot.unset).toArray = ls at hl ⊢
  have hl : lv_has ls 5 [(0, .ref o), (1, .int a0), (2, .int a1), (3, .int (zI a2))] := hl
  refine x_loopK (σ := Nat × Nat) 3 5 (fun x => [(0, .ref o), (1, .int a0), (2, .int a1), (3, .int (zI a2)), (4, .int (nI x.2))]) (fun x => fX2_hasMove σ nC S h a0 a1 a2 = gX2_hasMove σ nC S h a0 a1 a2 x.1 x.2 ∧ x.2 ≤ 25 ∧ x.1 + x.2 = 25 + 1) (fun x => x.1) ?_ (fun LP => ?_)
  · rintro ⟨n, k⟩ ls ⟨hv, hk, hn⟩ hl ih
    dsimp only at hv hk hn
    rcases n with _ | n
    · omega
    · have hl : lv_has ls 5 [(0, .ref o), (1, .int a0), (2, .int a1), (3, .int (zI a2)), (4, .int (nI k))] := hl
      refine lv_iload hx hb dX2_hasMove_3 (lv_at hl 4 rfl) ?_
      refine lv_bipush (v := 25) hx hb dX2_hasMove_5 (by decide) ?_
      refine lv_icmp_ge (tgt := 30) hx hb dX2_hasMove_7 (by decide) (fun c_1 => ?_) (fun c_1 => ?_)
      · refine lv_iconst (v := 0) hx hb dX2_hasMove_30 (by decide) ?_
        exact W.zret (v := 0) hx hb hr rfl (fun t ht hw => ⟨_, rfl, (congrArg zI (show false = fX2_hasMove σ nC S h a0 a1 a2 from by rw [hv, gX2_hasMove]; rw [if_pos c_1])), ht⟩) (fun _ h => nomatch h) dX2_hasMove_31
      · have hk1 : k < 25 := x_nge (B := 25) c_1 (by omega)
        refine lv_aload_n hx hb dX2_hasMove_10 rfl (lv_at hl 0 rfl) ?_
        refine lv_iload hx hb dX2_hasMove_11 (lv_at hl 4 rfl) ?_
        refine lv_iload_n hx hb dX2_hasMove_13 rfl (lv_at hl 1 rfl) ?_
        refine lv_iload_n hx hb dX2_hasMove_14 rfl (lv_at hl 2 rfl) ?_
        refine lv_iload_n hx hb dX2_hasMove_15 rfl (lv_at hl 3 rfl) ?_
        refine x_callSe (va_runV (As := [.int (nI k), .int a0, .int a1, .int (zI a2)]) (rest := []) ⟨hx, hb, hml, hown, hts⟩ (kX2_endsFrom l G _ (σ) nC S h o (nI k) a0 a1 a2 ta tb hE hT) (cwV 4 hts gX2_hasMove_X2_endsFrom rfl rfl rfl (by decide +kernel) ⟨Nat.le_of_ble_eq_true rfl, Nat.le_of_ble_eq_true rfl⟩) (x_preV hX hS hW hE rfl) rfl rfl hl.1 rfl (lv_room (Nat.le_of_ble_eq_true rfl)) dX2_hasMove_16 ⟨Nat.le_of_ble_eq_true rfl, Nat.le_of_ble_eq_true rfl⟩) ?_
        refine lv_if_eq (tgt := 24) hx hb dX2_hasMove_19 (by decide) (fun c_2 => ?_) (fun c_2 => ?_)
        · refine lv_iinc (v := nI (k + 1)) (lv' := [(4, .int (nI (k + 1))), (0, .ref o), (1, .int a0), (2, .int a1), (3, .int (zI a2))]) hx hb dX2_hasMove_24 hl (k := 4) rfl (nI_1 _) (by decide) rfl (fun ls hl => ?_)
          refine lv_goto (tgt := 3) hx hb dX2_hasMove_27 (by decide) ?_
          exact ih (n, k + 1) ls (Nat.lt_succ_self _) ⟨by rw [hv, gX2_hasMove]; rw [if_neg c_1, if_pos c_2], hk1, by dsimp only <;> omega⟩ (lv_sub hl [1, 2, 3, 4, 0] rfl)
        · refine lv_iconst (v := 1) hx hb dX2_hasMove_22 (by decide) ?_
          exact W.zret (v := 1) hx hb hr rfl (fun t ht hw => ⟨_, rfl, (congrArg zI (show true = fX2_hasMove σ nC S h a0 a1 a2 from by rw [hv, gX2_hasMove]; rw [if_neg c_1, if_neg c_2])), ht⟩) (fun _ h => nomatch h) dX2_hasMove_23
  · refine lv_iconst (v := 0) hx hb dX2_hasMove_0 (by decide) ?_
    refine lv_istore (lv' := [(4, .int 0), (0, .ref o), (1, .int a0), (2, .int a1), (3, .int (zI a2))]) hx hb dX2_hasMove_1 hl (by decide) rfl (fun ls hl => ?_)
    exact LP (26, 0) ls ⟨by unfold fX2_hasMove; rfl, by dsimp only <;> omega, by dsimp only <;> omega⟩ (lv_sub hl [1, 2, 3, 4, 0] rfl)

def gX2_someCardLeads (σ : xSg) (nC : Nat) (S : Int32) (h : Int32) (a0 : Int32) (a1 : Int32) (a2 : Int32) (a3 : Bool) : Nat → Nat → Bool
  | 0, _ => false
  | n + 1, k => if 8 ≤ (nI k) then false else (if k < nC then (if (fX4_isIn S (nI k)) = true then (if (fX0_leads (σ 1 k) (σ 2 k) (σ 3 k) (σ 4 k) a0 a1 h a2 a3) = true then true else (gX2_someCardLeads σ nC S h a0 a1 a2 a3 n (k + 1))) else (gX2_someCardLeads σ nC S h a0 a1 a2 a3 n (k + 1))) else (gX2_someCardLeads σ nC S h a0 a1 a2 a3 n (k + 1)))
def fX2_someCardLeads (σ : xSg) (nC : Nat) (S : Int32) (h : Int32) (a0 : Int32) (a1 : Int32) (a2 : Int32) (a3 : Bool) : Bool := gX2_someCardLeads σ nC S h a0 a1 a2 a3 9 0
set_option maxHeartbeats 4000000 in
set_option maxRecDepth 100000 in
theorem kX2_someCardLeads (l : Launch) (G : xG) (E : xE) (σ : xSg) (nC : Nat) (S : Int32) (h : Int32) (o : Nat) (a0 : Int32) (a1 : Int32) (a2 : Int32) (a3 : Bool) (ta : Nat) (tb : Nat → Option Nat) (hE : E o = some (.inr (2, [.ref ta, .int S, .int h]))) (hT : xCardsAt G E ta tb nC σ) : Met l yX2_someCardLeads wsX2_someCardLeads ({ frames := 2, cells := 0, slots := 0, locals := 54 }) (va_Pc [.ref o, .int a0, .int a1, .int a2, .int (zI a3)] (xB G E)) (vp_Si (fun r => r = zI (fX2_someCardLeads σ nC S h a0 a1 a2 a3))) 0 0 (fun _ => False) := by
  refine Met.ofW (cc := cX2_someCardLeads) (maxL := 7) (ret := (some .boolean)) (by decide) rfl ?_
  intro p e s m args below meth c s₁ B hml hv
  obtain ⟨rfl, hX, hW⟩ := hv
  have hx := B.exec
  have hb := B.bytes
  have hr := B.returns
  have hts := atoms_spec (ws := wsX2_someCardLeads) B.pre
  have hown : s.vm.findClass RX2 = some m.cls := findClass_of_methodNamed B.named
  have hlocks := B.notSynchronized
  have hS : va_S (xA G) s.heap s.heap [] := va_S.rf
  have hiX2 : ∀ w ∈ u_ws RX2 TX2 3, w ∈ wsX2_someCardLeads := by decide +kernel
  have hf9 := hts (Cond.fieldLink RX2 9 "VariantMill$Rules" "table" "[LVariantMill$Card;") (by decide +kernel)
  have hf15 := hts (Cond.fieldLink RX2 15 "VariantMill$Rules" "cards" "I") (by decide +kernel)
  have hiniRX4 := hts (Cond.initialized RX4) (by decide +kernel)
  have hstX4_isIn := hts (Cond.static yX4_isIn) (by decide +kernel)
  have hf19 := hts (Cond.fieldLink RX2 19 "VariantMill$Rules" "holes" "I") (by decide +kernel)
  have hl := lv_entry ([.ref o, .int a0, .int a1, .int a2, .int (zI a3)]) (n := 7) (Nat.le_of_ble_eq_true rfl)
  rw [lg_entry_eq]
  generalize (lg_sl ([.ref o, .int a0, .int a1, .int a2, .int (zI a3)]) ++ List.replicate (7 - (lg_sl ([.ref o, .int a0, .int a1, .int a2, .int (zI a3)])).length) Slot.unset).toArray = ls at hl ⊢
  have hl : lv_has ls 7 [(0, .ref o), (1, .int a0), (2, .int a1), (3, .int a2), (4, .int (zI a3))] := hl
  refine x_loopK (σ := Nat × Nat) 3 7 (fun x => [(0, .ref o), (1, .int a0), (2, .int a1), (3, .int a2), (4, .int (zI a3)), (5, .int (nI x.2))]) (fun x => fX2_someCardLeads σ nC S h a0 a1 a2 a3 = gX2_someCardLeads σ nC S h a0 a1 a2 a3 x.1 x.2 ∧ x.2 ≤ 8 ∧ x.1 + x.2 = 8 + 1) (fun x => x.1) ?_ (fun LP => ?_)
  · rintro ⟨n, k⟩ ls ⟨hv, hk, hn⟩ hl ih
    dsimp only at hv hk hn
    rcases n with _ | n
    · omega
    · have hl : lv_has ls 7 [(0, .ref o), (1, .int a0), (2, .int a1), (3, .int a2), (4, .int (zI a3)), (5, .int (nI k))] := hl
      refine lv_iload hx hb dX2_someCardLeads_3 (lv_at hl 5 rfl) ?_
      refine lv_aload_n hx hb dX2_someCardLeads_5 rfl (lv_at hl 0 rfl) ?_
      refine va_get (D := G.1) (ci := 2) (v := .ref ta) (C := RX2) (T := TX2) (N := 3) hx hb hts hiX2 hown hX.1 (x1 hW hE) 0 rfl rfl 0 (by decide) hf9 (fun _ h9 => h9) rfl dX2_someCardLeads_6 ?_
      refine va_alen (D := G.1) hx hb hX.1 (x1 hW hT.1) 0 2 rfl rfl (v := 8) rfl dX2_someCardLeads_9 ?_
      refine lv_icmp_ge (tgt := 64) hx hb dX2_someCardLeads_10 (by decide) (fun c_1 => ?_) (fun c_1 => ?_)
      · refine lv_iconst (v := 0) hx hb dX2_someCardLeads_64 (by decide) ?_
        exact W.zret (v := 0) hx hb hr rfl (fun t ht hw => ⟨_, rfl, (congrArg zI (show false = fX2_someCardLeads σ nC S h a0 a1 a2 a3 from by rw [hv, gX2_someCardLeads]; rw [if_pos c_1])), ht⟩) (fun _ h => nomatch h) dX2_someCardLeads_65
      · have hk1 : k < 8 := x_nge (B := 8) c_1 (by omega)
        refine lv_aload_n hx hb dX2_someCardLeads_13 rfl (lv_at hl 0 rfl) ?_
        refine va_get (D := G.1) (ci := 2) (v := .ref ta) (C := RX2) (T := TX2) (N := 3) hx hb hts hiX2 hown hX.1 (x1 hW hE) 0 rfl rfl 0 (by decide) hf9 (fun _ h9 => h9) rfl dX2_someCardLeads_14 ?_
        refine lv_iload hx hb dX2_someCardLeads_17 (lv_at hl 5 rfl) ?_
        rcases Nat.lt_or_ge k nC with c_2 | c_2
        · obtain ⟨ca, r, htb, hca, hre, h4⟩ := hT.2.2.2 k c_2
          refine x_qldS (t0 := 2) (k := k) (v := ca) hx hb hX.1 hW hT.1 rfl (vp_in_nI hk1 (by omega)) (nI_clamp (by omega)) htb dX2_someCardLeads_19 ?_
          refine lv_astore (lv' := [(6, .ref ca), (0, .ref o), (1, .int a0), (2, .int a1), (3, .int a2), (4, .int (zI a3)), (5, .int (nI k))]) hx hb dX2_someCardLeads_20 hl (by decide) rfl (fun ls hl => ?_)
          refine lv_aload hx hb dX2_someCardLeads_22 (lv_at hl 0 rfl) ?_
          refine lv_ifnull hx hb dX2_someCardLeads_24 ?_
          refine lv_aload_n hx hb dX2_someCardLeads_27 rfl (lv_at hl 1 rfl) ?_
          refine va_get (D := G.1) (ci := 2) (v := .int S) (C := RX2) (T := TX2) (N := 3) hx hb hts hiX2 hown hX.1 (x1 hW hE) 0 rfl rfl 1 (by decide) hf15 (fun _ h9 => h9) rfl dX2_someCardLeads_28 ?_
          refine lv_iload hx hb dX2_someCardLeads_31 (lv_at hl 6 rfl) ?_
          refine x_callSe (va_runSN (As := [.int S, .int (nI k)]) (rest := []) ⟨hx, hb, hml, hown, hts⟩ (kX4_isIn l S (nI k)) ⟨va_cnB 2 hts gX2_someCardLeads_X4_isIn_n29 rfl rfl rfl hX.2.1.1 hiniRX4 (by decide +kernel) ⟨Nat.le_of_ble_eq_true rfl, Nat.le_of_ble_eq_true rfl⟩, hstX4_isIn, trivial⟩ x_preT rfl rfl hl.1 rfl (lv_room (Nat.le_of_ble_eq_true rfl)) dX2_someCardLeads_33 ⟨Nat.le_of_ble_eq_true rfl, Nat.le_of_ble_eq_true rfl⟩) ?_
          refine x_ifz_eq (b := fX4_isIn S (nI k)) (tgt := 58) hx hb dX2_someCardLeads_36 (by decide) (fun c_3 => ?_) (fun c_3 => ?_)
          · refine lv_iinc (v := nI (k + 1)) (lv' := [(5, .int (nI (k + 1))), (6, .ref ca), (0, .ref o), (1, .int a0), (2, .int a1), (3, .int a2), (4, .int (zI a3))]) hx hb dX2_someCardLeads_58 hl (k := 6) rfl (nI_1 _) (by decide) rfl (fun ls hl => ?_)
            refine lv_goto (tgt := 3) hx hb dX2_someCardLeads_61 (by decide) ?_
            exact ih (n, k + 1) ls (Nat.lt_succ_self _) ⟨by rw [hv, gX2_someCardLeads]; rw [if_neg c_1, if_pos c_2, if_neg (Bool.eq_false_iff.mp c_3)], hk1, by dsimp only <;> omega⟩ (lv_sub hl [2, 3, 4, 5, 6, 0] rfl)
          · refine lv_aload hx hb dX2_someCardLeads_39 (lv_at hl 0 rfl) ?_
            refine lv_iload_n hx hb dX2_someCardLeads_41 rfl (lv_at hl 2 rfl) ?_
            refine lv_iload_n hx hb dX2_someCardLeads_42 rfl (lv_at hl 3 rfl) ?_
            refine lv_aload_n hx hb dX2_someCardLeads_43 rfl (lv_at hl 1 rfl) ?_
            refine va_get (D := G.1) (ci := 2) (v := .int h) (C := RX2) (T := TX2) (N := 3) hx hb hts hiX2 hown hX.1 (x1 hW hE) 0 rfl rfl 2 (by decide) hf19 (fun _ h9 => h9) rfl dX2_someCardLeads_44 ?_
            refine lv_iload_n hx hb dX2_someCardLeads_47 rfl (lv_at hl 4 rfl) ?_
            refine lv_iload hx hb dX2_someCardLeads_48 (lv_at hl 5 rfl) ?_
            refine x_callSe (va_runV (As := [.int a0, .int a1, .int h, .int a2, .int (zI a3)]) (rest := []) ⟨hx, hb, hml, hown, hts⟩ (kX0_leads l G _ (σ 1 k) (σ 2 k) (σ 3 k) (σ 4 k) ca a0 a1 h a2 a3 hca r hre h4) (cwV 5 hts gX2_someCardLeads_X0_leads rfl rfl rfl (by decide +kernel) ⟨Nat.le_of_ble_eq_true rfl, Nat.le_of_ble_eq_true rfl⟩) (x_preV hX hS hW hca rfl) rfl rfl hl.1 rfl (lv_room (Nat.le_of_ble_eq_true rfl)) dX2_someCardLeads_50 ⟨Nat.le_of_ble_eq_true rfl, Nat.le_of_ble_eq_true rfl⟩) ?_
            refine x_ifz_eq (b := fX0_leads (σ 1 k) (σ 2 k) (σ 3 k) (σ 4 k) a0 a1 h a2 a3) (tgt := 58) hx hb dX2_someCardLeads_53 (by decide) (fun c_4 => ?_) (fun c_4 => ?_)
            · refine lv_iinc (v := nI (k + 1)) (lv' := [(5, .int (nI (k + 1))), (6, .ref ca), (0, .ref o), (1, .int a0), (2, .int a1), (3, .int a2), (4, .int (zI a3))]) hx hb dX2_someCardLeads_58 hl (k := 6) rfl (nI_1 _) (by decide) rfl (fun ls hl => ?_)
              refine lv_goto (tgt := 3) hx hb dX2_someCardLeads_61 (by decide) ?_
              exact ih (n, k + 1) ls (Nat.lt_succ_self _) ⟨by rw [hv, gX2_someCardLeads]; rw [if_neg c_1, if_pos c_2, if_pos c_3, if_neg (Bool.eq_false_iff.mp c_4)], hk1, by dsimp only <;> omega⟩ (lv_sub hl [2, 3, 4, 5, 6, 0] rfl)
            · refine lv_iconst (v := 1) hx hb dX2_someCardLeads_56 (by decide) ?_
              exact W.zret (v := 1) hx hb hr rfl (fun t ht hw => ⟨_, rfl, (congrArg zI (show true = fX2_someCardLeads σ nC S h a0 a1 a2 a3 from by rw [hv, gX2_someCardLeads]; rw [if_neg c_1, if_pos c_2, if_pos c_3, if_pos c_4])), ht⟩) (fun _ h => nomatch h) dX2_someCardLeads_57
        · refine x_qldN (t0 := 2) (k := k) hx hb hX.1 hW hT.1 rfl (vp_in_nI hk1 (by omega)) (nI_clamp (by omega)) (hT.2.2.1 k c_2) dX2_someCardLeads_19 ?_
          refine lv_astoreN (lv' := [(6, .null), (0, .ref o), (1, .int a0), (2, .int a1), (3, .int a2), (4, .int (zI a3)), (5, .int (nI k))]) hx hb dX2_someCardLeads_20 hl (by decide) rfl (fun ls hl => ?_)
          refine lv_aloadN hx hb dX2_someCardLeads_22 (lv_at hl 0 rfl) ?_
          refine lv_ifnullN (tgt := 58) hx hb dX2_someCardLeads_24 (by decide) ?_
          refine lv_iinc (v := nI (k + 1)) (lv' := [(5, .int (nI (k + 1))), (6, .null), (0, .ref o), (1, .int a0), (2, .int a1), (3, .int a2), (4, .int (zI a3))]) hx hb dX2_someCardLeads_58 hl (k := 6) rfl (nI_1 _) (by decide) rfl (fun ls hl => ?_)
          refine lv_goto (tgt := 3) hx hb dX2_someCardLeads_61 (by decide) ?_
          exact ih (n, k + 1) ls (Nat.lt_succ_self _) ⟨by rw [hv, gX2_someCardLeads]; rw [if_neg c_1, if_neg (Nat.not_lt.mpr c_2)], hk1, by dsimp only <;> omega⟩ (lv_sub hl [2, 3, 4, 5, 6, 0] rfl)
  · refine lv_iconst (v := 0) hx hb dX2_someCardLeads_0 (by decide) ?_
    refine lv_istore (lv' := [(5, .int 0), (0, .ref o), (1, .int a0), (2, .int a1), (3, .int a2), (4, .int (zI a3))]) hx hb dX2_someCardLeads_1 hl (by decide) rfl (fun ls hl => ?_)
    exact LP (9, 0) ls ⟨by unfold fX2_someCardLeads; rfl, by dsimp only <;> omega, by dsimp only <;> omega⟩ (lv_sub hl [1, 2, 3, 4, 5, 0] rfl)

def fX2_canHold (h : Int32) (a0 : Int32) : Bool := if a0 < 1 then false else (if 33554431 < a0 then false else (if 6 < (fJ6_bitCount_0f7a4 a0) then false else (if (a0 &&& h) = 0 then true else false)))
set_option maxHeartbeats 4000000 in
set_option maxRecDepth 100000 in
theorem kX2_canHold (l : Launch) (G : xG) (E : xE) (h : Int32) (o : Nat) (a0 : Int32) (ta : Nat) (S : Int32) (hE : E o = some (.inr (2, [.ref ta, .int S, .int h]))) : Met l yX2_canHold wsX2_canHold ({ frames := 1, cells := 0, slots := 0, locals := 20 }) (va_Pc [.ref o, .int a0] (xB G E)) (vp_Si (fun r => r = zI (fX2_canHold h a0))) 0 0 (fun _ => False) := by
  refine Met.ofW (cc := cX2_canHold) (maxL := 2) (ret := (some .boolean)) (by decide) rfl ?_
  intro p e s m args below meth c s₁ B hml hv
  obtain ⟨rfl, hX, hW⟩ := hv
  have hx := B.exec
  have hb := B.bytes
  have hr := B.returns
  have hts := atoms_spec (ws := wsX2_canHold) B.pre
  have hown : s.vm.findClass RX2 = some m.cls := findClass_of_methodNamed B.named
  have hlocks := B.notSynchronized
  have hS : va_S (xA G) s.heap s.heap [] := va_S.rf
  have hk22 := hts (Cond.constant RX2 22 (33554431)) (by decide +kernel)
  have hiX2 : ∀ w ∈ u_ws RX2 TX2 3, w ∈ wsX2_canHold := by decide +kernel
  have hf19 := hts (Cond.fieldLink RX2 19 "VariantMill$Rules" "holes" "I") (by decide +kernel)
  have hl := lv_entry ([.ref o, .int a0]) (n := 2) (Nat.le_of_ble_eq_true rfl)
  rw [lg_entry_eq]
  generalize (lg_sl ([.ref o, .int a0]) ++ List.replicate (2 - (lg_sl ([.ref o, .int a0])).length) Slot.unset).toArray = ls at hl ⊢
  have hl : lv_has ls 2 [(0, .ref o), (1, .int a0)] := hl
  refine lv_iload_n hx hb dX2_canHold_0 rfl (lv_at hl 1 rfl) ?_
  refine lv_iconst (v := 1) hx hb dX2_canHold_1 (by decide) ?_
  refine lv_icmp_lt (tgt := 33) hx hb dX2_canHold_2 (by decide) (fun c_1 => ?_) (fun c_1 => ?_)
  · refine lv_iconst (v := 0) hx hb dX2_canHold_33 (by decide) ?_
    exact W.zret (v := 0) hx hb hr rfl (fun t ht hw => ⟨_, rfl, (congrArg zI (show false = fX2_canHold h a0 from by unfold fX2_canHold; rw [if_pos c_1])), ht⟩) (fun _ h => nomatch h) dX2_canHold_34
  · refine lv_iload_n hx hb dX2_canHold_5 rfl (lv_at hl 1 rfl) ?_
    refine lv_ldc (v := 33554431) hx hb hown hk22 dX2_canHold_6 ?_
    refine lv_icmp_gt (tgt := 33) hx hb dX2_canHold_8 (by decide) (fun c_2 => ?_) (fun c_2 => ?_)
    · refine lv_iconst (v := 0) hx hb dX2_canHold_33 (by decide) ?_
      exact W.zret (v := 0) hx hb hr rfl (fun t ht hw => ⟨_, rfl, (congrArg zI (show false = fX2_canHold h a0 from by unfold fX2_canHold; rw [if_neg c_1, if_pos c_2])), ht⟩) (fun _ h => nomatch h) dX2_canHold_34
    · refine lv_iload_n hx hb dX2_canHold_11 rfl (lv_at hl 1 rfl) ?_
      refine x_callSe (va_runS (As := [.int a0]) (rest := []) ⟨hx, hb, hml, hown, hts⟩ (kJ6_bitCount_0f7a4 l a0) (va_cwS 1 hts gX2_canHold_J6_bitCount_0f7a4 rfl rfl rfl (by decide +kernel) ⟨Nat.le_of_ble_eq_true rfl, Nat.le_of_ble_eq_true rfl⟩) x_preT rfl rfl hl.1 rfl (lv_room (Nat.le_of_ble_eq_true rfl)) dX2_canHold_12 ⟨Nat.le_of_ble_eq_true rfl, Nat.le_of_ble_eq_true rfl⟩) ?_
      refine lv_bipush (v := 6) hx hb dX2_canHold_15 (by decide) ?_
      refine lv_icmp_gt (tgt := 33) hx hb dX2_canHold_17 (by decide) (fun c_3 => ?_) (fun c_3 => ?_)
      · refine lv_iconst (v := 0) hx hb dX2_canHold_33 (by decide) ?_
        exact W.zret (v := 0) hx hb hr rfl (fun t ht hw => ⟨_, rfl, (congrArg zI (show false = fX2_canHold h a0 from by unfold fX2_canHold; rw [if_neg c_1, if_neg c_2, if_pos c_3])), ht⟩) (fun _ h => nomatch h) dX2_canHold_34
      · refine lv_iload_n hx hb dX2_canHold_20 rfl (lv_at hl 1 rfl) ?_
        refine lv_aload_n hx hb dX2_canHold_21 rfl (lv_at hl 0 rfl) ?_
        refine va_get (D := G.1) (ci := 2) (v := .int h) (C := RX2) (T := TX2) (N := 3) hx hb hts hiX2 hown hX.1 (x1 hW hE) 0 rfl rfl 2 (by decide) hf19 (fun _ h9 => h9) rfl dX2_canHold_22 ?_
        refine lv_iand hx hb dX2_canHold_25 ?_
        refine lv_if_ne (tgt := 33) hx hb dX2_canHold_26 (by decide) (fun c_4 => ?_) (fun c_4 => ?_)
        · refine lv_iconst (v := 0) hx hb dX2_canHold_33 (by decide) ?_
          exact W.zret (v := 0) hx hb hr rfl (fun t ht hw => ⟨_, rfl, (congrArg zI (show false = fX2_canHold h a0 from by unfold fX2_canHold; rw [if_neg c_1, if_neg c_2, if_neg c_3, if_neg c_4])), ht⟩) (fun _ h => nomatch h) dX2_canHold_34
        · refine lv_iconst (v := 1) hx hb dX2_canHold_29 (by decide) ?_
          refine lv_goto (tgt := 34) hx hb dX2_canHold_30 (by decide) ?_
          exact W.zret (v := 1) hx hb hr rfl (fun t ht hw => ⟨_, rfl, (congrArg zI (show true = fX2_canHold h a0 from by unfold fX2_canHold; rw [if_neg c_1, if_neg c_2, if_neg c_3, if_pos c_4])), ht⟩) (fun _ h => nomatch h) dX2_canHold_34
end
section
def fX4_searchAll_0 (σ : xSg) (nC : Nat) (S : Int32) (h : Int32) (a1 : Int32) (a2 : Int32) (a3 : Bool) : Int32 := if (fX2_hasMove (σ) nC S h a1 a2 a3) = true then ((fJ6_bitCount_0f7a4 a1) - (fJ6_bitCount_0f7a4 a2)) else (-100)
set_option maxHeartbeats 4000000 in
set_option maxRecDepth 100000 in
theorem kX4_searchAll_0 (l : Launch) (G : xG) (E : xE) (σ : xSg) (nC : Nat) (S : Int32) (h : Int32) (o : Nat) (a1 : Int32) (a2 : Int32) (a3 : Bool) (ta : Nat) (tb : Nat → Option Nat) (hE : E o = some (.inr (2, [.ref ta, .int S, .int h]))) (hT : xCardsAt G E ta tb nC σ) : Met l yX4_searchAll wsX4_searchAll ({ frames := 4, cells := 0, slots := 0, locals := 105 }) (va_Pc [.ref o, .int a1, .int a2, .int (zI a3), .int 0] (xB G E)) (vp_Si (fun r => r = fX4_searchAll_0 σ nC S h a1 a2 a3)) 0 0 (fun _ => False) := by
  refine Met.ofW (cc := cX4_searchAll) (maxL := 9) (ret := (some .int)) (by decide) rfl ?_
  intro p e s m args below meth c s₁ B hml hv
  obtain ⟨rfl, hX, hW⟩ := hv
  have hx := B.exec
  have hb := B.bytes
  have hr := B.returns
  have hts := atoms_spec (ws := wsX4_searchAll) B.pre
  have hown : s.vm.findClass RX4 = some m.cls := findClass_of_methodNamed B.named
  have hlocks := B.notSynchronized
  have hS : va_S (xA G) s.heap s.heap [] := va_S.rf
  have hl := lv_entry ([.ref o, .int a1, .int a2, .int (zI a3), .int 0]) (n := 9) (Nat.le_of_ble_eq_true rfl)
  rw [lg_entry_eq]
  generalize (lg_sl ([.ref o, .int a1, .int a2, .int (zI a3), .int 0]) ++ List.replicate (9 - (lg_sl ([.ref o, .int a1, .int a2, .int (zI a3), .int 0])).length) Slot.unset).toArray = ls at hl ⊢
  have hl : lv_has ls 9 [(0, .ref o), (1, .int a1), (2, .int a2), (3, .int (zI a3)), (4, .int 0)] := hl
  refine lv_aload_n hx hb dX4_searchAll_0 rfl (lv_at hl 0 rfl) ?_
  refine lv_iload_n hx hb dX4_searchAll_1 rfl (lv_at hl 1 rfl) ?_
  refine lv_iload_n hx hb dX4_searchAll_2 rfl (lv_at hl 2 rfl) ?_
  refine lv_iload_n hx hb dX4_searchAll_3 rfl (lv_at hl 3 rfl) ?_
  refine x_callSe (va_runV (As := [.int a1, .int a2, .int (zI a3)]) (rest := []) ⟨hx, hb, hml, hown, hts⟩ (kX2_hasMove l G _ (σ) nC S h o a1 a2 a3 ta tb hE hT) (cwV 3 hts gX4_searchAll_X2_hasMove rfl rfl rfl (by decide +kernel) ⟨Nat.le_of_ble_eq_true rfl, Nat.le_of_ble_eq_true rfl⟩) (x_preV hX hS hW hE rfl) rfl rfl hl.1 rfl (lv_room (Nat.le_of_ble_eq_true rfl)) dX4_searchAll_4 ⟨Nat.le_of_ble_eq_true rfl, Nat.le_of_ble_eq_true rfl⟩) ?_
  refine x_ifz_ne (b := fX2_hasMove (σ) nC S h a1 a2 a3) (tgt := 13) hx hb dX4_searchAll_7 (by decide) (fun c_1 => ?_) (fun c_1 => ?_)
  · refine lv_iload hx hb dX4_searchAll_13 (lv_at hl 4 rfl) ?_
    refine lv_if_gt (tgt := 28) hx hb dX4_searchAll_15 (by decide) (fun c9 => absurd c9 (by decide)) (fun _ => ?_)
    refine lv_iload_n hx hb dX4_searchAll_18 rfl (lv_at hl 1 rfl) ?_
    refine x_callSe (va_runS (As := [.int a1]) (rest := []) ⟨hx, hb, hml, hown, hts⟩ (kJ6_bitCount_0f7a4 l a1) (va_cwS 1 hts gX4_searchAll_J6_bitCount_0f7a4 rfl rfl rfl (by decide +kernel) ⟨Nat.le_of_ble_eq_true rfl, Nat.le_of_ble_eq_true rfl⟩) x_preT rfl rfl hl.1 rfl (lv_room (Nat.le_of_ble_eq_true rfl)) dX4_searchAll_19 ⟨Nat.le_of_ble_eq_true rfl, Nat.le_of_ble_eq_true rfl⟩) ?_
    refine lv_iload_n hx hb dX4_searchAll_22 rfl (lv_at hl 2 rfl) ?_
    refine x_callSe (va_runS (As := [.int a2]) (rest := [.int (fJ6_bitCount_0f7a4 a1)]) ⟨hx, hb, hml, hown, hts⟩ (kJ6_bitCount_0f7a4 l a2) (va_cwS 1 hts gX4_searchAll_J6_bitCount_0f7a4 rfl rfl rfl (by decide +kernel) ⟨Nat.le_of_ble_eq_true rfl, Nat.le_of_ble_eq_true rfl⟩) x_preT rfl rfl hl.1 rfl (lv_room (Nat.le_of_ble_eq_true rfl)) dX4_searchAll_23 ⟨Nat.le_of_ble_eq_true rfl, Nat.le_of_ble_eq_true rfl⟩) ?_
    refine lv_isub hx hb dX4_searchAll_26 ?_
    exact W.iret (v := (fJ6_bitCount_0f7a4 a1) - (fJ6_bitCount_0f7a4 a2)) hx hb hr (fun t ht hw => ⟨_, rfl, (show ((fJ6_bitCount_0f7a4 a1) - (fJ6_bitCount_0f7a4 a2) : Int32) = fX4_searchAll_0 σ nC S h a1 a2 a3 from by unfold fX4_searchAll_0; rw [if_pos c_1]), ht⟩) (fun _ h => nomatch h) dX4_searchAll_27
  · refine lv_bipush (v := (-100)) hx hb dX4_searchAll_10 (by decide) ?_
    exact W.iret (v := (-100)) hx hb hr (fun t ht hw => ⟨_, rfl, (show ((-100) : Int32) = fX4_searchAll_0 σ nC S h a1 a2 a3 from by unfold fX4_searchAll_0; rw [if_neg (Bool.eq_false_iff.mp c_1)]), ht⟩) (fun _ h => nomatch h) dX4_searchAll_12

def g2X4_searchAll (σ : xSg) (nC : Nat) (S : Int32) (h : Int32) (rec : Int32 → Int32 → Bool → Int32) (a1 : Int32) (a2 : Int32) (a3 : Bool) (k : Nat) (cont : Int32 → Int32) : Nat → Nat → Int32 → Int32
  | 0, _, _ => 0
  | n2 + 1, k2, v5 => if 25 ≤ (nI k2) then (cont v5) else (if (fX4_isIn (fX2_endsFrom (σ) nC S h (nI k) a1 a2 a3) (nI k2)) = true then (g2X4_searchAll σ nC S h rec a1 a2 a3 k cont n2 (k2 + 1) (if v5 < (-(rec (a2 &&& (((1 : Int32) <<< ((nI k2) &&& 31)) ^^^ (-1))) (fX4_moved a1 (nI k) (nI k2)) (if a3 = true then (false) else (true)))) then (-(rec (a2 &&& (((1 : Int32) <<< ((nI k2) &&& 31)) ^^^ (-1))) (fX4_moved a1 (nI k) (nI k2)) (if a3 = true then (false) else (true)))) else v5)) else (g2X4_searchAll σ nC S h rec a1 a2 a3 k cont n2 (k2 + 1) v5))
def gX4_searchAll (σ : xSg) (nC : Nat) (S : Int32) (h : Int32) (rec : Int32 → Int32 → Bool → Int32) (a1 : Int32) (a2 : Int32) (a3 : Bool) : Nat → Nat → Int32 → Int32
  | 0, _, _ => 0
  | n + 1, k, v5 => if 25 ≤ (nI k) then v5 else (g2X4_searchAll σ nC S h rec a1 a2 a3 k (fun v5 => gX4_searchAll σ nC S h rec a1 a2 a3 n (k + 1) v5) 26 0 v5)
def fX4_searchAll (σ : xSg) (nC : Nat) (S : Int32) (h : Int32) (rec : Int32 → Int32 → Bool → Int32) (a1 : Int32) (a2 : Int32) (a3 : Bool) : Int32 := if (fX2_hasMove (σ) nC S h a1 a2 a3) = true then (gX4_searchAll σ nC S h rec a1 a2 a3 26 0 (-100)) else (-100)
set_option maxHeartbeats 4000000 in
set_option maxRecDepth 100000 in
theorem kX4_searchAll_s1 (l : Launch) (G : xG) (E : xE) (σ : xSg) (nC : Nat) (S : Int32) (h : Int32) (rec : Int32 → Int32 → Bool → Int32) (o : Nat) (a1 : Int32) (a2 : Int32) (a3 : Bool) (ta : Nat) (tb : Nat → Option Nat) (hE : E o = some (.inr (2, [.ref ta, .int S, .int h]))) (hT : xCardsAt G E ta tb nC σ) (hrec : ∀ (x y : Int32) (z : Bool), Met l yX4_searchAll wsX4_searchAll ({ frames := 4, cells := 0, slots := 0, locals := 105 }) (va_Pc [.ref o, .int x, .int y, .int (zI z), .int 0] (xB G E)) (vp_Si (fun r => r = rec x y z)) 0 0 (fun _ => False)) : Met l yX4_searchAll wsX4_searchAll ({ frames := 5, cells := 0, slots := 0, locals := 133 }) (va_Pc [.ref o, .int a1, .int a2, .int (zI a3), .int 1] (xB G E)) (vp_Si (fun r => r = fX4_searchAll σ nC S h rec a1 a2 a3)) 0 0 (fun _ => False) := by
  refine Met.ofW (cc := cX4_searchAll) (maxL := 9) (ret := (some .int)) (by decide) rfl ?_
  intro p e s m args below meth c s₁ B hml hv
  obtain ⟨rfl, hX, hW⟩ := hv
  have hx := B.exec
  have hb := B.bytes
  have hr := B.returns
  have hts := atoms_spec (ws := wsX4_searchAll) B.pre
  have hown : s.vm.findClass RX4 = some m.cls := findClass_of_methodNamed B.named
  have hlocks := B.notSynchronized
  have hS : va_S (xA G) s.heap s.heap [] := va_S.rf
  have hmx0 := hts (Cond.methodLink RX4 211 Lib.Math.max.name) (by decide +kernel)
  have hmx1 := hts (Cond.static Lib.Math.max.name) (by decide +kernel)
  have hmx2 := hts (Cond.initialized "java/lang/Math") (by decide +kernel)
  have hmx3 := hts (Cond.code Lib.Math.max.name Lib.Math.max.code 2 (some .int)) (by decide +kernel)
  have hl := lv_entry ([.ref o, .int a1, .int a2, .int (zI a3), .int 1]) (n := 9) (Nat.le_of_ble_eq_true rfl)
  rw [lg_entry_eq]
  generalize (lg_sl ([.ref o, .int a1, .int a2, .int (zI a3), .int 1]) ++ List.replicate (9 - (lg_sl ([.ref o, .int a1, .int a2, .int (zI a3), .int 1])).length) Slot.unset).toArray = ls at hl ⊢
  have hl : lv_has ls 9 [(0, .ref o), (1, .int a1), (2, .int a2), (3, .int (zI a3)), (4, .int 1)] := hl
  refine x_loopK (σ := Nat × Nat × Int32) 35 9 (fun x => [(0, .ref o), (1, .int a1), (2, .int a2), (3, .int (zI a3)), (4, .int 1), (6, .int (nI x.2.1)), (5, .int x.2.2)]) (fun x => fX4_searchAll σ nC S h rec a1 a2 a3 = gX4_searchAll σ nC S h rec a1 a2 a3 x.1 x.2.1 x.2.2 ∧ x.2.1 ≤ 25 ∧ x.1 + x.2.1 = 25 + 1) (fun x => x.1) ?_ (fun LP => ?_)
  · rintro ⟨n, k, v5⟩ ls ⟨hv, hk, hn⟩ hl ih
    dsimp only at hv hk hn
    rcases n with _ | n
    · omega
    · have hl : lv_has ls 9 [(0, .ref o), (1, .int a1), (2, .int a2), (3, .int (zI a3)), (4, .int 1), (6, .int (nI k)), (5, .int v5)] := hl
      refine lv_iload hx hb dX4_searchAll_35 (lv_at hl 5 rfl) ?_
      refine lv_bipush (v := 25) hx hb dX4_searchAll_37 (by decide) ?_
      refine lv_icmp_ge (tgt := 126) hx hb dX4_searchAll_39 (by decide) (fun c_1 => ?_) (fun c_1 => ?_)
      · refine lv_iload hx hb dX4_searchAll_126 (lv_at hl 6 rfl) ?_
        exact W.iret (v := v5) hx hb hr (fun t ht hw => ⟨_, rfl, (show (v5 : Int32) = fX4_searchAll σ nC S h rec a1 a2 a3 from by rw [hv, gX4_searchAll]; rw [if_pos c_1]), ht⟩) (fun _ h => nomatch h) dX4_searchAll_128
      · have hk1 : k < 25 := x_nge (B := 25) c_1 (by omega)
        refine lv_aload_n hx hb dX4_searchAll_42 rfl (lv_at hl 0 rfl) ?_
        refine lv_iload hx hb dX4_searchAll_43 (lv_at hl 5 rfl) ?_
        refine lv_iload_n hx hb dX4_searchAll_45 rfl (lv_at hl 1 rfl) ?_
        refine lv_iload_n hx hb dX4_searchAll_46 rfl (lv_at hl 2 rfl) ?_
        refine lv_iload_n hx hb dX4_searchAll_47 rfl (lv_at hl 3 rfl) ?_
        refine x_callSe (va_runV (As := [.int (nI k), .int a1, .int a2, .int (zI a3)]) (rest := []) ⟨hx, hb, hml, hown, hts⟩ (kX2_endsFrom l G _ (σ) nC S h o (nI k) a1 a2 a3 ta tb hE hT) (cwV 4 hts gX4_searchAll_X2_endsFrom rfl rfl rfl (by decide +kernel) ⟨Nat.le_of_ble_eq_true rfl, Nat.le_of_ble_eq_true rfl⟩) (x_preV hX hS hW hE rfl) rfl rfl hl.1 rfl (lv_room (Nat.le_of_ble_eq_true rfl)) dX4_searchAll_48 ⟨Nat.le_of_ble_eq_true rfl, Nat.le_of_ble_eq_true rfl⟩) ?_
        refine lv_istore (lv' := [(7, .int (fX2_endsFrom (σ) nC S h (nI k) a1 a2 a3)), (0, .ref o), (1, .int a1), (2, .int a2), (3, .int (zI a3)), (4, .int 1), (6, .int (nI k)), (5, .int v5)]) hx hb dX4_searchAll_51 hl (by decide) rfl (fun ls hl => ?_)
        refine lv_iconst (v := 0) hx hb dX4_searchAll_53 (by decide) ?_
        refine lv_istore (lv' := [(8, .int 0), (7, .int (fX2_endsFrom (σ) nC S h (nI k) a1 a2 a3)), (0, .ref o), (1, .int a1), (2, .int a2), (3, .int (zI a3)), (4, .int 1), (6, .int (nI k)), (5, .int v5)]) hx hb dX4_searchAll_54 hl (by decide) rfl (fun ls hl => ?_)
        refine x_loop (σ := Nat × Nat × Int32) 56 9 (fun x => [(7, .int (fX2_endsFrom (σ) nC S h (nI k) a1 a2 a3)), (0, .ref o), (1, .int a1), (2, .int a2), (3, .int (zI a3)), (4, .int 1), (6, .int (nI k)), (8, .int (nI x.2.1)), (5, .int x.2.2)]) (fun x => fX4_searchAll σ nC S h rec a1 a2 a3 = g2X4_searchAll σ nC S h rec a1 a2 a3 k (fun v5 => gX4_searchAll σ nC S h rec a1 a2 a3 n (k + 1) v5) x.1 x.2.1 x.2.2 ∧ x.2.1 ≤ 25 ∧ x.1 + x.2.1 = 25 + 1) (fun x => x.1) ?_ (26, 0, v5) ls ⟨by rw [hv, gX4_searchAll]; rw [if_neg c_1], by dsimp only <;> omega, by dsimp only <;> omega⟩ (lv_sub hl [1, 2, 3, 4, 5, 6, 7, 0, 8] rfl)
        rintro ⟨n2, k2, v5⟩ ls ⟨hv2, hk2, hn2⟩ hl ih2
        dsimp only at hv2 hk2 hn2
        rcases n2 with _ | n2
        · omega
        · have hl : lv_has ls 9 [(7, .int (fX2_endsFrom (σ) nC S h (nI k) a1 a2 a3)), (0, .ref o), (1, .int a1), (2, .int a2), (3, .int (zI a3)), (4, .int 1), (6, .int (nI k)), (8, .int (nI k2)), (5, .int v5)] := hl
          refine lv_iload hx hb dX4_searchAll_56 (lv_at hl 7 rfl) ?_
          refine lv_bipush (v := 25) hx hb dX4_searchAll_58 (by decide) ?_
          refine lv_icmp_ge (tgt := 120) hx hb dX4_searchAll_60 (by decide) (fun c_2 => ?_) (fun c_2 => ?_)
          · refine lv_iinc (v := nI (k + 1)) (lv' := [(6, .int (nI (k + 1))), (7, .int (fX2_endsFrom (σ) nC S h (nI k) a1 a2 a3)), (0, .ref o), (1, .int a1), (2, .int a2), (3, .int (zI a3)), (4, .int 1), (8, .int (nI k2)), (5, .int v5)]) hx hb dX4_searchAll_120 hl (k := 6) rfl (nI_1 _) (by decide) rfl (fun ls hl => ?_)
            refine lv_goto (tgt := 35) hx hb dX4_searchAll_123 (by decide) ?_
            exact ih (n, k + 1, v5) ls (Nat.lt_succ_self _) ⟨by rw [hv2, g2X4_searchAll]; rw [if_pos c_2], hk1, by dsimp only <;> omega⟩ (lv_sub hl [2, 3, 4, 5, 6, 0, 8] rfl)
          · have hk12 : k2 < 25 := x_nge (B := 25) c_2 (by omega)
            refine lv_iload hx hb dX4_searchAll_63 (lv_at hl 0 rfl) ?_
            refine lv_iload hx hb dX4_searchAll_65 (lv_at hl 7 rfl) ?_
            refine x_callSe (va_runS (As := [.int (fX2_endsFrom (σ) nC S h (nI k) a1 a2 a3), .int (nI k2)]) (rest := []) ⟨hx, hb, hml, hown, hts⟩ (kX4_isIn l (fX2_endsFrom (σ) nC S h (nI k) a1 a2 a3) (nI k2)) (va_cwS 2 hts gX4_searchAll_X4_isIn rfl rfl rfl (by decide +kernel) ⟨Nat.le_of_ble_eq_true rfl, Nat.le_of_ble_eq_true rfl⟩) x_preT rfl rfl hl.1 rfl (lv_room (Nat.le_of_ble_eq_true rfl)) dX4_searchAll_67 ⟨Nat.le_of_ble_eq_true rfl, Nat.le_of_ble_eq_true rfl⟩) ?_
            refine x_ifz_eq (b := fX4_isIn (fX2_endsFrom (σ) nC S h (nI k) a1 a2 a3) (nI k2)) (tgt := 114) hx hb dX4_searchAll_70 (by decide) (fun c_3 => ?_) (fun c_3 => ?_)
            · refine lv_iinc (v := nI (k2 + 1)) (lv' := [(8, .int (nI (k2 + 1))), (7, .int (fX2_endsFrom (σ) nC S h (nI k) a1 a2 a3)), (0, .ref o), (1, .int a1), (2, .int a2), (3, .int (zI a3)), (4, .int 1), (6, .int (nI k)), (5, .int v5)]) hx hb dX4_searchAll_114 hl (k := 7) rfl (nI_1 _) (by decide) rfl (fun ls hl => ?_)
              refine lv_goto (tgt := 56) hx hb dX4_searchAll_117 (by decide) ?_
              exact ih2 (n2, k2 + 1, v5) ls (Nat.lt_succ_self _) ⟨by rw [hv2, g2X4_searchAll]; rw [if_neg c_2, if_neg (Bool.eq_false_iff.mp c_3)], hk12, by dsimp only <;> omega⟩ (lv_sub hl [1, 2, 3, 4, 5, 6, 7, 0, 8] rfl)
            · refine lv_iload hx hb dX4_searchAll_73 (lv_at hl 8 rfl) ?_
              refine lv_aload_n hx hb dX4_searchAll_75 rfl (lv_at hl 1 rfl) ?_
              refine lv_iload_n hx hb dX4_searchAll_76 rfl (lv_at hl 3 rfl) ?_
              refine lv_iconst (v := 1) hx hb dX4_searchAll_77 (by decide) ?_
              refine lv_iload hx hb dX4_searchAll_78 (lv_at hl 7 rfl) ?_
              refine lv_ishl hx hb dX4_searchAll_80 ?_
              refine lv_iconst (v := (-1)) hx hb dX4_searchAll_81 (by decide) ?_
              refine lv_ixor hx hb dX4_searchAll_82 ?_
              refine lv_iand hx hb dX4_searchAll_83 ?_
              refine lv_iload_n hx hb dX4_searchAll_84 rfl (lv_at hl 2 rfl) ?_
              refine lv_iload hx hb dX4_searchAll_85 (lv_at hl 6 rfl) ?_
              refine lv_iload hx hb dX4_searchAll_87 (lv_at hl 7 rfl) ?_
              refine x_callSe (va_runS (As := [.int a1, .int (nI k), .int (nI k2)]) (rest := [.int (a2 &&& (((1 : Int32) <<< ((nI k2) &&& 31)) ^^^ (-1))), .ref o, .int v5]) ⟨hx, hb, hml, hown, hts⟩ (kX4_moved l a1 (nI k) (nI k2)) (va_cwS 3 hts gX4_searchAll_X4_moved rfl rfl rfl (by decide +kernel) ⟨Nat.le_of_ble_eq_true rfl, Nat.le_of_ble_eq_true rfl⟩) x_preT rfl rfl hl.1 rfl (lv_room (Nat.le_of_ble_eq_true rfl)) dX4_searchAll_89 ⟨Nat.le_of_ble_eq_true rfl, Nat.le_of_ble_eq_true rfl⟩) ?_
              refine lv_iload_n hx hb dX4_searchAll_92 rfl (lv_at hl 4 rfl) ?_
              refine x_join (ls' := ls) (rest' := [.int (fX4_moved a1 (nI k) (nI k2)), .int (a2 &&& (((1 : Int32) <<< ((nI k2) &&& 31)) ^^^ (-1))), .ref o, .int v5]) 101 (zI (if a3 = true then (false) else (true))) (fun v ev => ?_) (fun J => ?_)
              · subst ev
                refine lv_iload hx hb dX4_searchAll_101 (lv_at hl 5 rfl) ?_
                refine lv_iconst (v := 1) hx hb dX4_searchAll_103 (by decide) ?_
                refine lv_isub hx hb dX4_searchAll_104 ?_
                refine x_callSe (va_runS (As := [.ref o, .int (a2 &&& (((1 : Int32) <<< ((nI k2) &&& 31)) ^^^ (-1))), .int (fX4_moved a1 (nI k) (nI k2)), .int (zI (if a3 = true then (false) else (true))), .int ((1 : Int32) - 1)]) (rest := [.int v5]) ⟨hx, hb, hml, hown, hts⟩ (hrec (a2 &&& (((1 : Int32) <<< ((nI k2) &&& 31)) ^^^ (-1))) (fX4_moved a1 (nI k) (nI k2)) (if a3 = true then (false) else (true))) (va_cwS 5 hts gX4_searchAll_X4_searchAll rfl rfl rfl (by decide +kernel) ⟨Nat.le_of_ble_eq_true rfl, Nat.le_of_ble_eq_true rfl⟩) (x_preS hX hS hW) rfl rfl hl.1 rfl (lv_room (Nat.le_of_ble_eq_true rfl)) dX4_searchAll_105 ⟨Nat.le_of_ble_eq_true rfl, Nat.le_of_ble_eq_true rfl⟩) ?_
                refine lv_ineg hx hb dX4_searchAll_108 ?_
                refine va_mmax hx hb (hml.trans hl.1.symm) hown hmx0 hmx1 hmx2 hmx3 (Nat.le_of_ble_eq_true rfl) (Nat.le_of_ble_eq_true rfl) (Nat.le_of_ble_eq_true rfl) (Nat.le_of_ble_eq_true rfl) dX4_searchAll_109 ?_
                refine lv_istore (lv' := [(5, .int (if v5 < (-(rec (a2 &&& (((1 : Int32) <<< ((nI k2) &&& 31)) ^^^ (-1))) (fX4_moved a1 (nI k) (nI k2)) (if a3 = true then (false) else (true)))) then (-(rec (a2 &&& (((1 : Int32) <<< ((nI k2) &&& 31)) ^^^ (-1))) (fX4_moved a1 (nI k) (nI k2)) (if a3 = true then (false) else (true)))) else v5)), (7, .int (fX2_endsFrom (σ) nC S h (nI k) a1 a2 a3)), (0, .ref o), (1, .int a1), (2, .int a2), (3, .int (zI a3)), (4, .int 1), (6, .int (nI k)), (8, .int (nI k2))]) hx hb dX4_searchAll_112 hl (by decide) rfl (fun ls hl => ?_)
                refine lv_iinc (v := nI (k2 + 1)) (lv' := [(8, .int (nI (k2 + 1))), (5, .int (if v5 < (-(rec (a2 &&& (((1 : Int32) <<< ((nI k2) &&& 31)) ^^^ (-1))) (fX4_moved a1 (nI k) (nI k2)) (if a3 = true then (false) else (true)))) then (-(rec (a2 &&& (((1 : Int32) <<< ((nI k2) &&& 31)) ^^^ (-1))) (fX4_moved a1 (nI k) (nI k2)) (if a3 = true then (false) else (true)))) else v5)), (7, .int (fX2_endsFrom (σ) nC S h (nI k) a1 a2 a3)), (0, .ref o), (1, .int a1), (2, .int a2), (3, .int (zI a3)), (4, .int 1), (6, .int (nI k))]) hx hb dX4_searchAll_114 hl (k := 8) rfl (nI_1 _) (by decide) rfl (fun ls hl => ?_)
                refine lv_goto (tgt := 56) hx hb dX4_searchAll_117 (by decide) ?_
                exact ih2 (n2, k2 + 1, (if v5 < (-(rec (a2 &&& (((1 : Int32) <<< ((nI k2) &&& 31)) ^^^ (-1))) (fX4_moved a1 (nI k) (nI k2)) (if a3 = true then (false) else (true)))) then (-(rec (a2 &&& (((1 : Int32) <<< ((nI k2) &&& 31)) ^^^ (-1))) (fX4_moved a1 (nI k) (nI k2)) (if a3 = true then (false) else (true)))) else v5)) ls (Nat.lt_succ_self _) ⟨by rw [hv2, g2X4_searchAll]; rw [if_neg c_2, if_pos c_3], hk12, by dsimp only <;> omega⟩ (lv_sub hl [2, 3, 4, 5, 6, 7, 8, 0, 1] rfl)
              · refine x_ifz_ne (b := a3) (tgt := 100) hx hb dX4_searchAll_93 (by decide) (fun c_4 => ?_) (fun c_4 => ?_)
                · refine lv_iconst (v := 0) hx hb dX4_searchAll_100 (by decide) ?_
                  exact J _ (congrArg zI (show false = if a3 = true then (false) else (true) from by rw [if_pos c_4]))
                · refine lv_iconst (v := 1) hx hb dX4_searchAll_96 (by decide) ?_
                  refine lv_goto (tgt := 101) hx hb dX4_searchAll_97 (by decide) ?_
                  exact J _ (congrArg zI (show true = if a3 = true then (false) else (true) from by rw [if_neg (Bool.eq_false_iff.mp c_4)]))
  · refine lv_aload_n hx hb dX4_searchAll_0 rfl (lv_at hl 0 rfl) ?_
    refine lv_iload_n hx hb dX4_searchAll_1 rfl (lv_at hl 1 rfl) ?_
    refine lv_iload_n hx hb dX4_searchAll_2 rfl (lv_at hl 2 rfl) ?_
    refine lv_iload_n hx hb dX4_searchAll_3 rfl (lv_at hl 3 rfl) ?_
    refine x_callSe (va_runV (As := [.int a1, .int a2, .int (zI a3)]) (rest := []) ⟨hx, hb, hml, hown, hts⟩ (kX2_hasMove l G _ (σ) nC S h o a1 a2 a3 ta tb hE hT) (cwV 3 hts gX4_searchAll_X2_hasMove rfl rfl rfl (by decide +kernel) ⟨Nat.le_of_ble_eq_true rfl, Nat.le_of_ble_eq_true rfl⟩) (x_preV hX hS hW hE rfl) rfl rfl hl.1 rfl (lv_room (Nat.le_of_ble_eq_true rfl)) dX4_searchAll_4 ⟨Nat.le_of_ble_eq_true rfl, Nat.le_of_ble_eq_true rfl⟩) ?_
    refine x_ifz_ne (b := fX2_hasMove (σ) nC S h a1 a2 a3) (tgt := 13) hx hb dX4_searchAll_7 (by decide) (fun c_5 => ?_) (fun c_5 => ?_)
    · refine lv_iload hx hb dX4_searchAll_13 (lv_at hl 4 rfl) ?_
      refine lv_if_gt (tgt := 28) hx hb dX4_searchAll_15 (by decide) (fun _ => ?_) (fun c9 => absurd (by decide) c9)
      refine lv_bipush (v := (-100)) hx hb dX4_searchAll_28 (by decide) ?_
      refine lv_istore (lv' := [(5, .int (-100)), (0, .ref o), (1, .int a1), (2, .int a2), (3, .int (zI a3)), (4, .int 1)]) hx hb dX4_searchAll_30 hl (by decide) rfl (fun ls hl => ?_)
      refine lv_iconst (v := 0) hx hb dX4_searchAll_32 (by decide) ?_
      refine lv_istore (lv' := [(6, .int 0), (5, .int (-100)), (0, .ref o), (1, .int a1), (2, .int a2), (3, .int (zI a3)), (4, .int 1)]) hx hb dX4_searchAll_33 hl (by decide) rfl (fun ls hl => ?_)
      exact LP (26, 0, (-100)) ls ⟨by unfold fX4_searchAll; rw [if_pos c_5], by dsimp only <;> omega, by dsimp only <;> omega⟩ (lv_sub hl [2, 3, 4, 5, 6, 0, 1] rfl)
    · refine lv_bipush (v := (-100)) hx hb dX4_searchAll_10 (by decide) ?_
      exact W.iret (v := (-100)) hx hb hr (fun t ht hw => ⟨_, rfl, (show ((-100) : Int32) = fX4_searchAll σ nC S h rec a1 a2 a3 from by unfold fX4_searchAll; rw [if_neg (Bool.eq_false_iff.mp c_5)]), ht⟩) (fun _ h => nomatch h) dX4_searchAll_12

set_option maxHeartbeats 4000000 in
set_option maxRecDepth 100000 in
theorem kX4_searchAll_s2 (l : Launch) (G : xG) (E : xE) (σ : xSg) (nC : Nat) (S : Int32) (h : Int32) (rec : Int32 → Int32 → Bool → Int32) (o : Nat) (a1 : Int32) (a2 : Int32) (a3 : Bool) (ta : Nat) (tb : Nat → Option Nat) (hE : E o = some (.inr (2, [.ref ta, .int S, .int h]))) (hT : xCardsAt G E ta tb nC σ) (hrec : ∀ (x y : Int32) (z : Bool), Met l yX4_searchAll wsX4_searchAll ({ frames := 5, cells := 0, slots := 0, locals := 133 }) (va_Pc [.ref o, .int x, .int y, .int (zI z), .int 1] (xB G E)) (vp_Si (fun r => r = rec x y z)) 0 0 (fun _ => False)) : Met l yX4_searchAll wsX4_searchAll ({ frames := 6, cells := 0, slots := 0, locals := 161 }) (va_Pc [.ref o, .int a1, .int a2, .int (zI a3), .int 2] (xB G E)) (vp_Si (fun r => r = fX4_searchAll σ nC S h rec a1 a2 a3)) 0 0 (fun _ => False) := by
  refine Met.ofW (cc := cX4_searchAll) (maxL := 9) (ret := (some .int)) (by decide) rfl ?_
  intro p e s m args below meth c s₁ B hml hv
  obtain ⟨rfl, hX, hW⟩ := hv
  have hx := B.exec
  have hb := B.bytes
  have hr := B.returns
  have hts := atoms_spec (ws := wsX4_searchAll) B.pre
  have hown : s.vm.findClass RX4 = some m.cls := findClass_of_methodNamed B.named
  have hlocks := B.notSynchronized
  have hS : va_S (xA G) s.heap s.heap [] := va_S.rf
  have hmx0 := hts (Cond.methodLink RX4 211 Lib.Math.max.name) (by decide +kernel)
  have hmx1 := hts (Cond.static Lib.Math.max.name) (by decide +kernel)
  have hmx2 := hts (Cond.initialized "java/lang/Math") (by decide +kernel)
  have hmx3 := hts (Cond.code Lib.Math.max.name Lib.Math.max.code 2 (some .int)) (by decide +kernel)
  have hl := lv_entry ([.ref o, .int a1, .int a2, .int (zI a3), .int 2]) (n := 9) (Nat.le_of_ble_eq_true rfl)
  rw [lg_entry_eq]
  generalize (lg_sl ([.ref o, .int a1, .int a2, .int (zI a3), .int 2]) ++ List.replicate (9 - (lg_sl ([.ref o, .int a1, .int a2, .int (zI a3), .int 2])).length) Slot.unset).toArray = ls at hl ⊢
  have hl : lv_has ls 9 [(0, .ref o), (1, .int a1), (2, .int a2), (3, .int (zI a3)), (4, .int 2)] := hl
  refine x_loopK (σ := Nat × Nat × Int32) 35 9 (fun x => [(0, .ref o), (1, .int a1), (2, .int a2), (3, .int (zI a3)), (4, .int 2), (6, .int (nI x.2.1)), (5, .int x.2.2)]) (fun x => fX4_searchAll σ nC S h rec a1 a2 a3 = gX4_searchAll σ nC S h rec a1 a2 a3 x.1 x.2.1 x.2.2 ∧ x.2.1 ≤ 25 ∧ x.1 + x.2.1 = 25 + 1) (fun x => x.1) ?_ (fun LP => ?_)
  · rintro ⟨n, k, v5⟩ ls ⟨hv, hk, hn⟩ hl ih
    dsimp only at hv hk hn
    rcases n with _ | n
    · omega
    · have hl : lv_has ls 9 [(0, .ref o), (1, .int a1), (2, .int a2), (3, .int (zI a3)), (4, .int 2), (6, .int (nI k)), (5, .int v5)] := hl
      refine lv_iload hx hb dX4_searchAll_35 (lv_at hl 5 rfl) ?_
      refine lv_bipush (v := 25) hx hb dX4_searchAll_37 (by decide) ?_
      refine lv_icmp_ge (tgt := 126) hx hb dX4_searchAll_39 (by decide) (fun c_1 => ?_) (fun c_1 => ?_)
      · refine lv_iload hx hb dX4_searchAll_126 (lv_at hl 6 rfl) ?_
        exact W.iret (v := v5) hx hb hr (fun t ht hw => ⟨_, rfl, (show (v5 : Int32) = fX4_searchAll σ nC S h rec a1 a2 a3 from by rw [hv, gX4_searchAll]; rw [if_pos c_1]), ht⟩) (fun _ h => nomatch h) dX4_searchAll_128
      · have hk1 : k < 25 := x_nge (B := 25) c_1 (by omega)
        refine lv_aload_n hx hb dX4_searchAll_42 rfl (lv_at hl 0 rfl) ?_
        refine lv_iload hx hb dX4_searchAll_43 (lv_at hl 5 rfl) ?_
        refine lv_iload_n hx hb dX4_searchAll_45 rfl (lv_at hl 1 rfl) ?_
        refine lv_iload_n hx hb dX4_searchAll_46 rfl (lv_at hl 2 rfl) ?_
        refine lv_iload_n hx hb dX4_searchAll_47 rfl (lv_at hl 3 rfl) ?_
        refine x_callSe (va_runV (As := [.int (nI k), .int a1, .int a2, .int (zI a3)]) (rest := []) ⟨hx, hb, hml, hown, hts⟩ (kX2_endsFrom l G _ (σ) nC S h o (nI k) a1 a2 a3 ta tb hE hT) (cwV 4 hts gX4_searchAll_X2_endsFrom rfl rfl rfl (by decide +kernel) ⟨Nat.le_of_ble_eq_true rfl, Nat.le_of_ble_eq_true rfl⟩) (x_preV hX hS hW hE rfl) rfl rfl hl.1 rfl (lv_room (Nat.le_of_ble_eq_true rfl)) dX4_searchAll_48 ⟨Nat.le_of_ble_eq_true rfl, Nat.le_of_ble_eq_true rfl⟩) ?_
        refine lv_istore (lv' := [(7, .int (fX2_endsFrom (σ) nC S h (nI k) a1 a2 a3)), (0, .ref o), (1, .int a1), (2, .int a2), (3, .int (zI a3)), (4, .int 2), (6, .int (nI k)), (5, .int v5)]) hx hb dX4_searchAll_51 hl (by decide) rfl (fun ls hl => ?_)
        refine lv_iconst (v := 0) hx hb dX4_searchAll_53 (by decide) ?_
        refine lv_istore (lv' := [(8, .int 0), (7, .int (fX2_endsFrom (σ) nC S h (nI k) a1 a2 a3)), (0, .ref o), (1, .int a1), (2, .int a2), (3, .int (zI a3)), (4, .int 2), (6, .int (nI k)), (5, .int v5)]) hx hb dX4_searchAll_54 hl (by decide) rfl (fun ls hl => ?_)
        refine x_loop (σ := Nat × Nat × Int32) 56 9 (fun x => [(7, .int (fX2_endsFrom (σ) nC S h (nI k) a1 a2 a3)), (0, .ref o), (1, .int a1), (2, .int a2), (3, .int (zI a3)), (4, .int 2), (6, .int (nI k)), (8, .int (nI x.2.1)), (5, .int x.2.2)]) (fun x => fX4_searchAll σ nC S h rec a1 a2 a3 = g2X4_searchAll σ nC S h rec a1 a2 a3 k (fun v5 => gX4_searchAll σ nC S h rec a1 a2 a3 n (k + 1) v5) x.1 x.2.1 x.2.2 ∧ x.2.1 ≤ 25 ∧ x.1 + x.2.1 = 25 + 1) (fun x => x.1) ?_ (26, 0, v5) ls ⟨by rw [hv, gX4_searchAll]; rw [if_neg c_1], by dsimp only <;> omega, by dsimp only <;> omega⟩ (lv_sub hl [1, 2, 3, 4, 5, 6, 7, 0, 8] rfl)
        rintro ⟨n2, k2, v5⟩ ls ⟨hv2, hk2, hn2⟩ hl ih2
        dsimp only at hv2 hk2 hn2
        rcases n2 with _ | n2
        · omega
        · have hl : lv_has ls 9 [(7, .int (fX2_endsFrom (σ) nC S h (nI k) a1 a2 a3)), (0, .ref o), (1, .int a1), (2, .int a2), (3, .int (zI a3)), (4, .int 2), (6, .int (nI k)), (8, .int (nI k2)), (5, .int v5)] := hl
          refine lv_iload hx hb dX4_searchAll_56 (lv_at hl 7 rfl) ?_
          refine lv_bipush (v := 25) hx hb dX4_searchAll_58 (by decide) ?_
          refine lv_icmp_ge (tgt := 120) hx hb dX4_searchAll_60 (by decide) (fun c_2 => ?_) (fun c_2 => ?_)
          · refine lv_iinc (v := nI (k + 1)) (lv' := [(6, .int (nI (k + 1))), (7, .int (fX2_endsFrom (σ) nC S h (nI k) a1 a2 a3)), (0, .ref o), (1, .int a1), (2, .int a2), (3, .int (zI a3)), (4, .int 2), (8, .int (nI k2)), (5, .int v5)]) hx hb dX4_searchAll_120 hl (k := 6) rfl (nI_1 _) (by decide) rfl (fun ls hl => ?_)
            refine lv_goto (tgt := 35) hx hb dX4_searchAll_123 (by decide) ?_
            exact ih (n, k + 1, v5) ls (Nat.lt_succ_self _) ⟨by rw [hv2, g2X4_searchAll]; rw [if_pos c_2], hk1, by dsimp only <;> omega⟩ (lv_sub hl [2, 3, 4, 5, 6, 0, 8] rfl)
          · have hk12 : k2 < 25 := x_nge (B := 25) c_2 (by omega)
            refine lv_iload hx hb dX4_searchAll_63 (lv_at hl 0 rfl) ?_
            refine lv_iload hx hb dX4_searchAll_65 (lv_at hl 7 rfl) ?_
            refine x_callSe (va_runS (As := [.int (fX2_endsFrom (σ) nC S h (nI k) a1 a2 a3), .int (nI k2)]) (rest := []) ⟨hx, hb, hml, hown, hts⟩ (kX4_isIn l (fX2_endsFrom (σ) nC S h (nI k) a1 a2 a3) (nI k2)) (va_cwS 2 hts gX4_searchAll_X4_isIn rfl rfl rfl (by decide +kernel) ⟨Nat.le_of_ble_eq_true rfl, Nat.le_of_ble_eq_true rfl⟩) x_preT rfl rfl hl.1 rfl (lv_room (Nat.le_of_ble_eq_true rfl)) dX4_searchAll_67 ⟨Nat.le_of_ble_eq_true rfl, Nat.le_of_ble_eq_true rfl⟩) ?_
            refine x_ifz_eq (b := fX4_isIn (fX2_endsFrom (σ) nC S h (nI k) a1 a2 a3) (nI k2)) (tgt := 114) hx hb dX4_searchAll_70 (by decide) (fun c_3 => ?_) (fun c_3 => ?_)
            · refine lv_iinc (v := nI (k2 + 1)) (lv' := [(8, .int (nI (k2 + 1))), (7, .int (fX2_endsFrom (σ) nC S h (nI k) a1 a2 a3)), (0, .ref o), (1, .int a1), (2, .int a2), (3, .int (zI a3)), (4, .int 2), (6, .int (nI k)), (5, .int v5)]) hx hb dX4_searchAll_114 hl (k := 7) rfl (nI_1 _) (by decide) rfl (fun ls hl => ?_)
              refine lv_goto (tgt := 56) hx hb dX4_searchAll_117 (by decide) ?_
              exact ih2 (n2, k2 + 1, v5) ls (Nat.lt_succ_self _) ⟨by rw [hv2, g2X4_searchAll]; rw [if_neg c_2, if_neg (Bool.eq_false_iff.mp c_3)], hk12, by dsimp only <;> omega⟩ (lv_sub hl [1, 2, 3, 4, 5, 6, 7, 0, 8] rfl)
            · refine lv_iload hx hb dX4_searchAll_73 (lv_at hl 8 rfl) ?_
              refine lv_aload_n hx hb dX4_searchAll_75 rfl (lv_at hl 1 rfl) ?_
              refine lv_iload_n hx hb dX4_searchAll_76 rfl (lv_at hl 3 rfl) ?_
              refine lv_iconst (v := 1) hx hb dX4_searchAll_77 (by decide) ?_
              refine lv_iload hx hb dX4_searchAll_78 (lv_at hl 7 rfl) ?_
              refine lv_ishl hx hb dX4_searchAll_80 ?_
              refine lv_iconst (v := (-1)) hx hb dX4_searchAll_81 (by decide) ?_
              refine lv_ixor hx hb dX4_searchAll_82 ?_
              refine lv_iand hx hb dX4_searchAll_83 ?_
              refine lv_iload_n hx hb dX4_searchAll_84 rfl (lv_at hl 2 rfl) ?_
              refine lv_iload hx hb dX4_searchAll_85 (lv_at hl 6 rfl) ?_
              refine lv_iload hx hb dX4_searchAll_87 (lv_at hl 7 rfl) ?_
              refine x_callSe (va_runS (As := [.int a1, .int (nI k), .int (nI k2)]) (rest := [.int (a2 &&& (((1 : Int32) <<< ((nI k2) &&& 31)) ^^^ (-1))), .ref o, .int v5]) ⟨hx, hb, hml, hown, hts⟩ (kX4_moved l a1 (nI k) (nI k2)) (va_cwS 3 hts gX4_searchAll_X4_moved rfl rfl rfl (by decide +kernel) ⟨Nat.le_of_ble_eq_true rfl, Nat.le_of_ble_eq_true rfl⟩) x_preT rfl rfl hl.1 rfl (lv_room (Nat.le_of_ble_eq_true rfl)) dX4_searchAll_89 ⟨Nat.le_of_ble_eq_true rfl, Nat.le_of_ble_eq_true rfl⟩) ?_
              refine lv_iload_n hx hb dX4_searchAll_92 rfl (lv_at hl 4 rfl) ?_
              refine x_join (ls' := ls) (rest' := [.int (fX4_moved a1 (nI k) (nI k2)), .int (a2 &&& (((1 : Int32) <<< ((nI k2) &&& 31)) ^^^ (-1))), .ref o, .int v5]) 101 (zI (if a3 = true then (false) else (true))) (fun v ev => ?_) (fun J => ?_)
              · subst ev
                refine lv_iload hx hb dX4_searchAll_101 (lv_at hl 5 rfl) ?_
                refine lv_iconst (v := 1) hx hb dX4_searchAll_103 (by decide) ?_
                refine lv_isub hx hb dX4_searchAll_104 ?_
                refine x_callSe (va_runS (As := [.ref o, .int (a2 &&& (((1 : Int32) <<< ((nI k2) &&& 31)) ^^^ (-1))), .int (fX4_moved a1 (nI k) (nI k2)), .int (zI (if a3 = true then (false) else (true))), .int ((2 : Int32) - 1)]) (rest := [.int v5]) ⟨hx, hb, hml, hown, hts⟩ (hrec (a2 &&& (((1 : Int32) <<< ((nI k2) &&& 31)) ^^^ (-1))) (fX4_moved a1 (nI k) (nI k2)) (if a3 = true then (false) else (true))) (va_cwS 5 hts gX4_searchAll_X4_searchAll rfl rfl rfl (by decide +kernel) ⟨Nat.le_of_ble_eq_true rfl, Nat.le_of_ble_eq_true rfl⟩) (x_preS hX hS hW) rfl rfl hl.1 rfl (lv_room (Nat.le_of_ble_eq_true rfl)) dX4_searchAll_105 ⟨Nat.le_of_ble_eq_true rfl, Nat.le_of_ble_eq_true rfl⟩) ?_
                refine lv_ineg hx hb dX4_searchAll_108 ?_
                refine va_mmax hx hb (hml.trans hl.1.symm) hown hmx0 hmx1 hmx2 hmx3 (Nat.le_of_ble_eq_true rfl) (Nat.le_of_ble_eq_true rfl) (Nat.le_of_ble_eq_true rfl) (Nat.le_of_ble_eq_true rfl) dX4_searchAll_109 ?_
                refine lv_istore (lv' := [(5, .int (if v5 < (-(rec (a2 &&& (((1 : Int32) <<< ((nI k2) &&& 31)) ^^^ (-1))) (fX4_moved a1 (nI k) (nI k2)) (if a3 = true then (false) else (true)))) then (-(rec (a2 &&& (((1 : Int32) <<< ((nI k2) &&& 31)) ^^^ (-1))) (fX4_moved a1 (nI k) (nI k2)) (if a3 = true then (false) else (true)))) else v5)), (7, .int (fX2_endsFrom (σ) nC S h (nI k) a1 a2 a3)), (0, .ref o), (1, .int a1), (2, .int a2), (3, .int (zI a3)), (4, .int 2), (6, .int (nI k)), (8, .int (nI k2))]) hx hb dX4_searchAll_112 hl (by decide) rfl (fun ls hl => ?_)
                refine lv_iinc (v := nI (k2 + 1)) (lv' := [(8, .int (nI (k2 + 1))), (5, .int (if v5 < (-(rec (a2 &&& (((1 : Int32) <<< ((nI k2) &&& 31)) ^^^ (-1))) (fX4_moved a1 (nI k) (nI k2)) (if a3 = true then (false) else (true)))) then (-(rec (a2 &&& (((1 : Int32) <<< ((nI k2) &&& 31)) ^^^ (-1))) (fX4_moved a1 (nI k) (nI k2)) (if a3 = true then (false) else (true)))) else v5)), (7, .int (fX2_endsFrom (σ) nC S h (nI k) a1 a2 a3)), (0, .ref o), (1, .int a1), (2, .int a2), (3, .int (zI a3)), (4, .int 2), (6, .int (nI k))]) hx hb dX4_searchAll_114 hl (k := 8) rfl (nI_1 _) (by decide) rfl (fun ls hl => ?_)
                refine lv_goto (tgt := 56) hx hb dX4_searchAll_117 (by decide) ?_
                exact ih2 (n2, k2 + 1, (if v5 < (-(rec (a2 &&& (((1 : Int32) <<< ((nI k2) &&& 31)) ^^^ (-1))) (fX4_moved a1 (nI k) (nI k2)) (if a3 = true then (false) else (true)))) then (-(rec (a2 &&& (((1 : Int32) <<< ((nI k2) &&& 31)) ^^^ (-1))) (fX4_moved a1 (nI k) (nI k2)) (if a3 = true then (false) else (true)))) else v5)) ls (Nat.lt_succ_self _) ⟨by rw [hv2, g2X4_searchAll]; rw [if_neg c_2, if_pos c_3], hk12, by dsimp only <;> omega⟩ (lv_sub hl [2, 3, 4, 5, 6, 7, 8, 0, 1] rfl)
              · refine x_ifz_ne (b := a3) (tgt := 100) hx hb dX4_searchAll_93 (by decide) (fun c_4 => ?_) (fun c_4 => ?_)
                · refine lv_iconst (v := 0) hx hb dX4_searchAll_100 (by decide) ?_
                  exact J _ (congrArg zI (show false = if a3 = true then (false) else (true) from by rw [if_pos c_4]))
                · refine lv_iconst (v := 1) hx hb dX4_searchAll_96 (by decide) ?_
                  refine lv_goto (tgt := 101) hx hb dX4_searchAll_97 (by decide) ?_
                  exact J _ (congrArg zI (show true = if a3 = true then (false) else (true) from by rw [if_neg (Bool.eq_false_iff.mp c_4)]))
  · refine lv_aload_n hx hb dX4_searchAll_0 rfl (lv_at hl 0 rfl) ?_
    refine lv_iload_n hx hb dX4_searchAll_1 rfl (lv_at hl 1 rfl) ?_
    refine lv_iload_n hx hb dX4_searchAll_2 rfl (lv_at hl 2 rfl) ?_
    refine lv_iload_n hx hb dX4_searchAll_3 rfl (lv_at hl 3 rfl) ?_
    refine x_callSe (va_runV (As := [.int a1, .int a2, .int (zI a3)]) (rest := []) ⟨hx, hb, hml, hown, hts⟩ (kX2_hasMove l G _ (σ) nC S h o a1 a2 a3 ta tb hE hT) (cwV 3 hts gX4_searchAll_X2_hasMove rfl rfl rfl (by decide +kernel) ⟨Nat.le_of_ble_eq_true rfl, Nat.le_of_ble_eq_true rfl⟩) (x_preV hX hS hW hE rfl) rfl rfl hl.1 rfl (lv_room (Nat.le_of_ble_eq_true rfl)) dX4_searchAll_4 ⟨Nat.le_of_ble_eq_true rfl, Nat.le_of_ble_eq_true rfl⟩) ?_
    refine x_ifz_ne (b := fX2_hasMove (σ) nC S h a1 a2 a3) (tgt := 13) hx hb dX4_searchAll_7 (by decide) (fun c_5 => ?_) (fun c_5 => ?_)
    · refine lv_iload hx hb dX4_searchAll_13 (lv_at hl 4 rfl) ?_
      refine lv_if_gt (tgt := 28) hx hb dX4_searchAll_15 (by decide) (fun _ => ?_) (fun c9 => absurd (by decide) c9)
      refine lv_bipush (v := (-100)) hx hb dX4_searchAll_28 (by decide) ?_
      refine lv_istore (lv' := [(5, .int (-100)), (0, .ref o), (1, .int a1), (2, .int a2), (3, .int (zI a3)), (4, .int 2)]) hx hb dX4_searchAll_30 hl (by decide) rfl (fun ls hl => ?_)
      refine lv_iconst (v := 0) hx hb dX4_searchAll_32 (by decide) ?_
      refine lv_istore (lv' := [(6, .int 0), (5, .int (-100)), (0, .ref o), (1, .int a1), (2, .int a2), (3, .int (zI a3)), (4, .int 2)]) hx hb dX4_searchAll_33 hl (by decide) rfl (fun ls hl => ?_)
      exact LP (26, 0, (-100)) ls ⟨by unfold fX4_searchAll; rw [if_pos c_5], by dsimp only <;> omega, by dsimp only <;> omega⟩ (lv_sub hl [2, 3, 4, 5, 6, 0, 1] rfl)
    · refine lv_bipush (v := (-100)) hx hb dX4_searchAll_10 (by decide) ?_
      exact W.iret (v := (-100)) hx hb hr (fun t ht hw => ⟨_, rfl, (show ((-100) : Int32) = fX4_searchAll σ nC S h rec a1 a2 a3 from by unfold fX4_searchAll; rw [if_neg (Bool.eq_false_iff.mp c_5)]), ht⟩) (fun _ h => nomatch h) dX4_searchAll_12

def fX4_searchWithCuts_0 (σ : xSg) (nC : Nat) (S : Int32) (h : Int32) (a1 : Int32) (a2 : Int32) (a3 : Bool) (a5 : Int32) (a6 : Int32) : Int32 := if (fX2_hasMove (σ) nC S h a1 a2 a3) = true then ((fJ6_bitCount_0f7a4 a1) - (fJ6_bitCount_0f7a4 a2)) else (-100)
set_option maxHeartbeats 4000000 in
set_option maxRecDepth 100000 in
theorem kX4_searchWithCuts_0 (l : Launch) (G : xG) (E : xE) (σ : xSg) (nC : Nat) (S : Int32) (h : Int32) (o : Nat) (a1 : Int32) (a2 : Int32) (a3 : Bool) (a5 : Int32) (a6 : Int32) (ta : Nat) (tb : Nat → Option Nat) (hE : E o = some (.inr (2, [.ref ta, .int S, .int h]))) (hT : xCardsAt G E ta tb nC σ) : Met l yX4_searchWithCuts wsX4_searchWithCuts ({ frames := 4, cells := 0, slots := 0, locals := 105 }) (va_Pc [.ref o, .int a1, .int a2, .int (zI a3), .int 0, .int a5, .int a6] (xB G E)) (vp_Si (fun r => r = fX4_searchWithCuts_0 σ nC S h a1 a2 a3 a5 a6)) 0 0 (fun _ => False) := by
  refine Met.ofW (cc := cX4_searchWithCuts) (maxL := 12) (ret := (some .int)) (by decide) rfl ?_
  intro p e s m args below meth c s₁ B hml hv
  obtain ⟨rfl, hX, hW⟩ := hv
  have hx := B.exec
  have hb := B.bytes
  have hr := B.returns
  have hts := atoms_spec (ws := wsX4_searchWithCuts) B.pre
  have hown : s.vm.findClass RX4 = some m.cls := findClass_of_methodNamed B.named
  have hlocks := B.notSynchronized
  have hS : va_S (xA G) s.heap s.heap [] := va_S.rf
  have hl := lv_entry ([.ref o, .int a1, .int a2, .int (zI a3), .int 0, .int a5, .int a6]) (n := 12) (Nat.le_of_ble_eq_true rfl)
  rw [lg_entry_eq]
  generalize (lg_sl ([.ref o, .int a1, .int a2, .int (zI a3), .int 0, .int a5, .int a6]) ++ List.replicate (12 - (lg_sl ([.ref o, .int a1, .int a2, .int (zI a3), .int 0, .int a5, .int a6])).length) Slot.unset).toArray = ls at hl ⊢
  have hl : lv_has ls 12 [(0, .ref o), (1, .int a1), (2, .int a2), (3, .int (zI a3)), (4, .int 0), (5, .int a5), (6, .int a6)] := hl
  refine lv_aload_n hx hb dX4_searchWithCuts_0 rfl (lv_at hl 0 rfl) ?_
  refine lv_iload_n hx hb dX4_searchWithCuts_1 rfl (lv_at hl 1 rfl) ?_
  refine lv_iload_n hx hb dX4_searchWithCuts_2 rfl (lv_at hl 2 rfl) ?_
  refine lv_iload_n hx hb dX4_searchWithCuts_3 rfl (lv_at hl 3 rfl) ?_
  refine x_callSe (va_runV (As := [.int a1, .int a2, .int (zI a3)]) (rest := []) ⟨hx, hb, hml, hown, hts⟩ (kX2_hasMove l G _ (σ) nC S h o a1 a2 a3 ta tb hE hT) (cwV 3 hts gX4_searchWithCuts_X2_hasMove rfl rfl rfl (by decide +kernel) ⟨Nat.le_of_ble_eq_true rfl, Nat.le_of_ble_eq_true rfl⟩) (x_preV hX hS hW hE rfl) rfl rfl hl.1 rfl (lv_room (Nat.le_of_ble_eq_true rfl)) dX4_searchWithCuts_4 ⟨Nat.le_of_ble_eq_true rfl, Nat.le_of_ble_eq_true rfl⟩) ?_
  refine x_ifz_ne (b := fX2_hasMove (σ) nC S h a1 a2 a3) (tgt := 13) hx hb dX4_searchWithCuts_7 (by decide) (fun c_1 => ?_) (fun c_1 => ?_)
  · refine lv_iload hx hb dX4_searchWithCuts_13 (lv_at hl 4 rfl) ?_
    refine lv_if_gt (tgt := 28) hx hb dX4_searchWithCuts_15 (by decide) (fun c9 => absurd c9 (by decide)) (fun _ => ?_)
    refine lv_iload_n hx hb dX4_searchWithCuts_18 rfl (lv_at hl 1 rfl) ?_
    refine x_callSe (va_runS (As := [.int a1]) (rest := []) ⟨hx, hb, hml, hown, hts⟩ (kJ6_bitCount_0f7a4 l a1) (va_cwS 1 hts gX4_searchWithCuts_J6_bitCount_0f7a4 rfl rfl rfl (by decide +kernel) ⟨Nat.le_of_ble_eq_true rfl, Nat.le_of_ble_eq_true rfl⟩) x_preT rfl rfl hl.1 rfl (lv_room (Nat.le_of_ble_eq_true rfl)) dX4_searchWithCuts_19 ⟨Nat.le_of_ble_eq_true rfl, Nat.le_of_ble_eq_true rfl⟩) ?_
    refine lv_iload_n hx hb dX4_searchWithCuts_22 rfl (lv_at hl 2 rfl) ?_
    refine x_callSe (va_runS (As := [.int a2]) (rest := [.int (fJ6_bitCount_0f7a4 a1)]) ⟨hx, hb, hml, hown, hts⟩ (kJ6_bitCount_0f7a4 l a2) (va_cwS 1 hts gX4_searchWithCuts_J6_bitCount_0f7a4 rfl rfl rfl (by decide +kernel) ⟨Nat.le_of_ble_eq_true rfl, Nat.le_of_ble_eq_true rfl⟩) x_preT rfl rfl hl.1 rfl (lv_room (Nat.le_of_ble_eq_true rfl)) dX4_searchWithCuts_23 ⟨Nat.le_of_ble_eq_true rfl, Nat.le_of_ble_eq_true rfl⟩) ?_
    refine lv_isub hx hb dX4_searchWithCuts_26 ?_
    exact W.iret (v := (fJ6_bitCount_0f7a4 a1) - (fJ6_bitCount_0f7a4 a2)) hx hb hr (fun t ht hw => ⟨_, rfl, (show ((fJ6_bitCount_0f7a4 a1) - (fJ6_bitCount_0f7a4 a2) : Int32) = fX4_searchWithCuts_0 σ nC S h a1 a2 a3 a5 a6 from by unfold fX4_searchWithCuts_0; rw [if_pos c_1]), ht⟩) (fun _ h => nomatch h) dX4_searchWithCuts_27
  · refine lv_bipush (v := (-100)) hx hb dX4_searchWithCuts_10 (by decide) ?_
    exact W.iret (v := (-100)) hx hb hr (fun t ht hw => ⟨_, rfl, (show ((-100) : Int32) = fX4_searchWithCuts_0 σ nC S h a1 a2 a3 a5 a6 from by unfold fX4_searchWithCuts_0; rw [if_neg (Bool.eq_false_iff.mp c_1)]), ht⟩) (fun _ h => nomatch h) dX4_searchWithCuts_12

def g2X4_searchWithCuts (σ : xSg) (nC : Nat) (S : Int32) (h : Int32) (rec : Int32 → Int32 → Bool → Int32 → Int32 → Int32) (a1 : Int32) (a2 : Int32) (a3 : Bool) (a5 : Int32) (a6 : Int32) (k : Nat) (cont : Int32 → Int32) : Nat → Nat → Int32 → Int32
  | 0, _, _ => 0
  | n2 + 1, k2, v7 => if 25 ≤ (nI k2) then (cont v7) else (if (fX4_isIn (fX2_endsFrom (σ) nC S h (nI k) a1 a2 a3) (nI k2)) = true then (if (if v7 < (-(rec (a2 &&& (((1 : Int32) <<< ((nI k2) &&& 31)) ^^^ (-1))) (fX4_moved a1 (nI k) (nI k2)) (if a3 = true then (false) else (true)) (-a6) (-(if a5 < v7 then v7 else a5)))) then (-(rec (a2 &&& (((1 : Int32) <<< ((nI k2) &&& 31)) ^^^ (-1))) (fX4_moved a1 (nI k) (nI k2)) (if a3 = true then (false) else (true)) (-a6) (-(if a5 < v7 then v7 else a5)))) else v7) < a6 then (g2X4_searchWithCuts σ nC S h rec a1 a2 a3 a5 a6 k cont n2 (k2 + 1) (if v7 < (-(rec (a2 &&& (((1 : Int32) <<< ((nI k2) &&& 31)) ^^^ (-1))) (fX4_moved a1 (nI k) (nI k2)) (if a3 = true then (false) else (true)) (-a6) (-(if a5 < v7 then v7 else a5)))) then (-(rec (a2 &&& (((1 : Int32) <<< ((nI k2) &&& 31)) ^^^ (-1))) (fX4_moved a1 (nI k) (nI k2)) (if a3 = true then (false) else (true)) (-a6) (-(if a5 < v7 then v7 else a5)))) else v7)) else (if v7 < (-(rec (a2 &&& (((1 : Int32) <<< ((nI k2) &&& 31)) ^^^ (-1))) (fX4_moved a1 (nI k) (nI k2)) (if a3 = true then (false) else (true)) (-a6) (-(if a5 < v7 then v7 else a5)))) then (-(rec (a2 &&& (((1 : Int32) <<< ((nI k2) &&& 31)) ^^^ (-1))) (fX4_moved a1 (nI k) (nI k2)) (if a3 = true then (false) else (true)) (-a6) (-(if a5 < v7 then v7 else a5)))) else v7)) else (g2X4_searchWithCuts σ nC S h rec a1 a2 a3 a5 a6 k cont n2 (k2 + 1) v7))
def gX4_searchWithCuts (σ : xSg) (nC : Nat) (S : Int32) (h : Int32) (rec : Int32 → Int32 → Bool → Int32 → Int32 → Int32) (a1 : Int32) (a2 : Int32) (a3 : Bool) (a5 : Int32) (a6 : Int32) : Nat → Nat → Int32 → Int32
  | 0, _, _ => 0
  | n + 1, k, v7 => if 25 ≤ (nI k) then v7 else (g2X4_searchWithCuts σ nC S h rec a1 a2 a3 a5 a6 k (fun v7 => gX4_searchWithCuts σ nC S h rec a1 a2 a3 a5 a6 n (k + 1) v7) 26 0 v7)
def fX4_searchWithCuts (σ : xSg) (nC : Nat) (S : Int32) (h : Int32) (rec : Int32 → Int32 → Bool → Int32 → Int32 → Int32) (a1 : Int32) (a2 : Int32) (a3 : Bool) (a5 : Int32) (a6 : Int32) : Int32 := if (fX2_hasMove (σ) nC S h a1 a2 a3) = true then (gX4_searchWithCuts σ nC S h rec a1 a2 a3 a5 a6 26 0 (-100)) else (-100)
set_option maxHeartbeats 4000000 in
set_option maxRecDepth 100000 in
theorem kX4_searchWithCuts_s1 (l : Launch) (G : xG) (E : xE) (σ : xSg) (nC : Nat) (S : Int32) (h : Int32) (rec : Int32 → Int32 → Bool → Int32 → Int32 → Int32) (o : Nat) (a1 : Int32) (a2 : Int32) (a3 : Bool) (a5 : Int32) (a6 : Int32) (ta : Nat) (tb : Nat → Option Nat) (hE : E o = some (.inr (2, [.ref ta, .int S, .int h]))) (hT : xCardsAt G E ta tb nC σ) (hrec : ∀ (x y : Int32) (z : Bool) (e0 : Int32) (e1 : Int32), Met l yX4_searchWithCuts wsX4_searchWithCuts ({ frames := 4, cells := 0, slots := 0, locals := 105 }) (va_Pc [.ref o, .int x, .int y, .int (zI z), .int 0, .int e0, .int e1] (xB G E)) (vp_Si (fun r => r = rec x y z e0 e1)) 0 0 (fun _ => False)) : Met l yX4_searchWithCuts wsX4_searchWithCuts ({ frames := 5, cells := 0, slots := 0, locals := 136 }) (va_Pc [.ref o, .int a1, .int a2, .int (zI a3), .int 1, .int a5, .int a6] (xB G E)) (vp_Si (fun r => r = fX4_searchWithCuts σ nC S h rec a1 a2 a3 a5 a6)) 0 0 (fun _ => False) := by
  refine Met.ofW (cc := cX4_searchWithCuts) (maxL := 12) (ret := (some .int)) (by decide) rfl ?_
  intro p e s m args below meth c s₁ B hml hv
  obtain ⟨rfl, hX, hW⟩ := hv
  have hx := B.exec
  have hb := B.bytes
  have hr := B.returns
  have hts := atoms_spec (ws := wsX4_searchWithCuts) B.pre
  have hown : s.vm.findClass RX4 = some m.cls := findClass_of_methodNamed B.named
  have hlocks := B.notSynchronized
  have hS : va_S (xA G) s.heap s.heap [] := va_S.rf
  have hmx0 := hts (Cond.methodLink RX4 211 Lib.Math.max.name) (by decide +kernel)
  have hmx1 := hts (Cond.static Lib.Math.max.name) (by decide +kernel)
  have hmx2 := hts (Cond.initialized "java/lang/Math") (by decide +kernel)
  have hmx3 := hts (Cond.code Lib.Math.max.name Lib.Math.max.code 2 (some .int)) (by decide +kernel)
  have hl := lv_entry ([.ref o, .int a1, .int a2, .int (zI a3), .int 1, .int a5, .int a6]) (n := 12) (Nat.le_of_ble_eq_true rfl)
  rw [lg_entry_eq]
  generalize (lg_sl ([.ref o, .int a1, .int a2, .int (zI a3), .int 1, .int a5, .int a6]) ++ List.replicate (12 - (lg_sl ([.ref o, .int a1, .int a2, .int (zI a3), .int 1, .int a5, .int a6])).length) Slot.unset).toArray = ls at hl ⊢
  have hl : lv_has ls 12 [(0, .ref o), (1, .int a1), (2, .int a2), (3, .int (zI a3)), (4, .int 1), (5, .int a5), (6, .int a6)] := hl
  refine x_loopK (σ := Nat × Nat × Int32) 35 12 (fun x => [(0, .ref o), (1, .int a1), (2, .int a2), (3, .int (zI a3)), (4, .int 1), (5, .int a5), (6, .int a6), (8, .int (nI x.2.1)), (7, .int x.2.2)]) (fun x => fX4_searchWithCuts σ nC S h rec a1 a2 a3 a5 a6 = gX4_searchWithCuts σ nC S h rec a1 a2 a3 a5 a6 x.1 x.2.1 x.2.2 ∧ x.2.1 ≤ 25 ∧ x.1 + x.2.1 = 25 + 1) (fun x => x.1) ?_ (fun LP => ?_)
  · rintro ⟨n, k, v7⟩ ls ⟨hv, hk, hn⟩ hl ih
    dsimp only at hv hk hn
    rcases n with _ | n
    · omega
    · have hl : lv_has ls 12 [(0, .ref o), (1, .int a1), (2, .int a2), (3, .int (zI a3)), (4, .int 1), (5, .int a5), (6, .int a6), (8, .int (nI k)), (7, .int v7)] := hl
      refine lv_iload hx hb dX4_searchWithCuts_35 (lv_at hl 7 rfl) ?_
      refine lv_bipush (v := 25) hx hb dX4_searchWithCuts_37 (by decide) ?_
      refine lv_icmp_ge (tgt := 151) hx hb dX4_searchWithCuts_39 (by decide) (fun c_1 => ?_) (fun c_1 => ?_)
      · refine lv_iload hx hb dX4_searchWithCuts_151 (lv_at hl 8 rfl) ?_
        exact W.iret (v := v7) hx hb hr (fun t ht hw => ⟨_, rfl, (show (v7 : Int32) = fX4_searchWithCuts σ nC S h rec a1 a2 a3 a5 a6 from by rw [hv, gX4_searchWithCuts]; rw [if_pos c_1]), ht⟩) (fun _ h => nomatch h) dX4_searchWithCuts_153
      · have hk1 : k < 25 := x_nge (B := 25) c_1 (by omega)
        refine lv_aload_n hx hb dX4_searchWithCuts_42 rfl (lv_at hl 0 rfl) ?_
        refine lv_iload hx hb dX4_searchWithCuts_43 (lv_at hl 7 rfl) ?_
        refine lv_iload_n hx hb dX4_searchWithCuts_45 rfl (lv_at hl 1 rfl) ?_
        refine lv_iload_n hx hb dX4_searchWithCuts_46 rfl (lv_at hl 2 rfl) ?_
        refine lv_iload_n hx hb dX4_searchWithCuts_47 rfl (lv_at hl 3 rfl) ?_
        refine x_callSe (va_runV (As := [.int (nI k), .int a1, .int a2, .int (zI a3)]) (rest := []) ⟨hx, hb, hml, hown, hts⟩ (kX2_endsFrom l G _ (σ) nC S h o (nI k) a1 a2 a3 ta tb hE hT) (cwV 4 hts gX4_searchWithCuts_X2_endsFrom rfl rfl rfl (by decide +kernel) ⟨Nat.le_of_ble_eq_true rfl, Nat.le_of_ble_eq_true rfl⟩) (x_preV hX hS hW hE rfl) rfl rfl hl.1 rfl (lv_room (Nat.le_of_ble_eq_true rfl)) dX4_searchWithCuts_48 ⟨Nat.le_of_ble_eq_true rfl, Nat.le_of_ble_eq_true rfl⟩) ?_
        refine lv_istore (lv' := [(9, .int (fX2_endsFrom (σ) nC S h (nI k) a1 a2 a3)), (0, .ref o), (1, .int a1), (2, .int a2), (3, .int (zI a3)), (4, .int 1), (5, .int a5), (6, .int a6), (8, .int (nI k)), (7, .int v7)]) hx hb dX4_searchWithCuts_51 hl (by decide) rfl (fun ls hl => ?_)
        refine lv_iconst (v := 0) hx hb dX4_searchWithCuts_53 (by decide) ?_
        refine lv_istore (lv' := [(10, .int 0), (9, .int (fX2_endsFrom (σ) nC S h (nI k) a1 a2 a3)), (0, .ref o), (1, .int a1), (2, .int a2), (3, .int (zI a3)), (4, .int 1), (5, .int a5), (6, .int a6), (8, .int (nI k)), (7, .int v7)]) hx hb dX4_searchWithCuts_54 hl (by decide) rfl (fun ls hl => ?_)
        refine x_loop (σ := Nat × Nat × Int32) 56 12 (fun x => [(9, .int (fX2_endsFrom (σ) nC S h (nI k) a1 a2 a3)), (0, .ref o), (1, .int a1), (2, .int a2), (3, .int (zI a3)), (4, .int 1), (5, .int a5), (6, .int a6), (8, .int (nI k)), (10, .int (nI x.2.1)), (7, .int x.2.2)]) (fun x => fX4_searchWithCuts σ nC S h rec a1 a2 a3 a5 a6 = g2X4_searchWithCuts σ nC S h rec a1 a2 a3 a5 a6 k (fun v7 => gX4_searchWithCuts σ nC S h rec a1 a2 a3 a5 a6 n (k + 1) v7) x.1 x.2.1 x.2.2 ∧ x.2.1 ≤ 25 ∧ x.1 + x.2.1 = 25 + 1) (fun x => x.1) ?_ (26, 0, v7) ls ⟨by rw [hv, gX4_searchWithCuts]; rw [if_neg c_1], by dsimp only <;> omega, by dsimp only <;> omega⟩ (lv_sub hl [1, 2, 3, 4, 5, 6, 7, 8, 9, 0, 10] rfl)
        rintro ⟨n2, k2, v7⟩ ls ⟨hv2, hk2, hn2⟩ hl ih2
        dsimp only at hv2 hk2 hn2
        rcases n2 with _ | n2
        · omega
        · have hl : lv_has ls 12 [(9, .int (fX2_endsFrom (σ) nC S h (nI k) a1 a2 a3)), (0, .ref o), (1, .int a1), (2, .int a2), (3, .int (zI a3)), (4, .int 1), (5, .int a5), (6, .int a6), (8, .int (nI k)), (10, .int (nI k2)), (7, .int v7)] := hl
          refine lv_iload hx hb dX4_searchWithCuts_56 (lv_at hl 9 rfl) ?_
          refine lv_bipush (v := 25) hx hb dX4_searchWithCuts_58 (by decide) ?_
          refine lv_icmp_ge (tgt := 145) hx hb dX4_searchWithCuts_60 (by decide) (fun c_2 => ?_) (fun c_2 => ?_)
          · refine lv_iinc (v := nI (k + 1)) (lv' := [(8, .int (nI (k + 1))), (9, .int (fX2_endsFrom (σ) nC S h (nI k) a1 a2 a3)), (0, .ref o), (1, .int a1), (2, .int a2), (3, .int (zI a3)), (4, .int 1), (5, .int a5), (6, .int a6), (10, .int (nI k2)), (7, .int v7)]) hx hb dX4_searchWithCuts_145 hl (k := 8) rfl (nI_1 _) (by decide) rfl (fun ls hl => ?_)
            refine lv_goto (tgt := 35) hx hb dX4_searchWithCuts_148 (by decide) ?_
            exact ih (n, k + 1, v7) ls (Nat.lt_succ_self _) ⟨by rw [hv2, g2X4_searchWithCuts]; rw [if_pos c_2], hk1, by dsimp only <;> omega⟩ (lv_sub hl [2, 3, 4, 5, 6, 7, 8, 0, 10] rfl)
          · have hk12 : k2 < 25 := x_nge (B := 25) c_2 (by omega)
            refine lv_iload hx hb dX4_searchWithCuts_63 (lv_at hl 0 rfl) ?_
            refine lv_iload hx hb dX4_searchWithCuts_65 (lv_at hl 9 rfl) ?_
            refine x_callSe (va_runS (As := [.int (fX2_endsFrom (σ) nC S h (nI k) a1 a2 a3), .int (nI k2)]) (rest := []) ⟨hx, hb, hml, hown, hts⟩ (kX4_isIn l (fX2_endsFrom (σ) nC S h (nI k) a1 a2 a3) (nI k2)) (va_cwS 2 hts gX4_searchWithCuts_X4_isIn rfl rfl rfl (by decide +kernel) ⟨Nat.le_of_ble_eq_true rfl, Nat.le_of_ble_eq_true rfl⟩) x_preT rfl rfl hl.1 rfl (lv_room (Nat.le_of_ble_eq_true rfl)) dX4_searchWithCuts_67 ⟨Nat.le_of_ble_eq_true rfl, Nat.le_of_ble_eq_true rfl⟩) ?_
            refine x_ifz_eq (b := fX4_isIn (fX2_endsFrom (σ) nC S h (nI k) a1 a2 a3) (nI k2)) (tgt := 139) hx hb dX4_searchWithCuts_70 (by decide) (fun c_3 => ?_) (fun c_3 => ?_)
            · refine lv_iinc (v := nI (k2 + 1)) (lv' := [(10, .int (nI (k2 + 1))), (9, .int (fX2_endsFrom (σ) nC S h (nI k) a1 a2 a3)), (0, .ref o), (1, .int a1), (2, .int a2), (3, .int (zI a3)), (4, .int 1), (5, .int a5), (6, .int a6), (8, .int (nI k)), (7, .int v7)]) hx hb dX4_searchWithCuts_139 hl (k := 9) rfl (nI_1 _) (by decide) rfl (fun ls hl => ?_)
              refine lv_goto (tgt := 56) hx hb dX4_searchWithCuts_142 (by decide) ?_
              exact ih2 (n2, k2 + 1, v7) ls (Nat.lt_succ_self _) ⟨by rw [hv2, g2X4_searchWithCuts]; rw [if_neg c_2, if_neg (Bool.eq_false_iff.mp c_3)], hk12, by dsimp only <;> omega⟩ (lv_sub hl [1, 2, 3, 4, 5, 6, 7, 8, 9, 0, 10] rfl)
            · refine lv_aload_n hx hb dX4_searchWithCuts_73 rfl (lv_at hl 1 rfl) ?_
              refine lv_iload_n hx hb dX4_searchWithCuts_74 rfl (lv_at hl 3 rfl) ?_
              refine lv_iconst (v := 1) hx hb dX4_searchWithCuts_75 (by decide) ?_
              refine lv_iload hx hb dX4_searchWithCuts_76 (lv_at hl 9 rfl) ?_
              refine lv_ishl hx hb dX4_searchWithCuts_78 ?_
              refine lv_iconst (v := (-1)) hx hb dX4_searchWithCuts_79 (by decide) ?_
              refine lv_ixor hx hb dX4_searchWithCuts_80 ?_
              refine lv_iand hx hb dX4_searchWithCuts_81 ?_
              refine lv_iload_n hx hb dX4_searchWithCuts_82 rfl (lv_at hl 2 rfl) ?_
              refine lv_iload hx hb dX4_searchWithCuts_83 (lv_at hl 8 rfl) ?_
              refine lv_iload hx hb dX4_searchWithCuts_85 (lv_at hl 9 rfl) ?_
              refine x_callSe (va_runS (As := [.int a1, .int (nI k), .int (nI k2)]) (rest := [.int (a2 &&& (((1 : Int32) <<< ((nI k2) &&& 31)) ^^^ (-1))), .ref o]) ⟨hx, hb, hml, hown, hts⟩ (kX4_moved l a1 (nI k) (nI k2)) (va_cwS 3 hts gX4_searchWithCuts_X4_moved rfl rfl rfl (by decide +kernel) ⟨Nat.le_of_ble_eq_true rfl, Nat.le_of_ble_eq_true rfl⟩) x_preT rfl rfl hl.1 rfl (lv_room (Nat.le_of_ble_eq_true rfl)) dX4_searchWithCuts_87 ⟨Nat.le_of_ble_eq_true rfl, Nat.le_of_ble_eq_true rfl⟩) ?_
              refine lv_iload_n hx hb dX4_searchWithCuts_90 rfl (lv_at hl 4 rfl) ?_
              refine x_join (ls' := ls) (rest' := [.int (fX4_moved a1 (nI k) (nI k2)), .int (a2 &&& (((1 : Int32) <<< ((nI k2) &&& 31)) ^^^ (-1))), .ref o]) 99 (zI (if a3 = true then (false) else (true))) (fun v ev => ?_) (fun J => ?_)
              · subst ev
                refine lv_iload hx hb dX4_searchWithCuts_99 (lv_at hl 5 rfl) ?_
                refine lv_iconst (v := 1) hx hb dX4_searchWithCuts_101 (by decide) ?_
                refine lv_isub hx hb dX4_searchWithCuts_102 ?_
                refine lv_iload hx hb dX4_searchWithCuts_103 (lv_at hl 7 rfl) ?_
                refine lv_ineg hx hb dX4_searchWithCuts_105 ?_
                refine lv_iload hx hb dX4_searchWithCuts_106 (lv_at hl 6 rfl) ?_
                refine lv_iload hx hb dX4_searchWithCuts_108 (lv_at hl 10 rfl) ?_
                refine va_mmax hx hb (hml.trans hl.1.symm) hown hmx0 hmx1 hmx2 hmx3 (Nat.le_of_ble_eq_true rfl) (Nat.le_of_ble_eq_true rfl) (Nat.le_of_ble_eq_true rfl) (Nat.le_of_ble_eq_true rfl) dX4_searchWithCuts_110 ?_
                refine lv_ineg hx hb dX4_searchWithCuts_113 ?_
                refine x_callSe (va_runS (As := [.ref o, .int (a2 &&& (((1 : Int32) <<< ((nI k2) &&& 31)) ^^^ (-1))), .int (fX4_moved a1 (nI k) (nI k2)), .int (zI (if a3 = true then (false) else (true))), .int ((1 : Int32) - 1), .int (-a6), .int (-(if a5 < v7 then v7 else a5))]) (rest := []) ⟨hx, hb, hml, hown, hts⟩ (hrec (a2 &&& (((1 : Int32) <<< ((nI k2) &&& 31)) ^^^ (-1))) (fX4_moved a1 (nI k) (nI k2)) (if a3 = true then (false) else (true)) (-a6) (-(if a5 < v7 then v7 else a5))) (va_cwS 7 hts gX4_searchWithCuts_X4_searchWithCuts rfl rfl rfl (by decide +kernel) ⟨Nat.le_of_ble_eq_true rfl, Nat.le_of_ble_eq_true rfl⟩) (x_preS hX hS hW) rfl rfl hl.1 rfl (lv_room (Nat.le_of_ble_eq_true rfl)) dX4_searchWithCuts_114 ⟨Nat.le_of_ble_eq_true rfl, Nat.le_of_ble_eq_true rfl⟩) ?_
                refine lv_ineg hx hb dX4_searchWithCuts_117 ?_
                refine lv_istore (lv' := [(11, .int (-(rec (a2 &&& (((1 : Int32) <<< ((nI k2) &&& 31)) ^^^ (-1))) (fX4_moved a1 (nI k) (nI k2)) (if a3 = true then (false) else (true)) (-a6) (-(if a5 < v7 then v7 else a5))))), (9, .int (fX2_endsFrom (σ) nC S h (nI k) a1 a2 a3)), (0, .ref o), (1, .int a1), (2, .int a2), (3, .int (zI a3)), (4, .int 1), (5, .int a5), (6, .int a6), (8, .int (nI k)), (10, .int (nI k2)), (7, .int v7)]) hx hb dX4_searchWithCuts_118 hl (by decide) rfl (fun ls hl => ?_)
                refine lv_iload hx hb dX4_searchWithCuts_120 (lv_at hl 11 rfl) ?_
                refine lv_iload hx hb dX4_searchWithCuts_122 (lv_at hl 0 rfl) ?_
                refine va_mmax hx hb (hml.trans hl.1.symm) hown hmx0 hmx1 hmx2 hmx3 (Nat.le_of_ble_eq_true rfl) (Nat.le_of_ble_eq_true rfl) (Nat.le_of_ble_eq_true rfl) (Nat.le_of_ble_eq_true rfl) dX4_searchWithCuts_124 ?_
                refine lv_istore (lv' := [(7, .int (if v7 < (-(rec (a2 &&& (((1 : Int32) <<< ((nI k2) &&& 31)) ^^^ (-1))) (fX4_moved a1 (nI k) (nI k2)) (if a3 = true then (false) else (true)) (-a6) (-(if a5 < v7 then v7 else a5)))) then (-(rec (a2 &&& (((1 : Int32) <<< ((nI k2) &&& 31)) ^^^ (-1))) (fX4_moved a1 (nI k) (nI k2)) (if a3 = true then (false) else (true)) (-a6) (-(if a5 < v7 then v7 else a5)))) else v7)), (11, .int (-(rec (a2 &&& (((1 : Int32) <<< ((nI k2) &&& 31)) ^^^ (-1))) (fX4_moved a1 (nI k) (nI k2)) (if a3 = true then (false) else (true)) (-a6) (-(if a5 < v7 then v7 else a5))))), (9, .int (fX2_endsFrom (σ) nC S h (nI k) a1 a2 a3)), (0, .ref o), (1, .int a1), (2, .int a2), (3, .int (zI a3)), (4, .int 1), (5, .int a5), (6, .int a6), (8, .int (nI k)), (10, .int (nI k2))]) hx hb dX4_searchWithCuts_127 hl (by decide) rfl (fun ls hl => ?_)
                refine lv_iload hx hb dX4_searchWithCuts_129 (lv_at hl 0 rfl) ?_
                refine lv_iload hx hb dX4_searchWithCuts_131 (lv_at hl 9 rfl) ?_
                refine lv_icmp_lt (tgt := 139) hx hb dX4_searchWithCuts_133 (by decide) (fun c_5 => ?_) (fun c_5 => ?_)
                · refine lv_iinc (v := nI (k2 + 1)) (lv' := [(10, .int (nI (k2 + 1))), (7, .int (if v7 < (-(rec (a2 &&& (((1 : Int32) <<< ((nI k2) &&& 31)) ^^^ (-1))) (fX4_moved a1 (nI k) (nI k2)) (if a3 = true then (false) else (true)) (-a6) (-(if a5 < v7 then v7 else a5)))) then (-(rec (a2 &&& (((1 : Int32) <<< ((nI k2) &&& 31)) ^^^ (-1))) (fX4_moved a1 (nI k) (nI k2)) (if a3 = true then (false) else (true)) (-a6) (-(if a5 < v7 then v7 else a5)))) else v7)), (11, .int (-(rec (a2 &&& (((1 : Int32) <<< ((nI k2) &&& 31)) ^^^ (-1))) (fX4_moved a1 (nI k) (nI k2)) (if a3 = true then (false) else (true)) (-a6) (-(if a5 < v7 then v7 else a5))))), (9, .int (fX2_endsFrom (σ) nC S h (nI k) a1 a2 a3)), (0, .ref o), (1, .int a1), (2, .int a2), (3, .int (zI a3)), (4, .int 1), (5, .int a5), (6, .int a6), (8, .int (nI k))]) hx hb dX4_searchWithCuts_139 hl (k := 11) rfl (nI_1 _) (by decide) rfl (fun ls hl => ?_)
                  refine lv_goto (tgt := 56) hx hb dX4_searchWithCuts_142 (by decide) ?_
                  exact ih2 (n2, k2 + 1, (if v7 < (-(rec (a2 &&& (((1 : Int32) <<< ((nI k2) &&& 31)) ^^^ (-1))) (fX4_moved a1 (nI k) (nI k2)) (if a3 = true then (false) else (true)) (-a6) (-(if a5 < v7 then v7 else a5)))) then (-(rec (a2 &&& (((1 : Int32) <<< ((nI k2) &&& 31)) ^^^ (-1))) (fX4_moved a1 (nI k) (nI k2)) (if a3 = true then (false) else (true)) (-a6) (-(if a5 < v7 then v7 else a5)))) else v7)) ls (Nat.lt_succ_self _) ⟨by rw [hv2, g2X4_searchWithCuts]; rw [if_neg c_2, if_pos c_3, if_pos c_5], hk12, by dsimp only <;> omega⟩ (lv_sub hl [3, 4, 5, 6, 7, 8, 9, 10, 11, 0, 1] rfl)
                · refine lv_iload hx hb dX4_searchWithCuts_136 (lv_at hl 0 rfl) ?_
                  exact W.iret (v := if v7 < (-(rec (a2 &&& (((1 : Int32) <<< ((nI k2) &&& 31)) ^^^ (-1))) (fX4_moved a1 (nI k) (nI k2)) (if a3 = true then (false) else (true)) (-a6) (-(if a5 < v7 then v7 else a5)))) then (-(rec (a2 &&& (((1 : Int32) <<< ((nI k2) &&& 31)) ^^^ (-1))) (fX4_moved a1 (nI k) (nI k2)) (if a3 = true then (false) else (true)) (-a6) (-(if a5 < v7 then v7 else a5)))) else v7) hx hb hr (fun t ht hw => ⟨_, rfl, (show (if v7 < (-(rec (a2 &&& (((1 : Int32) <<< ((nI k2) &&& 31)) ^^^ (-1))) (fX4_moved a1 (nI k) (nI k2)) (if a3 = true then (false) else (true)) (-a6) (-(if a5 < v7 then v7 else a5)))) then (-(rec (a2 &&& (((1 : Int32) <<< ((nI k2) &&& 31)) ^^^ (-1))) (fX4_moved a1 (nI k) (nI k2)) (if a3 = true then (false) else (true)) (-a6) (-(if a5 < v7 then v7 else a5)))) else v7 : Int32) = fX4_searchWithCuts σ nC S h rec a1 a2 a3 a5 a6 from by rw [hv2, g2X4_searchWithCuts]; rw [if_neg c_2, if_pos c_3, if_neg c_5]), ht⟩) (fun _ h => nomatch h) dX4_searchWithCuts_138
              · refine x_ifz_ne (b := a3) (tgt := 98) hx hb dX4_searchWithCuts_91 (by decide) (fun c_4 => ?_) (fun c_4 => ?_)
                · refine lv_iconst (v := 0) hx hb dX4_searchWithCuts_98 (by decide) ?_
                  exact J _ (congrArg zI (show false = if a3 = true then (false) else (true) from by rw [if_pos c_4]))
                · refine lv_iconst (v := 1) hx hb dX4_searchWithCuts_94 (by decide) ?_
                  refine lv_goto (tgt := 99) hx hb dX4_searchWithCuts_95 (by decide) ?_
                  exact J _ (congrArg zI (show true = if a3 = true then (false) else (true) from by rw [if_neg (Bool.eq_false_iff.mp c_4)]))
  · refine lv_aload_n hx hb dX4_searchWithCuts_0 rfl (lv_at hl 0 rfl) ?_
    refine lv_iload_n hx hb dX4_searchWithCuts_1 rfl (lv_at hl 1 rfl) ?_
    refine lv_iload_n hx hb dX4_searchWithCuts_2 rfl (lv_at hl 2 rfl) ?_
    refine lv_iload_n hx hb dX4_searchWithCuts_3 rfl (lv_at hl 3 rfl) ?_
    refine x_callSe (va_runV (As := [.int a1, .int a2, .int (zI a3)]) (rest := []) ⟨hx, hb, hml, hown, hts⟩ (kX2_hasMove l G _ (σ) nC S h o a1 a2 a3 ta tb hE hT) (cwV 3 hts gX4_searchWithCuts_X2_hasMove rfl rfl rfl (by decide +kernel) ⟨Nat.le_of_ble_eq_true rfl, Nat.le_of_ble_eq_true rfl⟩) (x_preV hX hS hW hE rfl) rfl rfl hl.1 rfl (lv_room (Nat.le_of_ble_eq_true rfl)) dX4_searchWithCuts_4 ⟨Nat.le_of_ble_eq_true rfl, Nat.le_of_ble_eq_true rfl⟩) ?_
    refine x_ifz_ne (b := fX2_hasMove (σ) nC S h a1 a2 a3) (tgt := 13) hx hb dX4_searchWithCuts_7 (by decide) (fun c_6 => ?_) (fun c_6 => ?_)
    · refine lv_iload hx hb dX4_searchWithCuts_13 (lv_at hl 4 rfl) ?_
      refine lv_if_gt (tgt := 28) hx hb dX4_searchWithCuts_15 (by decide) (fun _ => ?_) (fun c9 => absurd (by decide) c9)
      refine lv_bipush (v := (-100)) hx hb dX4_searchWithCuts_28 (by decide) ?_
      refine lv_istore (lv' := [(7, .int (-100)), (0, .ref o), (1, .int a1), (2, .int a2), (3, .int (zI a3)), (4, .int 1), (5, .int a5), (6, .int a6)]) hx hb dX4_searchWithCuts_30 hl (by decide) rfl (fun ls hl => ?_)
      refine lv_iconst (v := 0) hx hb dX4_searchWithCuts_32 (by decide) ?_
      refine lv_istore (lv' := [(8, .int 0), (7, .int (-100)), (0, .ref o), (1, .int a1), (2, .int a2), (3, .int (zI a3)), (4, .int 1), (5, .int a5), (6, .int a6)]) hx hb dX4_searchWithCuts_33 hl (by decide) rfl (fun ls hl => ?_)
      exact LP (26, 0, (-100)) ls ⟨by unfold fX4_searchWithCuts; rw [if_pos c_6], by dsimp only <;> omega, by dsimp only <;> omega⟩ (lv_sub hl [2, 3, 4, 5, 6, 7, 8, 0, 1] rfl)
    · refine lv_bipush (v := (-100)) hx hb dX4_searchWithCuts_10 (by decide) ?_
      exact W.iret (v := (-100)) hx hb hr (fun t ht hw => ⟨_, rfl, (show ((-100) : Int32) = fX4_searchWithCuts σ nC S h rec a1 a2 a3 a5 a6 from by unfold fX4_searchWithCuts; rw [if_neg (Bool.eq_false_iff.mp c_6)]), ht⟩) (fun _ h => nomatch h) dX4_searchWithCuts_12

set_option maxHeartbeats 4000000 in
set_option maxRecDepth 100000 in
theorem kX4_searchWithCuts_s2 (l : Launch) (G : xG) (E : xE) (σ : xSg) (nC : Nat) (S : Int32) (h : Int32) (rec : Int32 → Int32 → Bool → Int32 → Int32 → Int32) (o : Nat) (a1 : Int32) (a2 : Int32) (a3 : Bool) (a5 : Int32) (a6 : Int32) (ta : Nat) (tb : Nat → Option Nat) (hE : E o = some (.inr (2, [.ref ta, .int S, .int h]))) (hT : xCardsAt G E ta tb nC σ) (hrec : ∀ (x y : Int32) (z : Bool) (e0 : Int32) (e1 : Int32), Met l yX4_searchWithCuts wsX4_searchWithCuts ({ frames := 5, cells := 0, slots := 0, locals := 136 }) (va_Pc [.ref o, .int x, .int y, .int (zI z), .int 1, .int e0, .int e1] (xB G E)) (vp_Si (fun r => r = rec x y z e0 e1)) 0 0 (fun _ => False)) : Met l yX4_searchWithCuts wsX4_searchWithCuts ({ frames := 6, cells := 0, slots := 0, locals := 167 }) (va_Pc [.ref o, .int a1, .int a2, .int (zI a3), .int 2, .int a5, .int a6] (xB G E)) (vp_Si (fun r => r = fX4_searchWithCuts σ nC S h rec a1 a2 a3 a5 a6)) 0 0 (fun _ => False) := by
  refine Met.ofW (cc := cX4_searchWithCuts) (maxL := 12) (ret := (some .int)) (by decide) rfl ?_
  intro p e s m args below meth c s₁ B hml hv
  obtain ⟨rfl, hX, hW⟩ := hv
  have hx := B.exec
  have hb := B.bytes
  have hr := B.returns
  have hts := atoms_spec (ws := wsX4_searchWithCuts) B.pre
  have hown : s.vm.findClass RX4 = some m.cls := findClass_of_methodNamed B.named
  have hlocks := B.notSynchronized
  have hS : va_S (xA G) s.heap s.heap [] := va_S.rf
  have hmx0 := hts (Cond.methodLink RX4 211 Lib.Math.max.name) (by decide +kernel)
  have hmx1 := hts (Cond.static Lib.Math.max.name) (by decide +kernel)
  have hmx2 := hts (Cond.initialized "java/lang/Math") (by decide +kernel)
  have hmx3 := hts (Cond.code Lib.Math.max.name Lib.Math.max.code 2 (some .int)) (by decide +kernel)
  have hl := lv_entry ([.ref o, .int a1, .int a2, .int (zI a3), .int 2, .int a5, .int a6]) (n := 12) (Nat.le_of_ble_eq_true rfl)
  rw [lg_entry_eq]
  generalize (lg_sl ([.ref o, .int a1, .int a2, .int (zI a3), .int 2, .int a5, .int a6]) ++ List.replicate (12 - (lg_sl ([.ref o, .int a1, .int a2, .int (zI a3), .int 2, .int a5, .int a6])).length) Slot.unset).toArray = ls at hl ⊢
  have hl : lv_has ls 12 [(0, .ref o), (1, .int a1), (2, .int a2), (3, .int (zI a3)), (4, .int 2), (5, .int a5), (6, .int a6)] := hl
  refine x_loopK (σ := Nat × Nat × Int32) 35 12 (fun x => [(0, .ref o), (1, .int a1), (2, .int a2), (3, .int (zI a3)), (4, .int 2), (5, .int a5), (6, .int a6), (8, .int (nI x.2.1)), (7, .int x.2.2)]) (fun x => fX4_searchWithCuts σ nC S h rec a1 a2 a3 a5 a6 = gX4_searchWithCuts σ nC S h rec a1 a2 a3 a5 a6 x.1 x.2.1 x.2.2 ∧ x.2.1 ≤ 25 ∧ x.1 + x.2.1 = 25 + 1) (fun x => x.1) ?_ (fun LP => ?_)
  · rintro ⟨n, k, v7⟩ ls ⟨hv, hk, hn⟩ hl ih
    dsimp only at hv hk hn
    rcases n with _ | n
    · omega
    · have hl : lv_has ls 12 [(0, .ref o), (1, .int a1), (2, .int a2), (3, .int (zI a3)), (4, .int 2), (5, .int a5), (6, .int a6), (8, .int (nI k)), (7, .int v7)] := hl
      refine lv_iload hx hb dX4_searchWithCuts_35 (lv_at hl 7 rfl) ?_
      refine lv_bipush (v := 25) hx hb dX4_searchWithCuts_37 (by decide) ?_
      refine lv_icmp_ge (tgt := 151) hx hb dX4_searchWithCuts_39 (by decide) (fun c_1 => ?_) (fun c_1 => ?_)
      · refine lv_iload hx hb dX4_searchWithCuts_151 (lv_at hl 8 rfl) ?_
        exact W.iret (v := v7) hx hb hr (fun t ht hw => ⟨_, rfl, (show (v7 : Int32) = fX4_searchWithCuts σ nC S h rec a1 a2 a3 a5 a6 from by rw [hv, gX4_searchWithCuts]; rw [if_pos c_1]), ht⟩) (fun _ h => nomatch h) dX4_searchWithCuts_153
      · have hk1 : k < 25 := x_nge (B := 25) c_1 (by omega)
        refine lv_aload_n hx hb dX4_searchWithCuts_42 rfl (lv_at hl 0 rfl) ?_
        refine lv_iload hx hb dX4_searchWithCuts_43 (lv_at hl 7 rfl) ?_
        refine lv_iload_n hx hb dX4_searchWithCuts_45 rfl (lv_at hl 1 rfl) ?_
        refine lv_iload_n hx hb dX4_searchWithCuts_46 rfl (lv_at hl 2 rfl) ?_
        refine lv_iload_n hx hb dX4_searchWithCuts_47 rfl (lv_at hl 3 rfl) ?_
        refine x_callSe (va_runV (As := [.int (nI k), .int a1, .int a2, .int (zI a3)]) (rest := []) ⟨hx, hb, hml, hown, hts⟩ (kX2_endsFrom l G _ (σ) nC S h o (nI k) a1 a2 a3 ta tb hE hT) (cwV 4 hts gX4_searchWithCuts_X2_endsFrom rfl rfl rfl (by decide +kernel) ⟨Nat.le_of_ble_eq_true rfl, Nat.le_of_ble_eq_true rfl⟩) (x_preV hX hS hW hE rfl) rfl rfl hl.1 rfl (lv_room (Nat.le_of_ble_eq_true rfl)) dX4_searchWithCuts_48 ⟨Nat.le_of_ble_eq_true rfl, Nat.le_of_ble_eq_true rfl⟩) ?_
        refine lv_istore (lv' := [(9, .int (fX2_endsFrom (σ) nC S h (nI k) a1 a2 a3)), (0, .ref o), (1, .int a1), (2, .int a2), (3, .int (zI a3)), (4, .int 2), (5, .int a5), (6, .int a6), (8, .int (nI k)), (7, .int v7)]) hx hb dX4_searchWithCuts_51 hl (by decide) rfl (fun ls hl => ?_)
        refine lv_iconst (v := 0) hx hb dX4_searchWithCuts_53 (by decide) ?_
        refine lv_istore (lv' := [(10, .int 0), (9, .int (fX2_endsFrom (σ) nC S h (nI k) a1 a2 a3)), (0, .ref o), (1, .int a1), (2, .int a2), (3, .int (zI a3)), (4, .int 2), (5, .int a5), (6, .int a6), (8, .int (nI k)), (7, .int v7)]) hx hb dX4_searchWithCuts_54 hl (by decide) rfl (fun ls hl => ?_)
        refine x_loop (σ := Nat × Nat × Int32) 56 12 (fun x => [(9, .int (fX2_endsFrom (σ) nC S h (nI k) a1 a2 a3)), (0, .ref o), (1, .int a1), (2, .int a2), (3, .int (zI a3)), (4, .int 2), (5, .int a5), (6, .int a6), (8, .int (nI k)), (10, .int (nI x.2.1)), (7, .int x.2.2)]) (fun x => fX4_searchWithCuts σ nC S h rec a1 a2 a3 a5 a6 = g2X4_searchWithCuts σ nC S h rec a1 a2 a3 a5 a6 k (fun v7 => gX4_searchWithCuts σ nC S h rec a1 a2 a3 a5 a6 n (k + 1) v7) x.1 x.2.1 x.2.2 ∧ x.2.1 ≤ 25 ∧ x.1 + x.2.1 = 25 + 1) (fun x => x.1) ?_ (26, 0, v7) ls ⟨by rw [hv, gX4_searchWithCuts]; rw [if_neg c_1], by dsimp only <;> omega, by dsimp only <;> omega⟩ (lv_sub hl [1, 2, 3, 4, 5, 6, 7, 8, 9, 0, 10] rfl)
        rintro ⟨n2, k2, v7⟩ ls ⟨hv2, hk2, hn2⟩ hl ih2
        dsimp only at hv2 hk2 hn2
        rcases n2 with _ | n2
        · omega
        · have hl : lv_has ls 12 [(9, .int (fX2_endsFrom (σ) nC S h (nI k) a1 a2 a3)), (0, .ref o), (1, .int a1), (2, .int a2), (3, .int (zI a3)), (4, .int 2), (5, .int a5), (6, .int a6), (8, .int (nI k)), (10, .int (nI k2)), (7, .int v7)] := hl
          refine lv_iload hx hb dX4_searchWithCuts_56 (lv_at hl 9 rfl) ?_
          refine lv_bipush (v := 25) hx hb dX4_searchWithCuts_58 (by decide) ?_
          refine lv_icmp_ge (tgt := 145) hx hb dX4_searchWithCuts_60 (by decide) (fun c_2 => ?_) (fun c_2 => ?_)
          · refine lv_iinc (v := nI (k + 1)) (lv' := [(8, .int (nI (k + 1))), (9, .int (fX2_endsFrom (σ) nC S h (nI k) a1 a2 a3)), (0, .ref o), (1, .int a1), (2, .int a2), (3, .int (zI a3)), (4, .int 2), (5, .int a5), (6, .int a6), (10, .int (nI k2)), (7, .int v7)]) hx hb dX4_searchWithCuts_145 hl (k := 8) rfl (nI_1 _) (by decide) rfl (fun ls hl => ?_)
            refine lv_goto (tgt := 35) hx hb dX4_searchWithCuts_148 (by decide) ?_
            exact ih (n, k + 1, v7) ls (Nat.lt_succ_self _) ⟨by rw [hv2, g2X4_searchWithCuts]; rw [if_pos c_2], hk1, by dsimp only <;> omega⟩ (lv_sub hl [2, 3, 4, 5, 6, 7, 8, 0, 10] rfl)
          · have hk12 : k2 < 25 := x_nge (B := 25) c_2 (by omega)
            refine lv_iload hx hb dX4_searchWithCuts_63 (lv_at hl 0 rfl) ?_
            refine lv_iload hx hb dX4_searchWithCuts_65 (lv_at hl 9 rfl) ?_
            refine x_callSe (va_runS (As := [.int (fX2_endsFrom (σ) nC S h (nI k) a1 a2 a3), .int (nI k2)]) (rest := []) ⟨hx, hb, hml, hown, hts⟩ (kX4_isIn l (fX2_endsFrom (σ) nC S h (nI k) a1 a2 a3) (nI k2)) (va_cwS 2 hts gX4_searchWithCuts_X4_isIn rfl rfl rfl (by decide +kernel) ⟨Nat.le_of_ble_eq_true rfl, Nat.le_of_ble_eq_true rfl⟩) x_preT rfl rfl hl.1 rfl (lv_room (Nat.le_of_ble_eq_true rfl)) dX4_searchWithCuts_67 ⟨Nat.le_of_ble_eq_true rfl, Nat.le_of_ble_eq_true rfl⟩) ?_
            refine x_ifz_eq (b := fX4_isIn (fX2_endsFrom (σ) nC S h (nI k) a1 a2 a3) (nI k2)) (tgt := 139) hx hb dX4_searchWithCuts_70 (by decide) (fun c_3 => ?_) (fun c_3 => ?_)
            · refine lv_iinc (v := nI (k2 + 1)) (lv' := [(10, .int (nI (k2 + 1))), (9, .int (fX2_endsFrom (σ) nC S h (nI k) a1 a2 a3)), (0, .ref o), (1, .int a1), (2, .int a2), (3, .int (zI a3)), (4, .int 2), (5, .int a5), (6, .int a6), (8, .int (nI k)), (7, .int v7)]) hx hb dX4_searchWithCuts_139 hl (k := 9) rfl (nI_1 _) (by decide) rfl (fun ls hl => ?_)
              refine lv_goto (tgt := 56) hx hb dX4_searchWithCuts_142 (by decide) ?_
              exact ih2 (n2, k2 + 1, v7) ls (Nat.lt_succ_self _) ⟨by rw [hv2, g2X4_searchWithCuts]; rw [if_neg c_2, if_neg (Bool.eq_false_iff.mp c_3)], hk12, by dsimp only <;> omega⟩ (lv_sub hl [1, 2, 3, 4, 5, 6, 7, 8, 9, 0, 10] rfl)
            · refine lv_aload_n hx hb dX4_searchWithCuts_73 rfl (lv_at hl 1 rfl) ?_
              refine lv_iload_n hx hb dX4_searchWithCuts_74 rfl (lv_at hl 3 rfl) ?_
              refine lv_iconst (v := 1) hx hb dX4_searchWithCuts_75 (by decide) ?_
              refine lv_iload hx hb dX4_searchWithCuts_76 (lv_at hl 9 rfl) ?_
              refine lv_ishl hx hb dX4_searchWithCuts_78 ?_
              refine lv_iconst (v := (-1)) hx hb dX4_searchWithCuts_79 (by decide) ?_
              refine lv_ixor hx hb dX4_searchWithCuts_80 ?_
              refine lv_iand hx hb dX4_searchWithCuts_81 ?_
              refine lv_iload_n hx hb dX4_searchWithCuts_82 rfl (lv_at hl 2 rfl) ?_
              refine lv_iload hx hb dX4_searchWithCuts_83 (lv_at hl 8 rfl) ?_
              refine lv_iload hx hb dX4_searchWithCuts_85 (lv_at hl 9 rfl) ?_
              refine x_callSe (va_runS (As := [.int a1, .int (nI k), .int (nI k2)]) (rest := [.int (a2 &&& (((1 : Int32) <<< ((nI k2) &&& 31)) ^^^ (-1))), .ref o]) ⟨hx, hb, hml, hown, hts⟩ (kX4_moved l a1 (nI k) (nI k2)) (va_cwS 3 hts gX4_searchWithCuts_X4_moved rfl rfl rfl (by decide +kernel) ⟨Nat.le_of_ble_eq_true rfl, Nat.le_of_ble_eq_true rfl⟩) x_preT rfl rfl hl.1 rfl (lv_room (Nat.le_of_ble_eq_true rfl)) dX4_searchWithCuts_87 ⟨Nat.le_of_ble_eq_true rfl, Nat.le_of_ble_eq_true rfl⟩) ?_
              refine lv_iload_n hx hb dX4_searchWithCuts_90 rfl (lv_at hl 4 rfl) ?_
              refine x_join (ls' := ls) (rest' := [.int (fX4_moved a1 (nI k) (nI k2)), .int (a2 &&& (((1 : Int32) <<< ((nI k2) &&& 31)) ^^^ (-1))), .ref o]) 99 (zI (if a3 = true then (false) else (true))) (fun v ev => ?_) (fun J => ?_)
              · subst ev
                refine lv_iload hx hb dX4_searchWithCuts_99 (lv_at hl 5 rfl) ?_
                refine lv_iconst (v := 1) hx hb dX4_searchWithCuts_101 (by decide) ?_
                refine lv_isub hx hb dX4_searchWithCuts_102 ?_
                refine lv_iload hx hb dX4_searchWithCuts_103 (lv_at hl 7 rfl) ?_
                refine lv_ineg hx hb dX4_searchWithCuts_105 ?_
                refine lv_iload hx hb dX4_searchWithCuts_106 (lv_at hl 6 rfl) ?_
                refine lv_iload hx hb dX4_searchWithCuts_108 (lv_at hl 10 rfl) ?_
                refine va_mmax hx hb (hml.trans hl.1.symm) hown hmx0 hmx1 hmx2 hmx3 (Nat.le_of_ble_eq_true rfl) (Nat.le_of_ble_eq_true rfl) (Nat.le_of_ble_eq_true rfl) (Nat.le_of_ble_eq_true rfl) dX4_searchWithCuts_110 ?_
                refine lv_ineg hx hb dX4_searchWithCuts_113 ?_
                refine x_callSe (va_runS (As := [.ref o, .int (a2 &&& (((1 : Int32) <<< ((nI k2) &&& 31)) ^^^ (-1))), .int (fX4_moved a1 (nI k) (nI k2)), .int (zI (if a3 = true then (false) else (true))), .int ((2 : Int32) - 1), .int (-a6), .int (-(if a5 < v7 then v7 else a5))]) (rest := []) ⟨hx, hb, hml, hown, hts⟩ (hrec (a2 &&& (((1 : Int32) <<< ((nI k2) &&& 31)) ^^^ (-1))) (fX4_moved a1 (nI k) (nI k2)) (if a3 = true then (false) else (true)) (-a6) (-(if a5 < v7 then v7 else a5))) (va_cwS 7 hts gX4_searchWithCuts_X4_searchWithCuts rfl rfl rfl (by decide +kernel) ⟨Nat.le_of_ble_eq_true rfl, Nat.le_of_ble_eq_true rfl⟩) (x_preS hX hS hW) rfl rfl hl.1 rfl (lv_room (Nat.le_of_ble_eq_true rfl)) dX4_searchWithCuts_114 ⟨Nat.le_of_ble_eq_true rfl, Nat.le_of_ble_eq_true rfl⟩) ?_
                refine lv_ineg hx hb dX4_searchWithCuts_117 ?_
                refine lv_istore (lv' := [(11, .int (-(rec (a2 &&& (((1 : Int32) <<< ((nI k2) &&& 31)) ^^^ (-1))) (fX4_moved a1 (nI k) (nI k2)) (if a3 = true then (false) else (true)) (-a6) (-(if a5 < v7 then v7 else a5))))), (9, .int (fX2_endsFrom (σ) nC S h (nI k) a1 a2 a3)), (0, .ref o), (1, .int a1), (2, .int a2), (3, .int (zI a3)), (4, .int 2), (5, .int a5), (6, .int a6), (8, .int (nI k)), (10, .int (nI k2)), (7, .int v7)]) hx hb dX4_searchWithCuts_118 hl (by decide) rfl (fun ls hl => ?_)
                refine lv_iload hx hb dX4_searchWithCuts_120 (lv_at hl 11 rfl) ?_
                refine lv_iload hx hb dX4_searchWithCuts_122 (lv_at hl 0 rfl) ?_
                refine va_mmax hx hb (hml.trans hl.1.symm) hown hmx0 hmx1 hmx2 hmx3 (Nat.le_of_ble_eq_true rfl) (Nat.le_of_ble_eq_true rfl) (Nat.le_of_ble_eq_true rfl) (Nat.le_of_ble_eq_true rfl) dX4_searchWithCuts_124 ?_
                refine lv_istore (lv' := [(7, .int (if v7 < (-(rec (a2 &&& (((1 : Int32) <<< ((nI k2) &&& 31)) ^^^ (-1))) (fX4_moved a1 (nI k) (nI k2)) (if a3 = true then (false) else (true)) (-a6) (-(if a5 < v7 then v7 else a5)))) then (-(rec (a2 &&& (((1 : Int32) <<< ((nI k2) &&& 31)) ^^^ (-1))) (fX4_moved a1 (nI k) (nI k2)) (if a3 = true then (false) else (true)) (-a6) (-(if a5 < v7 then v7 else a5)))) else v7)), (11, .int (-(rec (a2 &&& (((1 : Int32) <<< ((nI k2) &&& 31)) ^^^ (-1))) (fX4_moved a1 (nI k) (nI k2)) (if a3 = true then (false) else (true)) (-a6) (-(if a5 < v7 then v7 else a5))))), (9, .int (fX2_endsFrom (σ) nC S h (nI k) a1 a2 a3)), (0, .ref o), (1, .int a1), (2, .int a2), (3, .int (zI a3)), (4, .int 2), (5, .int a5), (6, .int a6), (8, .int (nI k)), (10, .int (nI k2))]) hx hb dX4_searchWithCuts_127 hl (by decide) rfl (fun ls hl => ?_)
                refine lv_iload hx hb dX4_searchWithCuts_129 (lv_at hl 0 rfl) ?_
                refine lv_iload hx hb dX4_searchWithCuts_131 (lv_at hl 9 rfl) ?_
                refine lv_icmp_lt (tgt := 139) hx hb dX4_searchWithCuts_133 (by decide) (fun c_5 => ?_) (fun c_5 => ?_)
                · refine lv_iinc (v := nI (k2 + 1)) (lv' := [(10, .int (nI (k2 + 1))), (7, .int (if v7 < (-(rec (a2 &&& (((1 : Int32) <<< ((nI k2) &&& 31)) ^^^ (-1))) (fX4_moved a1 (nI k) (nI k2)) (if a3 = true then (false) else (true)) (-a6) (-(if a5 < v7 then v7 else a5)))) then (-(rec (a2 &&& (((1 : Int32) <<< ((nI k2) &&& 31)) ^^^ (-1))) (fX4_moved a1 (nI k) (nI k2)) (if a3 = true then (false) else (true)) (-a6) (-(if a5 < v7 then v7 else a5)))) else v7)), (11, .int (-(rec (a2 &&& (((1 : Int32) <<< ((nI k2) &&& 31)) ^^^ (-1))) (fX4_moved a1 (nI k) (nI k2)) (if a3 = true then (false) else (true)) (-a6) (-(if a5 < v7 then v7 else a5))))), (9, .int (fX2_endsFrom (σ) nC S h (nI k) a1 a2 a3)), (0, .ref o), (1, .int a1), (2, .int a2), (3, .int (zI a3)), (4, .int 2), (5, .int a5), (6, .int a6), (8, .int (nI k))]) hx hb dX4_searchWithCuts_139 hl (k := 11) rfl (nI_1 _) (by decide) rfl (fun ls hl => ?_)
                  refine lv_goto (tgt := 56) hx hb dX4_searchWithCuts_142 (by decide) ?_
                  exact ih2 (n2, k2 + 1, (if v7 < (-(rec (a2 &&& (((1 : Int32) <<< ((nI k2) &&& 31)) ^^^ (-1))) (fX4_moved a1 (nI k) (nI k2)) (if a3 = true then (false) else (true)) (-a6) (-(if a5 < v7 then v7 else a5)))) then (-(rec (a2 &&& (((1 : Int32) <<< ((nI k2) &&& 31)) ^^^ (-1))) (fX4_moved a1 (nI k) (nI k2)) (if a3 = true then (false) else (true)) (-a6) (-(if a5 < v7 then v7 else a5)))) else v7)) ls (Nat.lt_succ_self _) ⟨by rw [hv2, g2X4_searchWithCuts]; rw [if_neg c_2, if_pos c_3, if_pos c_5], hk12, by dsimp only <;> omega⟩ (lv_sub hl [3, 4, 5, 6, 7, 8, 9, 10, 11, 0, 1] rfl)
                · refine lv_iload hx hb dX4_searchWithCuts_136 (lv_at hl 0 rfl) ?_
                  exact W.iret (v := if v7 < (-(rec (a2 &&& (((1 : Int32) <<< ((nI k2) &&& 31)) ^^^ (-1))) (fX4_moved a1 (nI k) (nI k2)) (if a3 = true then (false) else (true)) (-a6) (-(if a5 < v7 then v7 else a5)))) then (-(rec (a2 &&& (((1 : Int32) <<< ((nI k2) &&& 31)) ^^^ (-1))) (fX4_moved a1 (nI k) (nI k2)) (if a3 = true then (false) else (true)) (-a6) (-(if a5 < v7 then v7 else a5)))) else v7) hx hb hr (fun t ht hw => ⟨_, rfl, (show (if v7 < (-(rec (a2 &&& (((1 : Int32) <<< ((nI k2) &&& 31)) ^^^ (-1))) (fX4_moved a1 (nI k) (nI k2)) (if a3 = true then (false) else (true)) (-a6) (-(if a5 < v7 then v7 else a5)))) then (-(rec (a2 &&& (((1 : Int32) <<< ((nI k2) &&& 31)) ^^^ (-1))) (fX4_moved a1 (nI k) (nI k2)) (if a3 = true then (false) else (true)) (-a6) (-(if a5 < v7 then v7 else a5)))) else v7 : Int32) = fX4_searchWithCuts σ nC S h rec a1 a2 a3 a5 a6 from by rw [hv2, g2X4_searchWithCuts]; rw [if_neg c_2, if_pos c_3, if_neg c_5]), ht⟩) (fun _ h => nomatch h) dX4_searchWithCuts_138
              · refine x_ifz_ne (b := a3) (tgt := 98) hx hb dX4_searchWithCuts_91 (by decide) (fun c_4 => ?_) (fun c_4 => ?_)
                · refine lv_iconst (v := 0) hx hb dX4_searchWithCuts_98 (by decide) ?_
                  exact J _ (congrArg zI (show false = if a3 = true then (false) else (true) from by rw [if_pos c_4]))
                · refine lv_iconst (v := 1) hx hb dX4_searchWithCuts_94 (by decide) ?_
                  refine lv_goto (tgt := 99) hx hb dX4_searchWithCuts_95 (by decide) ?_
                  exact J _ (congrArg zI (show true = if a3 = true then (false) else (true) from by rw [if_neg (Bool.eq_false_iff.mp c_4)]))
  · refine lv_aload_n hx hb dX4_searchWithCuts_0 rfl (lv_at hl 0 rfl) ?_
    refine lv_iload_n hx hb dX4_searchWithCuts_1 rfl (lv_at hl 1 rfl) ?_
    refine lv_iload_n hx hb dX4_searchWithCuts_2 rfl (lv_at hl 2 rfl) ?_
    refine lv_iload_n hx hb dX4_searchWithCuts_3 rfl (lv_at hl 3 rfl) ?_
    refine x_callSe (va_runV (As := [.int a1, .int a2, .int (zI a3)]) (rest := []) ⟨hx, hb, hml, hown, hts⟩ (kX2_hasMove l G _ (σ) nC S h o a1 a2 a3 ta tb hE hT) (cwV 3 hts gX4_searchWithCuts_X2_hasMove rfl rfl rfl (by decide +kernel) ⟨Nat.le_of_ble_eq_true rfl, Nat.le_of_ble_eq_true rfl⟩) (x_preV hX hS hW hE rfl) rfl rfl hl.1 rfl (lv_room (Nat.le_of_ble_eq_true rfl)) dX4_searchWithCuts_4 ⟨Nat.le_of_ble_eq_true rfl, Nat.le_of_ble_eq_true rfl⟩) ?_
    refine x_ifz_ne (b := fX2_hasMove (σ) nC S h a1 a2 a3) (tgt := 13) hx hb dX4_searchWithCuts_7 (by decide) (fun c_6 => ?_) (fun c_6 => ?_)
    · refine lv_iload hx hb dX4_searchWithCuts_13 (lv_at hl 4 rfl) ?_
      refine lv_if_gt (tgt := 28) hx hb dX4_searchWithCuts_15 (by decide) (fun _ => ?_) (fun c9 => absurd (by decide) c9)
      refine lv_bipush (v := (-100)) hx hb dX4_searchWithCuts_28 (by decide) ?_
      refine lv_istore (lv' := [(7, .int (-100)), (0, .ref o), (1, .int a1), (2, .int a2), (3, .int (zI a3)), (4, .int 2), (5, .int a5), (6, .int a6)]) hx hb dX4_searchWithCuts_30 hl (by decide) rfl (fun ls hl => ?_)
      refine lv_iconst (v := 0) hx hb dX4_searchWithCuts_32 (by decide) ?_
      refine lv_istore (lv' := [(8, .int 0), (7, .int (-100)), (0, .ref o), (1, .int a1), (2, .int a2), (3, .int (zI a3)), (4, .int 2), (5, .int a5), (6, .int a6)]) hx hb dX4_searchWithCuts_33 hl (by decide) rfl (fun ls hl => ?_)
      exact LP (26, 0, (-100)) ls ⟨by unfold fX4_searchWithCuts; rw [if_pos c_6], by dsimp only <;> omega, by dsimp only <;> omega⟩ (lv_sub hl [2, 3, 4, 5, 6, 7, 8, 0, 1] rfl)
    · refine lv_bipush (v := (-100)) hx hb dX4_searchWithCuts_10 (by decide) ?_
      exact W.iret (v := (-100)) hx hb hr (fun t ht hw => ⟨_, rfl, (show ((-100) : Int32) = fX4_searchWithCuts σ nC S h rec a1 a2 a3 a5 a6 from by unfold fX4_searchWithCuts; rw [if_neg (Bool.eq_false_iff.mp c_6)]), ht⟩) (fun _ h => nomatch h) dX4_searchWithCuts_12

def vX4_searchAll (σ : xSg) (nC : Nat) (S h : Int32) : Nat → Int32 → Int32 → Bool → Int32
  | 0 => fun x y z => fX4_searchAll_0 σ nC S h x y z
  | d + 1 => fun x y z => fX4_searchAll σ nC S h (vX4_searchAll σ nC S h d) x y z
theorem kX4_searchAll_0v (l : Launch) (G : xG) (E : xE) (σ : xSg) (nC : Nat) (S h : Int32) (o : Nat) (ta : Nat) (tb : Nat → Option Nat) (hE : E o = some (.inr (2, [.ref ta, .int S, .int h]))) (hT : xCardsAt G E ta tb nC σ) (x y : Int32) (z : Bool) : Met l yX4_searchAll wsX4_searchAll ({ frames := 4, cells := 0, slots := 0, locals := 105 }) (va_Pc [.ref o, .int x, .int y, .int (zI z), .int 0] (xB G E)) (vp_Si (fun r => r = vX4_searchAll σ nC S h 0 x y z)) 0 0 (fun _ => False) := kX4_searchAll_0 l G E σ nC S h o x y z ta tb hE hT
theorem kX4_searchAll_1 (l : Launch) (G : xG) (E : xE) (σ : xSg) (nC : Nat) (S h : Int32) (o : Nat) (ta : Nat) (tb : Nat → Option Nat) (hE : E o = some (.inr (2, [.ref ta, .int S, .int h]))) (hT : xCardsAt G E ta tb nC σ) (x y : Int32) (z : Bool) : Met l yX4_searchAll wsX4_searchAll ({ frames := 5, cells := 0, slots := 0, locals := 133 }) (va_Pc [.ref o, .int x, .int y, .int (zI z), .int 1] (xB G E)) (vp_Si (fun r => r = vX4_searchAll σ nC S h 1 x y z)) 0 0 (fun _ => False) := kX4_searchAll_s1 l G E σ nC S h (vX4_searchAll σ nC S h 0) o x y z ta tb hE hT (fun x y z => kX4_searchAll_0v l G E σ nC S h o ta tb hE hT x y z)
theorem kX4_searchAll_2 (l : Launch) (G : xG) (E : xE) (σ : xSg) (nC : Nat) (S h : Int32) (o : Nat) (ta : Nat) (tb : Nat → Option Nat) (hE : E o = some (.inr (2, [.ref ta, .int S, .int h]))) (hT : xCardsAt G E ta tb nC σ) (x y : Int32) (z : Bool) : Met l yX4_searchAll wsX4_searchAll ({ frames := 6, cells := 0, slots := 0, locals := 161 }) (va_Pc [.ref o, .int x, .int y, .int (zI z), .int 2] (xB G E)) (vp_Si (fun r => r = vX4_searchAll σ nC S h 2 x y z)) 0 0 (fun _ => False) := kX4_searchAll_s2 l G E σ nC S h (vX4_searchAll σ nC S h 1) o x y z ta tb hE hT (fun x y z => kX4_searchAll_1 l G E σ nC S h o ta tb hE hT x y z)

def vX4_searchWithCuts (σ : xSg) (nC : Nat) (S h : Int32) : Nat → Int32 → Int32 → Bool → Int32 → Int32 → Int32
  | 0 => fun x y z e0 e1 => fX4_searchWithCuts_0 σ nC S h x y z e0 e1
  | d + 1 => fun x y z e0 e1 => fX4_searchWithCuts σ nC S h (vX4_searchWithCuts σ nC S h d) x y z e0 e1
theorem kX4_searchWithCuts_0v (l : Launch) (G : xG) (E : xE) (σ : xSg) (nC : Nat) (S h : Int32) (o : Nat) (ta : Nat) (tb : Nat → Option Nat) (hE : E o = some (.inr (2, [.ref ta, .int S, .int h]))) (hT : xCardsAt G E ta tb nC σ) (x y : Int32) (z : Bool) (e0 : Int32) (e1 : Int32) : Met l yX4_searchWithCuts wsX4_searchWithCuts ({ frames := 4, cells := 0, slots := 0, locals := 105 }) (va_Pc [.ref o, .int x, .int y, .int (zI z), .int 0, .int e0, .int e1] (xB G E)) (vp_Si (fun r => r = vX4_searchWithCuts σ nC S h 0 x y z e0 e1)) 0 0 (fun _ => False) := kX4_searchWithCuts_0 l G E σ nC S h o x y z e0 e1 ta tb hE hT
theorem kX4_searchWithCuts_1 (l : Launch) (G : xG) (E : xE) (σ : xSg) (nC : Nat) (S h : Int32) (o : Nat) (ta : Nat) (tb : Nat → Option Nat) (hE : E o = some (.inr (2, [.ref ta, .int S, .int h]))) (hT : xCardsAt G E ta tb nC σ) (x y : Int32) (z : Bool) (e0 : Int32) (e1 : Int32) : Met l yX4_searchWithCuts wsX4_searchWithCuts ({ frames := 5, cells := 0, slots := 0, locals := 136 }) (va_Pc [.ref o, .int x, .int y, .int (zI z), .int 1, .int e0, .int e1] (xB G E)) (vp_Si (fun r => r = vX4_searchWithCuts σ nC S h 1 x y z e0 e1)) 0 0 (fun _ => False) := kX4_searchWithCuts_s1 l G E σ nC S h (vX4_searchWithCuts σ nC S h 0) o x y z e0 e1 ta tb hE hT (fun x y z e0 e1 => kX4_searchWithCuts_0v l G E σ nC S h o ta tb hE hT x y z e0 e1)
theorem kX4_searchWithCuts_2 (l : Launch) (G : xG) (E : xE) (σ : xSg) (nC : Nat) (S h : Int32) (o : Nat) (ta : Nat) (tb : Nat → Option Nat) (hE : E o = some (.inr (2, [.ref ta, .int S, .int h]))) (hT : xCardsAt G E ta tb nC σ) (x y : Int32) (z : Bool) (e0 : Int32) (e1 : Int32) : Met l yX4_searchWithCuts wsX4_searchWithCuts ({ frames := 6, cells := 0, slots := 0, locals := 167 }) (va_Pc [.ref o, .int x, .int y, .int (zI z), .int 2, .int e0, .int e1] (xB G E)) (vp_Si (fun r => r = vX4_searchWithCuts σ nC S h 2 x y z e0 e1)) 0 0 (fun _ => False) := kX4_searchWithCuts_s2 l G E σ nC S h (vX4_searchWithCuts σ nC S h 1) o x y z e0 e1 ta tb hE hT (fun x y z e0 e1 => kX4_searchWithCuts_1 l G E σ nC S h o ta tb hE hT x y z e0 e1)
end
