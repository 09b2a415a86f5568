/-- which of the three isn't of which -/
def xNc (U : State) : Prop := va_Nc "java/lang/IllegalStateException" "java/lang/IllegalArgumentException" U ∧ va_Nc "java/lang/IllegalArgumentException" "java/lang/IndexOutOfBoundsException" U ∧ va_Nc "java/lang/IllegalStateException" "java/lang/IndexOutOfBoundsException" U
theorem xNc.moved {u U : State} (hvm : u.vm.Alike U.vm) (h : xNc u) : xNc U := ⟨h.1.moved hvm, h.2.1.moved hvm, h.2.2.moved hvm⟩
def xB2 (G : xG) (E : xE) (U : State) : Prop := xB G E U ∧ xNc U

theorem tX4_state_n1 {a0 : Int32} {nG : Nat} : ¬ tX4_state nG a0 = 1 := by
  unfold tX4_state
  try unfold tX4_can
  try unfold tIx
  try unfold tX4_checkPlayer
  try unfold tX4_checkCell
  try unfold tX4_checkDepth
  repeat' split
  all_goals first | decide | (intro z; cases z; done) | (intro z; simp_all; done) | omega
theorem tX4_state_n2 {a0 : Int32} {nG : Nat} : ¬ tX4_state nG a0 = 2 := by
  unfold tX4_state
  try unfold tX4_can
  try unfold tIx
  try unfold tX4_checkPlayer
  try unfold tX4_checkCell
  try unfold tX4_checkDepth
  repeat' split
  all_goals first | decide | (intro z; cases z; done) | (intro z; simp_all; done) | omega
theorem tX4_made_n1 {a0 : Int32} {nG : Nat} : ¬ tX4_made nG a0 = 1 := by
  unfold tX4_made
  try unfold tX4_can
  try unfold tIx
  try unfold tX4_checkPlayer
  try unfold tX4_checkCell
  try unfold tX4_checkDepth
  repeat' split
  all_goals first | decide | (intro z; cases z; done) | (intro z; simp_all; done) | omega
theorem tX4_made_n2 {a0 : Int32} {nG : Nat} : ¬ tX4_made nG a0 = 2 := by
  unfold tX4_made
  try unfold tX4_can
  try unfold tIx
  try unfold tX4_checkPlayer
  try unfold tX4_checkCell
  try unfold tX4_checkDepth
  repeat' split
  all_goals first | decide | (intro z; cases z; done) | (intro z; simp_all; done) | omega
theorem tX4_pieces_n1 {a0 : Int32} {nG : Nat} : ¬ tX4_pieces nG a0 = 1 := by
  unfold tX4_pieces
  try unfold tX4_can
  try unfold tIx
  try unfold tX4_checkPlayer
  try unfold tX4_checkCell
  try unfold tX4_checkDepth
  repeat' split
  all_goals first | decide | (intro z; cases z; done) | (intro z; simp_all; done) | omega
theorem tX4_pieces_n2 {a0 : Int32} {nG : Nat} : ¬ tX4_pieces nG a0 = 2 := by
  unfold tX4_pieces
  try unfold tX4_can
  try unfold tIx
  try unfold tX4_checkPlayer
  try unfold tX4_checkCell
  try unfold tX4_checkDepth
  repeat' split
  all_goals first | decide | (intro z; cases z; done) | (intro z; simp_all; done) | omega
theorem tX4_can_n1 {a0 : Int32} {a1 : Int32} {a2 : Int32} {nG : Nat} : ¬ tX4_can nG a0 a1 a2 = 1 := by
  unfold tX4_can
  try unfold tX4_can
  try unfold tIx
  try unfold tX4_checkPlayer
  try unfold tX4_checkCell
  try unfold tX4_checkDepth
  repeat' split
  all_goals first | decide | (intro z; cases z; done) | (intro z; simp_all; done) | omega
theorem tX4_can_n2 {a0 : Int32} {a1 : Int32} {a2 : Int32} {nG : Nat} : ¬ tX4_can nG a0 a1 a2 = 2 := by
  unfold tX4_can
  try unfold tX4_can
  try unfold tIx
  try unfold tX4_checkPlayer
  try unfold tX4_checkCell
  try unfold tX4_checkDepth
  repeat' split
  all_goals first | decide | (intro z; cases z; done) | (intro z; simp_all; done) | omega
theorem tX4_canByAll_n1 {a0 : Int32} {a1 : Int32} {a2 : Int32} {nG : Nat} : ¬ tX4_canByAll nG a0 a1 a2 = 1 := by
  unfold tX4_canByAll
  try unfold tX4_can
  try unfold tIx
  try unfold tX4_checkPlayer
  try unfold tX4_checkCell
  try unfold tX4_checkDepth
  repeat' split
  all_goals first | decide | (intro z; cases z; done) | (intro z; simp_all; done) | omega
theorem tX4_canByAll_n2 {a0 : Int32} {a1 : Int32} {a2 : Int32} {nG : Nat} : ¬ tX4_canByAll nG a0 a1 a2 = 2 := by
  unfold tX4_canByAll
  try unfold tX4_can
  try unfold tIx
  try unfold tX4_checkPlayer
  try unfold tX4_checkCell
  try unfold tX4_checkDepth
  repeat' split
  all_goals first | decide | (intro z; cases z; done) | (intro z; simp_all; done) | omega
theorem tX4_isBanned_n1 {a0 : Int32} {nV : Nat} : ¬ tX4_isBanned nV a0 = 1 := by
  unfold tX4_isBanned
  try unfold tX4_can
  try unfold tIx
  try unfold tX4_checkPlayer
  try unfold tX4_checkCell
  try unfold tX4_checkDepth
  repeat' split
  all_goals first | decide | (intro z; cases z; done) | (intro z; simp_all; done) | omega
theorem tX4_isBanned_n2 {a0 : Int32} {nV : Nat} : ¬ tX4_isBanned nV a0 = 2 := by
  unfold tX4_isBanned
  try unfold tX4_can
  try unfold tIx
  try unfold tX4_checkPlayer
  try unfold tX4_checkCell
  try unfold tX4_checkDepth
  repeat' split
  all_goals first | decide | (intro z; cases z; done) | (intro z; simp_all; done) | omega
theorem tX4_endless_n1 {a0 : Int32} {nV : Nat} : ¬ tX4_endless nV a0 = 1 := by
  unfold tX4_endless
  try unfold tX4_can
  try unfold tIx
  try unfold tX4_checkPlayer
  try unfold tX4_checkCell
  try unfold tX4_checkDepth
  repeat' split
  all_goals first | decide | (intro z; cases z; done) | (intro z; simp_all; done) | omega
theorem tX4_endless_n2 {a0 : Int32} {nV : Nat} : ¬ tX4_endless nV a0 = 2 := by
  unfold tX4_endless
  try unfold tX4_can
  try unfold tIx
  try unfold tX4_checkPlayer
  try unfold tX4_checkCell
  try unfold tX4_checkDepth
  repeat' split
  all_goals first | decide | (intro z; cases z; done) | (intro z; simp_all; done) | omega
theorem tX4_vote_n1 {a0 : Int32} {a1 : Int32} {nV : Nat} : ¬ tX4_vote nV a0 a1 = 1 := by
  unfold tX4_vote
  try unfold tX4_can
  try unfold tIx
  try unfold tX4_checkPlayer
  try unfold tX4_checkCell
  try unfold tX4_checkDepth
  repeat' split
  all_goals first | decide | (intro z; cases z; done) | (intro z; simp_all; done) | omega
theorem tX4_vote_n2 {a0 : Int32} {a1 : Int32} {nV : Nat} : ¬ tX4_vote nV a0 a1 = 2 := by
  unfold tX4_vote
  try unfold tX4_can
  try unfold tIx
  try unfold tX4_checkPlayer
  try unfold tX4_checkCell
  try unfold tX4_checkDepth
  repeat' split
  all_goals first | decide | (intro z; cases z; done) | (intro z; simp_all; done) | omega
theorem tX4_points_n1 {a0 : Int32} {a1 : Int32} {nV : Nat} : ¬ tX4_points nV a0 a1 = 1 := by
  unfold tX4_points
  try unfold tX4_can
  try unfold tIx
  try unfold tX4_checkPlayer
  try unfold tX4_checkCell
  try unfold tX4_checkDepth
  repeat' split
  all_goals first | decide | (intro z; cases z; done) | (intro z; simp_all; done) | omega
theorem tX4_points_n2 {a0 : Int32} {a1 : Int32} {nV : Nat} : ¬ tX4_points nV a0 a1 = 2 := by
  unfold tX4_points
  try unfold tX4_can
  try unfold tIx
  try unfold tX4_checkPlayer
  try unfold tX4_checkCell
  try unfold tX4_checkDepth
  repeat' split
  all_goals first | decide | (intro z; cases z; done) | (intro z; simp_all; done) | omega
theorem tX4_card_n3 {a0 : Int32} {a1 : Int32} {a2 : Int32} {a3 : Int32} {nC : Nat} : ¬ tX4_card nC a0 a1 a2 a3 = 3 := by
  unfold tX4_card
  try unfold tX4_can
  try unfold tIx
  try unfold tX4_checkPlayer
  try unfold tX4_checkCell
  try unfold tX4_checkDepth
  repeat' split
  all_goals first | decide | (intro z; cases z; done) | (intro z; simp_all; done) | omega
theorem tX4_variant_n3 {a0 : Int32} {a1 : Int32} {nC : Nat} {nV : Nat} : ¬ tX4_variant nC nV a0 a1 = 3 := by
  unfold tX4_variant
  try unfold tX4_can
  try unfold tIx
  try unfold tX4_checkPlayer
  try unfold tX4_checkCell
  try unfold tX4_checkDepth
  repeat' split
  all_goals first | decide | (intro z; cases z; done) | (intro z; simp_all; done) | omega
theorem tX4_setCards_n2 {a0 : Int32} {a1 : Int32} {nC : Nat} {nV : Nat} : ¬ tX4_setCards nC nV a0 a1 = 2 := by
  unfold tX4_setCards
  try unfold tX4_can
  try unfold tIx
  try unfold tX4_checkPlayer
  try unfold tX4_checkCell
  try unfold tX4_checkDepth
  repeat' split
  all_goals first | decide | (intro z; cases z; done) | (intro z; simp_all; done) | omega
theorem tX4_value_n2 {a0 : Int32} {a1 : Int32} {nG : Nat} : ¬ tX4_value nG a0 a1 = 2 := by
  unfold tX4_value
  try unfold tX4_can
  try unfold tIx
  try unfold tX4_checkPlayer
  try unfold tX4_checkCell
  try unfold tX4_checkDepth
  repeat' split
  all_goals first | decide | (intro z; cases z; done) | (intro z; simp_all; done) | omega
theorem tX4_valueByAll_n2 {a0 : Int32} {a1 : Int32} {nG : Nat} : ¬ tX4_valueByAll nG a0 a1 = 2 := by
  unfold tX4_valueByAll
  try unfold tX4_can
  try unfold tIx
  try unfold tX4_checkPlayer
  try unfold tX4_checkCell
  try unfold tX4_checkDepth
  repeat' split
  all_goals first | decide | (intro z; cases z; done) | (intro z; simp_all; done) | omega
theorem tX4_move_n1 {a0 : Int32} {a1 : Int32} {a2 : Int32} {nC : Nat} {nG : Nat} {σ : xSg} : ¬ tX4_move σ nC nG (a0.toNatClampNeg) ((σ 16 a0.toNatClampNeg).toNatClampNeg) ((σ 11 a0.toNatClampNeg).toNatClampNeg) a0 a1 a2 = 1 := by
  unfold tX4_move
  try unfold tX4_can
  try unfold tIx
  try unfold tX4_checkPlayer
  try unfold tX4_checkCell
  try unfold tX4_checkDepth
  repeat' split
  all_goals first | decide | (intro z; cases z; done) | (intro z; simp_all; done) | omega
def wX4_card (G : xG) (E : xE) (o : Nat) (a0 : Int32) (a1 : Int32) (a2 : Int32) (a3 : Int32) (ct vt gt : Nat) (tb vb gb : Nat → Option Nat) (sa : Nat → Nat) (nC nV nG : Nat) (σ : xSg) : Int32 → xE → Prop := fun r E' => tX4_card nC a0 a1 a2 a3 = 0 ∧ r = nI nC ∧ nC < 8 ∧ ∃ q : Nat, xCls G E' o ct vt gt (va_up tb nC (some q)) vb gb sa (nC + 1) nV nG (sgCard σ nC a0 a1 a2 (if a0 = 0 then (1 : Int32) else a3)) ∧ xFr tC E E'
set_option maxHeartbeats 4000000 in
set_option maxRecDepth 100000 in
theorem kL_card (l : Launch) (hl9 : l.stackTraces = false) (G : xG) (E : xE) (o : Nat) (a0 : Int32) (a1 : Int32) (a2 : Int32) (a3 : Int32) (oa : Nat) (ct vt gt : Nat) (tb vb gb : Nat → Option Nat) (sa : Nat → Nat) (nC nV nG : Nat) (σ : xSg) (hCls : xCls G E o ct vt gt tb vb gb sa nC nV nG σ) (f : Nat → Int64) (hoa : E oa = some (.inl (G.2.1 1, 1, .inr (.inl f)))) : vx_Met l yL_card wsL_card ({ frames := 7, cells := 1, slots := 6, locals := 115 }) (va_Pc [.ref o, .int a0, .int a1, .int a2, .int a3, .ref oa] (xB2 G E)) (va_Qi (S := xE) (fun r E' => (r = 0 ∧ ∃ (r1 : Int32) (E1 : xE), wX4_card G E o a0 a1 a2 a3 ct vt gt tb vb gb sa nC nV nG σ r1 E1 ∧ E' = xU E1 oa (.inl (G.2.1 1, 1, .inr (.inl (vp_updL f 0 (r1.toInt64)))))) ∨ (((r = 1 ∧ tX4_card nC a0 a1 a2 a3 = 1) ∨ (r = 2 ∧ tX4_card nC a0 a1 a2 a3 = 2)) ∧ E' = E)) (fun E' t => xW G E' t.heap) (xA G)) (xX G E (fun _ => False)) 1 6 (xA G) := by
  refine vx_ofWH (cc := cL_card) (maxL := 7) (ret := (some .int)) (hh := [(0, 14, 17, 13), (0, 14, 21, 15)]) (by decide) rfl ?_
  intro p e s m args below meth c s₁ B hml hv
  obtain ⟨rfl, ⟨hX, hW⟩, hNc⟩ := hv
  have hx := B.exec
  have hb := B.bytes
  have hr := B.returns
  have hts := atoms_spec (ws := wsL_card) B.pre
  have hown : s.vm.findClass RL = some m.cls := findClass_of_methodNamed B.named
  have hht := vx_table (x := yL_card) B (hts _ List.mem_cons_self)
  have hS : va_S (xA G) s.heap s.heap [] := va_S.rf
  have hcl13 := hts (Cond.classLink RL 13 "java/lang/IllegalArgumentException") (by decide +kernel)
  have hcl15 := hts (Cond.classLink RL 15 "java/lang/IllegalStateException") (by decide +kernel)
  have hl := lv_entry ([.ref o, .int a0, .int a1, .int a2, .int a3, .ref oa]) (n := 7) (Nat.le_of_ble_eq_true rfl)
  rw [lg_entry_eq]
  generalize (lg_sl ([.ref o, .int a0, .int a1, .int a2, .int a3, .ref oa]) ++ List.replicate (7 - (lg_sl ([.ref o, .int a0, .int a1, .int a2, .int a3, .ref oa])).length) Slot.unset).toArray = ls at hl ⊢
  have hl : lv_has ls 7 [(0, .ref o), (1, .int a0), (2, .int a1), (3, .int a2), (4, .int a3), (5, .ref oa)] := hl
  obtain ⟨H, hH⟩ : ∃ z, z = s.heap := ⟨_, rfl⟩
  rw [← hH] at hW
  have hS : va_S (xA G) s.heap H [] := by rw [hH]; exact hS
  rw [← hH]
  refine lv_aload hx hb dL_card_0 (lv_at hl 5 rfl) ?_
  refine lv_iconst (v := 0) hx hb dL_card_2 (by decide) ?_
  refine lv_aload_n hx hb dL_card_3 rfl (lv_at hl 0 rfl) ?_
  refine lv_iload_n hx hb dL_card_4 rfl (lv_at hl 1 rfl) ?_
  refine lv_iload_n hx hb dL_card_5 rfl (lv_at hl 2 rfl) ?_
  refine lv_iload_n hx hb dL_card_6 rfl (lv_at hl 3 rfl) ?_
  refine lv_iload hx hb dL_card_7 (lv_at hl 4 rfl) ?_
  refine vx_calli (vx_runV (As := [.int a0, .int a1, .int a2, .int a3]) (rest := [.int 0, .ref oa]) ⟨hx, hb, hml, hown, hts⟩ (kX4_card l hl9 G E o a0 a1 a2 a3 ct vt gt tb vb gb sa nC nV nG σ hCls) (cwV 4 hts gL_card_X4_card rfl rfl rfl (by decide +kernel) ⟨Nat.le_of_ble_eq_true rfl, Nat.le_of_ble_eq_true rfl⟩) (x_preV hX hS hW hCls.1 rfl) rfl rfl hl.1 rfl (lv_room (Nat.le_of_ble_eq_true rfl)) dL_card_9 ⟨Nat.le_of_ble_eq_true rfl, Nat.le_of_ble_eq_true rfl⟩) hS (fun _ _ h => h) (fun _ h => h) (fun _ _ h => h) (fun Ex ce q9 ux t H1 locs1 ht hvm hpx hB hz1 hk1 hS1 hce hcv hcl => ?_) (fun r1 Ec t H1 locs1 ht hvm hpost hB hz1 hk1 hS1 => ?_)
  · obtain ⟨hpx, hB⟩ := hB
    rw [ht] at hB
    have hW : xW G E H1 := hB
    have hS := hS1
    rcases hpx with ⟨h9, rfl⟩ | ⟨h9, rfl⟩ | ⟨h9, rfl⟩
    · refine vx_catch (E := "java/lang/IllegalArgumentException") (name := "java/lang/IllegalArgumentException") hown [] ⟨0, 14, 17, 13⟩ [⟨0, 14, 21, 15⟩] (hht.trans rfl) (fun z hz => nomatch hz) rfl (by decide) hcl13 (xBad_use (.castable "java/lang/IllegalArgumentException" "java/lang/IllegalArgumentException") (by decide +kernel) (hX.2.2.2.2.1 (.castable "java/lang/IllegalArgumentException" "java/lang/IllegalArgumentException") (by decide +kernel))) hce hcv hcl ?_
      refine lv_astore (lv' := [(6, .ref q9), (0, .ref o), (1, .int a0), (2, .int a1), (3, .int a2), (4, .int a3), (5, .ref oa)]) hx hb dL_card_17 hl (by decide) rfl (fun ls hl => ?_)
      refine lv_iconst (v := 1) hx hb dL_card_19 (by decide) ?_
      exact vx_ret (W.widen (k := 1) (n := 6) (Nat.le_of_ble_eq_true rfl) (Nat.le_of_ble_eq_true rfl) (W.iret (v := 1) hx hb hr (fun t ht hw => ⟨⟨_, E, rfl, (Or.inr ⟨(Or.inl ⟨rfl, h9⟩), rfl⟩), (show xW G E t.heap from by rw [ht]; exact hW)⟩, hS.F ht⟩) hS.2.2 dL_card_20))
    · refine vx_catch (E := "java/lang/IllegalStateException") (name := "java/lang/IllegalStateException") hown [⟨0, 14, 17, 13⟩] ⟨0, 14, 21, 15⟩ [] (hht.trans rfl) (fun z hz => by rcases List.mem_singleton.mp hz; exact Or.inr ⟨by decide, _, hcl13, hNc.1⟩) rfl (by decide) hcl15 (xBad_use (.castable "java/lang/IllegalStateException" "java/lang/IllegalStateException") (by decide +kernel) (hX.2.2.2.2.1 (.castable "java/lang/IllegalStateException" "java/lang/IllegalStateException") (by decide +kernel))) hce hcv hcl ?_
      refine lv_astore (lv' := [(6, .ref q9), (0, .ref o), (1, .int a0), (2, .int a1), (3, .int a2), (4, .int a3), (5, .ref oa)]) hx hb dL_card_21 hl (by decide) rfl (fun ls hl => ?_)
      refine lv_iconst (v := 2) hx hb dL_card_23 (by decide) ?_
      exact vx_ret (W.widen (k := 1) (n := 6) (Nat.le_of_ble_eq_true rfl) (Nat.le_of_ble_eq_true rfl) (W.iret (v := 2) hx hb hr (fun t ht hw => ⟨⟨_, E, rfl, (Or.inr ⟨(Or.inr ⟨rfl, h9⟩), rfl⟩), (show xW G E t.heap from by rw [ht]; exact hW)⟩, hS.F ht⟩) hS.2.2 dL_card_24))
    · exact absurd h9 (tX4_card_n3 )
  · rw [ht] at hB
    have hW : xW G Ec H1 := hB
    have hS := hS1
    have hoa1 : Ec oa = some (.inl (G.2.1 1, 1, .inr (.inl f))) := by obtain ⟨_, _, _, _, _, hf⟩ := hpost; exact hf _ _ hoa rfl
    refine lv_i2l (v := r1.toInt64) hx hb dL_card_12 rfl ?_
    refine x_last (G := G) hx hb hX.1 hW hS hoa1 (show vp_in (nI 0) 1 from vp_in_nI (by omega) (by omega)) dL_card_13 (fun H locs hW hS => ?_)
    rw [show (0 : Int32).toNatClampNeg = 0 from rfl] at hW
    obtain ⟨E1, eE1⟩ : ∃ z, z = xU Ec oa (.inl (G.2.1 1, 1, .inr (.inl (vp_updL f 0 r1.toInt64)))) := ⟨_, rfl⟩
    have hW : xW G E1 H := by rw [eE1]; exact hW
    have hoa19 : E1 oa = some (.inl (G.2.1 1, 1, .inr (.inl (vp_updL f 0 r1.toInt64)))) := by rw [eE1]; exact xU_self _ _ _
    refine lv_goto (tgt := 25) hx hb dL_card_14 (by decide) ?_
    refine lv_iconst (v := 0) hx hb dL_card_25 (by decide) ?_
    exact vx_ret (W.widen (k := 1) (n := 6) (Nat.le_of_ble_eq_true rfl) (Nat.le_of_ble_eq_true rfl) (W.iret (v := 0) hx hb hr (fun t ht hw => ⟨⟨_, E1, rfl, (Or.inl ⟨rfl, r1, Ec, hpost, by rw [eE1]⟩), (show xW G E1 t.heap from by rw [ht]; exact hW)⟩, hS.F ht⟩) hS.2.2 dL_card_26))

def wX4_variant (G : xG) (E : xE) (o : Nat) (a0 : Int32) (a1 : Int32) (ct vt gt : Nat) (tb vb gb : Nat → Option Nat) (sa : Nat → Nat) (nC nV nG : Nat) (σ : xSg) : Int32 → xE → Prop := fun r E' => tX4_variant nC nV a0 a1 = 0 ∧ r = nI nV ∧ nV < 4 ∧ ∃ q : Nat, xCls G E' o ct vt gt tb (va_up vb nV (some q)) gb sa nC (nV + 1) nG (sgVar σ nV a0 a1) ∧ xFr tC E E'
set_option maxHeartbeats 4000000 in
set_option maxRecDepth 100000 in
theorem kL_variant (l : Launch) (hl9 : l.stackTraces = false) (G : xG) (E : xE) (o : Nat) (a0 : Int32) (a1 : Int32) (oa : Nat) (ct vt gt : Nat) (tb vb gb : Nat → Option Nat) (sa : Nat → Nat) (nC nV nG : Nat) (σ : xSg) (hCls : xCls G E o ct vt gt tb vb gb sa nC nV nG σ) (hZ : σ 8 nV = 0 ∧ σ 9 nV = 0) (f : Nat → Int64) (hoa : E oa = some (.inl (G.2.1 1, 1, .inr (.inl f)))) : vx_Met l yL_variant wsL_variant ({ frames := 7, cells := 2, slots := 6, locals := 113 }) (va_Pc [.ref o, .int a0, .int a1, .ref oa] (xB2 G E)) (va_Qi (S := xE) (fun r E' => (r = 0 ∧ ∃ (r1 : Int32) (E1 : xE), wX4_variant G E o a0 a1 ct vt gt tb vb gb sa nC nV nG σ r1 E1 ∧ E' = xU E1 oa (.inl (G.2.1 1, 1, .inr (.inl (vp_updL f 0 (r1.toInt64)))))) ∨ (((r = 1 ∧ tX4_variant nC nV a0 a1 = 1) ∨ (r = 2 ∧ tX4_variant nC nV a0 a1 = 2)) ∧ E' = E)) (fun E' t => xW G E' t.heap) (xA G)) (xX G E (fun _ => False)) 2 6 (xA G) := by
  refine vx_ofWH (cc := cL_variant) (maxL := 5) (ret := (some .int)) (hh := [(0, 10, 13, 13), (0, 10, 17, 15)]) (by decide) rfl ?_
  intro p e s m args below meth c s₁ B hml hv
  obtain ⟨rfl, ⟨hX, hW⟩, hNc⟩ := hv
  have hx := B.exec
  have hb := B.bytes
  have hr := B.returns
  have hts := atoms_spec (ws := wsL_variant) B.pre
  have hown : s.vm.findClass RL = some m.cls := findClass_of_methodNamed B.named
  have hht := vx_table (x := yL_variant) B (hts _ List.mem_cons_self)
  have hS : va_S (xA G) s.heap s.heap [] := va_S.rf
  have hcl13 := hts (Cond.classLink RL 13 "java/lang/IllegalArgumentException") (by decide +kernel)
  have hcl15 := hts (Cond.classLink RL 15 "java/lang/IllegalStateException") (by decide +kernel)
  have hl := lv_entry ([.ref o, .int a0, .int a1, .ref oa]) (n := 5) (Nat.le_of_ble_eq_true rfl)
  rw [lg_entry_eq]
  generalize (lg_sl ([.ref o, .int a0, .int a1, .ref oa]) ++ List.replicate (5 - (lg_sl ([.ref o, .int a0, .int a1, .ref oa])).length) Slot.unset).toArray = ls at hl ⊢
  have hl : lv_has ls 5 [(0, .ref o), (1, .int a0), (2, .int a1), (3, .ref oa)] := hl
  obtain ⟨H, hH⟩ : ∃ z, z = s.heap := ⟨_, rfl⟩
  rw [← hH] at hW
  have hS : va_S (xA G) s.heap H [] := by rw [hH]; exact hS
  rw [← hH]
  refine lv_aload_n hx hb dL_variant_0 rfl (lv_at hl 3 rfl) ?_
  refine lv_iconst (v := 0) hx hb dL_variant_1 (by decide) ?_
  refine lv_aload_n hx hb dL_variant_2 rfl (lv_at hl 0 rfl) ?_
  refine lv_iload_n hx hb dL_variant_3 rfl (lv_at hl 1 rfl) ?_
  refine lv_iload_n hx hb dL_variant_4 rfl (lv_at hl 2 rfl) ?_
  refine vx_calli (vx_runV (As := [.int a0, .int a1]) (rest := [.int 0, .ref oa]) ⟨hx, hb, hml, hown, hts⟩ (kX4_variant l hl9 G E o a0 a1 ct vt gt tb vb gb sa nC nV nG σ hCls hZ) (cwV 2 hts gL_variant_X4_variant rfl rfl rfl (by decide +kernel) ⟨Nat.le_of_ble_eq_true rfl, Nat.le_of_ble_eq_true rfl⟩) (x_preV hX hS hW hCls.1 rfl) rfl rfl hl.1 rfl (lv_room (Nat.le_of_ble_eq_true rfl)) dL_variant_5 ⟨Nat.le_of_ble_eq_true rfl, Nat.le_of_ble_eq_true rfl⟩) hS (fun _ _ h => h) (fun _ h => h) (fun _ _ h => h) (fun Ex ce q9 ux t H1 locs1 ht hvm hpx hB hz1 hk1 hS1 hce hcv hcl => ?_) (fun r1 Ec t H1 locs1 ht hvm hpost hB hz1 hk1 hS1 => ?_)
  · obtain ⟨hpx, hB⟩ := hB
    rw [ht] at hB
    have hW : xW G E H1 := hB
    have hS := hS1
    rcases hpx with ⟨h9, rfl⟩ | ⟨h9, rfl⟩ | ⟨h9, rfl⟩
    · refine vx_catch (E := "java/lang/IllegalArgumentException") (name := "java/lang/IllegalArgumentException") hown [] ⟨0, 10, 13, 13⟩ [⟨0, 10, 17, 15⟩] (hht.trans rfl) (fun z hz => nomatch hz) rfl (by decide) hcl13 (xBad_use (.castable "java/lang/IllegalArgumentException" "java/lang/IllegalArgumentException") (by decide +kernel) (hX.2.2.2.2.1 (.castable "java/lang/IllegalArgumentException" "java/lang/IllegalArgumentException") (by decide +kernel))) hce hcv hcl ?_
      refine lv_astore (lv' := [(4, .ref q9), (0, .ref o), (1, .int a0), (2, .int a1), (3, .ref oa)]) hx hb dL_variant_13 hl (by decide) rfl (fun ls hl => ?_)
      refine lv_iconst (v := 1) hx hb dL_variant_15 (by decide) ?_
      exact vx_ret (W.widen (k := 2) (n := 6) (Nat.le_of_ble_eq_true rfl) (Nat.le_of_ble_eq_true rfl) (W.iret (v := 1) hx hb hr (fun t ht hw => ⟨⟨_, E, rfl, (Or.inr ⟨(Or.inl ⟨rfl, h9⟩), rfl⟩), (show xW G E t.heap from by rw [ht]; exact hW)⟩, hS.F ht⟩) hS.2.2 dL_variant_16))
    · refine vx_catch (E := "java/lang/IllegalStateException") (name := "java/lang/IllegalStateException") hown [⟨0, 10, 13, 13⟩] ⟨0, 10, 17, 15⟩ [] (hht.trans rfl) (fun z hz => by rcases List.mem_singleton.mp hz; exact Or.inr ⟨by decide, _, hcl13, hNc.1⟩) rfl (by decide) hcl15 (xBad_use (.castable "java/lang/IllegalStateException" "java/lang/IllegalStateException") (by decide +kernel) (hX.2.2.2.2.1 (.castable "java/lang/IllegalStateException" "java/lang/IllegalStateException") (by decide +kernel))) hce hcv hcl ?_
      refine lv_astore (lv' := [(4, .ref q9), (0, .ref o), (1, .int a0), (2, .int a1), (3, .ref oa)]) hx hb dL_variant_17 hl (by decide) rfl (fun ls hl => ?_)
      refine lv_iconst (v := 2) hx hb dL_variant_19 (by decide) ?_
      exact vx_ret (W.widen (k := 2) (n := 6) (Nat.le_of_ble_eq_true rfl) (Nat.le_of_ble_eq_true rfl) (W.iret (v := 2) hx hb hr (fun t ht hw => ⟨⟨_, E, rfl, (Or.inr ⟨(Or.inr ⟨rfl, h9⟩), rfl⟩), (show xW G E t.heap from by rw [ht]; exact hW)⟩, hS.F ht⟩) hS.2.2 dL_variant_20))
    · exact absurd h9 (tX4_variant_n3 )
  · rw [ht] at hB
    have hW : xW G Ec H1 := hB
    have hS := hS1
    have hoa1 : Ec oa = some (.inl (G.2.1 1, 1, .inr (.inl f))) := by obtain ⟨_, _, _, _, _, hf⟩ := hpost; exact hf _ _ hoa rfl
    refine lv_i2l (v := r1.toInt64) hx hb dL_variant_8 rfl ?_
    refine x_last (G := G) hx hb hX.1 hW hS hoa1 (show vp_in (nI 0) 1 from vp_in_nI (by omega) (by omega)) dL_variant_9 (fun H locs hW hS => ?_)
    rw [show (0 : Int32).toNatClampNeg = 0 from rfl] at hW
    obtain ⟨E1, eE1⟩ : ∃ z, z = xU Ec oa (.inl (G.2.1 1, 1, .inr (.inl (vp_updL f 0 r1.toInt64)))) := ⟨_, rfl⟩
    have hW : xW G E1 H := by rw [eE1]; exact hW
    have hoa19 : E1 oa = some (.inl (G.2.1 1, 1, .inr (.inl (vp_updL f 0 r1.toInt64)))) := by rw [eE1]; exact xU_self _ _ _
    refine lv_goto (tgt := 21) hx hb dL_variant_10 (by decide) ?_
    refine lv_iconst (v := 0) hx hb dL_variant_21 (by decide) ?_
    exact vx_ret (W.widen (k := 2) (n := 6) (Nat.le_of_ble_eq_true rfl) (Nat.le_of_ble_eq_true rfl) (W.iret (v := 0) hx hb hr (fun t ht hw => ⟨⟨_, E1, rfl, (Or.inl ⟨rfl, r1, Ec, hpost, by rw [eE1]⟩), (show xW G E1 t.heap from by rw [ht]; exact hW)⟩, hS.F ht⟩) hS.2.2 dL_variant_22))

def wX4_setCards (G : xG) (E : xE) (o : Nat) (a0 : Int32) (a1 : Int32) (ct vt gt : Nat) (tb vb gb : Nat → Option Nat) (sa : Nat → Nat) (nC nV nG : Nat) (σ : xSg) : Int32 → xE → Prop := fun r E' => tX4_setCards nC nV a0 a1 = 0 ∧ ∃ v : Nat, a0 = nI v ∧ v < nV ∧ r = σ 7 v ∧ xCls G E' o ct vt gt tb vb gb sa nC nV nG (sgU σ 7 v a1) ∧ xFr tC E E'
set_option maxHeartbeats 4000000 in
set_option maxRecDepth 100000 in
theorem kL_setCards (l : Launch) (hl9 : l.stackTraces = false) (G : xG) (E : xE) (o : Nat) (a0 : Int32) (a1 : Int32) (oa : Nat) (ct vt gt : Nat) (tb vb gb : Nat → Option Nat) (sa : Nat → Nat) (nC nV nG : Nat) (σ : xSg) (hCls : xCls G E o ct vt gt tb vb gb sa nC nV nG σ) (f : Nat → Int64) (hoa : E oa = some (.inl (G.2.1 1, 1, .inr (.inl f)))) : vx_Met l yL_setCards wsL_setCards ({ frames := 8, cells := 2, slots := 12, locals := 136 }) (va_Pc [.ref o, .int a0, .int a1, .ref oa] (xB2 G E)) (va_Qi (S := xE) (fun r E' => (r = 0 ∧ ∃ (r1 : Int32) (E1 : xE), wX4_setCards G E o a0 a1 ct vt gt tb vb gb sa nC nV nG σ r1 E1 ∧ E' = xU E1 oa (.inl (G.2.1 1, 1, .inr (.inl (vp_updL f 0 (r1.toInt64)))))) ∨ (((r = 1 ∧ tX4_setCards nC nV a0 a1 = 3) ∨ (r = 2 ∧ tX4_setCards nC nV a0 a1 = 1)) ∧ E' = E)) (fun E' t => xW G E' t.heap) (xA G)) (xX G E (fun _ => False)) 2 12 (xA G) := by
  refine vx_ofWH (cc := cL_setCards) (maxL := 5) (ret := (some .int)) (hh := [(0, 10, 13, 24), (0, 10, 17, 13)]) (by decide) rfl ?_
  intro p e s m args below meth c s₁ B hml hv
  obtain ⟨rfl, ⟨hX, hW⟩, hNc⟩ := hv
  have hx := B.exec
  have hb := B.bytes
  have hr := B.returns
  have hts := atoms_spec (ws := wsL_setCards) B.pre
  have hown : s.vm.findClass RL = some m.cls := findClass_of_methodNamed B.named
  have hht := vx_table (x := yL_setCards) B (hts _ List.mem_cons_self)
  have hS : va_S (xA G) s.heap s.heap [] := va_S.rf
  have hcl13 := hts (Cond.classLink RL 13 "java/lang/IllegalArgumentException") (by decide +kernel)
  have hcl24 := hts (Cond.classLink RL 24 "java/lang/IndexOutOfBoundsException") (by decide +kernel)
  have hl := lv_entry ([.ref o, .int a0, .int a1, .ref oa]) (n := 5) (Nat.le_of_ble_eq_true rfl)
  rw [lg_entry_eq]
  generalize (lg_sl ([.ref o, .int a0, .int a1, .ref oa]) ++ List.replicate (5 - (lg_sl ([.ref o, .int a0, .int a1, .ref oa])).length) Slot.unset).toArray = ls at hl ⊢
  have hl : lv_has ls 5 [(0, .ref o), (1, .int a0), (2, .int a1), (3, .ref oa)] := hl
  obtain ⟨H, hH⟩ : ∃ z, z = s.heap := ⟨_, rfl⟩
  rw [← hH] at hW
  have hS : va_S (xA G) s.heap H [] := by rw [hH]; exact hS
  rw [← hH]
  refine lv_aload_n hx hb dL_setCards_0 rfl (lv_at hl 3 rfl) ?_
  refine lv_iconst (v := 0) hx hb dL_setCards_1 (by decide) ?_
  refine lv_aload_n hx hb dL_setCards_2 rfl (lv_at hl 0 rfl) ?_
  refine lv_iload_n hx hb dL_setCards_3 rfl (lv_at hl 1 rfl) ?_
  refine lv_iload_n hx hb dL_setCards_4 rfl (lv_at hl 2 rfl) ?_
  refine vx_calli (vx_runV (As := [.int a0, .int a1]) (rest := [.int 0, .ref oa]) ⟨hx, hb, hml, hown, hts⟩ (kX4_setCards l hl9 G E o a0 a1 ct vt gt tb vb gb sa nC nV nG σ hCls) (cwV 2 hts gL_setCards_X4_setCards rfl rfl rfl (by decide +kernel) ⟨Nat.le_of_ble_eq_true rfl, Nat.le_of_ble_eq_true rfl⟩) (x_preV hX hS hW hCls.1 rfl) rfl rfl hl.1 rfl (lv_room (Nat.le_of_ble_eq_true rfl)) dL_setCards_5 ⟨Nat.le_of_ble_eq_true rfl, Nat.le_of_ble_eq_true rfl⟩) hS (fun _ _ h => h) (fun _ h => h) (fun _ _ h => h) (fun Ex ce q9 ux t H1 locs1 ht hvm hpx hB hz1 hk1 hS1 hce hcv hcl => ?_) (fun r1 Ec t H1 locs1 ht hvm hpost hB hz1 hk1 hS1 => ?_)
  · obtain ⟨hpx, hB⟩ := hB
    rw [ht] at hB
    have hW : xW G E H1 := hB
    have hS := hS1
    rcases hpx with ⟨h9, rfl⟩ | ⟨h9, rfl⟩ | ⟨h9, rfl⟩
    · refine vx_catch (E := "java/lang/IllegalArgumentException") (name := "java/lang/IllegalArgumentException") hown [⟨0, 10, 13, 24⟩] ⟨0, 10, 17, 13⟩ [] (hht.trans rfl) (fun z hz => by rcases List.mem_singleton.mp hz; exact Or.inr ⟨by decide, _, hcl24, hNc.2.1⟩) rfl (by decide) hcl13 (xBad_use (.castable "java/lang/IllegalArgumentException" "java/lang/IllegalArgumentException") (by decide +kernel) (hX.2.2.2.2.1 (.castable "java/lang/IllegalArgumentException" "java/lang/IllegalArgumentException") (by decide +kernel))) hce hcv hcl ?_
      refine lv_astore (lv' := [(4, .ref q9), (0, .ref o), (1, .int a0), (2, .int a1), (3, .ref oa)]) hx hb dL_setCards_17 hl (by decide) rfl (fun ls hl => ?_)
      refine lv_iconst (v := 2) hx hb dL_setCards_19 (by decide) ?_
      exact vx_ret (W.widen (k := 2) (n := 12) (Nat.le_of_ble_eq_true rfl) (Nat.le_of_ble_eq_true rfl) (W.iret (v := 2) hx hb hr (fun t ht hw => ⟨⟨_, E, rfl, (Or.inr ⟨(Or.inr ⟨rfl, h9⟩), rfl⟩), (show xW G E t.heap from by rw [ht]; exact hW)⟩, hS.F ht⟩) hS.2.2 dL_setCards_20))
    · exact absurd h9 (tX4_setCards_n2 )
    · refine vx_catch (E := "java/lang/IndexOutOfBoundsException") (name := "java/lang/IndexOutOfBoundsException") hown [] ⟨0, 10, 13, 24⟩ [⟨0, 10, 17, 13⟩] (hht.trans rfl) (fun z hz => nomatch hz) rfl (by decide) hcl24 (xBad_use (.castable "java/lang/IndexOutOfBoundsException" "java/lang/IndexOutOfBoundsException") (by decide +kernel) (hX.2.2.2.2.1 (.castable "java/lang/IndexOutOfBoundsException" "java/lang/IndexOutOfBoundsException") (by decide +kernel))) hce hcv hcl ?_
      refine lv_astore (lv' := [(4, .ref q9), (0, .ref o), (1, .int a0), (2, .int a1), (3, .ref oa)]) hx hb dL_setCards_13 hl (by decide) rfl (fun ls hl => ?_)
      refine lv_iconst (v := 1) hx hb dL_setCards_15 (by decide) ?_
      exact vx_ret (W.widen (k := 2) (n := 12) (Nat.le_of_ble_eq_true rfl) (Nat.le_of_ble_eq_true rfl) (W.iret (v := 1) hx hb hr (fun t ht hw => ⟨⟨_, E, rfl, (Or.inr ⟨(Or.inl ⟨rfl, h9⟩), rfl⟩), (show xW G E t.heap from by rw [ht]; exact hW)⟩, hS.F ht⟩) hS.2.2 dL_setCards_16))
  · rw [ht] at hB
    have hW : xW G Ec H1 := hB
    have hS := hS1
    have hoa1 : Ec oa = some (.inl (G.2.1 1, 1, .inr (.inl f))) := by obtain ⟨_, _, _, _, _, _, hf⟩ := hpost; exact hf _ _ hoa rfl
    refine lv_i2l (v := r1.toInt64) hx hb dL_setCards_8 rfl ?_
    refine x_last (G := G) hx hb hX.1 hW hS hoa1 (show vp_in (nI 0) 1 from vp_in_nI (by omega) (by omega)) dL_setCards_9 (fun H locs hW hS => ?_)
    rw [show (0 : Int32).toNatClampNeg = 0 from rfl] at hW
    obtain ⟨E1, eE1⟩ : ∃ z, z = xU Ec oa (.inl (G.2.1 1, 1, .inr (.inl (vp_updL f 0 r1.toInt64)))) := ⟨_, rfl⟩
    have hW : xW G E1 H := by rw [eE1]; exact hW
    have hoa19 : E1 oa = some (.inl (G.2.1 1, 1, .inr (.inl (vp_updL f 0 r1.toInt64)))) := by rw [eE1]; exact xU_self _ _ _
    refine lv_goto (tgt := 21) hx hb dL_setCards_10 (by decide) ?_
    refine lv_iconst (v := 0) hx hb dL_setCards_21 (by decide) ?_
    exact vx_ret (W.widen (k := 2) (n := 12) (Nat.le_of_ble_eq_true rfl) (Nat.le_of_ble_eq_true rfl) (W.iret (v := 0) hx hb hr (fun t ht hw => ⟨⟨_, E1, rfl, (Or.inl ⟨rfl, r1, Ec, hpost, by rw [eE1]⟩), (show xW G E1 t.heap from by rw [ht]; exact hW)⟩, hS.F ht⟩) hS.2.2 dL_setCards_22))

def wX4_begin (G : xG) (E : xE) (o : Nat) (a0 : Int32) (a1 : Int32) (a2 : Int32) (a3 : Int32) (a4 : Int32) (ct vt gt : Nat) (tb vb gb : Nat → Option Nat) (sa : Nat → Nat) (nC nV nG : Nat) (σ : xSg) : Int32 → xE → Prop := fun r E' => tX4_begin σ nC nV nG (a0.toNatClampNeg) a0 a1 a2 a3 a4 = 0 ∧ ∃ v : Nat, a0 = nI v ∧ v < nV ∧ r = nI nG ∧ nG < 12 ∧ ∃ q s : Nat, xCls G E' o ct vt gt tb vb (va_up gb nG (some q)) (va_up sa nG s) nC nV (nG + 1) (sgBegin σ nG v a1 a2 a3 a4) ∧ xFr tC E E'
set_option maxHeartbeats 4000000 in
set_option maxRecDepth 100000 in
theorem kL_begin (l : Launch) (hl9 : l.stackTraces = false) (G : xG) (E : xE) (o : Nat) (a0 : Int32) (a1 : Int32) (a2 : Int32) (a3 : Int32) (a4 : Int32) (oa : Nat) (ct vt gt : Nat) (tb vb gb : Nat → Option Nat) (sa : Nat → Nat) (nC nV nG : Nat) (σ : xSg) (hCls : xCls G E o ct vt gt tb vb gb sa nC nV nG σ) (f : Nat → Int64) (hoa : E oa = some (.inl (G.2.1 1, 1, .inr (.inl f)))) : vx_Met l yL_begin wsL_begin ({ frames := 8, cells := 5, slots := 88, locals := 140 }) (va_Pc [.ref o, .int a0, .int a1, .int a2, .int a3, .int a4, .ref oa] (xB2 G E)) (va_Qi (S := xE) (fun r E' => (r = 0 ∧ ∃ (r1 : Int32) (E1 : xE), wX4_begin G E o a0 a1 a2 a3 a4 ct vt gt tb vb gb sa nC nV nG σ r1 E1 ∧ E' = xU E1 oa (.inl (G.2.1 1, 1, .inr (.inl (vp_updL f 0 (r1.toInt64)))))) ∨ (((r = 1 ∧ tX4_begin σ nC nV nG (a0.toNatClampNeg) a0 a1 a2 a3 a4 = 3) ∨ (r = 2 ∧ tX4_begin σ nC nV nG (a0.toNatClampNeg) a0 a1 a2 a3 a4 = 1) ∨ (r = 3 ∧ tX4_begin σ nC nV nG (a0.toNatClampNeg) a0 a1 a2 a3 a4 = 2)) ∧ E' = E)) (fun E' t => xW G E' t.heap) (xA G)) (xX G E (fun _ => False)) 5 88 (xA G) := by
  refine vx_ofWH (cc := cL_begin) (maxL := 8) (ret := (some .int)) (hh := [(0, 16, 19, 24), (0, 16, 23, 13), (0, 16, 27, 15)]) (by decide) rfl ?_
  intro p e s m args below meth c s₁ B hml hv
  obtain ⟨rfl, ⟨hX, hW⟩, hNc⟩ := hv
  have hx := B.exec
  have hb := B.bytes
  have hr := B.returns
  have hts := atoms_spec (ws := wsL_begin) B.pre
  have hown : s.vm.findClass RL = some m.cls := findClass_of_methodNamed B.named
  have hht := vx_table (x := yL_begin) B (hts _ List.mem_cons_self)
  have hS : va_S (xA G) s.heap s.heap [] := va_S.rf
  have hcl13 := hts (Cond.classLink RL 13 "java/lang/IllegalArgumentException") (by decide +kernel)
  have hcl24 := hts (Cond.classLink RL 24 "java/lang/IndexOutOfBoundsException") (by decide +kernel)
  have hcl15 := hts (Cond.classLink RL 15 "java/lang/IllegalStateException") (by decide +kernel)
  have hl := lv_entry ([.ref o, .int a0, .int a1, .int a2, .int a3, .int a4, .ref oa]) (n := 8) (Nat.le_of_ble_eq_true rfl)
  rw [lg_entry_eq]
  generalize (lg_sl ([.ref o, .int a0, .int a1, .int a2, .int a3, .int a4, .ref oa]) ++ List.replicate (8 - (lg_sl ([.ref o, .int a0, .int a1, .int a2, .int a3, .int a4, .ref oa])).length) Slot.unset).toArray = ls at hl ⊢
  have hl : lv_has ls 8 [(0, .ref o), (1, .int a0), (2, .int a1), (3, .int a2), (4, .int a3), (5, .int a4), (6, .ref oa)] := hl
  obtain ⟨H, hH⟩ : ∃ z, z = s.heap := ⟨_, rfl⟩
  rw [← hH] at hW
  have hS : va_S (xA G) s.heap H [] := by rw [hH]; exact hS
  rw [← hH]
  refine lv_aload hx hb dL_begin_0 (lv_at hl 6 rfl) ?_
  refine lv_iconst (v := 0) hx hb dL_begin_2 (by decide) ?_
  refine lv_aload_n hx hb dL_begin_3 rfl (lv_at hl 0 rfl) ?_
  refine lv_iload_n hx hb dL_begin_4 rfl (lv_at hl 1 rfl) ?_
  refine lv_iload_n hx hb dL_begin_5 rfl (lv_at hl 2 rfl) ?_
  refine lv_iload_n hx hb dL_begin_6 rfl (lv_at hl 3 rfl) ?_
  refine lv_iload hx hb dL_begin_7 (lv_at hl 4 rfl) ?_
  refine lv_iload hx hb dL_begin_9 (lv_at hl 5 rfl) ?_
  refine vx_calli (vx_runV (As := [.int a0, .int a1, .int a2, .int a3, .int a4]) (rest := [.int 0, .ref oa]) ⟨hx, hb, hml, hown, hts⟩ (kX4_begin l hl9 G E o a0 a1 a2 a3 a4 ct vt gt tb vb gb sa nC nV nG σ hCls) (cwV 5 hts gL_begin_X4_begin rfl rfl rfl (by decide +kernel) ⟨Nat.le_of_ble_eq_true rfl, Nat.le_of_ble_eq_true rfl⟩) (x_preV hX hS hW hCls.1 rfl) rfl rfl hl.1 rfl (lv_room (Nat.le_of_ble_eq_true rfl)) dL_begin_11 ⟨Nat.le_of_ble_eq_true rfl, Nat.le_of_ble_eq_true rfl⟩) hS (fun _ _ h => h) (fun _ h => h) (fun _ _ h => h) (fun Ex ce q9 ux t H1 locs1 ht hvm hpx hB hz1 hk1 hS1 hce hcv hcl => ?_) (fun r1 Ec t H1 locs1 ht hvm hpost hB hz1 hk1 hS1 => ?_)
  · obtain ⟨hpx, hB⟩ := hB
    rw [ht] at hB
    have hW : xW G E H1 := hB
    have hS := hS1
    rcases hpx with ⟨h9, rfl⟩ | ⟨h9, rfl⟩ | ⟨h9, rfl⟩
    · refine vx_catch (E := "java/lang/IllegalArgumentException") (name := "java/lang/IllegalArgumentException") hown [⟨0, 16, 19, 24⟩] ⟨0, 16, 23, 13⟩ [⟨0, 16, 27, 15⟩] (hht.trans rfl) (fun z hz => by rcases List.mem_singleton.mp hz; exact Or.inr ⟨by decide, _, hcl24, hNc.2.1⟩) rfl (by decide) hcl13 (xBad_use (.castable "java/lang/IllegalArgumentException" "java/lang/IllegalArgumentException") (by decide +kernel) (hX.2.2.2.2.1 (.castable "java/lang/IllegalArgumentException" "java/lang/IllegalArgumentException") (by decide +kernel))) hce hcv hcl ?_
      refine lv_astore (lv' := [(7, .ref q9), (0, .ref o), (1, .int a0), (2, .int a1), (3, .int a2), (4, .int a3), (5, .int a4), (6, .ref oa)]) hx hb dL_begin_23 hl (by decide) rfl (fun ls hl => ?_)
      refine lv_iconst (v := 2) hx hb dL_begin_25 (by decide) ?_
      exact vx_ret (W.widen (k := 5) (n := 88) (Nat.le_of_ble_eq_true rfl) (Nat.le_of_ble_eq_true rfl) (W.iret (v := 2) hx hb hr (fun t ht hw => ⟨⟨_, E, rfl, (Or.inr ⟨(Or.inr (Or.inl ⟨rfl, h9⟩)), rfl⟩), (show xW G E t.heap from by rw [ht]; exact hW)⟩, hS.F ht⟩) hS.2.2 dL_begin_26))
    · refine vx_catch (E := "java/lang/IllegalStateException") (name := "java/lang/IllegalStateException") hown [⟨0, 16, 19, 24⟩, ⟨0, 16, 23, 13⟩] ⟨0, 16, 27, 15⟩ [] (hht.trans rfl) (fun z hz => by
        rcases List.mem_cons.mp hz with rfl | hz
        · exact Or.inr ⟨by decide, _, hcl24, hNc.2.2⟩
        · rcases List.mem_singleton.mp hz; exact Or.inr ⟨by decide, _, hcl13, hNc.1⟩) rfl (by decide) hcl15 (xBad_use (.castable "java/lang/IllegalStateException" "java/lang/IllegalStateException") (by decide +kernel) (hX.2.2.2.2.1 (.castable "java/lang/IllegalStateException" "java/lang/IllegalStateException") (by decide +kernel))) hce hcv hcl ?_
      refine lv_astore (lv' := [(7, .ref q9), (0, .ref o), (1, .int a0), (2, .int a1), (3, .int a2), (4, .int a3), (5, .int a4), (6, .ref oa)]) hx hb dL_begin_27 hl (by decide) rfl (fun ls hl => ?_)
      refine lv_iconst (v := 3) hx hb dL_begin_29 (by decide) ?_
      exact vx_ret (W.widen (k := 5) (n := 88) (Nat.le_of_ble_eq_true rfl) (Nat.le_of_ble_eq_true rfl) (W.iret (v := 3) hx hb hr (fun t ht hw => ⟨⟨_, E, rfl, (Or.inr ⟨(Or.inr (Or.inr ⟨rfl, h9⟩)), rfl⟩), (show xW G E t.heap from by rw [ht]; exact hW)⟩, hS.F ht⟩) hS.2.2 dL_begin_30))
    · refine vx_catch (E := "java/lang/IndexOutOfBoundsException") (name := "java/lang/IndexOutOfBoundsException") hown [] ⟨0, 16, 19, 24⟩ [⟨0, 16, 23, 13⟩, ⟨0, 16, 27, 15⟩] (hht.trans rfl) (fun z hz => nomatch hz) rfl (by decide) hcl24 (xBad_use (.castable "java/lang/IndexOutOfBoundsException" "java/lang/IndexOutOfBoundsException") (by decide +kernel) (hX.2.2.2.2.1 (.castable "java/lang/IndexOutOfBoundsException" "java/lang/IndexOutOfBoundsException") (by decide +kernel))) hce hcv hcl ?_
      refine lv_astore (lv' := [(7, .ref q9), (0, .ref o), (1, .int a0), (2, .int a1), (3, .int a2), (4, .int a3), (5, .int a4), (6, .ref oa)]) hx hb dL_begin_19 hl (by decide) rfl (fun ls hl => ?_)
      refine lv_iconst (v := 1) hx hb dL_begin_21 (by decide) ?_
      exact vx_ret (W.widen (k := 5) (n := 88) (Nat.le_of_ble_eq_true rfl) (Nat.le_of_ble_eq_true rfl) (W.iret (v := 1) hx hb hr (fun t ht hw => ⟨⟨_, E, rfl, (Or.inr ⟨(Or.inl ⟨rfl, h9⟩), rfl⟩), (show xW G E t.heap from by rw [ht]; exact hW)⟩, hS.F ht⟩) hS.2.2 dL_begin_22))
  · rw [ht] at hB
    have hW : xW G Ec H1 := hB
    have hS := hS1
    have hoa1 : Ec oa = some (.inl (G.2.1 1, 1, .inr (.inl f))) := by obtain ⟨_, _, _, _, _, _, _, _, _, hf⟩ := hpost; exact hf _ _ hoa rfl
    refine lv_i2l (v := r1.toInt64) hx hb dL_begin_14 rfl ?_
    refine x_last (G := G) hx hb hX.1 hW hS hoa1 (show vp_in (nI 0) 1 from vp_in_nI (by omega) (by omega)) dL_begin_15 (fun H locs hW hS => ?_)
    rw [show (0 : Int32).toNatClampNeg = 0 from rfl] at hW
    obtain ⟨E1, eE1⟩ : ∃ z, z = xU Ec oa (.inl (G.2.1 1, 1, .inr (.inl (vp_updL f 0 r1.toInt64)))) := ⟨_, rfl⟩
    have hW : xW G E1 H := by rw [eE1]; exact hW
    have hoa19 : E1 oa = some (.inl (G.2.1 1, 1, .inr (.inl (vp_updL f 0 r1.toInt64)))) := by rw [eE1]; exact xU_self _ _ _
    refine lv_goto (tgt := 31) hx hb dL_begin_16 (by decide) ?_
    refine lv_iconst (v := 0) hx hb dL_begin_31 (by decide) ?_
    exact vx_ret (W.widen (k := 5) (n := 88) (Nat.le_of_ble_eq_true rfl) (Nat.le_of_ble_eq_true rfl) (W.iret (v := 0) hx hb hr (fun t ht hw => ⟨⟨_, E1, rfl, (Or.inl ⟨rfl, r1, Ec, hpost, by rw [eE1]⟩), (show xW G E1 t.heap from by rw [ht]; exact hW)⟩, hS.F ht⟩) hS.2.2 dL_begin_32))

def wX4_can (G : xG) (E : xE) (o : Nat) (a0 : Int32) (a1 : Int32) (a2 : Int32) (ct vt gt : Nat) (tb vb gb : Nat → Option Nat) (sa : Nat → Nat) (nC nV nG : Nat) (σ : xSg) : Int32 → xE → Prop := fun r E' => tX4_can nG a0 a1 a2 = 0 ∧ E' = E ∧ ∃ u d v : Nat, a0 = nI u ∧ u < nG ∧ v < nV ∧ xGm σ u d v ∧ (σ 15 u = 0 → d < 60) ∧ r = zI (fX1_allows σ nC (σ 12 u) (σ 6 v) (σ 17 (61 * u + d)) (σ 18 (61 * u + d)) (nI d) (σ 15 u) a1 a2)
set_option maxHeartbeats 4000000 in
set_option maxRecDepth 100000 in
theorem kL_can (l : Launch) (hl9 : l.stackTraces = false) (G : xG) (E : xE) (o : Nat) (a0 : Int32) (a1 : Int32) (a2 : Int32) (oa : Nat) (ct vt gt : Nat) (tb vb gb : Nat → Option Nat) (sa : Nat → Nat) (nC nV nG : Nat) (σ : xSg) (hCls : xCls G E o ct vt gt tb vb gb sa nC nV nG σ) (f : Nat → Int64) (hoa : E oa = some (.inl (G.2.1 1, 1, .inr (.inl f)))) : vx_Met l yL_can wsL_can ({ frames := 8, cells := 3, slots := 18, locals := 136 }) (va_Pc [.ref o, .int a0, .int a1, .int a2, .ref oa] (xB2 G E)) (va_Qi (S := xE) (fun r E' => (r = 0 ∧ ∃ (r1 : Int32) (E1 : xE), wX4_can G E o a0 a1 a2 ct vt gt tb vb gb sa nC nV nG σ r1 E1 ∧ E' = xU E1 oa (.inl (G.2.1 1, 1, .inr (.inl (vp_updL f 0 ((if r1 = 0 then (0 : Int64) else 1))))))) ∨ ((r = 1 ∧ tX4_can nG a0 a1 a2 = 3) ∧ E' = E)) (fun E' t => xW G E' t.heap) (xA G)) (xX G E (fun _ => False)) 3 18 (xA G) := by
  refine vx_ofWH (cc := cL_can) (maxL := 6) (ret := (some .int)) (hh := [(0, 19, 22, 24)]) (by decide) rfl ?_
  intro p e s m args below meth c s₁ B hml hv
  obtain ⟨rfl, ⟨hX, hW⟩, hNc⟩ := hv
  have hx := B.exec
  have hb := B.bytes
  have hr := B.returns
  have hts := atoms_spec (ws := wsL_can) B.pre
  have hown : s.vm.findClass RL = some m.cls := findClass_of_methodNamed B.named
  have hht := vx_table (x := yL_can) B (hts _ List.mem_cons_self)
  have hS : va_S (xA G) s.heap s.heap [] := va_S.rf
  have hcl24 := hts (Cond.classLink RL 24 "java/lang/IndexOutOfBoundsException") (by decide +kernel)
  have hl := lv_entry ([.ref o, .int a0, .int a1, .int a2, .ref oa]) (n := 6) (Nat.le_of_ble_eq_true rfl)
  rw [lg_entry_eq]
  generalize (lg_sl ([.ref o, .int a0, .int a1, .int a2, .ref oa]) ++ List.replicate (6 - (lg_sl ([.ref o, .int a0, .int a1, .int a2, .ref oa])).length) Slot.unset).toArray = ls at hl ⊢
  have hl : lv_has ls 6 [(0, .ref o), (1, .int a0), (2, .int a1), (3, .int a2), (4, .ref oa)] := hl
  obtain ⟨H, hH⟩ : ∃ z, z = s.heap := ⟨_, rfl⟩
  rw [← hH] at hW
  have hS : va_S (xA G) s.heap H [] := by rw [hH]; exact hS
  rw [← hH]
  refine lv_aload hx hb dL_can_0 (lv_at hl 4 rfl) ?_
  refine lv_iconst (v := 0) hx hb dL_can_2 (by decide) ?_
  refine lv_aload_n hx hb dL_can_3 rfl (lv_at hl 0 rfl) ?_
  refine lv_iload_n hx hb dL_can_4 rfl (lv_at hl 1 rfl) ?_
  refine lv_iload_n hx hb dL_can_5 rfl (lv_at hl 2 rfl) ?_
  refine lv_iload_n hx hb dL_can_6 rfl (lv_at hl 3 rfl) ?_
  refine vx_calli (vx_runV (As := [.int a0, .int a1, .int a2]) (rest := [.int 0, .ref oa]) ⟨hx, hb, hml, hown, hts⟩ (kX4_can l hl9 G E o a0 a1 a2 ct vt gt tb vb gb sa nC nV nG σ hCls) (cwV 3 hts gL_can_X4_can rfl rfl rfl (by decide +kernel) ⟨Nat.le_of_ble_eq_true rfl, Nat.le_of_ble_eq_true rfl⟩) (x_preV hX hS hW hCls.1 rfl) rfl rfl hl.1 rfl (lv_room (Nat.le_of_ble_eq_true rfl)) dL_can_7 ⟨Nat.le_of_ble_eq_true rfl, Nat.le_of_ble_eq_true rfl⟩) hS (fun _ _ h => h) (fun _ h => h) (fun _ _ h => h) (fun Ex ce q9 ux t H1 locs1 ht hvm hpx hB hz1 hk1 hS1 hce hcv hcl => ?_) (fun r1 Ec t H1 locs1 ht hvm hpost hB hz1 hk1 hS1 => ?_)
  · obtain ⟨hpx, hB⟩ := hB
    rw [ht] at hB
    have hW : xW G E H1 := hB
    have hS := hS1
    rcases hpx with ⟨h9, rfl⟩ | ⟨h9, rfl⟩ | ⟨h9, rfl⟩
    · exact absurd h9 (tX4_can_n1 )
    · exact absurd h9 (tX4_can_n2 )
    · refine vx_catch (E := "java/lang/IndexOutOfBoundsException") (name := "java/lang/IndexOutOfBoundsException") hown [] ⟨0, 19, 22, 24⟩ [] (hht.trans rfl) (fun z hz => nomatch hz) rfl (by decide) hcl24 (xBad_use (.castable "java/lang/IndexOutOfBoundsException" "java/lang/IndexOutOfBoundsException") (by decide +kernel) (hX.2.2.2.2.1 (.castable "java/lang/IndexOutOfBoundsException" "java/lang/IndexOutOfBoundsException") (by decide +kernel))) hce hcv hcl ?_
      refine lv_astore (lv' := [(5, .ref q9), (0, .ref o), (1, .int a0), (2, .int a1), (3, .int a2), (4, .ref oa)]) hx hb dL_can_22 hl (by decide) rfl (fun ls hl => ?_)
      refine lv_iconst (v := 1) hx hb dL_can_24 (by decide) ?_
      exact vx_ret (W.widen (k := 3) (n := 18) (Nat.le_of_ble_eq_true rfl) (Nat.le_of_ble_eq_true rfl) (W.iret (v := 1) hx hb hr (fun t ht hw => ⟨⟨_, E, rfl, (Or.inr ⟨⟨rfl, h9⟩, rfl⟩), (show xW G E t.heap from by rw [ht]; exact hW)⟩, hS.F ht⟩) hS.2.2 dL_can_25))
  · rw [ht] at hB
    have hW : xW G Ec H1 := hB
    have hS := hS1
    have hoa1 : Ec oa = some (.inl (G.2.1 1, 1, .inr (.inl f))) := by rw [hpost.2.1]; exact hoa
    refine lv_if_eq (tgt := 17) hx hb dL_can_10 (by decide) (fun c1 => ?_) (fun c1 => ?_)
    · refine lv_lconst (v := 0) hx hb dL_can_17 (by decide) ?_
      refine x_last (G := G) hx hb hX.1 hW hS hoa1 (show vp_in (nI 0) 1 from vp_in_nI (by omega) (by omega)) dL_can_18 (fun H locs hW hS => ?_)
      rw [show (0 : Int32).toNatClampNeg = 0 from rfl] at hW
      obtain ⟨E1, eE1⟩ : ∃ z, z = xU Ec oa (.inl (G.2.1 1, 1, .inr (.inl (vp_updL f 0 0)))) := ⟨_, rfl⟩
      have hW : xW G E1 H := by rw [eE1]; exact hW
      have hoa19 : E1 oa = some (.inl (G.2.1 1, 1, .inr (.inl (vp_updL f 0 0)))) := by rw [eE1]; exact xU_self _ _ _
      refine lv_goto (tgt := 26) hx hb dL_can_19 (by decide) ?_
      refine lv_iconst (v := 0) hx hb dL_can_26 (by decide) ?_
      exact vx_ret (W.widen (k := 3) (n := 18) (Nat.le_of_ble_eq_true rfl) (Nat.le_of_ble_eq_true rfl) (W.iret (v := 0) hx hb hr (fun t ht hw => ⟨⟨_, E1, rfl, (Or.inl ⟨rfl, r1, Ec, hpost, by rw [eE1]; rw [if_pos c1]⟩), (show xW G E1 t.heap from by rw [ht]; exact hW)⟩, hS.F ht⟩) hS.2.2 dL_can_27))
    · refine lv_lconst (v := 1) hx hb dL_can_13 (by decide) ?_
      refine lv_goto (tgt := 18) hx hb dL_can_14 (by decide) ?_
      refine x_last (G := G) hx hb hX.1 hW hS hoa1 (show vp_in (nI 0) 1 from vp_in_nI (by omega) (by omega)) dL_can_18 (fun H locs hW hS => ?_)
      rw [show (0 : Int32).toNatClampNeg = 0 from rfl] at hW
      obtain ⟨E2, eE2⟩ : ∃ z, z = xU Ec oa (.inl (G.2.1 1, 1, .inr (.inl (vp_updL f 0 1)))) := ⟨_, rfl⟩
      have hW : xW G E2 H := by rw [eE2]; exact hW
      have hoa19 : E2 oa = some (.inl (G.2.1 1, 1, .inr (.inl (vp_updL f 0 1)))) := by rw [eE2]; exact xU_self _ _ _
      refine lv_goto (tgt := 26) hx hb dL_can_19 (by decide) ?_
      refine lv_iconst (v := 0) hx hb dL_can_26 (by decide) ?_
      exact vx_ret (W.widen (k := 3) (n := 18) (Nat.le_of_ble_eq_true rfl) (Nat.le_of_ble_eq_true rfl) (W.iret (v := 0) hx hb hr (fun t ht hw => ⟨⟨_, E2, rfl, (Or.inl ⟨rfl, r1, Ec, hpost, by rw [eE2]; rw [if_neg c1]⟩), (show xW G E2 t.heap from by rw [ht]; exact hW)⟩, hS.F ht⟩) hS.2.2 dL_can_27))

def wX4_canByAll (G : xG) (E : xE) (o : Nat) (a0 : Int32) (a1 : Int32) (a2 : Int32) (ct vt gt : Nat) (tb vb gb : Nat → Option Nat) (sa : Nat → Nat) (nC nV nG : Nat) (σ : xSg) : Int32 → xE → Prop := fun r E' => tX4_canByAll nG a0 a1 a2 = 0 ∧ E' = E ∧ ∃ u d v : Nat, a0 = nI u ∧ u < nG ∧ v < nV ∧ xGm σ u d v ∧ (σ 15 u = 0 → d < 60) ∧ r = zI (fcanBy (σ 15 u) (fX4_isAmongAllMoves σ nC (σ 12 u) (σ 6 v) (σ 17 (61 * u + d)) (σ 18 (61 * u + d)) (nI d) a1 a2))
set_option maxHeartbeats 4000000 in
set_option maxRecDepth 100000 in
theorem kL_canByAll (l : Launch) (hl9 : l.stackTraces = false) (G : xG) (E : xE) (o : Nat) (a0 : Int32) (a1 : Int32) (a2 : Int32) (oa : Nat) (ct vt gt : Nat) (tb vb gb : Nat → Option Nat) (sa : Nat → Nat) (nC nV nG : Nat) (σ : xSg) (hCls : xCls G E o ct vt gt tb vb gb sa nC nV nG σ) (f : Nat → Int64) (hoa : E oa = some (.inl (G.2.1 1, 1, .inr (.inl f)))) : vx_Met l yL_canByAll wsL_canByAll ({ frames := 8, cells := 3, slots := 18, locals := 136 }) (va_Pc [.ref o, .int a0, .int a1, .int a2, .ref oa] (xB2 G E)) (va_Qi (S := xE) (fun r E' => (r = 0 ∧ ∃ (r1 : Int32) (E1 : xE), wX4_canByAll G E o a0 a1 a2 ct vt gt tb vb gb sa nC nV nG σ r1 E1 ∧ E' = xU E1 oa (.inl (G.2.1 1, 1, .inr (.inl (vp_updL f 0 ((if r1 = 0 then (0 : Int64) else 1))))))) ∨ ((r = 1 ∧ tX4_canByAll nG a0 a1 a2 = 3) ∧ E' = E)) (fun E' t => xW G E' t.heap) (xA G)) (xX G E (fun _ => False)) 3 18 (xA G) := by
  refine vx_ofWH (cc := cL_canByAll) (maxL := 6) (ret := (some .int)) (hh := [(0, 19, 22, 24)]) (by decide) rfl ?_
  intro p e s m args below meth c s₁ B hml hv
  obtain ⟨rfl, ⟨hX, hW⟩, hNc⟩ := hv
  have hx := B.exec
  have hb := B.bytes
  have hr := B.returns
  have hts := atoms_spec (ws := wsL_canByAll) B.pre
  have hown : s.vm.findClass RL = some m.cls := findClass_of_methodNamed B.named
  have hht := vx_table (x := yL_canByAll) B (hts _ List.mem_cons_self)
  have hS : va_S (xA G) s.heap s.heap [] := va_S.rf
  have hcl24 := hts (Cond.classLink RL 24 "java/lang/IndexOutOfBoundsException") (by decide +kernel)
  have hl := lv_entry ([.ref o, .int a0, .int a1, .int a2, .ref oa]) (n := 6) (Nat.le_of_ble_eq_true rfl)
  rw [lg_entry_eq]
  generalize (lg_sl ([.ref o, .int a0, .int a1, .int a2, .ref oa]) ++ List.replicate (6 - (lg_sl ([.ref o, .int a0, .int a1, .int a2, .ref oa])).length) Slot.unset).toArray = ls at hl ⊢
  have hl : lv_has ls 6 [(0, .ref o), (1, .int a0), (2, .int a1), (3, .int a2), (4, .ref oa)] := hl
  obtain ⟨H, hH⟩ : ∃ z, z = s.heap := ⟨_, rfl⟩
  rw [← hH] at hW
  have hS : va_S (xA G) s.heap H [] := by rw [hH]; exact hS
  rw [← hH]
  refine lv_aload hx hb dL_canByAll_0 (lv_at hl 4 rfl) ?_
  refine lv_iconst (v := 0) hx hb dL_canByAll_2 (by decide) ?_
  refine lv_aload_n hx hb dL_canByAll_3 rfl (lv_at hl 0 rfl) ?_
  refine lv_iload_n hx hb dL_canByAll_4 rfl (lv_at hl 1 rfl) ?_
  refine lv_iload_n hx hb dL_canByAll_5 rfl (lv_at hl 2 rfl) ?_
  refine lv_iload_n hx hb dL_canByAll_6 rfl (lv_at hl 3 rfl) ?_
  refine vx_calli (vx_runV (As := [.int a0, .int a1, .int a2]) (rest := [.int 0, .ref oa]) ⟨hx, hb, hml, hown, hts⟩ (kX4_canByAll l hl9 G E o a0 a1 a2 ct vt gt tb vb gb sa nC nV nG σ hCls) (cwV 3 hts gL_canByAll_X4_canByAll rfl rfl rfl (by decide +kernel) ⟨Nat.le_of_ble_eq_true rfl, Nat.le_of_ble_eq_true rfl⟩) (x_preV hX hS hW hCls.1 rfl) rfl rfl hl.1 rfl (lv_room (Nat.le_of_ble_eq_true rfl)) dL_canByAll_7 ⟨Nat.le_of_ble_eq_true rfl, Nat.le_of_ble_eq_true rfl⟩) hS (fun _ _ h => h) (fun _ h => h) (fun _ _ h => h) (fun Ex ce q9 ux t H1 locs1 ht hvm hpx hB hz1 hk1 hS1 hce hcv hcl => ?_) (fun r1 Ec t H1 locs1 ht hvm hpost hB hz1 hk1 hS1 => ?_)
  · obtain ⟨hpx, hB⟩ := hB
    rw [ht] at hB
    have hW : xW G E H1 := hB
    have hS := hS1
    rcases hpx with ⟨h9, rfl⟩ | ⟨h9, rfl⟩ | ⟨h9, rfl⟩
    · exact absurd h9 (tX4_canByAll_n1 )
    · exact absurd h9 (tX4_canByAll_n2 )
    · refine vx_catch (E := "java/lang/IndexOutOfBoundsException") (name := "java/lang/IndexOutOfBoundsException") hown [] ⟨0, 19, 22, 24⟩ [] (hht.trans rfl) (fun z hz => nomatch hz) rfl (by decide) hcl24 (xBad_use (.castable "java/lang/IndexOutOfBoundsException" "java/lang/IndexOutOfBoundsException") (by decide +kernel) (hX.2.2.2.2.1 (.castable "java/lang/IndexOutOfBoundsException" "java/lang/IndexOutOfBoundsException") (by decide +kernel))) hce hcv hcl ?_
      refine lv_astore (lv' := [(5, .ref q9), (0, .ref o), (1, .int a0), (2, .int a1), (3, .int a2), (4, .ref oa)]) hx hb dL_canByAll_22 hl (by decide) rfl (fun ls hl => ?_)
      refine lv_iconst (v := 1) hx hb dL_canByAll_24 (by decide) ?_
      exact vx_ret (W.widen (k := 3) (n := 18) (Nat.le_of_ble_eq_true rfl) (Nat.le_of_ble_eq_true rfl) (W.iret (v := 1) hx hb hr (fun t ht hw => ⟨⟨_, E, rfl, (Or.inr ⟨⟨rfl, h9⟩, rfl⟩), (show xW G E t.heap from by rw [ht]; exact hW)⟩, hS.F ht⟩) hS.2.2 dL_canByAll_25))
  · rw [ht] at hB
    have hW : xW G Ec H1 := hB
    have hS := hS1
    have hoa1 : Ec oa = some (.inl (G.2.1 1, 1, .inr (.inl f))) := by rw [hpost.2.1]; exact hoa
    refine lv_if_eq (tgt := 17) hx hb dL_canByAll_10 (by decide) (fun c1 => ?_) (fun c1 => ?_)
    · refine lv_lconst (v := 0) hx hb dL_canByAll_17 (by decide) ?_
      refine x_last (G := G) hx hb hX.1 hW hS hoa1 (show vp_in (nI 0) 1 from vp_in_nI (by omega) (by omega)) dL_canByAll_18 (fun H locs hW hS => ?_)
      rw [show (0 : Int32).toNatClampNeg = 0 from rfl] at hW
      obtain ⟨E1, eE1⟩ : ∃ z, z = xU Ec oa (.inl (G.2.1 1, 1, .inr (.inl (vp_updL f 0 0)))) := ⟨_, rfl⟩
      have hW : xW G E1 H := by rw [eE1]; exact hW
      have hoa19 : E1 oa = some (.inl (G.2.1 1, 1, .inr (.inl (vp_updL f 0 0)))) := by rw [eE1]; exact xU_self _ _ _
      refine lv_goto (tgt := 26) hx hb dL_canByAll_19 (by decide) ?_
      refine lv_iconst (v := 0) hx hb dL_canByAll_26 (by decide) ?_
      exact vx_ret (W.widen (k := 3) (n := 18) (Nat.le_of_ble_eq_true rfl) (Nat.le_of_ble_eq_true rfl) (W.iret (v := 0) hx hb hr (fun t ht hw => ⟨⟨_, E1, rfl, (Or.inl ⟨rfl, r1, Ec, hpost, by rw [eE1]; rw [if_pos c1]⟩), (show xW G E1 t.heap from by rw [ht]; exact hW)⟩, hS.F ht⟩) hS.2.2 dL_canByAll_27))
    · refine lv_lconst (v := 1) hx hb dL_canByAll_13 (by decide) ?_
      refine lv_goto (tgt := 18) hx hb dL_canByAll_14 (by decide) ?_
      refine x_last (G := G) hx hb hX.1 hW hS hoa1 (show vp_in (nI 0) 1 from vp_in_nI (by omega) (by omega)) dL_canByAll_18 (fun H locs hW hS => ?_)
      rw [show (0 : Int32).toNatClampNeg = 0 from rfl] at hW
      obtain ⟨E2, eE2⟩ : ∃ z, z = xU Ec oa (.inl (G.2.1 1, 1, .inr (.inl (vp_updL f 0 1)))) := ⟨_, rfl⟩
      have hW : xW G E2 H := by rw [eE2]; exact hW
      have hoa19 : E2 oa = some (.inl (G.2.1 1, 1, .inr (.inl (vp_updL f 0 1)))) := by rw [eE2]; exact xU_self _ _ _
      refine lv_goto (tgt := 26) hx hb dL_canByAll_19 (by decide) ?_
      refine lv_iconst (v := 0) hx hb dL_canByAll_26 (by decide) ?_
      exact vx_ret (W.widen (k := 3) (n := 18) (Nat.le_of_ble_eq_true rfl) (Nat.le_of_ble_eq_true rfl) (W.iret (v := 0) hx hb hr (fun t ht hw => ⟨⟨_, E2, rfl, (Or.inl ⟨rfl, r1, Ec, hpost, by rw [eE2]; rw [if_neg c1]⟩), (show xW G E2 t.heap from by rw [ht]; exact hW)⟩, hS.F ht⟩) hS.2.2 dL_canByAll_27))

def wX4_move (G : xG) (E : xE) (o : Nat) (a0 : Int32) (a1 : Int32) (a2 : Int32) (ct vt gt : Nat) (tb vb gb : Nat → Option Nat) (sa : Nat → Nat) (nC nV nG : Nat) (σ : xSg) : Int32 → xE → Prop := fun r E' => tX4_move σ nC nG (a0.toNatClampNeg) ((σ 16 a0.toNatClampNeg).toNatClampNeg) ((σ 11 a0.toNatClampNeg).toNatClampNeg) a0 a1 a2 = 0 ∧ ∃ (u d v : Nat) (sq : Nat → Int64), a0 = nI u ∧ u < nG ∧ v < nV ∧ xGm σ u d v ∧ d < 60 ∧ (∀ j, j ≤ d → sq j = fX1_placing (σ 17 (61 * u + j)) (σ 18 (61 * u + j)) (fX1_isSecondToMove (nI j))) ∧ r = (fX1_settle σ nC (σ 12 u) (σ 6 v) (goA (σ 17 (61 * u + d)) (σ 18 (61 * u + d)) d a1 a2) (goB (σ 17 (61 * u + d)) (σ 18 (61 * u + d)) d a1 a2) (nI (d + 1)) (σ 15 u) (σ 9 v) (vp_updL sq (d + 1) (fX1_placing (goA (σ 17 (61 * u + d)) (σ 18 (61 * u + d)) d a1 a2) (goB (σ 17 (61 * u + d)) (σ 18 (61 * u + d)) d a1 a2) (fX1_isSecondToMove (nI (d + 1)))))).1 ∧ xCls G E' o ct vt gt tb vb gb sa nC nV nG (sgMove σ u d v (goA (σ 17 (61 * u + d)) (σ 18 (61 * u + d)) d a1 a2) (goB (σ 17 (61 * u + d)) (σ 18 (61 * u + d)) d a1 a2) (fX1_settle σ nC (σ 12 u) (σ 6 v) (goA (σ 17 (61 * u + d)) (σ 18 (61 * u + d)) d a1 a2) (goB (σ 17 (61 * u + d)) (σ 18 (61 * u + d)) d a1 a2) (nI (d + 1)) (σ 15 u) (σ 9 v) (vp_updL sq (d + 1) (fX1_placing (goA (σ 17 (61 * u + d)) (σ 18 (61 * u + d)) d a1 a2) (goB (σ 17 (61 * u + d)) (σ 18 (61 * u + d)) d a1 a2) (fX1_isSecondToMove (nI (d + 1)))))).1 (fX1_settle σ nC (σ 12 u) (σ 6 v) (goA (σ 17 (61 * u + d)) (σ 18 (61 * u + d)) d a1 a2) (goB (σ 17 (61 * u + d)) (σ 18 (61 * u + d)) d a1 a2) (nI (d + 1)) (σ 15 u) (σ 9 v) (vp_updL sq (d + 1) (fX1_placing (goA (σ 17 (61 * u + d)) (σ 18 (61 * u + d)) d a1 a2) (goB (σ 17 (61 * u + d)) (σ 18 (61 * u + d)) d a1 a2) (fX1_isSecondToMove (nI (d + 1)))))).2) ∧ xFr tC E E'
set_option maxHeartbeats 4000000 in
set_option maxRecDepth 100000 in
theorem kL_move (l : Launch) (hl9 : l.stackTraces = false) (G : xG) (E : xE) (o : Nat) (a0 : Int32) (a1 : Int32) (a2 : Int32) (oa : Nat) (ct vt gt : Nat) (tb vb gb : Nat → Option Nat) (sa : Nat → Nat) (nC nV nG : Nat) (σ : xSg) (hCls : xCls G E o ct vt gt tb vb gb sa nC nV nG σ) (f : Nat → Int64) (hoa : E oa = some (.inl (G.2.1 1, 1, .inr (.inl f)))) : vx_Met l yL_move wsL_move ({ frames := 8, cells := 4, slots := 24, locals := 149 }) (va_Pc [.ref o, .int a0, .int a1, .int a2, .ref oa] (xB2 G E)) (va_Qi (S := xE) (fun r E' => (r = 0 ∧ ∃ (r1 : Int32) (E1 : xE), wX4_move G E o a0 a1 a2 ct vt gt tb vb gb sa nC nV nG σ r1 E1 ∧ E' = xU E1 oa (.inl (G.2.1 1, 1, .inr (.inl (vp_updL f 0 (r1.toInt64)))))) ∨ (((r = 1 ∧ tX4_move σ nC nG (a0.toNatClampNeg) ((σ 16 a0.toNatClampNeg).toNatClampNeg) ((σ 11 a0.toNatClampNeg).toNatClampNeg) a0 a1 a2 = 3) ∨ (r = 2 ∧ tX4_move σ nC nG (a0.toNatClampNeg) ((σ 16 a0.toNatClampNeg).toNatClampNeg) ((σ 11 a0.toNatClampNeg).toNatClampNeg) a0 a1 a2 = 2)) ∧ E' = E)) (fun E' t => xW G E' t.heap) (xA G)) (xX G E (fun _ => False)) 4 24 (xA G) := by
  refine vx_ofWH (cc := cL_move) (maxL := 6) (ret := (some .int)) (hh := [(0, 12, 15, 24), (0, 12, 19, 15)]) (by decide) rfl ?_
  intro p e s m args below meth c s₁ B hml hv
  obtain ⟨rfl, ⟨hX, hW⟩, hNc⟩ := hv
  have hx := B.exec
  have hb := B.bytes
  have hr := B.returns
  have hts := atoms_spec (ws := wsL_move) B.pre
  have hown : s.vm.findClass RL = some m.cls := findClass_of_methodNamed B.named
  have hht := vx_table (x := yL_move) B (hts _ List.mem_cons_self)
  have hS : va_S (xA G) s.heap s.heap [] := va_S.rf
  have hcl15 := hts (Cond.classLink RL 15 "java/lang/IllegalStateException") (by decide +kernel)
  have hcl24 := hts (Cond.classLink RL 24 "java/lang/IndexOutOfBoundsException") (by decide +kernel)
  have hl := lv_entry ([.ref o, .int a0, .int a1, .int a2, .ref oa]) (n := 6) (Nat.le_of_ble_eq_true rfl)
  rw [lg_entry_eq]
  generalize (lg_sl ([.ref o, .int a0, .int a1, .int a2, .ref oa]) ++ List.replicate (6 - (lg_sl ([.ref o, .int a0, .int a1, .int a2, .ref oa])).length) Slot.unset).toArray = ls at hl ⊢
  have hl : lv_has ls 6 [(0, .ref o), (1, .int a0), (2, .int a1), (3, .int a2), (4, .ref oa)] := hl
  obtain ⟨H, hH⟩ : ∃ z, z = s.heap := ⟨_, rfl⟩
  rw [← hH] at hW
  have hS : va_S (xA G) s.heap H [] := by rw [hH]; exact hS
  rw [← hH]
  refine lv_aload hx hb dL_move_0 (lv_at hl 4 rfl) ?_
  refine lv_iconst (v := 0) hx hb dL_move_2 (by decide) ?_
  refine lv_aload_n hx hb dL_move_3 rfl (lv_at hl 0 rfl) ?_
  refine lv_iload_n hx hb dL_move_4 rfl (lv_at hl 1 rfl) ?_
  refine lv_iload_n hx hb dL_move_5 rfl (lv_at hl 2 rfl) ?_
  refine lv_iload_n hx hb dL_move_6 rfl (lv_at hl 3 rfl) ?_
  refine vx_calli (vx_runV (As := [.int a0, .int a1, .int a2]) (rest := [.int 0, .ref oa]) ⟨hx, hb, hml, hown, hts⟩ (kX4_move l hl9 G E o a0 a1 a2 ct vt gt tb vb gb sa nC nV nG σ hCls) (cwV 3 hts gL_move_X4_move rfl rfl rfl (by decide +kernel) ⟨Nat.le_of_ble_eq_true rfl, Nat.le_of_ble_eq_true rfl⟩) (x_preV hX hS hW hCls.1 rfl) rfl rfl hl.1 rfl (lv_room (Nat.le_of_ble_eq_true rfl)) dL_move_7 ⟨Nat.le_of_ble_eq_true rfl, Nat.le_of_ble_eq_true rfl⟩) hS (fun _ _ h => h) (fun _ h => h) (fun _ _ h => h) (fun Ex ce q9 ux t H1 locs1 ht hvm hpx hB hz1 hk1 hS1 hce hcv hcl => ?_) (fun r1 Ec t H1 locs1 ht hvm hpost hB hz1 hk1 hS1 => ?_)
  · obtain ⟨hpx, hB⟩ := hB
    rw [ht] at hB
    have hW : xW G E H1 := hB
    have hS := hS1
    rcases hpx with ⟨h9, rfl⟩ | ⟨h9, rfl⟩ | ⟨h9, rfl⟩
    · exact absurd h9 (tX4_move_n1 )
    · refine vx_catch (E := "java/lang/IllegalStateException") (name := "java/lang/IllegalStateException") hown [⟨0, 12, 15, 24⟩] ⟨0, 12, 19, 15⟩ [] (hht.trans rfl) (fun z hz => by rcases List.mem_singleton.mp hz; exact Or.inr ⟨by decide, _, hcl24, hNc.2.2⟩) rfl (by decide) hcl15 (xBad_use (.castable "java/lang/IllegalStateException" "java/lang/IllegalStateException") (by decide +kernel) (hX.2.2.2.2.1 (.castable "java/lang/IllegalStateException" "java/lang/IllegalStateException") (by decide +kernel))) hce hcv hcl ?_
      refine lv_astore (lv' := [(5, .ref q9), (0, .ref o), (1, .int a0), (2, .int a1), (3, .int a2), (4, .ref oa)]) hx hb dL_move_19 hl (by decide) rfl (fun ls hl => ?_)
      refine lv_iconst (v := 2) hx hb dL_move_21 (by decide) ?_
      exact vx_ret (W.widen (k := 4) (n := 24) (Nat.le_of_ble_eq_true rfl) (Nat.le_of_ble_eq_true rfl) (W.iret (v := 2) hx hb hr (fun t ht hw => ⟨⟨_, E, rfl, (Or.inr ⟨(Or.inr ⟨rfl, h9⟩), rfl⟩), (show xW G E t.heap from by rw [ht]; exact hW)⟩, hS.F ht⟩) hS.2.2 dL_move_22))
    · refine vx_catch (E := "java/lang/IndexOutOfBoundsException") (name := "java/lang/IndexOutOfBoundsException") hown [] ⟨0, 12, 15, 24⟩ [⟨0, 12, 19, 15⟩] (hht.trans rfl) (fun z hz => nomatch hz) rfl (by decide) hcl24 (xBad_use (.castable "java/lang/IndexOutOfBoundsException" "java/lang/IndexOutOfBoundsException") (by decide +kernel) (hX.2.2.2.2.1 (.castable "java/lang/IndexOutOfBoundsException" "java/lang/IndexOutOfBoundsException") (by decide +kernel))) hce hcv hcl ?_
      refine lv_astore (lv' := [(5, .ref q9), (0, .ref o), (1, .int a0), (2, .int a1), (3, .int a2), (4, .ref oa)]) hx hb dL_move_15 hl (by decide) rfl (fun ls hl => ?_)
      refine lv_iconst (v := 1) hx hb dL_move_17 (by decide) ?_
      exact vx_ret (W.widen (k := 4) (n := 24) (Nat.le_of_ble_eq_true rfl) (Nat.le_of_ble_eq_true rfl) (W.iret (v := 1) hx hb hr (fun t ht hw => ⟨⟨_, E, rfl, (Or.inr ⟨(Or.inl ⟨rfl, h9⟩), rfl⟩), (show xW G E t.heap from by rw [ht]; exact hW)⟩, hS.F ht⟩) hS.2.2 dL_move_18))
  · rw [ht] at hB
    have hW : xW G Ec H1 := hB
    have hS := hS1
    have hoa1 : Ec oa = some (.inl (G.2.1 1, 1, .inr (.inl f))) := by obtain ⟨_, _, _, _, _, _, _, _, _, _, _, _, _, hf⟩ := hpost; exact hf _ _ hoa rfl
    refine lv_i2l (v := r1.toInt64) hx hb dL_move_10 rfl ?_
    refine x_last (G := G) hx hb hX.1 hW hS hoa1 (show vp_in (nI 0) 1 from vp_in_nI (by omega) (by omega)) dL_move_11 (fun H locs hW hS => ?_)
    rw [show (0 : Int32).toNatClampNeg = 0 from rfl] at hW
    obtain ⟨E1, eE1⟩ : ∃ z, z = xU Ec oa (.inl (G.2.1 1, 1, .inr (.inl (vp_updL f 0 r1.toInt64)))) := ⟨_, rfl⟩
    have hW : xW G E1 H := by rw [eE1]; exact hW
    have hoa19 : E1 oa = some (.inl (G.2.1 1, 1, .inr (.inl (vp_updL f 0 r1.toInt64)))) := by rw [eE1]; exact xU_self _ _ _
    refine lv_goto (tgt := 23) hx hb dL_move_12 (by decide) ?_
    refine lv_iconst (v := 0) hx hb dL_move_23 (by decide) ?_
    exact vx_ret (W.widen (k := 4) (n := 24) (Nat.le_of_ble_eq_true rfl) (Nat.le_of_ble_eq_true rfl) (W.iret (v := 0) hx hb hr (fun t ht hw => ⟨⟨_, E1, rfl, (Or.inl ⟨rfl, r1, Ec, hpost, by rw [eE1]⟩), (show xW G E1 t.heap from by rw [ht]; exact hW)⟩, hS.F ht⟩) hS.2.2 dL_move_24))

def wX4_state (G : xG) (E : xE) (o : Nat) (a0 : Int32) (ct vt gt : Nat) (tb vb gb : Nat → Option Nat) (sa : Nat → Nat) (nC nV nG : Nat) (σ : xSg) : Int32 → xE → Prop := fun r E' => tX4_state nG a0 = 0 ∧ E' = E ∧ ∃ u d v : Nat, a0 = nI u ∧ u < nG ∧ v < nV ∧ xGm σ u d v ∧ (σ 15 u = 0 → d < 60) ∧ r = σ 15 u
set_option maxHeartbeats 4000000 in
set_option maxRecDepth 100000 in
theorem kL_state (l : Launch) (hl9 : l.stackTraces = false) (G : xG) (E : xE) (o : Nat) (a0 : Int32) (oa : Nat) (ct vt gt : Nat) (tb vb gb : Nat → Option Nat) (sa : Nat → Nat) (nC nV nG : Nat) (σ : xSg) (hCls : xCls G E o ct vt gt tb vb gb sa nC nV nG σ) (f : Nat → Int64) (hoa : E oa = some (.inl (G.2.1 1, 1, .inr (.inl f)))) : vx_Met l yL_state wsL_state ({ frames := 8, cells := 1, slots := 6, locals := 133 }) (va_Pc [.ref o, .int a0, .ref oa] (xB2 G E)) (va_Qi (S := xE) (fun r E' => (r = 0 ∧ ∃ (r1 : Int32) (E1 : xE), wX4_state G E o a0 ct vt gt tb vb gb sa nC nV nG σ r1 E1 ∧ E' = xU E1 oa (.inl (G.2.1 1, 1, .inr (.inl (vp_updL f 0 (r1.toInt64)))))) ∨ ((r = 1 ∧ tX4_state nG a0 = 3) ∧ E' = E)) (fun E' t => xW G E' t.heap) (xA G)) (xX G E (fun _ => False)) 1 6 (xA G) := by
  refine vx_ofWH (cc := cL_state) (maxL := 4) (ret := (some .int)) (hh := [(0, 9, 12, 24)]) (by decide) rfl ?_
  intro p e s m args below meth c s₁ B hml hv
  obtain ⟨rfl, ⟨hX, hW⟩, hNc⟩ := hv
  have hx := B.exec
  have hb := B.bytes
  have hr := B.returns
  have hts := atoms_spec (ws := wsL_state) B.pre
  have hown : s.vm.findClass RL = some m.cls := findClass_of_methodNamed B.named
  have hht := vx_table (x := yL_state) B (hts _ List.mem_cons_self)
  have hS : va_S (xA G) s.heap s.heap [] := va_S.rf
  have hcl24 := hts (Cond.classLink RL 24 "java/lang/IndexOutOfBoundsException") (by decide +kernel)
  have hl := lv_entry ([.ref o, .int a0, .ref oa]) (n := 4) (Nat.le_of_ble_eq_true rfl)
  rw [lg_entry_eq]
  generalize (lg_sl ([.ref o, .int a0, .ref oa]) ++ List.replicate (4 - (lg_sl ([.ref o, .int a0, .ref oa])).length) Slot.unset).toArray = ls at hl ⊢
  have hl : lv_has ls 4 [(0, .ref o), (1, .int a0), (2, .ref oa)] := hl
  obtain ⟨H, hH⟩ : ∃ z, z = s.heap := ⟨_, rfl⟩
  rw [← hH] at hW
  have hS : va_S (xA G) s.heap H [] := by rw [hH]; exact hS
  rw [← hH]
  refine lv_aload_n hx hb dL_state_0 rfl (lv_at hl 2 rfl) ?_
  refine lv_iconst (v := 0) hx hb dL_state_1 (by decide) ?_
  refine lv_aload_n hx hb dL_state_2 rfl (lv_at hl 0 rfl) ?_
  refine lv_iload_n hx hb dL_state_3 rfl (lv_at hl 1 rfl) ?_
  refine vx_calli (vx_runV (As := [.int a0]) (rest := [.int 0, .ref oa]) ⟨hx, hb, hml, hown, hts⟩ (kX4_state l hl9 G E o a0 ct vt gt tb vb gb sa nC nV nG σ hCls) (cwV 1 hts gL_state_X4_state rfl rfl rfl (by decide +kernel) ⟨Nat.le_of_ble_eq_true rfl, Nat.le_of_ble_eq_true rfl⟩) (x_preV hX hS hW hCls.1 rfl) rfl rfl hl.1 rfl (lv_room (Nat.le_of_ble_eq_true rfl)) dL_state_4 ⟨Nat.le_of_ble_eq_true rfl, Nat.le_of_ble_eq_true rfl⟩) hS (fun _ _ h => h) (fun _ h => h) (fun _ _ h => h) (fun Ex ce q9 ux t H1 locs1 ht hvm hpx hB hz1 hk1 hS1 hce hcv hcl => ?_) (fun r1 Ec t H1 locs1 ht hvm hpost hB hz1 hk1 hS1 => ?_)
  · obtain ⟨hpx, hB⟩ := hB
    rw [ht] at hB
    have hW : xW G E H1 := hB
    have hS := hS1
    rcases hpx with ⟨h9, rfl⟩ | ⟨h9, rfl⟩ | ⟨h9, rfl⟩
    · exact absurd h9 (tX4_state_n1 )
    · exact absurd h9 (tX4_state_n2 )
    · refine vx_catch (E := "java/lang/IndexOutOfBoundsException") (name := "java/lang/IndexOutOfBoundsException") hown [] ⟨0, 9, 12, 24⟩ [] (hht.trans rfl) (fun z hz => nomatch hz) rfl (by decide) hcl24 (xBad_use (.castable "java/lang/IndexOutOfBoundsException" "java/lang/IndexOutOfBoundsException") (by decide +kernel) (hX.2.2.2.2.1 (.castable "java/lang/IndexOutOfBoundsException" "java/lang/IndexOutOfBoundsException") (by decide +kernel))) hce hcv hcl ?_
      refine lv_astore_n (lv' := [(3, .ref q9), (0, .ref o), (1, .int a0), (2, .ref oa)]) hx hb dL_state_12 rfl hl (by decide) rfl (fun ls hl => ?_)
      refine lv_iconst (v := 1) hx hb dL_state_13 (by decide) ?_
      exact vx_ret (W.widen (k := 1) (n := 6) (Nat.le_of_ble_eq_true rfl) (Nat.le_of_ble_eq_true rfl) (W.iret (v := 1) hx hb hr (fun t ht hw => ⟨⟨_, E, rfl, (Or.inr ⟨⟨rfl, h9⟩, rfl⟩), (show xW G E t.heap from by rw [ht]; exact hW)⟩, hS.F ht⟩) hS.2.2 dL_state_14))
  · rw [ht] at hB
    have hW : xW G Ec H1 := hB
    have hS := hS1
    have hoa1 : Ec oa = some (.inl (G.2.1 1, 1, .inr (.inl f))) := by rw [hpost.2.1]; exact hoa
    refine lv_i2l (v := r1.toInt64) hx hb dL_state_7 rfl ?_
    refine x_last (G := G) hx hb hX.1 hW hS hoa1 (show vp_in (nI 0) 1 from vp_in_nI (by omega) (by omega)) dL_state_8 (fun H locs hW hS => ?_)
    rw [show (0 : Int32).toNatClampNeg = 0 from rfl] at hW
    obtain ⟨E1, eE1⟩ : ∃ z, z = xU Ec oa (.inl (G.2.1 1, 1, .inr (.inl (vp_updL f 0 r1.toInt64)))) := ⟨_, rfl⟩
    have hW : xW G E1 H := by rw [eE1]; exact hW
    have hoa19 : E1 oa = some (.inl (G.2.1 1, 1, .inr (.inl (vp_updL f 0 r1.toInt64)))) := by rw [eE1]; exact xU_self _ _ _
    refine lv_goto (tgt := 15) hx hb dL_state_9 (by decide) ?_
    refine lv_iconst (v := 0) hx hb dL_state_15 (by decide) ?_
    exact vx_ret (W.widen (k := 1) (n := 6) (Nat.le_of_ble_eq_true rfl) (Nat.le_of_ble_eq_true rfl) (W.iret (v := 0) hx hb hr (fun t ht hw => ⟨⟨_, E1, rfl, (Or.inl ⟨rfl, r1, Ec, hpost, by rw [eE1]⟩), (show xW G E1 t.heap from by rw [ht]; exact hW)⟩, hS.F ht⟩) hS.2.2 dL_state_16))

def wX4_pieces (G : xG) (E : xE) (o : Nat) (a0 : Int32) (a1 : Bool) (ct vt gt : Nat) (tb vb gb : Nat → Option Nat) (sa : Nat → Nat) (nC nV nG : Nat) (σ : xSg) : Int32 → xE → Prop := fun r E' => tX4_pieces nG a0 = 0 ∧ E' = E ∧ ∃ u d v : Nat, a0 = nI u ∧ u < nG ∧ v < nV ∧ xGm σ u d v ∧ (σ 15 u = 0 → d < 60) ∧ r = (if a1 = true then σ 18 (61 * u + d) else σ 17 (61 * u + d))
set_option maxHeartbeats 4000000 in
set_option maxRecDepth 100000 in
theorem kL_pieces (l : Launch) (hl9 : l.stackTraces = false) (G : xG) (E : xE) (o : Nat) (a0 : Int32) (a1 : Bool) (oa : Nat) (ct vt gt : Nat) (tb vb gb : Nat → Option Nat) (sa : Nat → Nat) (nC nV nG : Nat) (σ : xSg) (hCls : xCls G E o ct vt gt tb vb gb sa nC nV nG σ) (f : Nat → Int64) (hoa : E oa = some (.inl (G.2.1 1, 1, .inr (.inl f)))) : vx_Met l yL_pieces wsL_pieces ({ frames := 8, cells := 1, slots := 6, locals := 135 }) (va_Pc [.ref o, .int a0, .int (zI a1), .ref oa] (xB2 G E)) (va_Qi (S := xE) (fun r E' => (r = 0 ∧ ∃ (r1 : Int32) (E1 : xE), wX4_pieces G E o a0 a1 ct vt gt tb vb gb sa nC nV nG σ r1 E1 ∧ E' = xU E1 oa (.inl (G.2.1 1, 1, .inr (.inl (vp_updL f 0 (r1.toInt64)))))) ∨ ((r = 1 ∧ tX4_pieces nG a0 = 3) ∧ E' = E)) (fun E' t => xW G E' t.heap) (xA G)) (xX G E (fun _ => False)) 1 6 (xA G) := by
  refine vx_ofWH (cc := cL_pieces) (maxL := 5) (ret := (some .int)) (hh := [(0, 10, 13, 24)]) (by decide) rfl ?_
  intro p e s m args below meth c s₁ B hml hv
  obtain ⟨rfl, ⟨hX, hW⟩, hNc⟩ := hv
  have hx := B.exec
  have hb := B.bytes
  have hr := B.returns
  have hts := atoms_spec (ws := wsL_pieces) B.pre
  have hown : s.vm.findClass RL = some m.cls := findClass_of_methodNamed B.named
  have hht := vx_table (x := yL_pieces) B (hts _ List.mem_cons_self)
  have hS : va_S (xA G) s.heap s.heap [] := va_S.rf
  have hcl24 := hts (Cond.classLink RL 24 "java/lang/IndexOutOfBoundsException") (by decide +kernel)
  have hl := lv_entry ([.ref o, .int a0, .int (zI a1), .ref oa]) (n := 5) (Nat.le_of_ble_eq_true rfl)
  rw [lg_entry_eq]
  generalize (lg_sl ([.ref o, .int a0, .int (zI a1), .ref oa]) ++ List.replicate (5 - (lg_sl ([.ref o, .int a0, .int (zI a1), .ref oa])).length) Slot.unset).toArray = ls at hl ⊢
  have hl : lv_has ls 5 [(0, .ref o), (1, .int a0), (2, .int (zI a1)), (3, .ref oa)] := hl
  obtain ⟨H, hH⟩ : ∃ z, z = s.heap := ⟨_, rfl⟩
  rw [← hH] at hW
  have hS : va_S (xA G) s.heap H [] := by rw [hH]; exact hS
  rw [← hH]
  refine lv_aload_n hx hb dL_pieces_0 rfl (lv_at hl 3 rfl) ?_
  refine lv_iconst (v := 0) hx hb dL_pieces_1 (by decide) ?_
  refine lv_aload_n hx hb dL_pieces_2 rfl (lv_at hl 0 rfl) ?_
  refine lv_iload_n hx hb dL_pieces_3 rfl (lv_at hl 1 rfl) ?_
  refine lv_iload_n hx hb dL_pieces_4 rfl (lv_at hl 2 rfl) ?_
  refine vx_calli (vx_runV (As := [.int a0, .int (zI a1)]) (rest := [.int 0, .ref oa]) ⟨hx, hb, hml, hown, hts⟩ (kX4_pieces l hl9 G E o a0 a1 ct vt gt tb vb gb sa nC nV nG σ hCls) (cwV 2 hts gL_pieces_X4_pieces rfl rfl rfl (by decide +kernel) ⟨Nat.le_of_ble_eq_true rfl, Nat.le_of_ble_eq_true rfl⟩) (x_preV hX hS hW hCls.1 rfl) rfl rfl hl.1 rfl (lv_room (Nat.le_of_ble_eq_true rfl)) dL_pieces_5 ⟨Nat.le_of_ble_eq_true rfl, Nat.le_of_ble_eq_true rfl⟩) hS (fun _ _ h => h) (fun _ h => h) (fun _ _ h => h) (fun Ex ce q9 ux t H1 locs1 ht hvm hpx hB hz1 hk1 hS1 hce hcv hcl => ?_) (fun r1 Ec t H1 locs1 ht hvm hpost hB hz1 hk1 hS1 => ?_)
  · obtain ⟨hpx, hB⟩ := hB
    rw [ht] at hB
    have hW : xW G E H1 := hB
    have hS := hS1
    rcases hpx with ⟨h9, rfl⟩ | ⟨h9, rfl⟩ | ⟨h9, rfl⟩
    · exact absurd h9 (tX4_pieces_n1 )
    · exact absurd h9 (tX4_pieces_n2 )
    · refine vx_catch (E := "java/lang/IndexOutOfBoundsException") (name := "java/lang/IndexOutOfBoundsException") hown [] ⟨0, 10, 13, 24⟩ [] (hht.trans rfl) (fun z hz => nomatch hz) rfl (by decide) hcl24 (xBad_use (.castable "java/lang/IndexOutOfBoundsException" "java/lang/IndexOutOfBoundsException") (by decide +kernel) (hX.2.2.2.2.1 (.castable "java/lang/IndexOutOfBoundsException" "java/lang/IndexOutOfBoundsException") (by decide +kernel))) hce hcv hcl ?_
      refine lv_astore (lv' := [(4, .ref q9), (0, .ref o), (1, .int a0), (2, .int (zI a1)), (3, .ref oa)]) hx hb dL_pieces_13 hl (by decide) rfl (fun ls hl => ?_)
      refine lv_iconst (v := 1) hx hb dL_pieces_15 (by decide) ?_
      exact vx_ret (W.widen (k := 1) (n := 6) (Nat.le_of_ble_eq_true rfl) (Nat.le_of_ble_eq_true rfl) (W.iret (v := 1) hx hb hr (fun t ht hw => ⟨⟨_, E, rfl, (Or.inr ⟨⟨rfl, h9⟩, rfl⟩), (show xW G E t.heap from by rw [ht]; exact hW)⟩, hS.F ht⟩) hS.2.2 dL_pieces_16))
  · rw [ht] at hB
    have hW : xW G Ec H1 := hB
    have hS := hS1
    have hoa1 : Ec oa = some (.inl (G.2.1 1, 1, .inr (.inl f))) := by rw [hpost.2.1]; exact hoa
    refine lv_i2l (v := r1.toInt64) hx hb dL_pieces_8 rfl ?_
    refine x_last (G := G) hx hb hX.1 hW hS hoa1 (show vp_in (nI 0) 1 from vp_in_nI (by omega) (by omega)) dL_pieces_9 (fun H locs hW hS => ?_)
    rw [show (0 : Int32).toNatClampNeg = 0 from rfl] at hW
    obtain ⟨E1, eE1⟩ : ∃ z, z = xU Ec oa (.inl (G.2.1 1, 1, .inr (.inl (vp_updL f 0 r1.toInt64)))) := ⟨_, rfl⟩
    have hW : xW G E1 H := by rw [eE1]; exact hW
    have hoa19 : E1 oa = some (.inl (G.2.1 1, 1, .inr (.inl (vp_updL f 0 r1.toInt64)))) := by rw [eE1]; exact xU_self _ _ _
    refine lv_goto (tgt := 17) hx hb dL_pieces_10 (by decide) ?_
    refine lv_iconst (v := 0) hx hb dL_pieces_17 (by decide) ?_
    exact vx_ret (W.widen (k := 1) (n := 6) (Nat.le_of_ble_eq_true rfl) (Nat.le_of_ble_eq_true rfl) (W.iret (v := 0) hx hb hr (fun t ht hw => ⟨⟨_, E1, rfl, (Or.inl ⟨rfl, r1, Ec, hpost, by rw [eE1]⟩), (show xW G E1 t.heap from by rw [ht]; exact hW)⟩, hS.F ht⟩) hS.2.2 dL_pieces_18))

def wX4_made (G : xG) (E : xE) (o : Nat) (a0 : Int32) (ct vt gt : Nat) (tb vb gb : Nat → Option Nat) (sa : Nat → Nat) (nC nV nG : Nat) (σ : xSg) : Int32 → xE → Prop := fun r E' => tX4_made nG a0 = 0 ∧ E' = E ∧ ∃ u d v : Nat, a0 = nI u ∧ u < nG ∧ v < nV ∧ xGm σ u d v ∧ (σ 15 u = 0 → d < 60) ∧ r = nI d
set_option maxHeartbeats 4000000 in
set_option maxRecDepth 100000 in
theorem kL_made (l : Launch) (hl9 : l.stackTraces = false) (G : xG) (E : xE) (o : Nat) (a0 : Int32) (oa : Nat) (ct vt gt : Nat) (tb vb gb : Nat → Option Nat) (sa : Nat → Nat) (nC nV nG : Nat) (σ : xSg) (hCls : xCls G E o ct vt gt tb vb gb sa nC nV nG σ) (f : Nat → Int64) (hoa : E oa = some (.inl (G.2.1 1, 1, .inr (.inl f)))) : vx_Met l yL_made wsL_made ({ frames := 8, cells := 1, slots := 6, locals := 133 }) (va_Pc [.ref o, .int a0, .ref oa] (xB2 G E)) (va_Qi (S := xE) (fun r E' => (r = 0 ∧ ∃ (r1 : Int32) (E1 : xE), wX4_made G E o a0 ct vt gt tb vb gb sa nC nV nG σ r1 E1 ∧ E' = xU E1 oa (.inl (G.2.1 1, 1, .inr (.inl (vp_updL f 0 (r1.toInt64)))))) ∨ ((r = 1 ∧ tX4_made nG a0 = 3) ∧ E' = E)) (fun E' t => xW G E' t.heap) (xA G)) (xX G E (fun _ => False)) 1 6 (xA G) := by
  refine vx_ofWH (cc := cL_made) (maxL := 4) (ret := (some .int)) (hh := [(0, 9, 12, 24)]) (by decide) rfl ?_
  intro p e s m args below meth c s₁ B hml hv
  obtain ⟨rfl, ⟨hX, hW⟩, hNc⟩ := hv
  have hx := B.exec
  have hb := B.bytes
  have hr := B.returns
  have hts := atoms_spec (ws := wsL_made) B.pre
  have hown : s.vm.findClass RL = some m.cls := findClass_of_methodNamed B.named
  have hht := vx_table (x := yL_made) B (hts _ List.mem_cons_self)
  have hS : va_S (xA G) s.heap s.heap [] := va_S.rf
  have hcl24 := hts (Cond.classLink RL 24 "java/lang/IndexOutOfBoundsException") (by decide +kernel)
  have hl := lv_entry ([.ref o, .int a0, .ref oa]) (n := 4) (Nat.le_of_ble_eq_true rfl)
  rw [lg_entry_eq]
  generalize (lg_sl ([.ref o, .int a0, .ref oa]) ++ List.replicate (4 - (lg_sl ([.ref o, .int a0, .ref oa])).length) Slot.unset).toArray = ls at hl ⊢
  have hl : lv_has ls 4 [(0, .ref o), (1, .int a0), (2, .ref oa)] := hl
  obtain ⟨H, hH⟩ : ∃ z, z = s.heap := ⟨_, rfl⟩
  rw [← hH] at hW
  have hS : va_S (xA G) s.heap H [] := by rw [hH]; exact hS
  rw [← hH]
  refine lv_aload_n hx hb dL_made_0 rfl (lv_at hl 2 rfl) ?_
  refine lv_iconst (v := 0) hx hb dL_made_1 (by decide) ?_
  refine lv_aload_n hx hb dL_made_2 rfl (lv_at hl 0 rfl) ?_
  refine lv_iload_n hx hb dL_made_3 rfl (lv_at hl 1 rfl) ?_
  refine vx_calli (vx_runV (As := [.int a0]) (rest := [.int 0, .ref oa]) ⟨hx, hb, hml, hown, hts⟩ (kX4_made l hl9 G E o a0 ct vt gt tb vb gb sa nC nV nG σ hCls) (cwV 1 hts gL_made_X4_made rfl rfl rfl (by decide +kernel) ⟨Nat.le_of_ble_eq_true rfl, Nat.le_of_ble_eq_true rfl⟩) (x_preV hX hS hW hCls.1 rfl) rfl rfl hl.1 rfl (lv_room (Nat.le_of_ble_eq_true rfl)) dL_made_4 ⟨Nat.le_of_ble_eq_true rfl, Nat.le_of_ble_eq_true rfl⟩) hS (fun _ _ h => h) (fun _ h => h) (fun _ _ h => h) (fun Ex ce q9 ux t H1 locs1 ht hvm hpx hB hz1 hk1 hS1 hce hcv hcl => ?_) (fun r1 Ec t H1 locs1 ht hvm hpost hB hz1 hk1 hS1 => ?_)
  · obtain ⟨hpx, hB⟩ := hB
    rw [ht] at hB
    have hW : xW G E H1 := hB
    have hS := hS1
    rcases hpx with ⟨h9, rfl⟩ | ⟨h9, rfl⟩ | ⟨h9, rfl⟩
    · exact absurd h9 (tX4_made_n1 )
    · exact absurd h9 (tX4_made_n2 )
    · refine vx_catch (E := "java/lang/IndexOutOfBoundsException") (name := "java/lang/IndexOutOfBoundsException") hown [] ⟨0, 9, 12, 24⟩ [] (hht.trans rfl) (fun z hz => nomatch hz) rfl (by decide) hcl24 (xBad_use (.castable "java/lang/IndexOutOfBoundsException" "java/lang/IndexOutOfBoundsException") (by decide +kernel) (hX.2.2.2.2.1 (.castable "java/lang/IndexOutOfBoundsException" "java/lang/IndexOutOfBoundsException") (by decide +kernel))) hce hcv hcl ?_
      refine lv_astore_n (lv' := [(3, .ref q9), (0, .ref o), (1, .int a0), (2, .ref oa)]) hx hb dL_made_12 rfl hl (by decide) rfl (fun ls hl => ?_)
      refine lv_iconst (v := 1) hx hb dL_made_13 (by decide) ?_
      exact vx_ret (W.widen (k := 1) (n := 6) (Nat.le_of_ble_eq_true rfl) (Nat.le_of_ble_eq_true rfl) (W.iret (v := 1) hx hb hr (fun t ht hw => ⟨⟨_, E, rfl, (Or.inr ⟨⟨rfl, h9⟩, rfl⟩), (show xW G E t.heap from by rw [ht]; exact hW)⟩, hS.F ht⟩) hS.2.2 dL_made_14))
  · rw [ht] at hB
    have hW : xW G Ec H1 := hB
    have hS := hS1
    have hoa1 : Ec oa = some (.inl (G.2.1 1, 1, .inr (.inl f))) := by rw [hpost.2.1]; exact hoa
    refine lv_i2l (v := r1.toInt64) hx hb dL_made_7 rfl ?_
    refine x_last (G := G) hx hb hX.1 hW hS hoa1 (show vp_in (nI 0) 1 from vp_in_nI (by omega) (by omega)) dL_made_8 (fun H locs hW hS => ?_)
    rw [show (0 : Int32).toNatClampNeg = 0 from rfl] at hW
    obtain ⟨E1, eE1⟩ : ∃ z, z = xU Ec oa (.inl (G.2.1 1, 1, .inr (.inl (vp_updL f 0 r1.toInt64)))) := ⟨_, rfl⟩
    have hW : xW G E1 H := by rw [eE1]; exact hW
    have hoa19 : E1 oa = some (.inl (G.2.1 1, 1, .inr (.inl (vp_updL f 0 r1.toInt64)))) := by rw [eE1]; exact xU_self _ _ _
    refine lv_goto (tgt := 15) hx hb dL_made_9 (by decide) ?_
    refine lv_iconst (v := 0) hx hb dL_made_15 (by decide) ?_
    exact vx_ret (W.widen (k := 1) (n := 6) (Nat.le_of_ble_eq_true rfl) (Nat.le_of_ble_eq_true rfl) (W.iret (v := 0) hx hb hr (fun t ht hw => ⟨⟨_, E1, rfl, (Or.inl ⟨rfl, r1, Ec, hpost, by rw [eE1]⟩), (show xW G E1 t.heap from by rw [ht]; exact hW)⟩, hS.F ht⟩) hS.2.2 dL_made_16))

def wX4_value (G : xG) (E : xE) (o : Nat) (a0 : Int32) (a1 : Int32) (ct vt gt : Nat) (tb vb gb : Nat → Option Nat) (sa : Nat → Nat) (nC nV nG : Nat) (σ : xSg) : Int32 → xE → Prop := fun r E' => tX4_value nG a0 a1 = 0 ∧ E' = E ∧ ∃ u d v : Nat, a0 = nI u ∧ u < nG ∧ v < nV ∧ xGm σ u d v ∧ (σ 15 u = 0 → d < 60) ∧ r = vX4_searchWithCuts σ nC (σ 12 u) (σ 6 v) (a1.toNatClampNeg) (fX1_ofMover (σ 17 (61 * u + d)) (σ 18 (61 * u + d)) (nI d)) (fX1_ofWaiting (σ 17 (61 * u + d)) (σ 18 (61 * u + d)) (nI d)) (fX1_isSecondToMove (nI d)) (-100) 100
set_option maxHeartbeats 4000000 in
set_option maxRecDepth 100000 in
theorem kL_value (l : Launch) (hl9 : l.stackTraces = false) (G : xG) (E : xE) (o : Nat) (a0 : Int32) (a1 : Int32) (oa : Nat) (ct vt gt : Nat) (tb vb gb : Nat → Option Nat) (sa : Nat → Nat) (nC nV nG : Nat) (σ : xSg) (hCls : xCls G E o ct vt gt tb vb gb sa nC nV nG σ) (f : Nat → Int64) (hoa : E oa = some (.inl (G.2.1 1, 1, .inr (.inl f)))) : vx_Met l yL_value wsL_value ({ frames := 8, cells := 2, slots := 12, locals := 221 }) (va_Pc [.ref o, .int a0, .int a1, .ref oa] (xB2 G E)) (va_Qi (S := xE) (fun r E' => (r = 0 ∧ ∃ (r1 : Int32) (E1 : xE), wX4_value G E o a0 a1 ct vt gt tb vb gb sa nC nV nG σ r1 E1 ∧ E' = xU E1 oa (.inl (G.2.1 1, 1, .inr (.inl (vp_updL f 0 (r1.toInt64)))))) ∨ (((r = 1 ∧ tX4_value nG a0 a1 = 3) ∨ (r = 2 ∧ tX4_value nG a0 a1 = 1)) ∧ E' = E)) (fun E' t => xW G E' t.heap) (xA G)) (xX G E (fun _ => False)) 2 12 (xA G) := by
  refine vx_ofWH (cc := cL_value) (maxL := 5) (ret := (some .int)) (hh := [(0, 10, 13, 24), (0, 10, 17, 13)]) (by decide) rfl ?_
  intro p e s m args below meth c s₁ B hml hv
  obtain ⟨rfl, ⟨hX, hW⟩, hNc⟩ := hv
  have hx := B.exec
  have hb := B.bytes
  have hr := B.returns
  have hts := atoms_spec (ws := wsL_value) B.pre
  have hown : s.vm.findClass RL = some m.cls := findClass_of_methodNamed B.named
  have hht := vx_table (x := yL_value) B (hts _ List.mem_cons_self)
  have hS : va_S (xA G) s.heap s.heap [] := va_S.rf
  have hcl13 := hts (Cond.classLink RL 13 "java/lang/IllegalArgumentException") (by decide +kernel)
  have hcl24 := hts (Cond.classLink RL 24 "java/lang/IndexOutOfBoundsException") (by decide +kernel)
  have hl := lv_entry ([.ref o, .int a0, .int a1, .ref oa]) (n := 5) (Nat.le_of_ble_eq_true rfl)
  rw [lg_entry_eq]
  generalize (lg_sl ([.ref o, .int a0, .int a1, .ref oa]) ++ List.replicate (5 - (lg_sl ([.ref o, .int a0, .int a1, .ref oa])).length) Slot.unset).toArray = ls at hl ⊢
  have hl : lv_has ls 5 [(0, .ref o), (1, .int a0), (2, .int a1), (3, .ref oa)] := hl
  obtain ⟨H, hH⟩ : ∃ z, z = s.heap := ⟨_, rfl⟩
  rw [← hH] at hW
  have hS : va_S (xA G) s.heap H [] := by rw [hH]; exact hS
  rw [← hH]
  refine lv_aload_n hx hb dL_value_0 rfl (lv_at hl 3 rfl) ?_
  refine lv_iconst (v := 0) hx hb dL_value_1 (by decide) ?_
  refine lv_aload_n hx hb dL_value_2 rfl (lv_at hl 0 rfl) ?_
  refine lv_iload_n hx hb dL_value_3 rfl (lv_at hl 1 rfl) ?_
  refine lv_iload_n hx hb dL_value_4 rfl (lv_at hl 2 rfl) ?_
  refine vx_calli (vx_runV (As := [.int a0, .int a1]) (rest := [.int 0, .ref oa]) ⟨hx, hb, hml, hown, hts⟩ (kX4_value l hl9 G E o a0 a1 ct vt gt tb vb gb sa nC nV nG σ hCls) (cwV 2 hts gL_value_X4_value rfl rfl rfl (by decide +kernel) ⟨Nat.le_of_ble_eq_true rfl, Nat.le_of_ble_eq_true rfl⟩) (x_preV hX hS hW hCls.1 rfl) rfl rfl hl.1 rfl (lv_room (Nat.le_of_ble_eq_true rfl)) dL_value_5 ⟨Nat.le_of_ble_eq_true rfl, Nat.le_of_ble_eq_true rfl⟩) hS (fun _ _ h => h) (fun _ h => h) (fun _ _ h => h) (fun Ex ce q9 ux t H1 locs1 ht hvm hpx hB hz1 hk1 hS1 hce hcv hcl => ?_) (fun r1 Ec t H1 locs1 ht hvm hpost hB hz1 hk1 hS1 => ?_)
  · obtain ⟨hpx, hB⟩ := hB
    rw [ht] at hB
    have hW : xW G E H1 := hB
    have hS := hS1
    rcases hpx with ⟨h9, rfl⟩ | ⟨h9, rfl⟩ | ⟨h9, rfl⟩
    · refine vx_catch (E := "java/lang/IllegalArgumentException") (name := "java/lang/IllegalArgumentException") hown [⟨0, 10, 13, 24⟩] ⟨0, 10, 17, 13⟩ [] (hht.trans rfl) (fun z hz => by rcases List.mem_singleton.mp hz; exact Or.inr ⟨by decide, _, hcl24, hNc.2.1⟩) rfl (by decide) hcl13 (xBad_use (.castable "java/lang/IllegalArgumentException" "java/lang/IllegalArgumentException") (by decide +kernel) (hX.2.2.2.2.1 (.castable "java/lang/IllegalArgumentException" "java/lang/IllegalArgumentException") (by decide +kernel))) hce hcv hcl ?_
      refine lv_astore (lv' := [(4, .ref q9), (0, .ref o), (1, .int a0), (2, .int a1), (3, .ref oa)]) hx hb dL_value_17 hl (by decide) rfl (fun ls hl => ?_)
      refine lv_iconst (v := 2) hx hb dL_value_19 (by decide) ?_
      exact vx_ret (W.widen (k := 2) (n := 12) (Nat.le_of_ble_eq_true rfl) (Nat.le_of_ble_eq_true rfl) (W.iret (v := 2) hx hb hr (fun t ht hw => ⟨⟨_, E, rfl, (Or.inr ⟨(Or.inr ⟨rfl, h9⟩), rfl⟩), (show xW G E t.heap from by rw [ht]; exact hW)⟩, hS.F ht⟩) hS.2.2 dL_value_20))
    · exact absurd h9 (tX4_value_n2 )
    · refine vx_catch (E := "java/lang/IndexOutOfBoundsException") (name := "java/lang/IndexOutOfBoundsException") hown [] ⟨0, 10, 13, 24⟩ [⟨0, 10, 17, 13⟩] (hht.trans rfl) (fun z hz => nomatch hz) rfl (by decide) hcl24 (xBad_use (.castable "java/lang/IndexOutOfBoundsException" "java/lang/IndexOutOfBoundsException") (by decide +kernel) (hX.2.2.2.2.1 (.castable "java/lang/IndexOutOfBoundsException" "java/lang/IndexOutOfBoundsException") (by decide +kernel))) hce hcv hcl ?_
      refine lv_astore (lv' := [(4, .ref q9), (0, .ref o), (1, .int a0), (2, .int a1), (3, .ref oa)]) hx hb dL_value_13 hl (by decide) rfl (fun ls hl => ?_)
      refine lv_iconst (v := 1) hx hb dL_value_15 (by decide) ?_
      exact vx_ret (W.widen (k := 2) (n := 12) (Nat.le_of_ble_eq_true rfl) (Nat.le_of_ble_eq_true rfl) (W.iret (v := 1) hx hb hr (fun t ht hw => ⟨⟨_, E, rfl, (Or.inr ⟨(Or.inl ⟨rfl, h9⟩), rfl⟩), (show xW G E t.heap from by rw [ht]; exact hW)⟩, hS.F ht⟩) hS.2.2 dL_value_16))
  · rw [ht] at hB
    have hW : xW G Ec H1 := hB
    have hS := hS1
    have hoa1 : Ec oa = some (.inl (G.2.1 1, 1, .inr (.inl f))) := by rw [hpost.2.1]; exact hoa
    refine lv_i2l (v := r1.toInt64) hx hb dL_value_8 rfl ?_
    refine x_last (G := G) hx hb hX.1 hW hS hoa1 (show vp_in (nI 0) 1 from vp_in_nI (by omega) (by omega)) dL_value_9 (fun H locs hW hS => ?_)
    rw [show (0 : Int32).toNatClampNeg = 0 from rfl] at hW
    obtain ⟨E1, eE1⟩ : ∃ z, z = xU Ec oa (.inl (G.2.1 1, 1, .inr (.inl (vp_updL f 0 r1.toInt64)))) := ⟨_, rfl⟩
    have hW : xW G E1 H := by rw [eE1]; exact hW
    have hoa19 : E1 oa = some (.inl (G.2.1 1, 1, .inr (.inl (vp_updL f 0 r1.toInt64)))) := by rw [eE1]; exact xU_self _ _ _
    refine lv_goto (tgt := 21) hx hb dL_value_10 (by decide) ?_
    refine lv_iconst (v := 0) hx hb dL_value_21 (by decide) ?_
    exact vx_ret (W.widen (k := 2) (n := 12) (Nat.le_of_ble_eq_true rfl) (Nat.le_of_ble_eq_true rfl) (W.iret (v := 0) hx hb hr (fun t ht hw => ⟨⟨_, E1, rfl, (Or.inl ⟨rfl, r1, Ec, hpost, by rw [eE1]⟩), (show xW G E1 t.heap from by rw [ht]; exact hW)⟩, hS.F ht⟩) hS.2.2 dL_value_22))

def wX4_valueByAll (G : xG) (E : xE) (o : Nat) (a0 : Int32) (a1 : Int32) (ct vt gt : Nat) (tb vb gb : Nat → Option Nat) (sa : Nat → Nat) (nC nV nG : Nat) (σ : xSg) : Int32 → xE → Prop := fun r E' => tX4_valueByAll nG a0 a1 = 0 ∧ E' = E ∧ ∃ u d v : Nat, a0 = nI u ∧ u < nG ∧ v < nV ∧ xGm σ u d v ∧ (σ 15 u = 0 → d < 60) ∧ r = vX4_searchAll σ nC (σ 12 u) (σ 6 v) (a1.toNatClampNeg) (fX1_ofMover (σ 17 (61 * u + d)) (σ 18 (61 * u + d)) (nI d)) (fX1_ofWaiting (σ 17 (61 * u + d)) (σ 18 (61 * u + d)) (nI d)) (fX1_isSecondToMove (nI d))
set_option maxHeartbeats 4000000 in
set_option maxRecDepth 100000 in
theorem kL_valueByAll (l : Launch) (hl9 : l.stackTraces = false) (G : xG) (E : xE) (o : Nat) (a0 : Int32) (a1 : Int32) (oa : Nat) (ct vt gt : Nat) (tb vb gb : Nat → Option Nat) (sa : Nat → Nat) (nC nV nG : Nat) (σ : xSg) (hCls : xCls G E o ct vt gt tb vb gb sa nC nV nG σ) (f : Nat → Int64) (hoa : E oa = some (.inl (G.2.1 1, 1, .inr (.inl f)))) : vx_Met l yL_valueByAll wsL_valueByAll ({ frames := 8, cells := 2, slots := 12, locals := 212 }) (va_Pc [.ref o, .int a0, .int a1, .ref oa] (xB2 G E)) (va_Qi (S := xE) (fun r E' => (r = 0 ∧ ∃ (r1 : Int32) (E1 : xE), wX4_valueByAll G E o a0 a1 ct vt gt tb vb gb sa nC nV nG σ r1 E1 ∧ E' = xU E1 oa (.inl (G.2.1 1, 1, .inr (.inl (vp_updL f 0 (r1.toInt64)))))) ∨ (((r = 1 ∧ tX4_valueByAll nG a0 a1 = 3) ∨ (r = 2 ∧ tX4_valueByAll nG a0 a1 = 1)) ∧ E' = E)) (fun E' t => xW G E' t.heap) (xA G)) (xX G E (fun _ => False)) 2 12 (xA G) := by
  refine vx_ofWH (cc := cL_valueByAll) (maxL := 5) (ret := (some .int)) (hh := [(0, 10, 13, 24), (0, 10, 17, 13)]) (by decide) rfl ?_
  intro p e s m args below meth c s₁ B hml hv
  obtain ⟨rfl, ⟨hX, hW⟩, hNc⟩ := hv
  have hx := B.exec
  have hb := B.bytes
  have hr := B.returns
  have hts := atoms_spec (ws := wsL_valueByAll) B.pre
  have hown : s.vm.findClass RL = some m.cls := findClass_of_methodNamed B.named
  have hht := vx_table (x := yL_valueByAll) B (hts _ List.mem_cons_self)
  have hS : va_S (xA G) s.heap s.heap [] := va_S.rf
  have hcl13 := hts (Cond.classLink RL 13 "java/lang/IllegalArgumentException") (by decide +kernel)
  have hcl24 := hts (Cond.classLink RL 24 "java/lang/IndexOutOfBoundsException") (by decide +kernel)
  have hl := lv_entry ([.ref o, .int a0, .int a1, .ref oa]) (n := 5) (Nat.le_of_ble_eq_true rfl)
  rw [lg_entry_eq]
  generalize (lg_sl ([.ref o, .int a0, .int a1, .ref oa]) ++ List.replicate (5 - (lg_sl ([.ref o, .int a0, .int a1, .ref oa])).length) Slot.unset).toArray = ls at hl ⊢
  have hl : lv_has ls 5 [(0, .ref o), (1, .int a0), (2, .int a1), (3, .ref oa)] := hl
  obtain ⟨H, hH⟩ : ∃ z, z = s.heap := ⟨_, rfl⟩
  rw [← hH] at hW
  have hS : va_S (xA G) s.heap H [] := by rw [hH]; exact hS
  rw [← hH]
  refine lv_aload_n hx hb dL_valueByAll_0 rfl (lv_at hl 3 rfl) ?_
  refine lv_iconst (v := 0) hx hb dL_valueByAll_1 (by decide) ?_
  refine lv_aload_n hx hb dL_valueByAll_2 rfl (lv_at hl 0 rfl) ?_
  refine lv_iload_n hx hb dL_valueByAll_3 rfl (lv_at hl 1 rfl) ?_
  refine lv_iload_n hx hb dL_valueByAll_4 rfl (lv_at hl 2 rfl) ?_
  refine vx_calli (vx_runV (As := [.int a0, .int a1]) (rest := [.int 0, .ref oa]) ⟨hx, hb, hml, hown, hts⟩ (kX4_valueByAll l hl9 G E o a0 a1 ct vt gt tb vb gb sa nC nV nG σ hCls) (cwV 2 hts gL_valueByAll_X4_valueByAll rfl rfl rfl (by decide +kernel) ⟨Nat.le_of_ble_eq_true rfl, Nat.le_of_ble_eq_true rfl⟩) (x_preV hX hS hW hCls.1 rfl) rfl rfl hl.1 rfl (lv_room (Nat.le_of_ble_eq_true rfl)) dL_valueByAll_5 ⟨Nat.le_of_ble_eq_true rfl, Nat.le_of_ble_eq_true rfl⟩) hS (fun _ _ h => h) (fun _ h => h) (fun _ _ h => h) (fun Ex ce q9 ux t H1 locs1 ht hvm hpx hB hz1 hk1 hS1 hce hcv hcl => ?_) (fun r1 Ec t H1 locs1 ht hvm hpost hB hz1 hk1 hS1 => ?_)
  · obtain ⟨hpx, hB⟩ := hB
    rw [ht] at hB
    have hW : xW G E H1 := hB
    have hS := hS1
    rcases hpx with ⟨h9, rfl⟩ | ⟨h9, rfl⟩ | ⟨h9, rfl⟩
    · refine vx_catch (E := "java/lang/IllegalArgumentException") (name := "java/lang/IllegalArgumentException") hown [⟨0, 10, 13, 24⟩] ⟨0, 10, 17, 13⟩ [] (hht.trans rfl) (fun z hz => by rcases List.mem_singleton.mp hz; exact Or.inr ⟨by decide, _, hcl24, hNc.2.1⟩) rfl (by decide) hcl13 (xBad_use (.castable "java/lang/IllegalArgumentException" "java/lang/IllegalArgumentException") (by decide +kernel) (hX.2.2.2.2.1 (.castable "java/lang/IllegalArgumentException" "java/lang/IllegalArgumentException") (by decide +kernel))) hce hcv hcl ?_
      refine lv_astore (lv' := [(4, .ref q9), (0, .ref o), (1, .int a0), (2, .int a1), (3, .ref oa)]) hx hb dL_valueByAll_17 hl (by decide) rfl (fun ls hl => ?_)
      refine lv_iconst (v := 2) hx hb dL_valueByAll_19 (by decide) ?_
      exact vx_ret (W.widen (k := 2) (n := 12) (Nat.le_of_ble_eq_true rfl) (Nat.le_of_ble_eq_true rfl) (W.iret (v := 2) hx hb hr (fun t ht hw => ⟨⟨_, E, rfl, (Or.inr ⟨(Or.inr ⟨rfl, h9⟩), rfl⟩), (show xW G E t.heap from by rw [ht]; exact hW)⟩, hS.F ht⟩) hS.2.2 dL_valueByAll_20))
    · exact absurd h9 (tX4_valueByAll_n2 )
    · refine vx_catch (E := "java/lang/IndexOutOfBoundsException") (name := "java/lang/IndexOutOfBoundsException") hown [] ⟨0, 10, 13, 24⟩ [⟨0, 10, 17, 13⟩] (hht.trans rfl) (fun z hz => nomatch hz) rfl (by decide) hcl24 (xBad_use (.castable "java/lang/IndexOutOfBoundsException" "java/lang/IndexOutOfBoundsException") (by decide +kernel) (hX.2.2.2.2.1 (.castable "java/lang/IndexOutOfBoundsException" "java/lang/IndexOutOfBoundsException") (by decide +kernel))) hce hcv hcl ?_
      refine lv_astore (lv' := [(4, .ref q9), (0, .ref o), (1, .int a0), (2, .int a1), (3, .ref oa)]) hx hb dL_valueByAll_13 hl (by decide) rfl (fun ls hl => ?_)
      refine lv_iconst (v := 1) hx hb dL_valueByAll_15 (by decide) ?_
      exact vx_ret (W.widen (k := 2) (n := 12) (Nat.le_of_ble_eq_true rfl) (Nat.le_of_ble_eq_true rfl) (W.iret (v := 1) hx hb hr (fun t ht hw => ⟨⟨_, E, rfl, (Or.inr ⟨(Or.inl ⟨rfl, h9⟩), rfl⟩), (show xW G E t.heap from by rw [ht]; exact hW)⟩, hS.F ht⟩) hS.2.2 dL_valueByAll_16))
  · rw [ht] at hB
    have hW : xW G Ec H1 := hB
    have hS := hS1
    have hoa1 : Ec oa = some (.inl (G.2.1 1, 1, .inr (.inl f))) := by rw [hpost.2.1]; exact hoa
    refine lv_i2l (v := r1.toInt64) hx hb dL_valueByAll_8 rfl ?_
    refine x_last (G := G) hx hb hX.1 hW hS hoa1 (show vp_in (nI 0) 1 from vp_in_nI (by omega) (by omega)) dL_valueByAll_9 (fun H locs hW hS => ?_)
    rw [show (0 : Int32).toNatClampNeg = 0 from rfl] at hW
    obtain ⟨E1, eE1⟩ : ∃ z, z = xU Ec oa (.inl (G.2.1 1, 1, .inr (.inl (vp_updL f 0 r1.toInt64)))) := ⟨_, rfl⟩
    have hW : xW G E1 H := by rw [eE1]; exact hW
    have hoa19 : E1 oa = some (.inl (G.2.1 1, 1, .inr (.inl (vp_updL f 0 r1.toInt64)))) := by rw [eE1]; exact xU_self _ _ _
    refine lv_goto (tgt := 21) hx hb dL_valueByAll_10 (by decide) ?_
    refine lv_iconst (v := 0) hx hb dL_valueByAll_21 (by decide) ?_
    exact vx_ret (W.widen (k := 2) (n := 12) (Nat.le_of_ble_eq_true rfl) (Nat.le_of_ble_eq_true rfl) (W.iret (v := 0) hx hb hr (fun t ht hw => ⟨⟨_, E1, rfl, (Or.inl ⟨rfl, r1, Ec, hpost, by rw [eE1]⟩), (show xW G E1 t.heap from by rw [ht]; exact hW)⟩, hS.F ht⟩) hS.2.2 dL_valueByAll_22))

def wX4_vote (G : xG) (E : xE) (o : Nat) (a0 : Int32) (a1 : Int32) (ct vt gt : Nat) (tb vb gb : Nat → Option Nat) (sa : Nat → Nat) (nC nV nG : Nat) (σ : xSg) : Int32 → xE → Prop := fun r E' => tX4_vote nV a0 a1 = 0 ∧ ∃ v : Nat, a1 = nI v ∧ v < nV ∧ r = fJ6_bitCount_0f7a4 ((σ 8 v) ^^^ ((1 : Int32) <<< (a0 &&& 31))) ∧ xCls G E' o ct vt gt tb vb gb sa nC nV nG (sgU σ 8 v ((σ 8 v) ^^^ ((1 : Int32) <<< (a0 &&& 31)))) ∧ xFr tC E E'
set_option maxHeartbeats 4000000 in
set_option maxRecDepth 100000 in
theorem kL_vote (l : Launch) (hl9 : l.stackTraces = false) (G : xG) (E : xE) (o : Nat) (a0 : Int32) (a1 : Int32) (oa : Nat) (ct vt gt : Nat) (tb vb gb : Nat → Option Nat) (sa : Nat → Nat) (nC nV nG : Nat) (σ : xSg) (hCls : xCls G E o ct vt gt tb vb gb sa nC nV nG σ) (f : Nat → Int64) (hoa : E oa = some (.inl (G.2.1 1, 1, .inr (.inl f)))) : vx_Met l yL_vote wsL_vote ({ frames := 8, cells := 2, slots := 12, locals := 135 }) (va_Pc [.ref o, .int a0, .int a1, .ref oa] (xB2 G E)) (va_Qi (S := xE) (fun r E' => (r = 0 ∧ ∃ (r1 : Int32) (E1 : xE), wX4_vote G E o a0 a1 ct vt gt tb vb gb sa nC nV nG σ r1 E1 ∧ E' = xU E1 oa (.inl (G.2.1 1, 1, .inr (.inl (vp_updL f 0 (r1.toInt64)))))) ∨ ((r = 1 ∧ tX4_vote nV a0 a1 = 3) ∧ E' = E)) (fun E' t => xW G E' t.heap) (xA G)) (xX G E (fun _ => False)) 2 12 (xA G) := by
  refine vx_ofWH (cc := cL_vote) (maxL := 5) (ret := (some .int)) (hh := [(0, 10, 13, 24)]) (by decide) rfl ?_
  intro p e s m args below meth c s₁ B hml hv
  obtain ⟨rfl, ⟨hX, hW⟩, hNc⟩ := hv
  have hx := B.exec
  have hb := B.bytes
  have hr := B.returns
  have hts := atoms_spec (ws := wsL_vote) B.pre
  have hown : s.vm.findClass RL = some m.cls := findClass_of_methodNamed B.named
  have hht := vx_table (x := yL_vote) B (hts _ List.mem_cons_self)
  have hS : va_S (xA G) s.heap s.heap [] := va_S.rf
  have hcl24 := hts (Cond.classLink RL 24 "java/lang/IndexOutOfBoundsException") (by decide +kernel)
  have hl := lv_entry ([.ref o, .int a0, .int a1, .ref oa]) (n := 5) (Nat.le_of_ble_eq_true rfl)
  rw [lg_entry_eq]
  generalize (lg_sl ([.ref o, .int a0, .int a1, .ref oa]) ++ List.replicate (5 - (lg_sl ([.ref o, .int a0, .int a1, .ref oa])).length) Slot.unset).toArray = ls at hl ⊢
  have hl : lv_has ls 5 [(0, .ref o), (1, .int a0), (2, .int a1), (3, .ref oa)] := hl
  obtain ⟨H, hH⟩ : ∃ z, z = s.heap := ⟨_, rfl⟩
  rw [← hH] at hW
  have hS : va_S (xA G) s.heap H [] := by rw [hH]; exact hS
  rw [← hH]
  refine lv_aload_n hx hb dL_vote_0 rfl (lv_at hl 3 rfl) ?_
  refine lv_iconst (v := 0) hx hb dL_vote_1 (by decide) ?_
  refine lv_aload_n hx hb dL_vote_2 rfl (lv_at hl 0 rfl) ?_
  refine lv_iload_n hx hb dL_vote_3 rfl (lv_at hl 1 rfl) ?_
  refine lv_iload_n hx hb dL_vote_4 rfl (lv_at hl 2 rfl) ?_
  refine vx_calli (vx_runV (As := [.int a0, .int a1]) (rest := [.int 0, .ref oa]) ⟨hx, hb, hml, hown, hts⟩ (kX4_vote l hl9 G E o a0 a1 ct vt gt tb vb gb sa nC nV nG σ hCls) (cwV 2 hts gL_vote_X4_vote rfl rfl rfl (by decide +kernel) ⟨Nat.le_of_ble_eq_true rfl, Nat.le_of_ble_eq_true rfl⟩) (x_preV hX hS hW hCls.1 rfl) rfl rfl hl.1 rfl (lv_room (Nat.le_of_ble_eq_true rfl)) dL_vote_5 ⟨Nat.le_of_ble_eq_true rfl, Nat.le_of_ble_eq_true rfl⟩) hS (fun _ _ h => h) (fun _ h => h) (fun _ _ h => h) (fun Ex ce q9 ux t H1 locs1 ht hvm hpx hB hz1 hk1 hS1 hce hcv hcl => ?_) (fun r1 Ec t H1 locs1 ht hvm hpost hB hz1 hk1 hS1 => ?_)
  · obtain ⟨hpx, hB⟩ := hB
    rw [ht] at hB
    have hW : xW G E H1 := hB
    have hS := hS1
    rcases hpx with ⟨h9, rfl⟩ | ⟨h9, rfl⟩ | ⟨h9, rfl⟩
    · exact absurd h9 (tX4_vote_n1 )
    · exact absurd h9 (tX4_vote_n2 )
    · refine vx_catch (E := "java/lang/IndexOutOfBoundsException") (name := "java/lang/IndexOutOfBoundsException") hown [] ⟨0, 10, 13, 24⟩ [] (hht.trans rfl) (fun z hz => nomatch hz) rfl (by decide) hcl24 (xBad_use (.castable "java/lang/IndexOutOfBoundsException" "java/lang/IndexOutOfBoundsException") (by decide +kernel) (hX.2.2.2.2.1 (.castable "java/lang/IndexOutOfBoundsException" "java/lang/IndexOutOfBoundsException") (by decide +kernel))) hce hcv hcl ?_
      refine lv_astore (lv' := [(4, .ref q9), (0, .ref o), (1, .int a0), (2, .int a1), (3, .ref oa)]) hx hb dL_vote_13 hl (by decide) rfl (fun ls hl => ?_)
      refine lv_iconst (v := 1) hx hb dL_vote_15 (by decide) ?_
      exact vx_ret (W.widen (k := 2) (n := 12) (Nat.le_of_ble_eq_true rfl) (Nat.le_of_ble_eq_true rfl) (W.iret (v := 1) hx hb hr (fun t ht hw => ⟨⟨_, E, rfl, (Or.inr ⟨⟨rfl, h9⟩, rfl⟩), (show xW G E t.heap from by rw [ht]; exact hW)⟩, hS.F ht⟩) hS.2.2 dL_vote_16))
  · rw [ht] at hB
    have hW : xW G Ec H1 := hB
    have hS := hS1
    have hoa1 : Ec oa = some (.inl (G.2.1 1, 1, .inr (.inl f))) := by obtain ⟨_, _, _, _, _, _, hf⟩ := hpost; exact hf _ _ hoa rfl
    refine lv_i2l (v := r1.toInt64) hx hb dL_vote_8 rfl ?_
    refine x_last (G := G) hx hb hX.1 hW hS hoa1 (show vp_in (nI 0) 1 from vp_in_nI (by omega) (by omega)) dL_vote_9 (fun H locs hW hS => ?_)
    rw [show (0 : Int32).toNatClampNeg = 0 from rfl] at hW
    obtain ⟨E1, eE1⟩ : ∃ z, z = xU Ec oa (.inl (G.2.1 1, 1, .inr (.inl (vp_updL f 0 r1.toInt64)))) := ⟨_, rfl⟩
    have hW : xW G E1 H := by rw [eE1]; exact hW
    have hoa19 : E1 oa = some (.inl (G.2.1 1, 1, .inr (.inl (vp_updL f 0 r1.toInt64)))) := by rw [eE1]; exact xU_self _ _ _
    refine lv_goto (tgt := 17) hx hb dL_vote_10 (by decide) ?_
    refine lv_iconst (v := 0) hx hb dL_vote_17 (by decide) ?_
    exact vx_ret (W.widen (k := 2) (n := 12) (Nat.le_of_ble_eq_true rfl) (Nat.le_of_ble_eq_true rfl) (W.iret (v := 0) hx hb hr (fun t ht hw => ⟨⟨_, E1, rfl, (Or.inl ⟨rfl, r1, Ec, hpost, by rw [eE1]⟩), (show xW G E1 t.heap from by rw [ht]; exact hW)⟩, hS.F ht⟩) hS.2.2 dL_vote_18))

def wX4_isBanned (G : xG) (E : xE) (o : Nat) (a0 : Int32) (ct vt gt : Nat) (tb vb gb : Nat → Option Nat) (sa : Nat → Nat) (nC nV nG : Nat) (σ : xSg) : Int32 → xE → Prop := fun r E' => tX4_isBanned nV a0 = 0 ∧ E' = E ∧ ∃ v : Nat, a0 = nI v ∧ v < nV ∧ r = zI (fX3_isOut (σ 8 v) (σ 9 v))
set_option maxHeartbeats 4000000 in
set_option maxRecDepth 100000 in
theorem kL_isBanned (l : Launch) (hl9 : l.stackTraces = false) (G : xG) (E : xE) (o : Nat) (a0 : Int32) (oa : Nat) (ct vt gt : Nat) (tb vb gb : Nat → Option Nat) (sa : Nat → Nat) (nC nV nG : Nat) (σ : xSg) (hCls : xCls G E o ct vt gt tb vb gb sa nC nV nG σ) (f : Nat → Int64) (hoa : E oa = some (.inl (G.2.1 1, 1, .inr (.inl f)))) : vx_Met l yL_isBanned wsL_isBanned ({ frames := 8, cells := 1, slots := 6, locals := 133 }) (va_Pc [.ref o, .int a0, .ref oa] (xB2 G E)) (va_Qi (S := xE) (fun r E' => (r = 0 ∧ ∃ (r1 : Int32) (E1 : xE), wX4_isBanned G E o a0 ct vt gt tb vb gb sa nC nV nG σ r1 E1 ∧ E' = xU E1 oa (.inl (G.2.1 1, 1, .inr (.inl (vp_updL f 0 ((if r1 = 0 then (0 : Int64) else 1))))))) ∨ ((r = 1 ∧ tX4_isBanned nV a0 = 3) ∧ E' = E)) (fun E' t => xW G E' t.heap) (xA G)) (xX G E (fun _ => False)) 1 6 (xA G) := by
  refine vx_ofWH (cc := cL_isBanned) (maxL := 4) (ret := (some .int)) (hh := [(0, 16, 19, 24)]) (by decide) rfl ?_
  intro p e s m args below meth c s₁ B hml hv
  obtain ⟨rfl, ⟨hX, hW⟩, hNc⟩ := hv
  have hx := B.exec
  have hb := B.bytes
  have hr := B.returns
  have hts := atoms_spec (ws := wsL_isBanned) B.pre
  have hown : s.vm.findClass RL = some m.cls := findClass_of_methodNamed B.named
  have hht := vx_table (x := yL_isBanned) B (hts _ List.mem_cons_self)
  have hS : va_S (xA G) s.heap s.heap [] := va_S.rf
  have hcl24 := hts (Cond.classLink RL 24 "java/lang/IndexOutOfBoundsException") (by decide +kernel)
  have hl := lv_entry ([.ref o, .int a0, .ref oa]) (n := 4) (Nat.le_of_ble_eq_true rfl)
  rw [lg_entry_eq]
  generalize (lg_sl ([.ref o, .int a0, .ref oa]) ++ List.replicate (4 - (lg_sl ([.ref o, .int a0, .ref oa])).length) Slot.unset).toArray = ls at hl ⊢
  have hl : lv_has ls 4 [(0, .ref o), (1, .int a0), (2, .ref oa)] := hl
  obtain ⟨H, hH⟩ : ∃ z, z = s.heap := ⟨_, rfl⟩
  rw [← hH] at hW
  have hS : va_S (xA G) s.heap H [] := by rw [hH]; exact hS
  rw [← hH]
  refine lv_aload_n hx hb dL_isBanned_0 rfl (lv_at hl 2 rfl) ?_
  refine lv_iconst (v := 0) hx hb dL_isBanned_1 (by decide) ?_
  refine lv_aload_n hx hb dL_isBanned_2 rfl (lv_at hl 0 rfl) ?_
  refine lv_iload_n hx hb dL_isBanned_3 rfl (lv_at hl 1 rfl) ?_
  refine vx_calli (vx_runV (As := [.int a0]) (rest := [.int 0, .ref oa]) ⟨hx, hb, hml, hown, hts⟩ (kX4_isBanned l hl9 G E o a0 ct vt gt tb vb gb sa nC nV nG σ hCls) (cwV 1 hts gL_isBanned_X4_isBanned rfl rfl rfl (by decide +kernel) ⟨Nat.le_of_ble_eq_true rfl, Nat.le_of_ble_eq_true rfl⟩) (x_preV hX hS hW hCls.1 rfl) rfl rfl hl.1 rfl (lv_room (Nat.le_of_ble_eq_true rfl)) dL_isBanned_4 ⟨Nat.le_of_ble_eq_true rfl, Nat.le_of_ble_eq_true rfl⟩) hS (fun _ _ h => h) (fun _ h => h) (fun _ _ h => h) (fun Ex ce q9 ux t H1 locs1 ht hvm hpx hB hz1 hk1 hS1 hce hcv hcl => ?_) (fun r1 Ec t H1 locs1 ht hvm hpost hB hz1 hk1 hS1 => ?_)
  · obtain ⟨hpx, hB⟩ := hB
    rw [ht] at hB
    have hW : xW G E H1 := hB
    have hS := hS1
    rcases hpx with ⟨h9, rfl⟩ | ⟨h9, rfl⟩ | ⟨h9, rfl⟩
    · exact absurd h9 (tX4_isBanned_n1 )
    · exact absurd h9 (tX4_isBanned_n2 )
    · refine vx_catch (E := "java/lang/IndexOutOfBoundsException") (name := "java/lang/IndexOutOfBoundsException") hown [] ⟨0, 16, 19, 24⟩ [] (hht.trans rfl) (fun z hz => nomatch hz) rfl (by decide) hcl24 (xBad_use (.castable "java/lang/IndexOutOfBoundsException" "java/lang/IndexOutOfBoundsException") (by decide +kernel) (hX.2.2.2.2.1 (.castable "java/lang/IndexOutOfBoundsException" "java/lang/IndexOutOfBoundsException") (by decide +kernel))) hce hcv hcl ?_
      refine lv_astore_n (lv' := [(3, .ref q9), (0, .ref o), (1, .int a0), (2, .ref oa)]) hx hb dL_isBanned_19 rfl hl (by decide) rfl (fun ls hl => ?_)
      refine lv_iconst (v := 1) hx hb dL_isBanned_20 (by decide) ?_
      exact vx_ret (W.widen (k := 1) (n := 6) (Nat.le_of_ble_eq_true rfl) (Nat.le_of_ble_eq_true rfl) (W.iret (v := 1) hx hb hr (fun t ht hw => ⟨⟨_, E, rfl, (Or.inr ⟨⟨rfl, h9⟩, rfl⟩), (show xW G E t.heap from by rw [ht]; exact hW)⟩, hS.F ht⟩) hS.2.2 dL_isBanned_21))
  · rw [ht] at hB
    have hW : xW G Ec H1 := hB
    have hS := hS1
    have hoa1 : Ec oa = some (.inl (G.2.1 1, 1, .inr (.inl f))) := by rw [hpost.2.1]; exact hoa
    refine lv_if_eq (tgt := 14) hx hb dL_isBanned_7 (by decide) (fun c1 => ?_) (fun c1 => ?_)
    · refine lv_lconst (v := 0) hx hb dL_isBanned_14 (by decide) ?_
      refine x_last (G := G) hx hb hX.1 hW hS hoa1 (show vp_in (nI 0) 1 from vp_in_nI (by omega) (by omega)) dL_isBanned_15 (fun H locs hW hS => ?_)
      rw [show (0 : Int32).toNatClampNeg = 0 from rfl] at hW
      obtain ⟨E1, eE1⟩ : ∃ z, z = xU Ec oa (.inl (G.2.1 1, 1, .inr (.inl (vp_updL f 0 0)))) := ⟨_, rfl⟩
      have hW : xW G E1 H := by rw [eE1]; exact hW
      have hoa19 : E1 oa = some (.inl (G.2.1 1, 1, .inr (.inl (vp_updL f 0 0)))) := by rw [eE1]; exact xU_self _ _ _
      refine lv_goto (tgt := 22) hx hb dL_isBanned_16 (by decide) ?_
      refine lv_iconst (v := 0) hx hb dL_isBanned_22 (by decide) ?_
      exact vx_ret (W.widen (k := 1) (n := 6) (Nat.le_of_ble_eq_true rfl) (Nat.le_of_ble_eq_true rfl) (W.iret (v := 0) hx hb hr (fun t ht hw => ⟨⟨_, E1, rfl, (Or.inl ⟨rfl, r1, Ec, hpost, by rw [eE1]; rw [if_pos c1]⟩), (show xW G E1 t.heap from by rw [ht]; exact hW)⟩, hS.F ht⟩) hS.2.2 dL_isBanned_23))
    · refine lv_lconst (v := 1) hx hb dL_isBanned_10 (by decide) ?_
      refine lv_goto (tgt := 15) hx hb dL_isBanned_11 (by decide) ?_
      refine x_last (G := G) hx hb hX.1 hW hS hoa1 (show vp_in (nI 0) 1 from vp_in_nI (by omega) (by omega)) dL_isBanned_15 (fun H locs hW hS => ?_)
      rw [show (0 : Int32).toNatClampNeg = 0 from rfl] at hW
      obtain ⟨E2, eE2⟩ : ∃ z, z = xU Ec oa (.inl (G.2.1 1, 1, .inr (.inl (vp_updL f 0 1)))) := ⟨_, rfl⟩
      have hW : xW G E2 H := by rw [eE2]; exact hW
      have hoa19 : E2 oa = some (.inl (G.2.1 1, 1, .inr (.inl (vp_updL f 0 1)))) := by rw [eE2]; exact xU_self _ _ _
      refine lv_goto (tgt := 22) hx hb dL_isBanned_16 (by decide) ?_
      refine lv_iconst (v := 0) hx hb dL_isBanned_22 (by decide) ?_
      exact vx_ret (W.widen (k := 1) (n := 6) (Nat.le_of_ble_eq_true rfl) (Nat.le_of_ble_eq_true rfl) (W.iret (v := 0) hx hb hr (fun t ht hw => ⟨⟨_, E2, rfl, (Or.inl ⟨rfl, r1, Ec, hpost, by rw [eE2]; rw [if_neg c1]⟩), (show xW G E2 t.heap from by rw [ht]; exact hW)⟩, hS.F ht⟩) hS.2.2 dL_isBanned_23))

def wX4_endless (G : xG) (E : xE) (o : Nat) (a0 : Int32) (ct vt gt : Nat) (tb vb gb : Nat → Option Nat) (sa : Nat → Nat) (nC nV nG : Nat) (σ : xSg) : Int32 → xE → Prop := fun r E' => tX4_endless nV a0 = 0 ∧ E' = E ∧ ∃ v : Nat, a0 = nI v ∧ v < nV ∧ r = σ 9 v
set_option maxHeartbeats 4000000 in
set_option maxRecDepth 100000 in
theorem kL_endless (l : Launch) (hl9 : l.stackTraces = false) (G : xG) (E : xE) (o : Nat) (a0 : Int32) (oa : Nat) (ct vt gt : Nat) (tb vb gb : Nat → Option Nat) (sa : Nat → Nat) (nC nV nG : Nat) (σ : xSg) (hCls : xCls G E o ct vt gt tb vb gb sa nC nV nG σ) (f : Nat → Int64) (hoa : E oa = some (.inl (G.2.1 1, 1, .inr (.inl f)))) : vx_Met l yL_endless wsL_endless ({ frames := 8, cells := 1, slots := 6, locals := 133 }) (va_Pc [.ref o, .int a0, .ref oa] (xB2 G E)) (va_Qi (S := xE) (fun r E' => (r = 0 ∧ ∃ (r1 : Int32) (E1 : xE), wX4_endless G E o a0 ct vt gt tb vb gb sa nC nV nG σ r1 E1 ∧ E' = xU E1 oa (.inl (G.2.1 1, 1, .inr (.inl (vp_updL f 0 (r1.toInt64)))))) ∨ ((r = 1 ∧ tX4_endless nV a0 = 3) ∧ E' = E)) (fun E' t => xW G E' t.heap) (xA G)) (xX G E (fun _ => False)) 1 6 (xA G) := by
  refine vx_ofWH (cc := cL_endless) (maxL := 4) (ret := (some .int)) (hh := [(0, 9, 12, 24)]) (by decide) rfl ?_
  intro p e s m args below meth c s₁ B hml hv
  obtain ⟨rfl, ⟨hX, hW⟩, hNc⟩ := hv
  have hx := B.exec
  have hb := B.bytes
  have hr := B.returns
  have hts := atoms_spec (ws := wsL_endless) B.pre
  have hown : s.vm.findClass RL = some m.cls := findClass_of_methodNamed B.named
  have hht := vx_table (x := yL_endless) B (hts _ List.mem_cons_self)
  have hS : va_S (xA G) s.heap s.heap [] := va_S.rf
  have hcl24 := hts (Cond.classLink RL 24 "java/lang/IndexOutOfBoundsException") (by decide +kernel)
  have hl := lv_entry ([.ref o, .int a0, .ref oa]) (n := 4) (Nat.le_of_ble_eq_true rfl)
  rw [lg_entry_eq]
  generalize (lg_sl ([.ref o, .int a0, .ref oa]) ++ List.replicate (4 - (lg_sl ([.ref o, .int a0, .ref oa])).length) Slot.unset).toArray = ls at hl ⊢
  have hl : lv_has ls 4 [(0, .ref o), (1, .int a0), (2, .ref oa)] := hl
  obtain ⟨H, hH⟩ : ∃ z, z = s.heap := ⟨_, rfl⟩
  rw [← hH] at hW
  have hS : va_S (xA G) s.heap H [] := by rw [hH]; exact hS
  rw [← hH]
  refine lv_aload_n hx hb dL_endless_0 rfl (lv_at hl 2 rfl) ?_
  refine lv_iconst (v := 0) hx hb dL_endless_1 (by decide) ?_
  refine lv_aload_n hx hb dL_endless_2 rfl (lv_at hl 0 rfl) ?_
  refine lv_iload_n hx hb dL_endless_3 rfl (lv_at hl 1 rfl) ?_
  refine vx_calli (vx_runV (As := [.int a0]) (rest := [.int 0, .ref oa]) ⟨hx, hb, hml, hown, hts⟩ (kX4_endless l hl9 G E o a0 ct vt gt tb vb gb sa nC nV nG σ hCls) (cwV 1 hts gL_endless_X4_endless rfl rfl rfl (by decide +kernel) ⟨Nat.le_of_ble_eq_true rfl, Nat.le_of_ble_eq_true rfl⟩) (x_preV hX hS hW hCls.1 rfl) rfl rfl hl.1 rfl (lv_room (Nat.le_of_ble_eq_true rfl)) dL_endless_4 ⟨Nat.le_of_ble_eq_true rfl, Nat.le_of_ble_eq_true rfl⟩) hS (fun _ _ h => h) (fun _ h => h) (fun _ _ h => h) (fun Ex ce q9 ux t H1 locs1 ht hvm hpx hB hz1 hk1 hS1 hce hcv hcl => ?_) (fun r1 Ec t H1 locs1 ht hvm hpost hB hz1 hk1 hS1 => ?_)
  · obtain ⟨hpx, hB⟩ := hB
    rw [ht] at hB
    have hW : xW G E H1 := hB
    have hS := hS1
    rcases hpx with ⟨h9, rfl⟩ | ⟨h9, rfl⟩ | ⟨h9, rfl⟩
    · exact absurd h9 (tX4_endless_n1 )
    · exact absurd h9 (tX4_endless_n2 )
    · refine vx_catch (E := "java/lang/IndexOutOfBoundsException") (name := "java/lang/IndexOutOfBoundsException") hown [] ⟨0, 9, 12, 24⟩ [] (hht.trans rfl) (fun z hz => nomatch hz) rfl (by decide) hcl24 (xBad_use (.castable "java/lang/IndexOutOfBoundsException" "java/lang/IndexOutOfBoundsException") (by decide +kernel) (hX.2.2.2.2.1 (.castable "java/lang/IndexOutOfBoundsException" "java/lang/IndexOutOfBoundsException") (by decide +kernel))) hce hcv hcl ?_
      refine lv_astore_n (lv' := [(3, .ref q9), (0, .ref o), (1, .int a0), (2, .ref oa)]) hx hb dL_endless_12 rfl hl (by decide) rfl (fun ls hl => ?_)
      refine lv_iconst (v := 1) hx hb dL_endless_13 (by decide) ?_
      exact vx_ret (W.widen (k := 1) (n := 6) (Nat.le_of_ble_eq_true rfl) (Nat.le_of_ble_eq_true rfl) (W.iret (v := 1) hx hb hr (fun t ht hw => ⟨⟨_, E, rfl, (Or.inr ⟨⟨rfl, h9⟩, rfl⟩), (show xW G E t.heap from by rw [ht]; exact hW)⟩, hS.F ht⟩) hS.2.2 dL_endless_14))
  · rw [ht] at hB
    have hW : xW G Ec H1 := hB
    have hS := hS1
    have hoa1 : Ec oa = some (.inl (G.2.1 1, 1, .inr (.inl f))) := by rw [hpost.2.1]; exact hoa
    refine lv_i2l (v := r1.toInt64) hx hb dL_endless_7 rfl ?_
    refine x_last (G := G) hx hb hX.1 hW hS hoa1 (show vp_in (nI 0) 1 from vp_in_nI (by omega) (by omega)) dL_endless_8 (fun H locs hW hS => ?_)
    rw [show (0 : Int32).toNatClampNeg = 0 from rfl] at hW
    obtain ⟨E1, eE1⟩ : ∃ z, z = xU Ec oa (.inl (G.2.1 1, 1, .inr (.inl (vp_updL f 0 r1.toInt64)))) := ⟨_, rfl⟩
    have hW : xW G E1 H := by rw [eE1]; exact hW
    have hoa19 : E1 oa = some (.inl (G.2.1 1, 1, .inr (.inl (vp_updL f 0 r1.toInt64)))) := by rw [eE1]; exact xU_self _ _ _
    refine lv_goto (tgt := 15) hx hb dL_endless_9 (by decide) ?_
    refine lv_iconst (v := 0) hx hb dL_endless_15 (by decide) ?_
    exact vx_ret (W.widen (k := 1) (n := 6) (Nat.le_of_ble_eq_true rfl) (Nat.le_of_ble_eq_true rfl) (W.iret (v := 0) hx hb hr (fun t ht hw => ⟨⟨_, E1, rfl, (Or.inl ⟨rfl, r1, Ec, hpost, by rw [eE1]⟩), (show xW G E1 t.heap from by rw [ht]; exact hW)⟩, hS.F ht⟩) hS.2.2 dL_endless_16))

def wX4_points (G : xG) (E : xE) (o : Nat) (a0 : Int32) (a1 : Int32) (ct vt gt : Nat) (tb vb gb : Nat → Option Nat) (sa : Nat → Nat) (nC nV nG : Nat) (σ : xSg) : Int32 → xE → Prop := fun r E' => tX4_points nV a0 a1 = 0 ∧ E' = E ∧ ∃ v : Nat, a1 = nI v ∧ v < nV ∧ r = (if fX3_isOut (σ 8 v) (σ 9 v) = true then 0 else gX4_points σ nG v a0 13 0 0)
set_option maxHeartbeats 4000000 in
set_option maxRecDepth 100000 in
theorem kL_points (l : Launch) (hl9 : l.stackTraces = false) (G : xG) (E : xE) (o : Nat) (a0 : Int32) (a1 : Int32) (oa : Nat) (ct vt gt : Nat) (tb vb gb : Nat → Option Nat) (sa : Nat → Nat) (nC nV nG : Nat) (σ : xSg) (hCls : xCls G E o ct vt gt tb vb gb sa nC nV nG σ) (f : Nat → Int64) (hoa : E oa = some (.inl (G.2.1 1, 1, .inr (.inl f)))) : vx_Met l yL_points wsL_points ({ frames := 8, cells := 2, slots := 12, locals := 138 }) (va_Pc [.ref o, .int a0, .int a1, .ref oa] (xB2 G E)) (va_Qi (S := xE) (fun r E' => (r = 0 ∧ ∃ (r1 : Int32) (E1 : xE), wX4_points G E o a0 a1 ct vt gt tb vb gb sa nC nV nG σ r1 E1 ∧ E' = xU E1 oa (.inl (G.2.1 1, 1, .inr (.inl (vp_updL f 0 (r1.toInt64)))))) ∨ ((r = 1 ∧ tX4_points nV a0 a1 = 3) ∧ E' = E)) (fun E' t => xW G E' t.heap) (xA G)) (xX G E (fun _ => False)) 2 12 (xA G) := by
  refine vx_ofWH (cc := cL_points) (maxL := 5) (ret := (some .int)) (hh := [(0, 10, 13, 24)]) (by decide) rfl ?_
  intro p e s m args below meth c s₁ B hml hv
  obtain ⟨rfl, ⟨hX, hW⟩, hNc⟩ := hv
  have hx := B.exec
  have hb := B.bytes
  have hr := B.returns
  have hts := atoms_spec (ws := wsL_points) B.pre
  have hown : s.vm.findClass RL = some m.cls := findClass_of_methodNamed B.named
  have hht := vx_table (x := yL_points) B (hts _ List.mem_cons_self)
  have hS : va_S (xA G) s.heap s.heap [] := va_S.rf
  have hcl24 := hts (Cond.classLink RL 24 "java/lang/IndexOutOfBoundsException") (by decide +kernel)
  have hl := lv_entry ([.ref o, .int a0, .int a1, .ref oa]) (n := 5) (Nat.le_of_ble_eq_true rfl)
  rw [lg_entry_eq]
  generalize (lg_sl ([.ref o, .int a0, .int a1, .ref oa]) ++ List.replicate (5 - (lg_sl ([.ref o, .int a0, .int a1, .ref oa])).length) Slot.unset).toArray = ls at hl ⊢
  have hl : lv_has ls 5 [(0, .ref o), (1, .int a0), (2, .int a1), (3, .ref oa)] := hl
  obtain ⟨H, hH⟩ : ∃ z, z = s.heap := ⟨_, rfl⟩
  rw [← hH] at hW
  have hS : va_S (xA G) s.heap H [] := by rw [hH]; exact hS
  rw [← hH]
  refine lv_aload_n hx hb dL_points_0 rfl (lv_at hl 3 rfl) ?_
  refine lv_iconst (v := 0) hx hb dL_points_1 (by decide) ?_
  refine lv_aload_n hx hb dL_points_2 rfl (lv_at hl 0 rfl) ?_
  refine lv_iload_n hx hb dL_points_3 rfl (lv_at hl 1 rfl) ?_
  refine lv_iload_n hx hb dL_points_4 rfl (lv_at hl 2 rfl) ?_
  refine vx_calli (vx_runV (As := [.int a0, .int a1]) (rest := [.int 0, .ref oa]) ⟨hx, hb, hml, hown, hts⟩ (kX4_points l hl9 G E o a0 a1 ct vt gt tb vb gb sa nC nV nG σ hCls) (cwV 2 hts gL_points_X4_points rfl rfl rfl (by decide +kernel) ⟨Nat.le_of_ble_eq_true rfl, Nat.le_of_ble_eq_true rfl⟩) (x_preV hX hS hW hCls.1 rfl) rfl rfl hl.1 rfl (lv_room (Nat.le_of_ble_eq_true rfl)) dL_points_5 ⟨Nat.le_of_ble_eq_true rfl, Nat.le_of_ble_eq_true rfl⟩) hS (fun _ _ h => h) (fun _ h => h) (fun _ _ h => h) (fun Ex ce q9 ux t H1 locs1 ht hvm hpx hB hz1 hk1 hS1 hce hcv hcl => ?_) (fun r1 Ec t H1 locs1 ht hvm hpost hB hz1 hk1 hS1 => ?_)
  · obtain ⟨hpx, hB⟩ := hB
    rw [ht] at hB
    have hW : xW G E H1 := hB
    have hS := hS1
    rcases hpx with ⟨h9, rfl⟩ | ⟨h9, rfl⟩ | ⟨h9, rfl⟩
    · exact absurd h9 (tX4_points_n1 )
    · exact absurd h9 (tX4_points_n2 )
    · refine vx_catch (E := "java/lang/IndexOutOfBoundsException") (name := "java/lang/IndexOutOfBoundsException") hown [] ⟨0, 10, 13, 24⟩ [] (hht.trans rfl) (fun z hz => nomatch hz) rfl (by decide) hcl24 (xBad_use (.castable "java/lang/IndexOutOfBoundsException" "java/lang/IndexOutOfBoundsException") (by decide +kernel) (hX.2.2.2.2.1 (.castable "java/lang/IndexOutOfBoundsException" "java/lang/IndexOutOfBoundsException") (by decide +kernel))) hce hcv hcl ?_
      refine lv_astore (lv' := [(4, .ref q9), (0, .ref o), (1, .int a0), (2, .int a1), (3, .ref oa)]) hx hb dL_points_13 hl (by decide) rfl (fun ls hl => ?_)
      refine lv_iconst (v := 1) hx hb dL_points_15 (by decide) ?_
      exact vx_ret (W.widen (k := 2) (n := 12) (Nat.le_of_ble_eq_true rfl) (Nat.le_of_ble_eq_true rfl) (W.iret (v := 1) hx hb hr (fun t ht hw => ⟨⟨_, E, rfl, (Or.inr ⟨⟨rfl, h9⟩, rfl⟩), (show xW G E t.heap from by rw [ht]; exact hW)⟩, hS.F ht⟩) hS.2.2 dL_points_16))
  · rw [ht] at hB
    have hW : xW G Ec H1 := hB
    have hS := hS1
    have hoa1 : Ec oa = some (.inl (G.2.1 1, 1, .inr (.inl f))) := by rw [hpost.2.1]; exact hoa
    refine lv_i2l (v := r1.toInt64) hx hb dL_points_8 rfl ?_
    refine x_last (G := G) hx hb hX.1 hW hS hoa1 (show vp_in (nI 0) 1 from vp_in_nI (by omega) (by omega)) dL_points_9 (fun H locs hW hS => ?_)
    rw [show (0 : Int32).toNatClampNeg = 0 from rfl] at hW
    obtain ⟨E1, eE1⟩ : ∃ z, z = xU Ec oa (.inl (G.2.1 1, 1, .inr (.inl (vp_updL f 0 r1.toInt64)))) := ⟨_, rfl⟩
    have hW : xW G E1 H := by rw [eE1]; exact hW
    have hoa19 : E1 oa = some (.inl (G.2.1 1, 1, .inr (.inl (vp_updL f 0 r1.toInt64)))) := by rw [eE1]; exact xU_self _ _ _
    refine lv_goto (tgt := 17) hx hb dL_points_10 (by decide) ?_
    refine lv_iconst (v := 0) hx hb dL_points_17 (by decide) ?_
    exact vx_ret (W.widen (k := 2) (n := 12) (Nat.le_of_ble_eq_true rfl) (Nat.le_of_ble_eq_true rfl) (W.iret (v := 0) hx hb hr (fun t ht hw => ⟨⟨_, E1, rfl, (Or.inl ⟨rfl, r1, Ec, hpost, by rw [eE1]⟩), (show xW G E1 t.heap from by rw [ht]; exact hW)⟩, hS.F ht⟩) hS.2.2 dL_points_18))
