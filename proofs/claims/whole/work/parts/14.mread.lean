def gX5_size (a0 : Int32) : Nat → Nat → Int32 → Int32
  | 0, _, _ => 0
  | n + 1, k, v1 => if 25 ≤ (nI k) then v1 else (gX5_size a0 n (k + 1) (v1 + ((a0 >>> ((nI k) &&& 31)) &&& 1)))
def fX5_size (a0 : Int32) : Int32 := gX5_size a0 26 0 0
set_option maxHeartbeats 4000000 in
set_option maxRecDepth 100000 in
theorem kX5_size (l : Launch) (a0 : Int32) : Met l yX5_size wsX5_size ({ frames := 0, cells := 0, slots := 0, locals := 0 }) (va_Pc [.int a0] (fun _ => True)) (vp_Si (fun r => r = fX5_size a0)) 0 0 (fun _ => False) := by
  refine Met.ofW (cc := cX5_size) (maxL := 3) (ret := (some .int)) (by decide) rfl ?_
  intro p e s m args below meth c s₁ B hml hv
  obtain ⟨rfl, -⟩ := hv
  have hx := B.exec
  have hb := B.bytes
  have hr := B.returns
  have hts := atoms_spec (ws := wsX5_size) B.pre
  have hown : s.vm.findClass RX5 = some m.cls := findClass_of_methodNamed B.named
  have hlocks := B.notSynchronized
  have hl := lv_entry ([.int a0]) (n := 3) (Nat.le_of_ble_eq_true rfl)
  rw [lg_entry_eq]
  generalize (lg_sl ([.int a0]) ++ List.replicate (3 - (lg_sl ([.int a0])).length) Slot.unset).toArray = ls at hl ⊢
  have hl : lv_has ls 3 [(0, .int a0)] := hl
  refine x_loopK (σ := Nat × Nat × Int32) 4 3 (fun x => [(0, .int a0), (2, .int (nI x.2.1)), (1, .int x.2.2)]) (fun x => fX5_size a0 = gX5_size a0 x.1 x.2.1 x.2.2 ∧ x.2.1 ≤ 25 ∧ x.1 + x.2.1 = 25 + 1) (fun x => x.1) ?_ (fun LP => ?_)
  · rintro ⟨n, k, v1⟩ ls ⟨hv, hk, hn⟩ hl ih
    dsimp only at hv hk hn
    rcases n with _ | n
    · omega
    · have hl : lv_has ls 3 [(0, .int a0), (2, .int (nI k)), (1, .int v1)] := hl
      refine lv_iload_n hx hb dX5_size_4 rfl (lv_at hl 1 rfl) ?_
      refine lv_bipush (v := 25) hx hb dX5_size_5 (by decide) ?_
      refine lv_icmp_ge (tgt := 24) hx hb dX5_size_7 (by decide) (fun c_1 => ?_) (fun c_1 => ?_)
      · refine lv_iload_n hx hb dX5_size_24 rfl (lv_at hl 2 rfl) ?_
        exact W.iret (v := v1) hx hb hr (fun t ht hw => ⟨_, rfl, (show (v1 : Int32) = fX5_size a0 from by rw [hv, gX5_size]; rw [if_pos c_1]), ht⟩) (fun _ h => nomatch h) dX5_size_25
      · have hk1 : k < 25 := x_nge (B := 25) c_1 (by omega)
        refine lv_iload_n hx hb dX5_size_10 rfl (lv_at hl 2 rfl) ?_
        refine lv_iload_n hx hb dX5_size_11 rfl (lv_at hl 0 rfl) ?_
        refine lv_iload_n hx hb dX5_size_12 rfl (lv_at hl 1 rfl) ?_
        refine lv_ishr hx hb dX5_size_13 ?_
        refine lv_iconst (v := 1) hx hb dX5_size_14 (by decide) ?_
        refine lv_iand hx hb dX5_size_15 ?_
        refine lv_iadd hx hb dX5_size_16 ?_
        refine lv_istore_n (lv' := [(1, .int (v1 + ((a0 >>> ((nI k) &&& 31)) &&& 1))), (0, .int a0), (2, .int (nI k))]) hx hb dX5_size_17 rfl hl (by decide) rfl (fun ls hl => ?_)
        refine lv_iinc (v := nI (k + 1)) (lv' := [(2, .int (nI (k + 1))), (1, .int (v1 + ((a0 >>> ((nI k) &&& 31)) &&& 1))), (0, .int a0)]) hx hb dX5_size_18 hl (k := 2) rfl (nI_1 _) (by decide) rfl (fun ls hl => ?_)
        refine lv_goto (tgt := 4) hx hb dX5_size_21 (by decide) ?_
        exact ih (n, k + 1, (v1 + ((a0 >>> ((nI k) &&& 31)) &&& 1))) ls (Nat.lt_succ_self _) ⟨by rw [hv, gX5_size]; rw [if_neg c_1], hk1, by dsimp only <;> omega⟩ (lv_sub hl [2, 0, 1] rfl)
  · refine lv_iconst (v := 0) hx hb dX5_size_0 (by decide) ?_
    refine lv_istore_n (lv' := [(1, .int 0), (0, .int a0)]) hx hb dX5_size_1 rfl hl (by decide) rfl (fun ls hl => ?_)
    refine lv_iconst (v := 0) hx hb dX5_size_2 (by decide) ?_
    refine lv_istore_n (lv' := [(2, .int 0), (1, .int 0), (0, .int a0)]) hx hb dX5_size_3 rfl hl (by decide) rfl (fun ls hl => ?_)
    exact LP (26, 0, 0) ls ⟨by unfold fX5_size; rfl, by dsimp only <;> omega, by dsimp only <;> omega⟩ (lv_sub hl [2, 0, 1] rfl)

def fX5_thrown (A : Nat → Nat) : Int32 := nI (A 19)
set_option maxHeartbeats 4000000 in
set_option maxRecDepth 100000 in
theorem kX5_thrown (l : Launch) (G : xG) (E : xE) (A : Nat → Nat) (o : Nat) (σ : xSg) (hM : xMod G E o A σ) : Met l yX5_thrown wsX5_thrown ({ frames := 0, cells := 0, slots := 0, locals := 0 }) (va_Pc [.ref o] (xB G E)) (vp_Si (fun r => r = fX5_thrown A)) 0 0 (fun _ => False) := by
  refine Met.ofW (cc := cX5_thrown) (maxL := 1) (ret := (some .int)) (by decide) rfl ?_
  intro p e s m args below meth c s₁ B hml hv
  obtain ⟨rfl, hX, hW⟩ := hv
  have hx := B.exec
  have hb := B.bytes
  have hr := B.returns
  have hts := atoms_spec (ws := wsX5_thrown) B.pre
  have hown : s.vm.findClass RX5 = some m.cls := findClass_of_methodNamed B.named
  have hlocks := B.notSynchronized
  have hS : va_S (xA G) s.heap s.heap [] := va_S.rf
  have hiX5 : ∀ w ∈ u_ws RX5 TX5 20, w ∈ wsX5_thrown := by decide +kernel
  have hf58 := hts (Cond.fieldLink RX5 58 "VariantMillModel" "thrown" "I") (by decide +kernel)
  have hl := lv_entry ([.ref o]) (n := 1) (Nat.le_of_ble_eq_true rfl)
  rw [lg_entry_eq]
  generalize (lg_sl ([.ref o]) ++ List.replicate (1 - (lg_sl ([.ref o])).length) Slot.unset).toArray = ls at hl ⊢
  have hl : lv_has ls 1 [(0, .ref o)] := hl
  refine lv_aload_n hx hb dX5_thrown_0 rfl (lv_at hl 0 rfl) ?_
  refine va_get (D := G.1) (ci := 5) (v := .int (nI (A 19))) (C := RX5) (T := TX5) (N := 20) hx hb hts hiX5 hown hX.1 (x1 hW hM.1) 0 rfl rfl 19 (by decide) hf58 (fun _ h9 => h9) rfl dX5_thrown_1 ?_
  exact W.iret (v := nI (A 19)) hx hb hr (fun t ht hw => ⟨_, rfl, (show (nI (A 19) : Int32) = fX5_thrown A from by unfold fX5_thrown; rfl), ht⟩) (fun _ h => nomatch h) dX5_thrown_4

def fX5_isVariant (σ : xSg) (a0 : Int32) : Bool := if a0 < 0 then false else (if (σ 5 0) ≤ a0 then false else true)
set_option maxHeartbeats 4000000 in
set_option maxRecDepth 100000 in
theorem kX5_isVariant (l : Launch) (G : xG) (E : xE) (σ : xSg) (o : Nat) (a0 : Int32) (A : Nat → Nat) (hM : xMod G E o A σ) : Met l yX5_isVariant wsX5_isVariant ({ frames := 0, cells := 0, slots := 0, locals := 0 }) (va_Pc [.ref o, .int a0] (xB G E)) (vp_Si (fun r => r = zI (fX5_isVariant σ a0))) 0 0 (fun _ => False) := by
  refine Met.ofW (cc := cX5_isVariant) (maxL := 2) (ret := (some .boolean)) (by decide) rfl ?_
  intro p e s m args below meth c s₁ B hml hv
  obtain ⟨rfl, hX, hW⟩ := hv
  have hx := B.exec
  have hb := B.bytes
  have hr := B.returns
  have hts := atoms_spec (ws := wsX5_isVariant) B.pre
  have hown : s.vm.findClass RX5 = some m.cls := findClass_of_methodNamed B.named
  have hlocks := B.notSynchronized
  have hS : va_S (xA G) s.heap s.heap [] := va_S.rf
  have hiX5 : ∀ w ∈ u_ws RX5 TX5 20, w ∈ wsX5_isVariant := by decide +kernel
  have hf62 := hts (Cond.fieldLink RX5 62 "VariantMillModel" "variants" "I") (by decide +kernel)
  have hl := lv_entry ([.ref o, .int a0]) (n := 2) (Nat.le_of_ble_eq_true rfl)
  rw [lg_entry_eq]
  generalize (lg_sl ([.ref o, .int a0]) ++ List.replicate (2 - (lg_sl ([.ref o, .int a0])).length) Slot.unset).toArray = ls at hl ⊢
  have hl : lv_has ls 2 [(0, .ref o), (1, .int a0)] := hl
  refine lv_iload_n hx hb dX5_isVariant_0 rfl (lv_at hl 1 rfl) ?_
  refine lv_if_lt (tgt := 16) hx hb dX5_isVariant_1 (by decide) (fun c_1 => ?_) (fun c_1 => ?_)
  · refine lv_iconst (v := 0) hx hb dX5_isVariant_16 (by decide) ?_
    exact W.zret (v := 0) hx hb hr rfl (fun t ht hw => ⟨_, rfl, (congrArg zI (show false = fX5_isVariant σ a0 from by unfold fX5_isVariant; rw [if_pos c_1])), ht⟩) (fun _ h => nomatch h) dX5_isVariant_17
  · refine lv_iload_n hx hb dX5_isVariant_4 rfl (lv_at hl 1 rfl) ?_
    refine lv_aload_n hx hb dX5_isVariant_5 rfl (lv_at hl 0 rfl) ?_
    refine va_get (D := G.1) (ci := 5) (v := .int (σ 5 0)) (C := RX5) (T := TX5) (N := 20) hx hb hts hiX5 hown hX.1 (x1 hW hM.1) 0 rfl rfl 5 (by decide) hf62 (fun _ h9 => h9) rfl dX5_isVariant_6 ?_
    refine lv_icmp_ge (tgt := 16) hx hb dX5_isVariant_9 (by decide) (fun c_2 => ?_) (fun c_2 => ?_)
    · refine lv_iconst (v := 0) hx hb dX5_isVariant_16 (by decide) ?_
      exact W.zret (v := 0) hx hb hr rfl (fun t ht hw => ⟨_, rfl, (congrArg zI (show false = fX5_isVariant σ a0 from by unfold fX5_isVariant; rw [if_neg c_1, if_pos c_2])), ht⟩) (fun _ h => nomatch h) dX5_isVariant_17
    · refine lv_iconst (v := 1) hx hb dX5_isVariant_12 (by decide) ?_
      refine lv_goto (tgt := 17) hx hb dX5_isVariant_13 (by decide) ?_
      exact W.zret (v := 1) hx hb hr rfl (fun t ht hw => ⟨_, rfl, (congrArg zI (show true = fX5_isVariant σ a0 from by unfold fX5_isVariant; rw [if_neg c_1, if_neg c_2])), ht⟩) (fun _ h => nomatch h) dX5_isVariant_17

def fX5_isGame (σ : xSg) (a0 : Int32) : Bool := if a0 < 0 then false else (if (σ 10 0) ≤ a0 then false else true)
set_option maxHeartbeats 4000000 in
set_option maxRecDepth 100000 in
theorem kX5_isGame (l : Launch) (G : xG) (E : xE) (σ : xSg) (o : Nat) (a0 : Int32) (A : Nat → Nat) (hM : xMod G E o A σ) : Met l yX5_isGame wsX5_isGame ({ frames := 0, cells := 0, slots := 0, locals := 0 }) (va_Pc [.ref o, .int a0] (xB G E)) (vp_Si (fun r => r = zI (fX5_isGame σ a0))) 0 0 (fun _ => False) := by
  refine Met.ofW (cc := cX5_isGame) (maxL := 2) (ret := (some .boolean)) (by decide) rfl ?_
  intro p e s m args below meth c s₁ B hml hv
  obtain ⟨rfl, hX, hW⟩ := hv
  have hx := B.exec
  have hb := B.bytes
  have hr := B.returns
  have hts := atoms_spec (ws := wsX5_isGame) B.pre
  have hown : s.vm.findClass RX5 = some m.cls := findClass_of_methodNamed B.named
  have hlocks := B.notSynchronized
  have hS : va_S (xA G) s.heap s.heap [] := va_S.rf
  have hiX5 : ∀ w ∈ u_ws RX5 TX5 20, w ∈ wsX5_isGame := by decide +kernel
  have hf65 := hts (Cond.fieldLink RX5 65 "VariantMillModel" "games" "I") (by decide +kernel)
  have hl := lv_entry ([.ref o, .int a0]) (n := 2) (Nat.le_of_ble_eq_true rfl)
  rw [lg_entry_eq]
  generalize (lg_sl ([.ref o, .int a0]) ++ List.replicate (2 - (lg_sl ([.ref o, .int a0])).length) Slot.unset).toArray = ls at hl ⊢
  have hl : lv_has ls 2 [(0, .ref o), (1, .int a0)] := hl
  refine lv_iload_n hx hb dX5_isGame_0 rfl (lv_at hl 1 rfl) ?_
  refine lv_if_lt (tgt := 16) hx hb dX5_isGame_1 (by decide) (fun c_1 => ?_) (fun c_1 => ?_)
  · refine lv_iconst (v := 0) hx hb dX5_isGame_16 (by decide) ?_
    exact W.zret (v := 0) hx hb hr rfl (fun t ht hw => ⟨_, rfl, (congrArg zI (show false = fX5_isGame σ a0 from by unfold fX5_isGame; rw [if_pos c_1])), ht⟩) (fun _ h => nomatch h) dX5_isGame_17
  · refine lv_iload_n hx hb dX5_isGame_4 rfl (lv_at hl 1 rfl) ?_
    refine lv_aload_n hx hb dX5_isGame_5 rfl (lv_at hl 0 rfl) ?_
    refine va_get (D := G.1) (ci := 5) (v := .int (σ 10 0)) (C := RX5) (T := TX5) (N := 20) hx hb hts hiX5 hown hX.1 (x1 hW hM.1) 0 rfl rfl 10 (by decide) hf65 (fun _ h9 => h9) rfl dX5_isGame_6 ?_
    refine lv_icmp_ge (tgt := 16) hx hb dX5_isGame_9 (by decide) (fun c_2 => ?_) (fun c_2 => ?_)
    · refine lv_iconst (v := 0) hx hb dX5_isGame_16 (by decide) ?_
      exact W.zret (v := 0) hx hb hr rfl (fun t ht hw => ⟨_, rfl, (congrArg zI (show false = fX5_isGame σ a0 from by unfold fX5_isGame; rw [if_neg c_1, if_pos c_2])), ht⟩) (fun _ h => nomatch h) dX5_isGame_17
    · refine lv_iconst (v := 1) hx hb dX5_isGame_12 (by decide) ?_
      refine lv_goto (tgt := 17) hx hb dX5_isGame_13 (by decide) ?_
      exact W.zret (v := 1) hx hb hr rfl (fun t ht hw => ⟨_, rfl, (congrArg zI (show true = fX5_isGame σ a0 from by unfold fX5_isGame; rw [if_neg c_1, if_neg c_2])), ht⟩) (fun _ h => nomatch h) dX5_isGame_17

def fX5_areCards (σ : xSg) (a0 : Int32) : Bool := if a0 < 1 then false else (if ((1 : Int32) <<< ((σ 0 0) &&& 31)) ≤ a0 then false else true)
set_option maxHeartbeats 4000000 in
set_option maxRecDepth 100000 in
theorem kX5_areCards (l : Launch) (G : xG) (E : xE) (σ : xSg) (o : Nat) (a0 : Int32) (A : Nat → Nat) (hM : xMod G E o A σ) : Met l yX5_areCards wsX5_areCards ({ frames := 0, cells := 0, slots := 0, locals := 0 }) (va_Pc [.ref o, .int a0] (xB G E)) (vp_Si (fun r => r = zI (fX5_areCards σ a0))) 0 0 (fun _ => False) := by
  refine Met.ofW (cc := cX5_areCards) (maxL := 2) (ret := (some .boolean)) (by decide) rfl ?_
  intro p e s m args below meth c s₁ B hml hv
  obtain ⟨rfl, hX, hW⟩ := hv
  have hx := B.exec
  have hb := B.bytes
  have hr := B.returns
  have hts := atoms_spec (ws := wsX5_areCards) B.pre
  have hown : s.vm.findClass RX5 = some m.cls := findClass_of_methodNamed B.named
  have hlocks := B.notSynchronized
  have hS : va_S (xA G) s.heap s.heap [] := va_S.rf
  have hiX5 : ∀ w ∈ u_ws RX5 TX5 20, w ∈ wsX5_areCards := by decide +kernel
  have hf76 := hts (Cond.fieldLink RX5 76 "VariantMillModel" "cards" "I") (by decide +kernel)
  have hl := lv_entry ([.ref o, .int a0]) (n := 2) (Nat.le_of_ble_eq_true rfl)
  rw [lg_entry_eq]
  generalize (lg_sl ([.ref o, .int a0]) ++ List.replicate (2 - (lg_sl ([.ref o, .int a0])).length) Slot.unset).toArray = ls at hl ⊢
  have hl : lv_has ls 2 [(0, .ref o), (1, .int a0)] := hl
  refine lv_iload_n hx hb dX5_areCards_0 rfl (lv_at hl 1 rfl) ?_
  refine lv_iconst (v := 1) hx hb dX5_areCards_1 (by decide) ?_
  refine lv_icmp_lt (tgt := 19) hx hb dX5_areCards_2 (by decide) (fun c_1 => ?_) (fun c_1 => ?_)
  · refine lv_iconst (v := 0) hx hb dX5_areCards_19 (by decide) ?_
    exact W.zret (v := 0) hx hb hr rfl (fun t ht hw => ⟨_, rfl, (congrArg zI (show false = fX5_areCards σ a0 from by unfold fX5_areCards; rw [if_pos c_1])), ht⟩) (fun _ h => nomatch h) dX5_areCards_20
  · refine lv_iload_n hx hb dX5_areCards_5 rfl (lv_at hl 1 rfl) ?_
    refine lv_iconst (v := 1) hx hb dX5_areCards_6 (by decide) ?_
    refine lv_aload_n hx hb dX5_areCards_7 rfl (lv_at hl 0 rfl) ?_
    refine va_get (D := G.1) (ci := 5) (v := .int (σ 0 0)) (C := RX5) (T := TX5) (N := 20) hx hb hts hiX5 hown hX.1 (x1 hW hM.1) 0 rfl rfl 0 (by decide) hf76 (fun _ h9 => h9) rfl dX5_areCards_8 ?_
    refine lv_ishl hx hb dX5_areCards_11 ?_
    refine lv_icmp_ge (tgt := 19) hx hb dX5_areCards_12 (by decide) (fun c_2 => ?_) (fun c_2 => ?_)
    · refine lv_iconst (v := 0) hx hb dX5_areCards_19 (by decide) ?_
      exact W.zret (v := 0) hx hb hr rfl (fun t ht hw => ⟨_, rfl, (congrArg zI (show false = fX5_areCards σ a0 from by unfold fX5_areCards; rw [if_neg c_1, if_pos c_2])), ht⟩) (fun _ h => nomatch h) dX5_areCards_20
    · refine lv_iconst (v := 1) hx hb dX5_areCards_15 (by decide) ?_
      refine lv_goto (tgt := 20) hx hb dX5_areCards_16 (by decide) ?_
      exact W.zret (v := 1) hx hb hr rfl (fun t ht hw => ⟨_, rfl, (congrArg zI (show true = fX5_areCards σ a0 from by unfold fX5_areCards; rw [if_neg c_1, if_neg c_2])), ht⟩) (fun _ h => nomatch h) dX5_areCards_20

def fX5_arePieces (σ : xSg) (a0 : Int32) (a1 : Int32) : Bool := if (fX5_in a0 1 33554431) = true then (if 6 < (fX5_size a0) then false else (if (a0 &&& a1) = 0 then true else false)) else false
set_option maxHeartbeats 4000000 in
set_option maxRecDepth 100000 in
theorem kX5_arePieces (l : Launch) (G : xG) (E : xE) (σ : xSg) (o : Nat) (a0 : Int32) (a1 : Int32) (A : Nat → Nat) (hM : xMod G E o A σ) : Met l yX5_arePieces wsX5_arePieces ({ frames := 1, cells := 0, slots := 0, locals := 22 }) (va_Pc [.ref o, .int a0, .int a1] (xB G E)) (vp_Si (fun r => r = zI (fX5_arePieces σ a0 a1))) 0 0 (fun _ => False) := by
  refine Met.ofW (cc := cX5_arePieces) (maxL := 3) (ret := (some .boolean)) (by decide) rfl ?_
  intro p e s m args below meth c s₁ B hml hv
  obtain ⟨rfl, hX, hW⟩ := hv
  have hx := B.exec
  have hb := B.bytes
  have hr := B.returns
  have hts := atoms_spec (ws := wsX5_arePieces) B.pre
  have hown : s.vm.findClass RX5 = some m.cls := findClass_of_methodNamed B.named
  have hlocks := B.notSynchronized
  have hS : va_S (xA G) s.heap s.heap [] := va_S.rf
  have hk83 := hts (Cond.constant RX5 83 (33554431)) (by decide +kernel)
  have hl := lv_entry ([.ref o, .int a0, .int a1]) (n := 3) (Nat.le_of_ble_eq_true rfl)
  rw [lg_entry_eq]
  generalize (lg_sl ([.ref o, .int a0, .int a1]) ++ List.replicate (3 - (lg_sl ([.ref o, .int a0, .int a1])).length) Slot.unset).toArray = ls at hl ⊢
  have hl : lv_has ls 3 [(0, .ref o), (1, .int a0), (2, .int a1)] := hl
  refine lv_iload_n hx hb dX5_arePieces_0 rfl (lv_at hl 1 rfl) ?_
  refine lv_iconst (v := 1) hx hb dX5_arePieces_1 (by decide) ?_
  refine lv_ldc (v := 33554431) hx hb hown hk83 dX5_arePieces_2 ?_
  refine x_callSe (va_runS (As := [.int a0, .int 1, .int 33554431]) (rest := []) ⟨hx, hb, hml, hown, hts⟩ (kX5_in l a0 1 33554431) (va_cwS 3 hts gX5_arePieces_X5_in rfl rfl rfl (by decide +kernel) ⟨Nat.le_of_ble_eq_true rfl, Nat.le_of_ble_eq_true rfl⟩) x_preT rfl rfl hl.1 rfl (lv_room (Nat.le_of_ble_eq_true rfl)) dX5_arePieces_4 ⟨Nat.le_of_ble_eq_true rfl, Nat.le_of_ble_eq_true rfl⟩) ?_
  refine x_ifz_eq (b := fX5_in a0 1 33554431) (tgt := 29) hx hb dX5_arePieces_7 (by decide) (fun c_1 => ?_) (fun c_1 => ?_)
  · refine lv_iconst (v := 0) hx hb dX5_arePieces_29 (by decide) ?_
    exact W.zret (v := 0) hx hb hr rfl (fun t ht hw => ⟨_, rfl, (congrArg zI (show false = fX5_arePieces σ a0 a1 from by unfold fX5_arePieces; rw [if_neg (Bool.eq_false_iff.mp c_1)])), ht⟩) (fun _ h => nomatch h) dX5_arePieces_30
  · refine lv_iload_n hx hb dX5_arePieces_10 rfl (lv_at hl 1 rfl) ?_
    refine x_callSe (va_runS (As := [.int a0]) (rest := []) ⟨hx, hb, hml, hown, hts⟩ (kX5_size l a0) (va_cwS 1 hts gX5_arePieces_X5_size rfl rfl rfl (by decide +kernel) ⟨Nat.le_of_ble_eq_true rfl, Nat.le_of_ble_eq_true rfl⟩) x_preT rfl rfl hl.1 rfl (lv_room (Nat.le_of_ble_eq_true rfl)) dX5_arePieces_11 ⟨Nat.le_of_ble_eq_true rfl, Nat.le_of_ble_eq_true rfl⟩) ?_
    refine lv_bipush (v := 6) hx hb dX5_arePieces_14 (by decide) ?_
    refine lv_icmp_gt (tgt := 29) hx hb dX5_arePieces_16 (by decide) (fun c_2 => ?_) (fun c_2 => ?_)
    · refine lv_iconst (v := 0) hx hb dX5_arePieces_29 (by decide) ?_
      exact W.zret (v := 0) hx hb hr rfl (fun t ht hw => ⟨_, rfl, (congrArg zI (show false = fX5_arePieces σ a0 a1 from by unfold fX5_arePieces; rw [if_pos c_1, if_pos c_2])), ht⟩) (fun _ h => nomatch h) dX5_arePieces_30
    · refine lv_iload_n hx hb dX5_arePieces_19 rfl (lv_at hl 1 rfl) ?_
      refine lv_iload_n hx hb dX5_arePieces_20 rfl (lv_at hl 2 rfl) ?_
      refine lv_iand hx hb dX5_arePieces_21 ?_
      refine lv_if_ne (tgt := 29) hx hb dX5_arePieces_22 (by decide) (fun c_3 => ?_) (fun c_3 => ?_)
      · refine lv_iconst (v := 0) hx hb dX5_arePieces_29 (by decide) ?_
        exact W.zret (v := 0) hx hb hr rfl (fun t ht hw => ⟨_, rfl, (congrArg zI (show false = fX5_arePieces σ a0 a1 from by unfold fX5_arePieces; rw [if_pos c_1, if_neg c_2, if_neg c_3])), ht⟩) (fun _ h => nomatch h) dX5_arePieces_30
      · refine lv_iconst (v := 1) hx hb dX5_arePieces_25 (by decide) ?_
        refine lv_goto (tgt := 30) hx hb dX5_arePieces_26 (by decide) ?_
        exact W.zret (v := 1) hx hb hr rfl (fun t ht hw => ⟨_, rfl, (congrArg zI (show true = fX5_arePieces σ a0 a1 from by unfold fX5_arePieces; rw [if_pos c_1, if_neg c_2, if_pos c_3])), ht⟩) (fun _ h => nomatch h) dX5_arePieces_30

def fX5_isSecondsTurn (σ : xSg) (d : Nat) (v : Nat) (g : Nat) : Bool := if ((σ 16 g) - (σ 16 g) / 2 * 2) = 1 then true else false
set_option maxHeartbeats 4000000 in
set_option maxRecDepth 100000 in
theorem kX5_isSecondsTurn (l : Launch) (G : xG) (E : xE) (σ : xSg) (d : Nat) (v : Nat) (o : Nat) (g : Nat) (A : Nat → Nat) (hM : xMod G E o A σ) (hG : xGm σ g d v) : Met l yX5_isSecondsTurn wsX5_isSecondsTurn ({ frames := 0, cells := 0, slots := 0, locals := 0 }) (va_Pc [.ref o, .int (nI g)] (xB G E)) (vp_Si (fun r => r = zI (fX5_isSecondsTurn σ d v g))) 0 0 (fun _ => False) := by
  refine Met.ofW (cc := cX5_isSecondsTurn) (maxL := 2) (ret := (some .boolean)) (by decide) rfl ?_
  intro p e s m args below meth c s₁ B hml hv
  obtain ⟨rfl, hX, hW⟩ := hv
  have hx := B.exec
  have hb := B.bytes
  have hr := B.returns
  have hts := atoms_spec (ws := wsX5_isSecondsTurn) B.pre
  have hown : s.vm.findClass RX5 = some m.cls := findClass_of_methodNamed B.named
  have hlocks := B.notSynchronized
  have hS : va_S (xA G) s.heap s.heap [] := va_S.rf
  have hiX5 : ∀ w ∈ u_ws RX5 TX5 20, w ∈ wsX5_isSecondsTurn := by decide +kernel
  have hf49 := hts (Cond.fieldLink RX5 49 "VariantMillModel" "made" "[I") (by decide +kernel)
  have hl := lv_entry ([.ref o, .int (nI g)]) (n := 2) (Nat.le_of_ble_eq_true rfl)
  rw [lg_entry_eq]
  generalize (lg_sl ([.ref o, .int (nI g)]) ++ List.replicate (2 - (lg_sl ([.ref o, .int (nI g)])).length) Slot.unset).toArray = ls at hl ⊢
  have hl : lv_has ls 2 [(0, .ref o), (1, .int (nI g))] := hl
  refine lv_aload_n hx hb dX5_isSecondsTurn_0 rfl (lv_at hl 0 rfl) ?_
  refine va_get (D := G.1) (ci := 5) (v := .ref (A 16)) (C := RX5) (T := TX5) (N := 20) hx hb hts hiX5 hown hX.1 (x1 hW hM.1) 0 rfl rfl 16 (by decide) hf49 (fun _ h9 => h9) rfl dX5_isSecondsTurn_1 ?_
  refine lv_iload_n hx hb dX5_isSecondsTurn_4 rfl (lv_at hl 1 rfl) ?_
  refine x_ild (k := g) hx hb hX.1 hW hM.2.2.2.2.2.2.2.2.2.2.2.2.2.2.1 (vp_in_nI hG.1 (by omega)) (nI_clamp (by have := hG.1; omega)) dX5_isSecondsTurn_5 ?_
  refine lv_iconst (v := 2) hx hb dX5_isSecondsTurn_6 (by decide) ?_
  refine lv_irem hx hb dX5_isSecondsTurn_7 (by decide) ?_
  refine lv_iconst (v := 1) hx hb dX5_isSecondsTurn_8 (by decide) ?_
  refine lv_icmp_ne (tgt := 16) hx hb dX5_isSecondsTurn_9 (by decide) (fun c_1 => ?_) (fun c_1 => ?_)
  · refine lv_iconst (v := 0) hx hb dX5_isSecondsTurn_16 (by decide) ?_
    exact W.zret (v := 0) hx hb hr rfl (fun t ht hw => ⟨_, rfl, (congrArg zI (show false = fX5_isSecondsTurn σ d v g from by unfold fX5_isSecondsTurn; rw [if_neg c_1])), ht⟩) (fun _ h => nomatch h) dX5_isSecondsTurn_17
  · refine lv_iconst (v := 1) hx hb dX5_isSecondsTurn_12 (by decide) ?_
    refine lv_goto (tgt := 17) hx hb dX5_isSecondsTurn_13 (by decide) ?_
    exact W.zret (v := 1) hx hb hr rfl (fun t ht hw => ⟨_, rfl, (congrArg zI (show true = fX5_isSecondsTurn σ d v g from by unfold fX5_isSecondsTurn; rw [if_pos c_1])), ht⟩) (fun _ h => nomatch h) dX5_isSecondsTurn_17

def fX5_at (σ : xSg) (d : Nat) (v : Nat) (g : Nat) : Int32 := ((61 : Int32) * (nI g)) + (σ 16 g)
set_option maxHeartbeats 4000000 in
set_option maxRecDepth 100000 in
theorem kX5_at (l : Launch) (G : xG) (E : xE) (σ : xSg) (d : Nat) (v : Nat) (o : Nat) (g : Nat) (A : Nat → Nat) (hM : xMod G E o A σ) (hG : xGm σ g d v) : Met l yX5_at wsX5_at ({ frames := 0, cells := 0, slots := 0, locals := 0 }) (va_Pc [.ref o, .int (nI g)] (xB G E)) (vp_Si (fun r => r = fX5_at σ d v g)) 0 0 (fun _ => False) := by
  refine Met.ofW (cc := cX5_at) (maxL := 2) (ret := (some .int)) (by decide) rfl ?_
  intro p e s m args below meth c s₁ B hml hv
  obtain ⟨rfl, hX, hW⟩ := hv
  have hx := B.exec
  have hb := B.bytes
  have hr := B.returns
  have hts := atoms_spec (ws := wsX5_at) B.pre
  have hown : s.vm.findClass RX5 = some m.cls := findClass_of_methodNamed B.named
  have hlocks := B.notSynchronized
  have hS : va_S (xA G) s.heap s.heap [] := va_S.rf
  have hiX5 : ∀ w ∈ u_ws RX5 TX5 20, w ∈ wsX5_at := by decide +kernel
  have hf49 := hts (Cond.fieldLink RX5 49 "VariantMillModel" "made" "[I") (by decide +kernel)
  have hl := lv_entry ([.ref o, .int (nI g)]) (n := 2) (Nat.le_of_ble_eq_true rfl)
  rw [lg_entry_eq]
  generalize (lg_sl ([.ref o, .int (nI g)]) ++ List.replicate (2 - (lg_sl ([.ref o, .int (nI g)])).length) Slot.unset).toArray = ls at hl ⊢
  have hl : lv_has ls 2 [(0, .ref o), (1, .int (nI g))] := hl
  refine lv_bipush (v := 61) hx hb dX5_at_0 (by decide) ?_
  refine lv_iload_n hx hb dX5_at_2 rfl (lv_at hl 1 rfl) ?_
  refine lv_imul hx hb dX5_at_3 ?_
  refine lv_aload_n hx hb dX5_at_4 rfl (lv_at hl 0 rfl) ?_
  refine va_get (D := G.1) (ci := 5) (v := .ref (A 16)) (C := RX5) (T := TX5) (N := 20) hx hb hts hiX5 hown hX.1 (x1 hW hM.1) 0 rfl rfl 16 (by decide) hf49 (fun _ h9 => h9) rfl dX5_at_5 ?_
  refine lv_iload_n hx hb dX5_at_8 rfl (lv_at hl 1 rfl) ?_
  refine x_ild (k := g) hx hb hX.1 hW hM.2.2.2.2.2.2.2.2.2.2.2.2.2.2.1 (vp_in_nI hG.1 (by omega)) (nI_clamp (by have := hG.1; omega)) dX5_at_9 ?_
  refine lv_iadd hx hb dX5_at_10 ?_
  exact W.iret (v := ((61 : Int32) * (nI g)) + (σ 16 g)) hx hb hr (fun t ht hw => ⟨_, rfl, (show (((61 : Int32) * (nI g)) + (σ 16 g) : Int32) = fX5_at σ d v g from by unfold fX5_at; rfl), ht⟩) (fun _ h => nomatch h) dX5_at_11

theorem x_atI {σ : xSg} {g d v : Nat} (h : xGm σ g d v) : vp_in (fX5_at σ d v g) 732 ∧ (fX5_at σ d v g).toNatClampNeg = 61 * g + d := by
  obtain ⟨h1, h2, h3, -, -⟩ := h
  have e : fX5_at σ d v g = nI (61 * g + d) := by
    unfold fX5_at
    rw [h2, show (61 : Int32) = nI 61 from rfl, pk_mul, nI_add]
  rw [e]
  exact ⟨vp_in_nI (by omega) (by omega), nI_clamp (by omega)⟩

def fX5_piecesOf (σ : xSg) (d : Nat) (v : Nat) (g : Nat) (a1 : Bool) : Int32 := if (zI a1) = (zI (fX5_isSecondsTurn (σ) d v g)) then (σ 18 (61 * g + d)) else (σ 17 (61 * g + d))
set_option maxHeartbeats 4000000 in
set_option maxRecDepth 100000 in
theorem kX5_piecesOf (l : Launch) (G : xG) (E : xE) (σ : xSg) (d : Nat) (v : Nat) (o : Nat) (g : Nat) (a1 : Bool) (A : Nat → Nat) (hM : xMod G E o A σ) (hG : xGm σ g d v) : Met l yX5_piecesOf wsX5_piecesOf ({ frames := 1, cells := 0, slots := 0, locals := 21 }) (va_Pc [.ref o, .int (nI g), .int (zI a1)] (xB G E)) (vp_Si (fun r => r = fX5_piecesOf σ d v g a1)) 0 0 (fun _ => False) := by
  refine Met.ofW (cc := cX5_piecesOf) (maxL := 3) (ret := (some .int)) (by decide) rfl ?_
  intro p e s m args below meth c s₁ B hml hv
  obtain ⟨rfl, hX, hW⟩ := hv
  have hx := B.exec
  have hb := B.bytes
  have hr := B.returns
  have hts := atoms_spec (ws := wsX5_piecesOf) B.pre
  have hown : s.vm.findClass RX5 = some m.cls := findClass_of_methodNamed B.named
  have hlocks := B.notSynchronized
  have hS : va_S (xA G) s.heap s.heap [] := va_S.rf
  have hiX5 : ∀ w ∈ u_ws RX5 TX5 20, w ∈ wsX5_piecesOf := by decide +kernel
  have hf52 := hts (Cond.fieldLink RX5 52 "VariantMillModel" "ones" "[I") (by decide +kernel)
  have hf55 := hts (Cond.fieldLink RX5 55 "VariantMillModel" "others" "[I") (by decide +kernel)
  have hl := lv_entry ([.ref o, .int (nI g), .int (zI a1)]) (n := 3) (Nat.le_of_ble_eq_true rfl)
  rw [lg_entry_eq]
  generalize (lg_sl ([.ref o, .int (nI g), .int (zI a1)]) ++ List.replicate (3 - (lg_sl ([.ref o, .int (nI g), .int (zI a1)])).length) Slot.unset).toArray = ls at hl ⊢
  have hl : lv_has ls 3 [(0, .ref o), (1, .int (nI g)), (2, .int (zI a1))] := hl
  refine lv_iload_n hx hb dX5_piecesOf_0 rfl (lv_at hl 2 rfl) ?_
  refine lv_aload_n hx hb dX5_piecesOf_1 rfl (lv_at hl 0 rfl) ?_
  refine lv_iload_n hx hb dX5_piecesOf_2 rfl (lv_at hl 1 rfl) ?_
  refine x_callSe (va_runV (As := [.int (nI g)]) (rest := [.int (zI a1)]) ⟨hx, hb, hml, hown, hts⟩ (kX5_isSecondsTurn l G _ (σ) d v o g A hM hG) (cwV 1 hts gX5_piecesOf_X5_isSecondsTurn rfl rfl rfl (by decide +kernel) ⟨Nat.le_of_ble_eq_true rfl, Nat.le_of_ble_eq_true rfl⟩) (x_preV hX hS hW hM.1 rfl) rfl rfl hl.1 rfl (lv_room (Nat.le_of_ble_eq_true rfl)) dX5_piecesOf_3 ⟨Nat.le_of_ble_eq_true rfl, Nat.le_of_ble_eq_true rfl⟩) ?_
  refine lv_icmp_ne (tgt := 22) hx hb dX5_piecesOf_6 (by decide) (fun c_1 => ?_) (fun c_1 => ?_)
  · refine lv_aload_n hx hb dX5_piecesOf_22 rfl (lv_at hl 0 rfl) ?_
    refine va_get (D := G.1) (ci := 5) (v := .ref (A 17)) (C := RX5) (T := TX5) (N := 20) hx hb hts hiX5 hown hX.1 (x1 hW hM.1) 0 rfl rfl 17 (by decide) hf52 (fun _ h9 => h9) rfl dX5_piecesOf_23 ?_
    refine lv_aload_n hx hb dX5_piecesOf_26 rfl (lv_at hl 0 rfl) ?_
    refine lv_iload_n hx hb dX5_piecesOf_27 rfl (lv_at hl 1 rfl) ?_
    refine x_callSe (va_runV (As := [.int (nI g)]) (rest := [.ref (A 17)]) ⟨hx, hb, hml, hown, hts⟩ (kX5_at l G _ (σ) d v o g A hM hG) (cwV 1 hts gX5_piecesOf_X5_at rfl rfl rfl (by decide +kernel) ⟨Nat.le_of_ble_eq_true rfl, Nat.le_of_ble_eq_true rfl⟩) (x_preV hX hS hW hM.1 rfl) rfl rfl hl.1 rfl (lv_room (Nat.le_of_ble_eq_true rfl)) dX5_piecesOf_28 ⟨Nat.le_of_ble_eq_true rfl, Nat.le_of_ble_eq_true rfl⟩) ?_
    refine x_ild (k := 61 * g + d) hx hb hX.1 hW hM.2.2.2.2.2.2.2.2.2.2.2.2.2.2.2.1 (x_atI hG).1 (x_atI hG).2 dX5_piecesOf_31 ?_
    exact W.iret (v := σ 17 (61 * g + d)) hx hb hr (fun t ht hw => ⟨_, rfl, (show (σ 17 (61 * g + d) : Int32) = fX5_piecesOf σ d v g a1 from by unfold fX5_piecesOf; rw [if_neg c_1]), ht⟩) (fun _ h => nomatch h) dX5_piecesOf_32
  · refine lv_aload_n hx hb dX5_piecesOf_9 rfl (lv_at hl 0 rfl) ?_
    refine va_get (D := G.1) (ci := 5) (v := .ref (A 18)) (C := RX5) (T := TX5) (N := 20) hx hb hts hiX5 hown hX.1 (x1 hW hM.1) 0 rfl rfl 18 (by decide) hf55 (fun _ h9 => h9) rfl dX5_piecesOf_10 ?_
    refine lv_aload_n hx hb dX5_piecesOf_13 rfl (lv_at hl 0 rfl) ?_
    refine lv_iload_n hx hb dX5_piecesOf_14 rfl (lv_at hl 1 rfl) ?_
    refine x_callSe (va_runV (As := [.int (nI g)]) (rest := [.ref (A 18)]) ⟨hx, hb, hml, hown, hts⟩ (kX5_at l G _ (σ) d v o g A hM hG) (cwV 1 hts gX5_piecesOf_X5_at rfl rfl rfl (by decide +kernel) ⟨Nat.le_of_ble_eq_true rfl, Nat.le_of_ble_eq_true rfl⟩) (x_preV hX hS hW hM.1 rfl) rfl rfl hl.1 rfl (lv_room (Nat.le_of_ble_eq_true rfl)) dX5_piecesOf_15 ⟨Nat.le_of_ble_eq_true rfl, Nat.le_of_ble_eq_true rfl⟩) ?_
    refine x_ild (k := 61 * g + d) hx hb hX.1 hW hM.2.2.2.2.2.2.2.2.2.2.2.2.2.2.2.2 (x_atI hG).1 (x_atI hG).2 dX5_piecesOf_18 ?_
    refine lv_goto (tgt := 32) hx hb dX5_piecesOf_19 (by decide) ?_
    exact W.iret (v := σ 18 (61 * g + d)) hx hb hr (fun t ht hw => ⟨_, rfl, (show (σ 18 (61 * g + d) : Int32) = fX5_piecesOf σ d v g a1 from by unfold fX5_piecesOf; rw [if_pos c_1]), ht⟩) (fun _ h => nomatch h) dX5_piecesOf_32

def gX5_by (σ : xSg) (q : Nat) (a1 : Int32) (a2 : Int32) (a3 : Int32) (a4 : Bool) (a5 : Int32) : Nat → Nat → Int32 → Int32 → Int32 → Int32 → Bool → Int32
  | 0, _, _, _, _, _, _ => 0
  | n + 1, k, v7, v8, v9, v10, v11 => if (σ 4 q) < (nI k) then v7 else (if (fX5_in v8 0 4) = true then (if (fX5_in v9 0 4) = true then (if ((a1 >>> ((((5 : Int32) * v9) + v8) &&& 31)) &&& 1) = 0 then (gX5_by σ q a1 a2 a3 a4 a5 n (k + 1) (v7 ||| (if (if (σ 1 q) = 0 then (true) else (if (σ 1 q) = 1 then (if v10 = 0 then (true) else (if (σ 1 q) = 2 then (if v10 = 1 then (if v11 = true then (true) else (false)) else (false)) else (false))) else (if (σ 1 q) = 2 then (if v10 = 1 then (if v11 = true then (true) else (false)) else (false)) else (false)))) = true then (if ((a2 >>> ((((5 : Int32) * v9) + v8) &&& 31)) &&& 1) = 0 then (((1 : Int32) <<< ((((5 : Int32) * v9) + v8) &&& 31))) else ((0 : Int32))) else ((0 : Int32)))) (v8 + (σ 2 q)) (v9 + (if a4 = true then ((-(σ 3 q))) else ((σ 3 q)))) (v10 + (zI (if (if (((a2 ||| a3) >>> ((((5 : Int32) * v9) + v8) &&& 31)) &&& 1) = 1 then (true) else (false)) = true then (true) else (false)))) (if (((a2 ||| a3) >>> ((((5 : Int32) * v9) + v8) &&& 31)) &&& 1) = 1 then (true) else (false))) else v7) else v7) else v7)
def fX5_by (σ : xSg) (q : Nat) (a1 : Int32) (a2 : Int32) (a3 : Int32) (a4 : Bool) (a5 : Int32) : Int32 := gX5_by σ q a1 a2 a3 a4 a5 5 1 0 ((a5 - a5 / 5 * 5) + (σ 2 q)) ((a5 / 5) + (if a4 = true then ((-(σ 3 q))) else ((σ 3 q)))) 0 false
set_option maxHeartbeats 4000000 in
set_option maxRecDepth 100000 in
theorem kX5_by (l : Launch) (G : xG) (E : xE) (σ : xSg) (o : Nat) (q : Nat) (a1 : Int32) (a2 : Int32) (a3 : Int32) (a4 : Bool) (a5 : Int32) (A : Nat → Nat) (hM : xMod G E o A σ) (hq : q < 8) (r : Nat) (hre : σ 4 q = nI r) (h4 : r ≤ 4) : Met l yX5_by wsX5_by ({ frames := 1, cells := 0, slots := 0, locals := 22 }) (va_Pc [.ref o, .int (nI q), .int a1, .int a2, .int a3, .int (zI a4), .int a5] (xB G E)) (vp_Si (fun r => r = fX5_by σ q a1 a2 a3 a4 a5)) 0 0 (fun _ => False) := by
  refine Met.ofW (cc := cX5_by) (maxL := 15) (ret := (some .int)) (by decide) rfl ?_
  intro p e s m args below meth c s₁ B hml hv
  obtain ⟨rfl, hX, hW⟩ := hv
  have hx := B.exec
  have hb := B.bytes
  have hr := B.returns
  have hts := atoms_spec (ws := wsX5_by) B.pre
  have hown : s.vm.findClass RX5 = some m.cls := findClass_of_methodNamed B.named
  have hlocks := B.notSynchronized
  have hS : va_S (xA G) s.heap s.heap [] := va_S.rf
  have hiX5 : ∀ w ∈ u_ws RX5 TX5 20, w ∈ wsX5_by := by decide +kernel
  have hf19 := hts (Cond.fieldLink RX5 19 "VariantMillModel" "reach" "[I") (by decide +kernel)
  have hf7 := hts (Cond.fieldLink RX5 7 "VariantMillModel" "kind" "[I") (by decide +kernel)
  have hf13 := hts (Cond.fieldLink RX5 13 "VariantMillModel" "dx" "[I") (by decide +kernel)
  have hf16 := hts (Cond.fieldLink RX5 16 "VariantMillModel" "dy" "[I") (by decide +kernel)
  have hl := lv_entry ([.ref o, .int (nI q), .int a1, .int a2, .int a3, .int (zI a4), .int a5]) (n := 15) (Nat.le_of_ble_eq_true rfl)
  rw [lg_entry_eq]
  generalize (lg_sl ([.ref o, .int (nI q), .int a1, .int a2, .int a3, .int (zI a4), .int a5]) ++ List.replicate (15 - (lg_sl ([.ref o, .int (nI q), .int a1, .int a2, .int a3, .int (zI a4), .int a5])).length) Slot.unset).toArray = ls at hl ⊢
  have hl : lv_has ls 15 [(0, .ref o), (1, .int (nI q)), (2, .int a1), (3, .int a2), (4, .int a3), (5, .int (zI a4)), (6, .int a5)] := hl
  refine x_loopK (σ := Nat × Nat × Int32 × Int32 × Int32 × Int32 × Bool) 53 15 (fun x => [(0, .ref o), (1, .int (nI q)), (2, .int a1), (3, .int a2), (4, .int a3), (5, .int (zI a4)), (6, .int a5), (12, .int (nI x.2.1)), (7, .int x.2.2.1), (8, .int x.2.2.2.1), (9, .int x.2.2.2.2.1), (10, .int x.2.2.2.2.2.1), (11, .int (zI x.2.2.2.2.2.2))]) (fun x => fX5_by σ q a1 a2 a3 a4 a5 = gX5_by σ q a1 a2 a3 a4 a5 x.1 x.2.1 x.2.2.1 x.2.2.2.1 x.2.2.2.2.1 x.2.2.2.2.2.1 x.2.2.2.2.2.2 ∧ x.2.1 ≤ 5 ∧ x.1 + x.2.1 = 5 + 1) (fun x => x.1) ?_ (fun LP => ?_)
  · rintro ⟨n, k, v7, v8, v9, v10, v11⟩ ls ⟨hv, hk, hn⟩ hl ih
    dsimp only at hv hk hn
    rcases n with _ | n
    · omega
    · have hl : lv_has ls 15 [(0, .ref o), (1, .int (nI q)), (2, .int a1), (3, .int a2), (4, .int a3), (5, .int (zI a4)), (6, .int a5), (12, .int (nI k)), (7, .int v7), (8, .int v8), (9, .int v9), (10, .int v10), (11, .int (zI v11))] := hl
      refine lv_iload hx hb dX5_by_53 (lv_at hl 7 rfl) ?_
      refine lv_aload_n hx hb dX5_by_55 rfl (lv_at hl 0 rfl) ?_
      refine va_get (D := G.1) (ci := 5) (v := .ref (A 4)) (C := RX5) (T := TX5) (N := 20) hx hb hts hiX5 hown hX.1 (x1 hW hM.1) 0 rfl rfl 4 (by decide) hf19 (fun _ h9 => h9) rfl dX5_by_56 ?_
      refine lv_iload_n hx hb dX5_by_59 rfl (lv_at hl 1 rfl) ?_
      refine x_ild (k := q) hx hb hX.1 hW hM.2.2.2.2.1 (vp_in_nI hq (by omega)) (nI_clamp (by omega)) dX5_by_60 ?_
      refine lv_icmp_gt (tgt := 264) hx hb dX5_by_61 (by decide) (fun c_1 => ?_) (fun c_1 => ?_)
      · refine lv_iload hx hb dX5_by_264 (lv_at hl 8 rfl) ?_
        exact W.iret (v := v7) hx hb hr (fun t ht hw => ⟨_, rfl, (show (v7 : Int32) = fX5_by σ q a1 a2 a3 a4 a5 from by rw [hv, gX5_by]; rw [if_pos c_1]), ht⟩) (fun _ h => nomatch h) dX5_by_266
      · have hk1 : k < 5 := Nat.lt_of_le_of_lt (x_nlt (B := r) (by rw [← hre]; exact c_1) (by omega) (by omega)) (by omega)
        refine lv_iload hx hb dX5_by_64 (lv_at hl 9 rfl) ?_
        refine lv_iconst (v := 0) hx hb dX5_by_66 (by decide) ?_
        refine lv_iconst (v := 4) hx hb dX5_by_67 (by decide) ?_
        refine x_callSe (va_runS (As := [.int v8, .int 0, .int 4]) (rest := []) ⟨hx, hb, hml, hown, hts⟩ (kX5_in l v8 0 4) (va_cwS 3 hts gX5_by_X5_in rfl rfl rfl (by decide +kernel) ⟨Nat.le_of_ble_eq_true rfl, Nat.le_of_ble_eq_true rfl⟩) x_preT rfl rfl hl.1 rfl (lv_room (Nat.le_of_ble_eq_true rfl)) dX5_by_68 ⟨Nat.le_of_ble_eq_true rfl, Nat.le_of_ble_eq_true rfl⟩) ?_
        refine x_ifz_eq (b := fX5_in v8 0 4) (tgt := 264) hx hb dX5_by_71 (by decide) (fun c_2 => ?_) (fun c_2 => ?_)
        · refine lv_iload hx hb dX5_by_264 (lv_at hl 8 rfl) ?_
          exact W.iret (v := v7) hx hb hr (fun t ht hw => ⟨_, rfl, (show (v7 : Int32) = fX5_by σ q a1 a2 a3 a4 a5 from by rw [hv, gX5_by]; rw [if_neg c_1, if_neg (Bool.eq_false_iff.mp c_2)]), ht⟩) (fun _ h => nomatch h) dX5_by_266
        · refine lv_iload hx hb dX5_by_74 (lv_at hl 10 rfl) ?_
          refine lv_iconst (v := 0) hx hb dX5_by_76 (by decide) ?_
          refine lv_iconst (v := 4) hx hb dX5_by_77 (by decide) ?_
          refine x_callSe (va_runS (As := [.int v9, .int 0, .int 4]) (rest := []) ⟨hx, hb, hml, hown, hts⟩ (kX5_in l v9 0 4) (va_cwS 3 hts gX5_by_X5_in rfl rfl rfl (by decide +kernel) ⟨Nat.le_of_ble_eq_true rfl, Nat.le_of_ble_eq_true rfl⟩) x_preT rfl rfl hl.1 rfl (lv_room (Nat.le_of_ble_eq_true rfl)) dX5_by_78 ⟨Nat.le_of_ble_eq_true rfl, Nat.le_of_ble_eq_true rfl⟩) ?_
          refine x_ifz_eq (b := fX5_in v9 0 4) (tgt := 264) hx hb dX5_by_81 (by decide) (fun c_3 => ?_) (fun c_3 => ?_)
          · refine lv_iload hx hb dX5_by_264 (lv_at hl 8 rfl) ?_
            exact W.iret (v := v7) hx hb hr (fun t ht hw => ⟨_, rfl, (show (v7 : Int32) = fX5_by σ q a1 a2 a3 a4 a5 from by rw [hv, gX5_by]; rw [if_neg c_1, if_pos c_2, if_neg (Bool.eq_false_iff.mp c_3)]), ht⟩) (fun _ h => nomatch h) dX5_by_266
          · refine lv_iload_n hx hb dX5_by_84 rfl (lv_at hl 2 rfl) ?_
            refine lv_iconst (v := 5) hx hb dX5_by_85 (by decide) ?_
            refine lv_iload hx hb dX5_by_86 (lv_at hl 10 rfl) ?_
            refine lv_imul hx hb dX5_by_88 ?_
            refine lv_iload hx hb dX5_by_89 (lv_at hl 9 rfl) ?_
            refine lv_iadd hx hb dX5_by_91 ?_
            refine lv_ishr hx hb dX5_by_92 ?_
            refine lv_iconst (v := 1) hx hb dX5_by_93 (by decide) ?_
            refine lv_iand hx hb dX5_by_94 ?_
            refine lv_if_ne (tgt := 264) hx hb dX5_by_95 (by decide) (fun c_4 => ?_) (fun c_4 => ?_)
            · refine lv_iload hx hb dX5_by_264 (lv_at hl 8 rfl) ?_
              exact W.iret (v := v7) hx hb hr (fun t ht hw => ⟨_, rfl, (show (v7 : Int32) = fX5_by σ q a1 a2 a3 a4 a5 from by rw [hv, gX5_by]; rw [if_neg c_1, if_pos c_2, if_pos c_3, if_neg c_4]), ht⟩) (fun _ h => nomatch h) dX5_by_266
            · refine lv_iconst (v := 5) hx hb dX5_by_98 (by decide) ?_
              refine lv_iload hx hb dX5_by_99 (lv_at hl 10 rfl) ?_
              refine lv_imul hx hb dX5_by_101 ?_
              refine lv_iload hx hb dX5_by_102 (lv_at hl 9 rfl) ?_
              refine lv_iadd hx hb dX5_by_104 ?_
              refine lv_istore (lv' := [(13, .int (((5 : Int32) * v9) + v8)), (0, .ref o), (1, .int (nI q)), (2, .int a1), (3, .int a2), (4, .int a3), (5, .int (zI a4)), (6, .int a5), (12, .int (nI k)), (7, .int v7), (8, .int v8), (9, .int v9), (10, .int v10), (11, .int (zI v11))]) hx hb dX5_by_105 hl (by decide) rfl (fun ls hl => ?_)
              refine lv_aload_n hx hb dX5_by_107 rfl (lv_at hl 1 rfl) ?_
              refine va_get (D := G.1) (ci := 5) (v := .ref (A 1)) (C := RX5) (T := TX5) (N := 20) hx hb hts hiX5 hown hX.1 (x1 hW hM.1) 0 rfl rfl 1 (by decide) hf7 (fun _ h9 => h9) rfl dX5_by_108 ?_
              refine lv_iload_n hx hb dX5_by_111 rfl (lv_at hl 2 rfl) ?_
              refine x_ild (k := q) hx hb hX.1 hW hM.2.1 (vp_in_nI hq (by omega)) (nI_clamp (by omega)) dX5_by_112 ?_
              refine x_join (ls' := ls) (rest' := []) 157 (zI (if (σ 1 q) = 0 then (true) else (if (σ 1 q) = 1 then (if v10 = 0 then (true) else (if (σ 1 q) = 2 then (if v10 = 1 then (if v11 = true then (true) else (false)) else (false)) else (false))) else (if (σ 1 q) = 2 then (if v10 = 1 then (if v11 = true then (true) else (false)) else (false)) else (false))))) (fun v ev => ?_) (fun J => ?_)
              · subst ev
                refine lv_istore (lv' := [(14, .int (zI (if (σ 1 q) = 0 then (true) else (if (σ 1 q) = 1 then (if v10 = 0 then (true) else (if (σ 1 q) = 2 then (if v10 = 1 then (if v11 = true then (true) else (false)) else (false)) else (false))) else (if (σ 1 q) = 2 then (if v10 = 1 then (if v11 = true then (true) else (false)) else (false)) else (false)))))), (13, .int (((5 : Int32) * v9) + v8)), (0, .ref o), (1, .int (nI q)), (2, .int a1), (3, .int a2), (4, .int a3), (5, .int (zI a4)), (6, .int a5), (12, .int (nI k)), (7, .int v7), (8, .int v8), (9, .int v9), (10, .int v10), (11, .int (zI v11))]) hx hb dX5_by_157 hl (by decide) rfl (fun ls hl => ?_)
                refine lv_iload hx hb dX5_by_159 (lv_at hl 10 rfl) ?_
                refine lv_iload hx hb dX5_by_161 (lv_at hl 0 rfl) ?_
                refine x_join (ls' := ls) (rest' := [.int v7]) 183 ((if (if (σ 1 q) = 0 then (true) else (if (σ 1 q) = 1 then (if v10 = 0 then (true) else (if (σ 1 q) = 2 then (if v10 = 1 then (if v11 = true then (true) else (false)) else (false)) else (false))) else (if (σ 1 q) = 2 then (if v10 = 1 then (if v11 = true then (true) else (false)) else (false)) else (false)))) = true then (if ((a2 >>> ((((5 : Int32) * v9) + v8) &&& 31)) &&& 1) = 0 then (((1 : Int32) <<< ((((5 : Int32) * v9) + v8) &&& 31))) else ((0 : Int32))) else ((0 : Int32)))) (fun v ev => ?_) (fun J => ?_)
                · subst ev
                  refine lv_ior hx hb dX5_by_183 ?_
                  refine lv_istore (lv' := [(7, .int (v7 ||| (if (if (σ 1 q) = 0 then (true) else (if (σ 1 q) = 1 then (if v10 = 0 then (true) else (if (σ 1 q) = 2 then (if v10 = 1 then (if v11 = true then (true) else (false)) else (false)) else (false))) else (if (σ 1 q) = 2 then (if v10 = 1 then (if v11 = true then (true) else (false)) else (false)) else (false)))) = true then (if ((a2 >>> ((((5 : Int32) * v9) + v8) &&& 31)) &&& 1) = 0 then (((1 : Int32) <<< ((((5 : Int32) * v9) + v8) &&& 31))) else ((0 : Int32))) else ((0 : Int32))))), (14, .int (zI (if (σ 1 q) = 0 then (true) else (if (σ 1 q) = 1 then (if v10 = 0 then (true) else (if (σ 1 q) = 2 then (if v10 = 1 then (if v11 = true then (true) else (false)) else (false)) else (false))) else (if (σ 1 q) = 2 then (if v10 = 1 then (if v11 = true then (true) else (false)) else (false)) else (false)))))), (13, .int (((5 : Int32) * v9) + v8)), (0, .ref o), (1, .int (nI q)), (2, .int a1), (3, .int a2), (4, .int a3), (5, .int (zI a4)), (6, .int a5), (12, .int (nI k)), (8, .int v8), (9, .int v9), (10, .int v10), (11, .int (zI v11))]) hx hb dX5_by_184 hl (by decide) rfl (fun ls hl => ?_)
                  refine lv_iload_n hx hb dX5_by_186 rfl (lv_at hl 6 rfl) ?_
                  refine lv_iload hx hb dX5_by_187 (lv_at hl 7 rfl) ?_
                  refine lv_ior hx hb dX5_by_189 ?_
                  refine lv_iload hx hb dX5_by_190 (lv_at hl 2 rfl) ?_
                  refine lv_ishr hx hb dX5_by_192 ?_
                  refine lv_iconst (v := 1) hx hb dX5_by_193 (by decide) ?_
                  refine lv_iand hx hb dX5_by_194 ?_
                  refine lv_iconst (v := 1) hx hb dX5_by_195 (by decide) ?_
                  refine x_join (ls' := ls) (rest' := []) 204 (zI (if (((a2 ||| a3) >>> ((((5 : Int32) * v9) + v8) &&& 31)) &&& 1) = 1 then (true) else (false))) (fun v ev => ?_) (fun J => ?_)
                  · subst ev
                    refine lv_istore (lv' := [(11, .int (zI (if (((a2 ||| a3) >>> ((((5 : Int32) * v9) + v8) &&& 31)) &&& 1) = 1 then (true) else (false)))), (7, .int (v7 ||| (if (if (σ 1 q) = 0 then (true) else (if (σ 1 q) = 1 then (if v10 = 0 then (true) else (if (σ 1 q) = 2 then (if v10 = 1 then (if v11 = true then (true) else (false)) else (false)) else (false))) else (if (σ 1 q) = 2 then (if v10 = 1 then (if v11 = true then (true) else (false)) else (false)) else (false)))) = true then (if ((a2 >>> ((((5 : Int32) * v9) + v8) &&& 31)) &&& 1) = 0 then (((1 : Int32) <<< ((((5 : Int32) * v9) + v8) &&& 31))) else ((0 : Int32))) else ((0 : Int32))))), (14, .int (zI (if (σ 1 q) = 0 then (true) else (if (σ 1 q) = 1 then (if v10 = 0 then (true) else (if (σ 1 q) = 2 then (if v10 = 1 then (if v11 = true then (true) else (false)) else (false)) else (false))) else (if (σ 1 q) = 2 then (if v10 = 1 then (if v11 = true then (true) else (false)) else (false)) else (false)))))), (13, .int (((5 : Int32) * v9) + v8)), (0, .ref o), (1, .int (nI q)), (2, .int a1), (3, .int a2), (4, .int a3), (5, .int (zI a4)), (6, .int a5), (12, .int (nI k)), (8, .int v8), (9, .int v9), (10, .int v10)]) hx hb dX5_by_204 hl (by decide) rfl (fun ls hl => ?_)
                    refine lv_iload hx hb dX5_by_206 (lv_at hl 14 rfl) ?_
                    refine lv_iload hx hb dX5_by_208 (lv_at hl 0 rfl) ?_
                    refine x_join (ls' := ls) (rest' := [.int v10]) 218 (zI (if (if (((a2 ||| a3) >>> ((((5 : Int32) * v9) + v8) &&& 31)) &&& 1) = 1 then (true) else (false)) = true then (true) else (false))) (fun v ev => ?_) (fun J => ?_)
                    · subst ev
                      refine lv_iadd hx hb dX5_by_218 ?_
                      refine lv_istore (lv' := [(10, .int (v10 + (zI (if (if (((a2 ||| a3) >>> ((((5 : Int32) * v9) + v8) &&& 31)) &&& 1) = 1 then (true) else (false)) = true then (true) else (false))))), (11, .int (zI (if (((a2 ||| a3) >>> ((((5 : Int32) * v9) + v8) &&& 31)) &&& 1) = 1 then (true) else (false)))), (7, .int (v7 ||| (if (if (σ 1 q) = 0 then (true) else (if (σ 1 q) = 1 then (if v10 = 0 then (true) else (if (σ 1 q) = 2 then (if v10 = 1 then (if v11 = true then (true) else (false)) else (false)) else (false))) else (if (σ 1 q) = 2 then (if v10 = 1 then (if v11 = true then (true) else (false)) else (false)) else (false)))) = true then (if ((a2 >>> ((((5 : Int32) * v9) + v8) &&& 31)) &&& 1) = 0 then (((1 : Int32) <<< ((((5 : Int32) * v9) + v8) &&& 31))) else ((0 : Int32))) else ((0 : Int32))))), (14, .int (zI (if (σ 1 q) = 0 then (true) else (if (σ 1 q) = 1 then (if v10 = 0 then (true) else (if (σ 1 q) = 2 then (if v10 = 1 then (if v11 = true then (true) else (false)) else (false)) else (false))) else (if (σ 1 q) = 2 then (if v10 = 1 then (if v11 = true then (true) else (false)) else (false)) else (false)))))), (13, .int (((5 : Int32) * v9) + v8)), (0, .ref o), (1, .int (nI q)), (2, .int a1), (3, .int a2), (4, .int a3), (5, .int (zI a4)), (6, .int a5), (12, .int (nI k)), (8, .int v8), (9, .int v9)]) hx hb dX5_by_219 hl (by decide) rfl (fun ls hl => ?_)
                      refine lv_iload hx hb dX5_by_221 (lv_at hl 13 rfl) ?_
                      refine lv_aload_n hx hb dX5_by_223 rfl (lv_at hl 5 rfl) ?_
                      refine va_get (D := G.1) (ci := 5) (v := .ref (A 2)) (C := RX5) (T := TX5) (N := 20) hx hb hts hiX5 hown hX.1 (x1 hW hM.1) 0 rfl rfl 2 (by decide) hf13 (fun _ h9 => h9) rfl dX5_by_224 ?_
                      refine lv_iload_n hx hb dX5_by_227 rfl (lv_at hl 6 rfl) ?_
                      refine x_ild (k := q) hx hb hX.1 hW hM.2.2.1 (vp_in_nI hq (by omega)) (nI_clamp (by omega)) dX5_by_228 ?_
                      refine lv_iadd hx hb dX5_by_229 ?_
                      refine lv_istore (lv' := [(8, .int (v8 + (σ 2 q))), (10, .int (v10 + (zI (if (if (((a2 ||| a3) >>> ((((5 : Int32) * v9) + v8) &&& 31)) &&& 1) = 1 then (true) else (false)) = true then (true) else (false))))), (11, .int (zI (if (((a2 ||| a3) >>> ((((5 : Int32) * v9) + v8) &&& 31)) &&& 1) = 1 then (true) else (false)))), (7, .int (v7 ||| (if (if (σ 1 q) = 0 then (true) else (if (σ 1 q) = 1 then (if v10 = 0 then (true) else (if (σ 1 q) = 2 then (if v10 = 1 then (if v11 = true then (true) else (false)) else (false)) else (false))) else (if (σ 1 q) = 2 then (if v10 = 1 then (if v11 = true then (true) else (false)) else (false)) else (false)))) = true then (if ((a2 >>> ((((5 : Int32) * v9) + v8) &&& 31)) &&& 1) = 0 then (((1 : Int32) <<< ((((5 : Int32) * v9) + v8) &&& 31))) else ((0 : Int32))) else ((0 : Int32))))), (14, .int (zI (if (σ 1 q) = 0 then (true) else (if (σ 1 q) = 1 then (if v10 = 0 then (true) else (if (σ 1 q) = 2 then (if v10 = 1 then (if v11 = true then (true) else (false)) else (false)) else (false))) else (if (σ 1 q) = 2 then (if v10 = 1 then (if v11 = true then (true) else (false)) else (false)) else (false)))))), (13, .int (((5 : Int32) * v9) + v8)), (0, .ref o), (1, .int (nI q)), (2, .int a1), (3, .int a2), (4, .int a3), (5, .int (zI a4)), (6, .int a5), (12, .int (nI k)), (9, .int v9)]) hx hb dX5_by_230 hl (by decide) rfl (fun ls hl => ?_)
                      refine lv_iload hx hb dX5_by_232 (lv_at hl 14 rfl) ?_
                      refine lv_iload hx hb dX5_by_234 (lv_at hl 11 rfl) ?_
                      refine x_join (ls' := ls) (rest' := [.int v9]) 255 ((if a4 = true then ((-(σ 3 q))) else ((σ 3 q)))) (fun v ev => ?_) (fun J => ?_)
                      · subst ev
                        refine lv_iadd hx hb dX5_by_255 ?_
                        refine lv_istore (lv' := [(9, .int (v9 + (if a4 = true then ((-(σ 3 q))) else ((σ 3 q))))), (8, .int (v8 + (σ 2 q))), (10, .int (v10 + (zI (if (if (((a2 ||| a3) >>> ((((5 : Int32) * v9) + v8) &&& 31)) &&& 1) = 1 then (true) else (false)) = true then (true) else (false))))), (11, .int (zI (if (((a2 ||| a3) >>> ((((5 : Int32) * v9) + v8) &&& 31)) &&& 1) = 1 then (true) else (false)))), (7, .int (v7 ||| (if (if (σ 1 q) = 0 then (true) else (if (σ 1 q) = 1 then (if v10 = 0 then (true) else (if (σ 1 q) = 2 then (if v10 = 1 then (if v11 = true then (true) else (false)) else (false)) else (false))) else (if (σ 1 q) = 2 then (if v10 = 1 then (if v11 = true then (true) else (false)) else (false)) else (false)))) = true then (if ((a2 >>> ((((5 : Int32) * v9) + v8) &&& 31)) &&& 1) = 0 then (((1 : Int32) <<< ((((5 : Int32) * v9) + v8) &&& 31))) else ((0 : Int32))) else ((0 : Int32))))), (14, .int (zI (if (σ 1 q) = 0 then (true) else (if (σ 1 q) = 1 then (if v10 = 0 then (true) else (if (σ 1 q) = 2 then (if v10 = 1 then (if v11 = true then (true) else (false)) else (false)) else (false))) else (if (σ 1 q) = 2 then (if v10 = 1 then (if v11 = true then (true) else (false)) else (false)) else (false)))))), (13, .int (((5 : Int32) * v9) + v8)), (0, .ref o), (1, .int (nI q)), (2, .int a1), (3, .int a2), (4, .int a3), (5, .int (zI a4)), (6, .int a5), (12, .int (nI k))]) hx hb dX5_by_256 hl (by decide) rfl (fun ls hl => ?_)
                        refine lv_iinc (v := nI (k + 1)) (lv' := [(12, .int (nI (k + 1))), (9, .int (v9 + (if a4 = true then ((-(σ 3 q))) else ((σ 3 q))))), (8, .int (v8 + (σ 2 q))), (10, .int (v10 + (zI (if (if (((a2 ||| a3) >>> ((((5 : Int32) * v9) + v8) &&& 31)) &&& 1) = 1 then (true) else (false)) = true then (true) else (false))))), (11, .int (zI (if (((a2 ||| a3) >>> ((((5 : Int32) * v9) + v8) &&& 31)) &&& 1) = 1 then (true) else (false)))), (7, .int (v7 ||| (if (if (σ 1 q) = 0 then (true) else (if (σ 1 q) = 1 then (if v10 = 0 then (true) else (if (σ 1 q) = 2 then (if v10 = 1 then (if v11 = true then (true) else (false)) else (false)) else (false))) else (if (σ 1 q) = 2 then (if v10 = 1 then (if v11 = true then (true) else (false)) else (false)) else (false)))) = true then (if ((a2 >>> ((((5 : Int32) * v9) + v8) &&& 31)) &&& 1) = 0 then (((1 : Int32) <<< ((((5 : Int32) * v9) + v8) &&& 31))) else ((0 : Int32))) else ((0 : Int32))))), (14, .int (zI (if (σ 1 q) = 0 then (true) else (if (σ 1 q) = 1 then (if v10 = 0 then (true) else (if (σ 1 q) = 2 then (if v10 = 1 then (if v11 = true then (true) else (false)) else (false)) else (false))) else (if (σ 1 q) = 2 then (if v10 = 1 then (if v11 = true then (true) else (false)) else (false)) else (false)))))), (13, .int (((5 : Int32) * v9) + v8)), (0, .ref o), (1, .int (nI q)), (2, .int a1), (3, .int a2), (4, .int a3), (5, .int (zI a4)), (6, .int a5)]) hx hb dX5_by_258 hl (k := 14) rfl (nI_1 _) (by decide) rfl (fun ls hl => ?_)
                        refine lv_goto (tgt := 53) hx hb dX5_by_261 (by decide) ?_
                        exact ih (n, k + 1, (v7 ||| (if (if (σ 1 q) = 0 then (true) else (if (σ 1 q) = 1 then (if v10 = 0 then (true) else (if (σ 1 q) = 2 then (if v10 = 1 then (if v11 = true then (true) else (false)) else (false)) else (false))) else (if (σ 1 q) = 2 then (if v10 = 1 then (if v11 = true then (true) else (false)) else (false)) else (false)))) = true then (if ((a2 >>> ((((5 : Int32) * v9) + v8) &&& 31)) &&& 1) = 0 then (((1 : Int32) <<< ((((5 : Int32) * v9) + v8) &&& 31))) else ((0 : Int32))) else ((0 : Int32)))), (v8 + (σ 2 q)), (v9 + (if a4 = true then ((-(σ 3 q))) else ((σ 3 q)))), (v10 + (zI (if (if (((a2 ||| a3) >>> ((((5 : Int32) * v9) + v8) &&& 31)) &&& 1) = 1 then (true) else (false)) = true then (true) else (false)))), (if (((a2 ||| a3) >>> ((((5 : Int32) * v9) + v8) &&& 31)) &&& 1) = 1 then (true) else (false))) ls (Nat.lt_succ_self _) ⟨by rw [hv, gX5_by]; rw [if_neg c_1, if_pos c_2, if_pos c_3, if_pos c_4], hk1, by dsimp only <;> omega⟩ (lv_sub hl [8, 9, 10, 11, 12, 13, 14, 0, 5, 2, 1, 3, 4] rfl)
                      · refine x_ifz_eq (b := a4) (tgt := 249) hx hb dX5_by_236 (by decide) (fun c_18 => ?_) (fun c_18 => ?_)
                        · refine lv_aload_n hx hb dX5_by_249 rfl (lv_at hl 6 rfl) ?_
                          refine va_get (D := G.1) (ci := 5) (v := .ref (A 3)) (C := RX5) (T := TX5) (N := 20) hx hb hts hiX5 hown hX.1 (x1 hW hM.1) 0 rfl rfl 3 (by decide) hf16 (fun _ h9 => h9) rfl dX5_by_250 ?_
                          refine lv_iload_n hx hb dX5_by_253 rfl (lv_at hl 7 rfl) ?_
                          refine x_ild (k := q) hx hb hX.1 hW hM.2.2.2.1 (vp_in_nI hq (by omega)) (nI_clamp (by omega)) dX5_by_254 ?_
                          exact J _ (show (σ 3 q : Int32) = if a4 = true then ((-(σ 3 q))) else ((σ 3 q)) from by rw [if_neg (Bool.eq_false_iff.mp c_18)])
                        · refine lv_aload_n hx hb dX5_by_239 rfl (lv_at hl 6 rfl) ?_
                          refine va_get (D := G.1) (ci := 5) (v := .ref (A 3)) (C := RX5) (T := TX5) (N := 20) hx hb hts hiX5 hown hX.1 (x1 hW hM.1) 0 rfl rfl 3 (by decide) hf16 (fun _ h9 => h9) rfl dX5_by_240 ?_
                          refine lv_iload_n hx hb dX5_by_243 rfl (lv_at hl 7 rfl) ?_
                          refine x_ild (k := q) hx hb hX.1 hW hM.2.2.2.1 (vp_in_nI hq (by omega)) (nI_clamp (by omega)) dX5_by_244 ?_
                          refine lv_ineg hx hb dX5_by_245 ?_
                          refine lv_goto (tgt := 255) hx hb dX5_by_246 (by decide) ?_
                          exact J _ (show (-(σ 3 q) : Int32) = if a4 = true then ((-(σ 3 q))) else ((σ 3 q)) from by rw [if_pos c_18])
                    · refine x_ifz_eq (b := (if (((a2 ||| a3) >>> ((((5 : Int32) * v9) + v8) &&& 31)) &&& 1) = 1 then (true) else (false))) (tgt := 217) hx hb dX5_by_210 (by decide) (fun c_17 => ?_) (fun c_17 => ?_)
                      · refine lv_iconst (v := 0) hx hb dX5_by_217 (by decide) ?_
                        exact J _ (congrArg zI (show false = if (if (((a2 ||| a3) >>> ((((5 : Int32) * v9) + v8) &&& 31)) &&& 1) = 1 then (true) else (false)) = true then (true) else (false) from by rw [if_neg (Bool.eq_false_iff.mp c_17)]))
                      · refine lv_iconst (v := 1) hx hb dX5_by_213 (by decide) ?_
                        refine lv_goto (tgt := 218) hx hb dX5_by_214 (by decide) ?_
                        exact J _ (congrArg zI (show true = if (if (((a2 ||| a3) >>> ((((5 : Int32) * v9) + v8) &&& 31)) &&& 1) = 1 then (true) else (false)) = true then (true) else (false) from by rw [if_pos c_17]))
                  · refine lv_icmp_ne (tgt := 203) hx hb dX5_by_196 (by decide) (fun c_16 => ?_) (fun c_16 => ?_)
                    · refine lv_iconst (v := 0) hx hb dX5_by_203 (by decide) ?_
                      exact J _ (congrArg zI (show false = if (((a2 ||| a3) >>> ((((5 : Int32) * v9) + v8) &&& 31)) &&& 1) = 1 then (true) else (false) from by rw [if_neg c_16]))
                    · refine lv_iconst (v := 1) hx hb dX5_by_199 (by decide) ?_
                      refine lv_goto (tgt := 204) hx hb dX5_by_200 (by decide) ?_
                      exact J _ (congrArg zI (show true = if (((a2 ||| a3) >>> ((((5 : Int32) * v9) + v8) &&& 31)) &&& 1) = 1 then (true) else (false) from by rw [if_pos c_16]))
                · refine x_ifz_eq (b := (if (σ 1 q) = 0 then (true) else (if (σ 1 q) = 1 then (if v10 = 0 then (true) else (if (σ 1 q) = 2 then (if v10 = 1 then (if v11 = true then (true) else (false)) else (false)) else (false))) else (if (σ 1 q) = 2 then (if v10 = 1 then (if v11 = true then (true) else (false)) else (false)) else (false))))) (tgt := 182) hx hb dX5_by_163 (by decide) (fun c_14 => ?_) (fun c_14 => ?_)
                  · refine lv_iconst (v := 0) hx hb dX5_by_182 (by decide) ?_
                    exact J _ (show (0 : Int32) = if (if (σ 1 q) = 0 then (true) else (if (σ 1 q) = 1 then (if v10 = 0 then (true) else (if (σ 1 q) = 2 then (if v10 = 1 then (if v11 = true then (true) else (false)) else (false)) else (false))) else (if (σ 1 q) = 2 then (if v10 = 1 then (if v11 = true then (true) else (false)) else (false)) else (false)))) = true then (if ((a2 >>> ((((5 : Int32) * v9) + v8) &&& 31)) &&& 1) = 0 then (((1 : Int32) <<< ((((5 : Int32) * v9) + v8) &&& 31))) else ((0 : Int32))) else ((0 : Int32)) from by rw [if_neg (Bool.eq_false_iff.mp c_14)])
                  · refine lv_iload_n hx hb dX5_by_166 rfl (lv_at hl 5 rfl) ?_
                    refine lv_iload hx hb dX5_by_167 (lv_at hl 1 rfl) ?_
                    refine lv_ishr hx hb dX5_by_169 ?_
                    refine lv_iconst (v := 1) hx hb dX5_by_170 (by decide) ?_
                    refine lv_iand hx hb dX5_by_171 ?_
                    refine lv_if_ne (tgt := 182) hx hb dX5_by_172 (by decide) (fun c_15 => ?_) (fun c_15 => ?_)
                    · refine lv_iconst (v := 0) hx hb dX5_by_182 (by decide) ?_
                      exact J _ (show (0 : Int32) = if (if (σ 1 q) = 0 then (true) else (if (σ 1 q) = 1 then (if v10 = 0 then (true) else (if (σ 1 q) = 2 then (if v10 = 1 then (if v11 = true then (true) else (false)) else (false)) else (false))) else (if (σ 1 q) = 2 then (if v10 = 1 then (if v11 = true then (true) else (false)) else (false)) else (false)))) = true then (if ((a2 >>> ((((5 : Int32) * v9) + v8) &&& 31)) &&& 1) = 0 then (((1 : Int32) <<< ((((5 : Int32) * v9) + v8) &&& 31))) else ((0 : Int32))) else ((0 : Int32)) from by rw [if_pos c_14, if_neg c_15])
                    · refine lv_iconst (v := 1) hx hb dX5_by_175 (by decide) ?_
                      refine lv_iload hx hb dX5_by_176 (lv_at hl 1 rfl) ?_
                      refine lv_ishl hx hb dX5_by_178 ?_
                      refine lv_goto (tgt := 183) hx hb dX5_by_179 (by decide) ?_
                      exact J _ (show ((1 : Int32) <<< ((((5 : Int32) * v9) + v8) &&& 31) : Int32) = if (if (σ 1 q) = 0 then (true) else (if (σ 1 q) = 1 then (if v10 = 0 then (true) else (if (σ 1 q) = 2 then (if v10 = 1 then (if v11 = true then (true) else (false)) else (false)) else (false))) else (if (σ 1 q) = 2 then (if v10 = 1 then (if v11 = true then (true) else (false)) else (false)) else (false)))) = true then (if ((a2 >>> ((((5 : Int32) * v9) + v8) &&& 31)) &&& 1) = 0 then (((1 : Int32) <<< ((((5 : Int32) * v9) + v8) &&& 31))) else ((0 : Int32))) else ((0 : Int32)) from by rw [if_pos c_14, if_pos c_15])
              · refine lv_if_eq (tgt := 152) hx hb dX5_by_113 (by decide) (fun c_5 => ?_) (fun c_5 => ?_)
                · refine lv_iconst (v := 1) hx hb dX5_by_152 (by decide) ?_
                  refine lv_goto (tgt := 157) hx hb dX5_by_153 (by decide) ?_
                  exact J _ (congrArg zI (show true = if (σ 1 q) = 0 then (true) else (if (σ 1 q) = 1 then (if v10 = 0 then (true) else (if (σ 1 q) = 2 then (if v10 = 1 then (if v11 = true then (true) else (false)) else (false)) else (false))) else (if (σ 1 q) = 2 then (if v10 = 1 then (if v11 = true then (true) else (false)) else (false)) else (false))) from by rw [if_pos c_5]))
                · refine lv_aload_n hx hb dX5_by_116 rfl (lv_at hl 1 rfl) ?_
                  refine va_get (D := G.1) (ci := 5) (v := .ref (A 1)) (C := RX5) (T := TX5) (N := 20) hx hb hts hiX5 hown hX.1 (x1 hW hM.1) 0 rfl rfl 1 (by decide) hf7 (fun _ h9 => h9) rfl dX5_by_117 ?_
                  refine lv_iload_n hx hb dX5_by_120 rfl (lv_at hl 2 rfl) ?_
                  refine x_ild (k := q) hx hb hX.1 hW hM.2.1 (vp_in_nI hq (by omega)) (nI_clamp (by omega)) dX5_by_121 ?_
                  refine lv_iconst (v := 1) hx hb dX5_by_122 (by decide) ?_
                  refine lv_icmp_ne (tgt := 131) hx hb dX5_by_123 (by decide) (fun c_6 => ?_) (fun c_6 => ?_)
                  · refine lv_aload_n hx hb dX5_by_131 rfl (lv_at hl 1 rfl) ?_
                    refine va_get (D := G.1) (ci := 5) (v := .ref (A 1)) (C := RX5) (T := TX5) (N := 20) hx hb hts hiX5 hown hX.1 (x1 hW hM.1) 0 rfl rfl 1 (by decide) hf7 (fun _ h9 => h9) rfl dX5_by_132 ?_
                    refine lv_iload_n hx hb dX5_by_135 rfl (lv_at hl 2 rfl) ?_
                    refine x_ild (k := q) hx hb hX.1 hW hM.2.1 (vp_in_nI hq (by omega)) (nI_clamp (by omega)) dX5_by_136 ?_
                    refine lv_iconst (v := 2) hx hb dX5_by_137 (by decide) ?_
                    refine lv_icmp_ne (tgt := 156) hx hb dX5_by_138 (by decide) (fun c_7 => ?_) (fun c_7 => ?_)
                    · refine lv_iconst (v := 0) hx hb dX5_by_156 (by decide) ?_
                      exact J _ (congrArg zI (show false = if (σ 1 q) = 0 then (true) else (if (σ 1 q) = 1 then (if v10 = 0 then (true) else (if (σ 1 q) = 2 then (if v10 = 1 then (if v11 = true then (true) else (false)) else (false)) else (false))) else (if (σ 1 q) = 2 then (if v10 = 1 then (if v11 = true then (true) else (false)) else (false)) else (false))) from by rw [if_neg c_5, if_neg c_6, if_neg c_7]))
                    · refine lv_iload hx hb dX5_by_141 (lv_at hl 12 rfl) ?_
                      refine lv_iconst (v := 1) hx hb dX5_by_143 (by decide) ?_
                      refine lv_icmp_ne (tgt := 156) hx hb dX5_by_144 (by decide) (fun c_8 => ?_) (fun c_8 => ?_)
                      · refine lv_iconst (v := 0) hx hb dX5_by_156 (by decide) ?_
                        exact J _ (congrArg zI (show false = if (σ 1 q) = 0 then (true) else (if (σ 1 q) = 1 then (if v10 = 0 then (true) else (if (σ 1 q) = 2 then (if v10 = 1 then (if v11 = true then (true) else (false)) else (false)) else (false))) else (if (σ 1 q) = 2 then (if v10 = 1 then (if v11 = true then (true) else (false)) else (false)) else (false))) from by rw [if_neg c_5, if_neg c_6, if_pos c_7, if_neg c_8]))
                      · refine lv_iload hx hb dX5_by_147 (lv_at hl 13 rfl) ?_
                        refine x_ifz_eq (b := v11) (tgt := 156) hx hb dX5_by_149 (by decide) (fun c_9 => ?_) (fun c_9 => ?_)
                        · refine lv_iconst (v := 0) hx hb dX5_by_156 (by decide) ?_
                          exact J _ (congrArg zI (show false = if (σ 1 q) = 0 then (true) else (if (σ 1 q) = 1 then (if v10 = 0 then (true) else (if (σ 1 q) = 2 then (if v10 = 1 then (if v11 = true then (true) else (false)) else (false)) else (false))) else (if (σ 1 q) = 2 then (if v10 = 1 then (if v11 = true then (true) else (false)) else (false)) else (false))) from by rw [if_neg c_5, if_neg c_6, if_pos c_7, if_pos c_8, if_neg (Bool.eq_false_iff.mp c_9)]))
                        · refine lv_iconst (v := 1) hx hb dX5_by_152 (by decide) ?_
                          refine lv_goto (tgt := 157) hx hb dX5_by_153 (by decide) ?_
                          exact J _ (congrArg zI (show true = if (σ 1 q) = 0 then (true) else (if (σ 1 q) = 1 then (if v10 = 0 then (true) else (if (σ 1 q) = 2 then (if v10 = 1 then (if v11 = true then (true) else (false)) else (false)) else (false))) else (if (σ 1 q) = 2 then (if v10 = 1 then (if v11 = true then (true) else (false)) else (false)) else (false))) from by rw [if_neg c_5, if_neg c_6, if_pos c_7, if_pos c_8, if_pos c_9]))
                  · refine lv_iload hx hb dX5_by_126 (lv_at hl 12 rfl) ?_
                    refine lv_if_eq (tgt := 152) hx hb dX5_by_128 (by decide) (fun c_10 => ?_) (fun c_10 => ?_)
                    · refine lv_iconst (v := 1) hx hb dX5_by_152 (by decide) ?_
                      refine lv_goto (tgt := 157) hx hb dX5_by_153 (by decide) ?_
                      exact J _ (congrArg zI (show true = if (σ 1 q) = 0 then (true) else (if (σ 1 q) = 1 then (if v10 = 0 then (true) else (if (σ 1 q) = 2 then (if v10 = 1 then (if v11 = true then (true) else (false)) else (false)) else (false))) else (if (σ 1 q) = 2 then (if v10 = 1 then (if v11 = true then (true) else (false)) else (false)) else (false))) from by rw [if_neg c_5, if_pos c_6, if_pos c_10]))
                    · refine lv_aload_n hx hb dX5_by_131 rfl (lv_at hl 1 rfl) ?_
                      refine va_get (D := G.1) (ci := 5) (v := .ref (A 1)) (C := RX5) (T := TX5) (N := 20) hx hb hts hiX5 hown hX.1 (x1 hW hM.1) 0 rfl rfl 1 (by decide) hf7 (fun _ h9 => h9) rfl dX5_by_132 ?_
                      refine lv_iload_n hx hb dX5_by_135 rfl (lv_at hl 2 rfl) ?_
                      refine x_ild (k := q) hx hb hX.1 hW hM.2.1 (vp_in_nI hq (by omega)) (nI_clamp (by omega)) dX5_by_136 ?_
                      refine lv_iconst (v := 2) hx hb dX5_by_137 (by decide) ?_
                      refine lv_icmp_ne (tgt := 156) hx hb dX5_by_138 (by decide) (fun c_11 => ?_) (fun c_11 => ?_)
                      · refine lv_iconst (v := 0) hx hb dX5_by_156 (by decide) ?_
                        exact J _ (congrArg zI (show false = if (σ 1 q) = 0 then (true) else (if (σ 1 q) = 1 then (if v10 = 0 then (true) else (if (σ 1 q) = 2 then (if v10 = 1 then (if v11 = true then (true) else (false)) else (false)) else (false))) else (if (σ 1 q) = 2 then (if v10 = 1 then (if v11 = true then (true) else (false)) else (false)) else (false))) from by rw [if_neg c_5, if_pos c_6, if_neg c_10, if_neg c_11]))
                      · refine lv_iload hx hb dX5_by_141 (lv_at hl 12 rfl) ?_
                        refine lv_iconst (v := 1) hx hb dX5_by_143 (by decide) ?_
                        refine lv_icmp_ne (tgt := 156) hx hb dX5_by_144 (by decide) (fun c_12 => ?_) (fun c_12 => ?_)
                        · refine lv_iconst (v := 0) hx hb dX5_by_156 (by decide) ?_
                          exact J _ (congrArg zI (show false = if (σ 1 q) = 0 then (true) else (if (σ 1 q) = 1 then (if v10 = 0 then (true) else (if (σ 1 q) = 2 then (if v10 = 1 then (if v11 = true then (true) else (false)) else (false)) else (false))) else (if (σ 1 q) = 2 then (if v10 = 1 then (if v11 = true then (true) else (false)) else (false)) else (false))) from by rw [if_neg c_5, if_pos c_6, if_neg c_10, if_pos c_11, if_neg c_12]))
                        · refine lv_iload hx hb dX5_by_147 (lv_at hl 13 rfl) ?_
                          refine x_ifz_eq (b := v11) (tgt := 156) hx hb dX5_by_149 (by decide) (fun c_13 => ?_) (fun c_13 => ?_)
                          · refine lv_iconst (v := 0) hx hb dX5_by_156 (by decide) ?_
                            exact J _ (congrArg zI (show false = if (σ 1 q) = 0 then (true) else (if (σ 1 q) = 1 then (if v10 = 0 then (true) else (if (σ 1 q) = 2 then (if v10 = 1 then (if v11 = true then (true) else (false)) else (false)) else (false))) else (if (σ 1 q) = 2 then (if v10 = 1 then (if v11 = true then (true) else (false)) else (false)) else (false))) from by rw [if_neg c_5, if_pos c_6, if_neg c_10, if_pos c_11, if_pos c_12, if_neg (Bool.eq_false_iff.mp c_13)]))
                          · refine lv_iconst (v := 1) hx hb dX5_by_152 (by decide) ?_
                            refine lv_goto (tgt := 157) hx hb dX5_by_153 (by decide) ?_
                            exact J _ (congrArg zI (show true = if (σ 1 q) = 0 then (true) else (if (σ 1 q) = 1 then (if v10 = 0 then (true) else (if (σ 1 q) = 2 then (if v10 = 1 then (if v11 = true then (true) else (false)) else (false)) else (false))) else (if (σ 1 q) = 2 then (if v10 = 1 then (if v11 = true then (true) else (false)) else (false)) else (false))) from by rw [if_neg c_5, if_pos c_6, if_neg c_10, if_pos c_11, if_pos c_12, if_pos c_13]))
  · refine lv_iconst (v := 0) hx hb dX5_by_0 (by decide) ?_
    refine lv_istore (lv' := [(7, .int 0), (0, .ref o), (1, .int (nI q)), (2, .int a1), (3, .int a2), (4, .int a3), (5, .int (zI a4)), (6, .int a5)]) hx hb dX5_by_1 hl (by decide) rfl (fun ls hl => ?_)
    refine lv_iload hx hb dX5_by_3 (lv_at hl 7 rfl) ?_
    refine lv_iconst (v := 5) hx hb dX5_by_5 (by decide) ?_
    refine lv_irem hx hb dX5_by_6 (by decide) ?_
    refine lv_aload_n hx hb dX5_by_7 rfl (lv_at hl 1 rfl) ?_
    refine va_get (D := G.1) (ci := 5) (v := .ref (A 2)) (C := RX5) (T := TX5) (N := 20) hx hb hts hiX5 hown hX.1 (x1 hW hM.1) 0 rfl rfl 2 (by decide) hf13 (fun _ h9 => h9) rfl dX5_by_8 ?_
    refine lv_iload_n hx hb dX5_by_11 rfl (lv_at hl 2 rfl) ?_
    refine x_ild (k := q) hx hb hX.1 hW hM.2.2.1 (vp_in_nI hq (by omega)) (nI_clamp (by omega)) dX5_by_12 ?_
    refine lv_iadd hx hb dX5_by_13 ?_
    refine lv_istore (lv' := [(8, .int ((a5 - a5 / 5 * 5) + (σ 2 q))), (7, .int 0), (0, .ref o), (1, .int (nI q)), (2, .int a1), (3, .int a2), (4, .int a3), (5, .int (zI a4)), (6, .int a5)]) hx hb dX5_by_14 hl (by decide) rfl (fun ls hl => ?_)
    refine lv_iload hx hb dX5_by_16 (lv_at hl 8 rfl) ?_
    refine lv_iconst (v := 5) hx hb dX5_by_18 (by decide) ?_
    refine lv_idiv hx hb dX5_by_19 (by decide) ?_
    refine lv_iload hx hb dX5_by_20 (lv_at hl 7 rfl) ?_
    refine x_join (ls' := ls) (rest' := [.int (a5 / 5)]) 41 ((if a4 = true then ((-(σ 3 q))) else ((σ 3 q)))) (fun v ev => ?_) (fun J => ?_)
    · subst ev
      refine lv_iadd hx hb dX5_by_41 ?_
      refine lv_istore (lv' := [(9, .int ((a5 / 5) + (if a4 = true then ((-(σ 3 q))) else ((σ 3 q))))), (8, .int ((a5 - a5 / 5 * 5) + (σ 2 q))), (7, .int 0), (0, .ref o), (1, .int (nI q)), (2, .int a1), (3, .int a2), (4, .int a3), (5, .int (zI a4)), (6, .int a5)]) hx hb dX5_by_42 hl (by decide) rfl (fun ls hl => ?_)
      refine lv_iconst (v := 0) hx hb dX5_by_44 (by decide) ?_
      refine lv_istore (lv' := [(10, .int 0), (9, .int ((a5 / 5) + (if a4 = true then ((-(σ 3 q))) else ((σ 3 q))))), (8, .int ((a5 - a5 / 5 * 5) + (σ 2 q))), (7, .int 0), (0, .ref o), (1, .int (nI q)), (2, .int a1), (3, .int a2), (4, .int a3), (5, .int (zI a4)), (6, .int a5)]) hx hb dX5_by_45 hl (by decide) rfl (fun ls hl => ?_)
      refine lv_iconst (v := 0) hx hb dX5_by_47 (by decide) ?_
      refine lv_istore (lv' := [(11, .int 0), (10, .int 0), (9, .int ((a5 / 5) + (if a4 = true then ((-(σ 3 q))) else ((σ 3 q))))), (8, .int ((a5 - a5 / 5 * 5) + (σ 2 q))), (7, .int 0), (0, .ref o), (1, .int (nI q)), (2, .int a1), (3, .int a2), (4, .int a3), (5, .int (zI a4)), (6, .int a5)]) hx hb dX5_by_48 hl (by decide) rfl (fun ls hl => ?_)
      refine lv_iconst (v := 1) hx hb dX5_by_50 (by decide) ?_
      refine lv_istore (lv' := [(12, .int 1), (11, .int 0), (10, .int 0), (9, .int ((a5 / 5) + (if a4 = true then ((-(σ 3 q))) else ((σ 3 q))))), (8, .int ((a5 - a5 / 5 * 5) + (σ 2 q))), (7, .int 0), (0, .ref o), (1, .int (nI q)), (2, .int a1), (3, .int a2), (4, .int a3), (5, .int (zI a4)), (6, .int a5)]) hx hb dX5_by_51 hl (by decide) rfl (fun ls hl => ?_)
      exact LP (5, 1, 0, ((a5 - a5 / 5 * 5) + (σ 2 q)), ((a5 / 5) + (if a4 = true then ((-(σ 3 q))) else ((σ 3 q)))), 0, false) ls ⟨by unfold fX5_by; rfl, by dsimp only <;> omega, by dsimp only <;> omega⟩ (lv_sub hl [6, 7, 8, 9, 10, 11, 12, 0, 5, 4, 3, 2, 1] rfl)
    · refine x_ifz_eq (b := a4) (tgt := 35) hx hb dX5_by_22 (by decide) (fun c_19 => ?_) (fun c_19 => ?_)
      · refine lv_aload_n hx hb dX5_by_35 rfl (lv_at hl 2 rfl) ?_
        refine va_get (D := G.1) (ci := 5) (v := .ref (A 3)) (C := RX5) (T := TX5) (N := 20) hx hb hts hiX5 hown hX.1 (x1 hW hM.1) 0 rfl rfl 3 (by decide) hf16 (fun _ h9 => h9) rfl dX5_by_36 ?_
        refine lv_iload_n hx hb dX5_by_39 rfl (lv_at hl 3 rfl) ?_
        refine x_ild (k := q) hx hb hX.1 hW hM.2.2.2.1 (vp_in_nI hq (by omega)) (nI_clamp (by omega)) dX5_by_40 ?_
        exact J _ (show (σ 3 q : Int32) = if a4 = true then ((-(σ 3 q))) else ((σ 3 q)) from by rw [if_neg (Bool.eq_false_iff.mp c_19)])
      · refine lv_aload_n hx hb dX5_by_25 rfl (lv_at hl 2 rfl) ?_
        refine va_get (D := G.1) (ci := 5) (v := .ref (A 3)) (C := RX5) (T := TX5) (N := 20) hx hb hts hiX5 hown hX.1 (x1 hW hM.1) 0 rfl rfl 3 (by decide) hf16 (fun _ h9 => h9) rfl dX5_by_26 ?_
        refine lv_iload_n hx hb dX5_by_29 rfl (lv_at hl 3 rfl) ?_
        refine x_ild (k := q) hx hb hX.1 hW hM.2.2.2.1 (vp_in_nI hq (by omega)) (nI_clamp (by omega)) dX5_by_30 ?_
        refine lv_ineg hx hb dX5_by_31 ?_
        refine lv_goto (tgt := 41) hx hb dX5_by_32 (by decide) ?_
        exact J _ (show (-(σ 3 q) : Int32) = if a4 = true then ((-(σ 3 q))) else ((σ 3 q)) from by rw [if_pos c_19])

def gX5_goes (σ : xSg) (a0 : Int32) (a1 : Int32) (a2 : Int32) (a3 : Int32) (a4 : Bool) (a5 : Int32) : Nat → Nat → Int32 → Int32
  | 0, _, _ => 0
  | n + 1, k, v7 => if (σ 0 0) ≤ (nI k) then v7 else (gX5_goes σ a0 a1 a2 a3 a4 a5 n (k + 1) (v7 ||| (if ((a0 >>> ((nI k) &&& 31)) &&& 1) = 1 then ((fX5_by (σ) k a1 a2 a3 a4 a5)) else ((0 : Int32)))))
def fX5_goes (σ : xSg) (a0 : Int32) (a1 : Int32) (a2 : Int32) (a3 : Int32) (a4 : Bool) (a5 : Int32) : Int32 := gX5_goes σ a0 a1 a2 a3 a4 a5 9 0 0
set_option maxHeartbeats 4000000 in
set_option maxRecDepth 100000 in
theorem kX5_goes (l : Launch) (G : xG) (E : xE) (σ : xSg) (o : Nat) (a0 : Int32) (a1 : Int32) (a2 : Int32) (a3 : Int32) (a4 : Bool) (a5 : Int32) (A : Nat → Nat) (hM : xMod G E o A σ) (nC : Nat) (hC : xCd σ nC) : Met l yX5_goes wsX5_goes ({ frames := 2, cells := 0, slots := 0, locals := 56 }) (va_Pc [.ref o, .int a0, .int a1, .int a2, .int a3, .int (zI a4), .int a5] (xB G E)) (vp_Si (fun r => r = fX5_goes σ a0 a1 a2 a3 a4 a5)) 0 0 (fun _ => False) := by
  refine Met.ofW (cc := cX5_goes) (maxL := 9) (ret := (some .int)) (by decide) rfl ?_
  intro p e s m args below meth c s₁ B hml hv
  obtain ⟨rfl, hX, hW⟩ := hv
  have hx := B.exec
  have hb := B.bytes
  have hr := B.returns
  have hts := atoms_spec (ws := wsX5_goes) B.pre
  have hown : s.vm.findClass RX5 = some m.cls := findClass_of_methodNamed B.named
  have hlocks := B.notSynchronized
  have hS : va_S (xA G) s.heap s.heap [] := va_S.rf
  have hiX5 : ∀ w ∈ u_ws RX5 TX5 20, w ∈ wsX5_goes := by decide +kernel
  have hf76 := hts (Cond.fieldLink RX5 76 "VariantMillModel" "cards" "I") (by decide +kernel)
  have hl := lv_entry ([.ref o, .int a0, .int a1, .int a2, .int a3, .int (zI a4), .int a5]) (n := 9) (Nat.le_of_ble_eq_true rfl)
  rw [lg_entry_eq]
  generalize (lg_sl ([.ref o, .int a0, .int a1, .int a2, .int a3, .int (zI a4), .int a5]) ++ List.replicate (9 - (lg_sl ([.ref o, .int a0, .int a1, .int a2, .int a3, .int (zI a4), .int a5])).length) Slot.unset).toArray = ls at hl ⊢
  have hl : lv_has ls 9 [(0, .ref o), (1, .int a0), (2, .int a1), (3, .int a2), (4, .int a3), (5, .int (zI a4)), (6, .int a5)] := hl
  refine x_loopK (σ := Nat × Nat × Int32) 6 9 (fun x => [(0, .ref o), (1, .int a0), (2, .int a1), (3, .int a2), (4, .int a3), (5, .int (zI a4)), (6, .int a5), (8, .int (nI x.2.1)), (7, .int x.2.2)]) (fun x => fX5_goes σ a0 a1 a2 a3 a4 a5 = gX5_goes σ a0 a1 a2 a3 a4 a5 x.1 x.2.1 x.2.2 ∧ x.2.1 ≤ 8 ∧ x.1 + x.2.1 = 8 + 1) (fun x => x.1) ?_ (fun LP => ?_)
  · rintro ⟨n, k, v7⟩ ls ⟨hv, hk, hn⟩ hl ih
    dsimp only at hv hk hn
    rcases n with _ | n
    · omega
    · have hl : lv_has ls 9 [(0, .ref o), (1, .int a0), (2, .int a1), (3, .int a2), (4, .int a3), (5, .int (zI a4)), (6, .int a5), (8, .int (nI k)), (7, .int v7)] := hl
      refine lv_iload hx hb dX5_goes_6 (lv_at hl 7 rfl) ?_
      refine lv_aload_n hx hb dX5_goes_8 rfl (lv_at hl 0 rfl) ?_
      refine va_get (D := G.1) (ci := 5) (v := .int (σ 0 0)) (C := RX5) (T := TX5) (N := 20) hx hb hts hiX5 hown hX.1 (x1 hW hM.1) 0 rfl rfl 0 (by decide) hf76 (fun _ h9 => h9) rfl dX5_goes_9 ?_
      refine lv_icmp_ge (tgt := 54) hx hb dX5_goes_12 (by decide) (fun c_1 => ?_) (fun c_1 => ?_)
      · refine lv_iload hx hb dX5_goes_54 (lv_at hl 8 rfl) ?_
        exact W.iret (v := v7) hx hb hr (fun t ht hw => ⟨_, rfl, (show (v7 : Int32) = fX5_goes σ a0 a1 a2 a3 a4 a5 from by rw [hv, gX5_goes]; rw [if_pos c_1]), ht⟩) (fun _ h => nomatch h) dX5_goes_56
      · have hk1 : k < 8 := Nat.lt_of_lt_of_le (x_nge (B := nC) (by rw [← hC.1]; exact c_1) (by omega)) hC.2.1
        refine lv_iload hx hb dX5_goes_15 (lv_at hl 8 rfl) ?_
        refine lv_iload_n hx hb dX5_goes_17 rfl (lv_at hl 1 rfl) ?_
        refine lv_iload hx hb dX5_goes_18 (lv_at hl 7 rfl) ?_
        refine lv_ishr hx hb dX5_goes_20 ?_
        refine lv_iconst (v := 1) hx hb dX5_goes_21 (by decide) ?_
        refine lv_iand hx hb dX5_goes_22 ?_
        refine lv_iconst (v := 1) hx hb dX5_goes_23 (by decide) ?_
        refine x_join (ls' := ls) (rest' := [.int v7]) 45 ((if ((a0 >>> ((nI k) &&& 31)) &&& 1) = 1 then ((fX5_by (σ) k a1 a2 a3 a4 a5)) else ((0 : Int32)))) (fun v ev => ?_) (fun J => ?_)
        · subst ev
          refine lv_ior hx hb dX5_goes_45 ?_
          refine lv_istore (lv' := [(7, .int (v7 ||| (if ((a0 >>> ((nI k) &&& 31)) &&& 1) = 1 then ((fX5_by (σ) k a1 a2 a3 a4 a5)) else ((0 : Int32))))), (0, .ref o), (1, .int a0), (2, .int a1), (3, .int a2), (4, .int a3), (5, .int (zI a4)), (6, .int a5), (8, .int (nI k))]) hx hb dX5_goes_46 hl (by decide) rfl (fun ls hl => ?_)
          refine lv_iinc (v := nI (k + 1)) (lv' := [(8, .int (nI (k + 1))), (7, .int (v7 ||| (if ((a0 >>> ((nI k) &&& 31)) &&& 1) = 1 then ((fX5_by (σ) k a1 a2 a3 a4 a5)) else ((0 : Int32))))), (0, .ref o), (1, .int a0), (2, .int a1), (3, .int a2), (4, .int a3), (5, .int (zI a4)), (6, .int a5)]) hx hb dX5_goes_48 hl (k := 8) rfl (nI_1 _) (by decide) rfl (fun ls hl => ?_)
          refine lv_goto (tgt := 6) hx hb dX5_goes_51 (by decide) ?_
          exact ih (n, k + 1, (v7 ||| (if ((a0 >>> ((nI k) &&& 31)) &&& 1) = 1 then ((fX5_by (σ) k a1 a2 a3 a4 a5)) else ((0 : Int32))))) ls (Nat.lt_succ_self _) ⟨by rw [hv, gX5_goes]; rw [if_neg c_1], hk1, by dsimp only <;> omega⟩ (lv_sub hl [2, 3, 4, 5, 6, 7, 8, 0, 1] rfl)
        · refine lv_icmp_ne (tgt := 44) hx hb dX5_goes_24 (by decide) (fun c_2 => ?_) (fun c_2 => ?_)
          · refine lv_iconst (v := 0) hx hb dX5_goes_44 (by decide) ?_
            exact J _ (show (0 : Int32) = if ((a0 >>> ((nI k) &&& 31)) &&& 1) = 1 then ((fX5_by (σ) k a1 a2 a3 a4 a5)) else ((0 : Int32)) from by rw [if_neg c_2])
          · have hkn : k < nC := x_nge (B := nC) (by rw [← hC.1]; exact c_1) (by omega)
            obtain ⟨r, hre, h4⟩ := hC.2.2 k hkn
            refine lv_aload_n hx hb dX5_goes_27 rfl (lv_at hl 0 rfl) ?_
            refine lv_iload hx hb dX5_goes_28 (lv_at hl 7 rfl) ?_
            refine lv_iload_n hx hb dX5_goes_30 rfl (lv_at hl 2 rfl) ?_
            refine lv_iload_n hx hb dX5_goes_31 rfl (lv_at hl 3 rfl) ?_
            refine lv_iload hx hb dX5_goes_32 (lv_at hl 4 rfl) ?_
            refine lv_iload hx hb dX5_goes_34 (lv_at hl 5 rfl) ?_
            refine lv_iload hx hb dX5_goes_36 (lv_at hl 6 rfl) ?_
            refine x_callSe (va_runV (As := [.int (nI k), .int a1, .int a2, .int a3, .int (zI a4), .int a5]) (rest := [.int v7]) ⟨hx, hb, hml, hown, hts⟩ (kX5_by l G _ (σ) o k a1 a2 a3 a4 a5 A hM (Nat.lt_of_lt_of_le hkn hC.2.1) r hre h4) (cwV 6 hts gX5_goes_X5_by rfl rfl rfl (by decide +kernel) ⟨Nat.le_of_ble_eq_true rfl, Nat.le_of_ble_eq_true rfl⟩) (x_preV hX hS hW hM.1 rfl) rfl rfl hl.1 rfl (lv_room (Nat.le_of_ble_eq_true rfl)) dX5_goes_38 ⟨Nat.le_of_ble_eq_true rfl, Nat.le_of_ble_eq_true rfl⟩) ?_
            refine lv_goto (tgt := 45) hx hb dX5_goes_41 (by decide) ?_
            exact J _ (show (fX5_by (σ) k a1 a2 a3 a4 a5 : Int32) = if ((a0 >>> ((nI k) &&& 31)) &&& 1) = 1 then ((fX5_by (σ) k a1 a2 a3 a4 a5)) else ((0 : Int32)) from by rw [if_pos c_2])
  · refine lv_iconst (v := 0) hx hb dX5_goes_0 (by decide) ?_
    refine lv_istore (lv' := [(7, .int 0), (0, .ref o), (1, .int a0), (2, .int a1), (3, .int a2), (4, .int a3), (5, .int (zI a4)), (6, .int a5)]) hx hb dX5_goes_1 hl (by decide) rfl (fun ls hl => ?_)
    refine lv_iconst (v := 0) hx hb dX5_goes_3 (by decide) ?_
    refine lv_istore (lv' := [(8, .int 0), (7, .int 0), (0, .ref o), (1, .int a0), (2, .int a1), (3, .int a2), (4, .int a3), (5, .int (zI a4)), (6, .int a5)]) hx hb dX5_goes_4 hl (by decide) rfl (fun ls hl => ?_)
    exact LP (9, 0, 0) ls ⟨by unfold fX5_goes; rfl, by dsimp only <;> omega, by dsimp only <;> omega⟩ (lv_sub hl [2, 3, 4, 5, 6, 7, 8, 0, 1] rfl)

def gX5_moves (σ : xSg) (a0 : Int32) (a1 : Int32) (a2 : Int32) (a3 : Int32) (a4 : Bool) : Nat → Nat → Bool → Bool
  | 0, _, _ => false
  | n + 1, k, v6 => if 25 ≤ (nI k) then v6 else (if v6 = true then v6 else (gX5_moves σ a0 a1 a2 a3 a4 n (k + 1) (if ((a2 >>> ((nI k) &&& 31)) &&& 1) = 1 then (if (fX5_goes (σ) a0 a1 a2 a3 a4 (nI k)) = 0 then (false) else (true)) else (false))))
def fX5_moves (σ : xSg) (a0 : Int32) (a1 : Int32) (a2 : Int32) (a3 : Int32) (a4 : Bool) : Bool := gX5_moves σ a0 a1 a2 a3 a4 26 0 false
set_option maxHeartbeats 4000000 in
set_option maxRecDepth 100000 in
theorem kX5_moves (l : Launch) (G : xG) (E : xE) (σ : xSg) (o : Nat) (a0 : Int32) (a1 : Int32) (a2 : Int32) (a3 : Int32) (a4 : Bool) (A : Nat → Nat) (hM : xMod G E o A σ) (nC : Nat) (hC : xCd σ nC) : Met l yX5_moves wsX5_moves ({ frames := 3, cells := 0, slots := 0, locals := 84 }) (va_Pc [.ref o, .int a0, .int a1, .int a2, .int a3, .int (zI a4)] (xB G E)) (vp_Si (fun r => r = zI (fX5_moves σ a0 a1 a2 a3 a4))) 0 0 (fun _ => False) := by
  refine Met.ofW (cc := cX5_moves) (maxL := 8) (ret := (some .boolean)) (by decide) rfl ?_
  intro p e s m args below meth c s₁ B hml hv
  obtain ⟨rfl, hX, hW⟩ := hv
  have hx := B.exec
  have hb := B.bytes
  have hr := B.returns
  have hts := atoms_spec (ws := wsX5_moves) B.pre
  have hown : s.vm.findClass RX5 = some m.cls := findClass_of_methodNamed B.named
  have hlocks := B.notSynchronized
  have hS : va_S (xA G) s.heap s.heap [] := va_S.rf
  have hl := lv_entry ([.ref o, .int a0, .int a1, .int a2, .int a3, .int (zI a4)]) (n := 8) (Nat.le_of_ble_eq_true rfl)
  rw [lg_entry_eq]
  generalize (lg_sl ([.ref o, .int a0, .int a1, .int a2, .int a3, .int (zI a4)]) ++ List.replicate (8 - (lg_sl ([.ref o, .int a0, .int a1, .int a2, .int a3, .int (zI a4)])).length) Slot.unset).toArray = ls at hl ⊢
  have hl : lv_has ls 8 [(0, .ref o), (1, .int a0), (2, .int a1), (3, .int a2), (4, .int a3), (5, .int (zI a4))] := hl
  refine x_loopK (σ := Nat × Nat × Bool) 6 8 (fun x => [(0, .ref o), (1, .int a0), (2, .int a1), (3, .int a2), (4, .int a3), (5, .int (zI a4)), (7, .int (nI x.2.1)), (6, .int (zI x.2.2))]) (fun x => fX5_moves σ a0 a1 a2 a3 a4 = gX5_moves σ a0 a1 a2 a3 a4 x.1 x.2.1 x.2.2 ∧ x.2.1 ≤ 25 ∧ x.1 + x.2.1 = 25 + 1) (fun x => x.1) ?_ (fun LP => ?_)
  · rintro ⟨n, k, v6⟩ ls ⟨hv, hk, hn⟩ hl ih
    dsimp only at hv hk hn
    rcases n with _ | n
    · omega
    · have hl : lv_has ls 8 [(0, .ref o), (1, .int a0), (2, .int a1), (3, .int a2), (4, .int a3), (5, .int (zI a4)), (7, .int (nI k)), (6, .int (zI v6))] := hl
      refine lv_iload hx hb dX5_moves_6 (lv_at hl 6 rfl) ?_
      refine lv_bipush (v := 25) hx hb dX5_moves_8 (by decide) ?_
      refine lv_icmp_ge (tgt := 57) hx hb dX5_moves_10 (by decide) (fun c_1 => ?_) (fun c_1 => ?_)
      · refine lv_iload hx hb dX5_moves_57 (lv_at hl 7 rfl) ?_
        exact W.zret (v := zI v6) hx hb hr (xz_nar _) (fun t ht hw => ⟨_, rfl, (congrArg zI (show v6 = fX5_moves σ a0 a1 a2 a3 a4 from by rw [hv, gX5_moves]; rw [if_pos c_1])), ht⟩) (fun _ h => nomatch h) dX5_moves_59
      · have hk1 : k < 25 := x_nge (B := 25) c_1 (by omega)
        refine lv_iload hx hb dX5_moves_13 (lv_at hl 7 rfl) ?_
        refine x_ifz_ne (b := v6) (tgt := 57) hx hb dX5_moves_15 (by decide) (fun c_2 => ?_) (fun c_2 => ?_)
        · refine lv_iload hx hb dX5_moves_57 (lv_at hl 7 rfl) ?_
          exact W.zret (v := zI v6) hx hb hr (xz_nar _) (fun t ht hw => ⟨_, rfl, (congrArg zI (show v6 = fX5_moves σ a0 a1 a2 a3 a4 from by rw [hv, gX5_moves]; rw [if_neg c_1, if_pos c_2])), ht⟩) (fun _ h => nomatch h) dX5_moves_59
        · refine lv_iload_n hx hb dX5_moves_18 rfl (lv_at hl 3 rfl) ?_
          refine lv_iload hx hb dX5_moves_19 (lv_at hl 6 rfl) ?_
          refine lv_ishr hx hb dX5_moves_21 ?_
          refine lv_iconst (v := 1) hx hb dX5_moves_22 (by decide) ?_
          refine lv_iand hx hb dX5_moves_23 ?_
          refine lv_iconst (v := 1) hx hb dX5_moves_24 (by decide) ?_
          refine x_join (ls' := ls) (rest' := []) 49 (zI (if ((a2 >>> ((nI k) &&& 31)) &&& 1) = 1 then (if (fX5_goes (σ) a0 a1 a2 a3 a4 (nI k)) = 0 then (false) else (true)) else (false))) (fun v ev => ?_) (fun J => ?_)
          · subst ev
            refine lv_istore (lv' := [(6, .int (zI (if ((a2 >>> ((nI k) &&& 31)) &&& 1) = 1 then (if (fX5_goes (σ) a0 a1 a2 a3 a4 (nI k)) = 0 then (false) else (true)) else (false)))), (0, .ref o), (1, .int a0), (2, .int a1), (3, .int a2), (4, .int a3), (5, .int (zI a4)), (7, .int (nI k))]) hx hb dX5_moves_49 hl (by decide) rfl (fun ls hl => ?_)
            refine lv_iinc (v := nI (k + 1)) (lv' := [(7, .int (nI (k + 1))), (6, .int (zI (if ((a2 >>> ((nI k) &&& 31)) &&& 1) = 1 then (if (fX5_goes (σ) a0 a1 a2 a3 a4 (nI k)) = 0 then (false) else (true)) else (false)))), (0, .ref o), (1, .int a0), (2, .int a1), (3, .int a2), (4, .int a3), (5, .int (zI a4))]) hx hb dX5_moves_51 hl (k := 7) rfl (nI_1 _) (by decide) rfl (fun ls hl => ?_)
            refine lv_goto (tgt := 6) hx hb dX5_moves_54 (by decide) ?_
            exact ih (n, k + 1, (if ((a2 >>> ((nI k) &&& 31)) &&& 1) = 1 then (if (fX5_goes (σ) a0 a1 a2 a3 a4 (nI k)) = 0 then (false) else (true)) else (false))) ls (Nat.lt_succ_self _) ⟨by rw [hv, gX5_moves]; rw [if_neg c_1, if_neg (Bool.eq_false_iff.mp c_2)], hk1, by dsimp only <;> omega⟩ (lv_sub hl [2, 3, 4, 5, 6, 7, 0, 1] rfl)
          · refine lv_icmp_ne (tgt := 48) hx hb dX5_moves_25 (by decide) (fun c_3 => ?_) (fun c_3 => ?_)
            · refine lv_iconst (v := 0) hx hb dX5_moves_48 (by decide) ?_
              exact J _ (congrArg zI (show false = if ((a2 >>> ((nI k) &&& 31)) &&& 1) = 1 then (if (fX5_goes (σ) a0 a1 a2 a3 a4 (nI k)) = 0 then (false) else (true)) else (false) from by rw [if_neg c_3]))
            · refine lv_aload_n hx hb dX5_moves_28 rfl (lv_at hl 0 rfl) ?_
              refine lv_iload_n hx hb dX5_moves_29 rfl (lv_at hl 1 rfl) ?_
              refine lv_iload_n hx hb dX5_moves_30 rfl (lv_at hl 2 rfl) ?_
              refine lv_iload_n hx hb dX5_moves_31 rfl (lv_at hl 3 rfl) ?_
              refine lv_iload hx hb dX5_moves_32 (lv_at hl 4 rfl) ?_
              refine lv_iload hx hb dX5_moves_34 (lv_at hl 5 rfl) ?_
              refine lv_iload hx hb dX5_moves_36 (lv_at hl 6 rfl) ?_
              refine x_callSe (va_runV (As := [.int a0, .int a1, .int a2, .int a3, .int (zI a4), .int (nI k)]) (rest := []) ⟨hx, hb, hml, hown, hts⟩ (kX5_goes l G _ (σ) o a0 a1 a2 a3 a4 (nI k) A hM nC hC) (cwV 6 hts gX5_moves_X5_goes rfl rfl rfl (by decide +kernel) ⟨Nat.le_of_ble_eq_true rfl, Nat.le_of_ble_eq_true rfl⟩) (x_preV hX hS hW hM.1 rfl) rfl rfl hl.1 rfl (lv_room (Nat.le_of_ble_eq_true rfl)) dX5_moves_38 ⟨Nat.le_of_ble_eq_true rfl, Nat.le_of_ble_eq_true rfl⟩) ?_
              refine lv_if_eq (tgt := 48) hx hb dX5_moves_41 (by decide) (fun c_4 => ?_) (fun c_4 => ?_)
              · refine lv_iconst (v := 0) hx hb dX5_moves_48 (by decide) ?_
                exact J _ (congrArg zI (show false = if ((a2 >>> ((nI k) &&& 31)) &&& 1) = 1 then (if (fX5_goes (σ) a0 a1 a2 a3 a4 (nI k)) = 0 then (false) else (true)) else (false) from by rw [if_pos c_3, if_pos c_4]))
              · refine lv_iconst (v := 1) hx hb dX5_moves_44 (by decide) ?_
                refine lv_goto (tgt := 49) hx hb dX5_moves_45 (by decide) ?_
                exact J _ (congrArg zI (show true = if ((a2 >>> ((nI k) &&& 31)) &&& 1) = 1 then (if (fX5_goes (σ) a0 a1 a2 a3 a4 (nI k)) = 0 then (false) else (true)) else (false) from by rw [if_pos c_3, if_neg c_4]))
  · refine lv_iconst (v := 0) hx hb dX5_moves_0 (by decide) ?_
    refine lv_istore (lv' := [(6, .int 0), (0, .ref o), (1, .int a0), (2, .int a1), (3, .int a2), (4, .int a3), (5, .int (zI a4))]) hx hb dX5_moves_1 hl (by decide) rfl (fun ls hl => ?_)
    refine lv_iconst (v := 0) hx hb dX5_moves_3 (by decide) ?_
    refine lv_istore (lv' := [(7, .int 0), (6, .int 0), (0, .ref o), (1, .int a0), (2, .int a1), (3, .int a2), (4, .int a3), (5, .int (zI a4))]) hx hb dX5_moves_4 hl (by decide) rfl (fun ls hl => ?_)
    exact LP (26, 0, false) ls ⟨by unfold fX5_moves; rfl, by dsimp only <;> omega, by dsimp only <;> omega⟩ (lv_sub hl [2, 3, 4, 5, 6, 7, 0, 1] rfl)

def gX5_isBannedNow (σ : xSg) (u : Nat) : Nat → Nat → Int32 → Bool
  | 0, _, _ => false
  | n + 1, k, v2 => if 5 ≤ (nI k) then (if 3 ≤ v2 then true else (if (σ 9 u) < 2 then false else true)) else (gX5_isBannedNow σ u n (k + 1) (v2 + (((σ 8 u) >>> ((nI k) &&& 31)) &&& 1)))
def fX5_isBannedNow (σ : xSg) (u : Nat) : Bool := gX5_isBannedNow σ u 6 0 0
set_option maxHeartbeats 4000000 in
set_option maxRecDepth 100000 in
theorem kX5_isBannedNow (l : Launch) (G : xG) (E : xE) (σ : xSg) (o : Nat) (u : Nat) (A : Nat → Nat) (hM : xMod G E o A σ) (hu : u < 4) : Met l yX5_isBannedNow wsX5_isBannedNow ({ frames := 0, cells := 0, slots := 0, locals := 0 }) (va_Pc [.ref o, .int (nI u)] (xB G E)) (vp_Si (fun r => r = zI (fX5_isBannedNow σ u))) 0 0 (fun _ => False) := by
  refine Met.ofW (cc := cX5_isBannedNow) (maxL := 4) (ret := (some .boolean)) (by decide) rfl ?_
  intro p e s m args below meth c s₁ B hml hv
  obtain ⟨rfl, hX, hW⟩ := hv
  have hx := B.exec
  have hb := B.bytes
  have hr := B.returns
  have hts := atoms_spec (ws := wsX5_isBannedNow) B.pre
  have hown : s.vm.findClass RX5 = some m.cls := findClass_of_methodNamed B.named
  have hlocks := B.notSynchronized
  have hS : va_S (xA G) s.heap s.heap [] := va_S.rf
  have hiX5 : ∀ w ∈ u_ws RX5 TX5 20, w ∈ wsX5_isBannedNow := by decide +kernel
  have hf31 := hts (Cond.fieldLink RX5 31 "VariantMillModel" "endless" "[I") (by decide +kernel)
  have hf28 := hts (Cond.fieldLink RX5 28 "VariantMillModel" "votes" "[I") (by decide +kernel)
  have hl := lv_entry ([.ref o, .int (nI u)]) (n := 4) (Nat.le_of_ble_eq_true rfl)
  rw [lg_entry_eq]
  generalize (lg_sl ([.ref o, .int (nI u)]) ++ List.replicate (4 - (lg_sl ([.ref o, .int (nI u)])).length) Slot.unset).toArray = ls at hl ⊢
  have hl : lv_has ls 4 [(0, .ref o), (1, .int (nI u))] := hl
  refine x_loopK (σ := Nat × Nat × Int32) 4 4 (fun x => [(0, .ref o), (1, .int (nI u)), (3, .int (nI x.2.1)), (2, .int x.2.2)]) (fun x => fX5_isBannedNow σ u = gX5_isBannedNow σ u x.1 x.2.1 x.2.2 ∧ x.2.1 ≤ 5 ∧ x.1 + x.2.1 = 5 + 1) (fun x => x.1) ?_ (fun LP => ?_)
  · rintro ⟨n, k, v2⟩ ls ⟨hv, hk, hn⟩ hl ih
    dsimp only at hv hk hn
    rcases n with _ | n
    · omega
    · have hl : lv_has ls 4 [(0, .ref o), (1, .int (nI u)), (3, .int (nI k)), (2, .int v2)] := hl
      refine lv_iload_n hx hb dX5_isBannedNow_4 rfl (lv_at hl 2 rfl) ?_
      refine lv_iconst (v := 5) hx hb dX5_isBannedNow_5 (by decide) ?_
      refine lv_icmp_ge (tgt := 28) hx hb dX5_isBannedNow_6 (by decide) (fun c_1 => ?_) (fun c_1 => ?_)
      · refine lv_iload_n hx hb dX5_isBannedNow_28 rfl (lv_at hl 3 rfl) ?_
        refine lv_iconst (v := 3) hx hb dX5_isBannedNow_29 (by decide) ?_
        refine lv_icmp_ge (tgt := 43) hx hb dX5_isBannedNow_30 (by decide) (fun c_2 => ?_) (fun c_2 => ?_)
        · refine lv_iconst (v := 1) hx hb dX5_isBannedNow_43 (by decide) ?_
          refine lv_goto (tgt := 48) hx hb dX5_isBannedNow_44 (by decide) ?_
          exact W.zret (v := 1) hx hb hr rfl (fun t ht hw => ⟨_, rfl, (congrArg zI (show true = fX5_isBannedNow σ u from by rw [hv, gX5_isBannedNow]; rw [if_pos c_1, if_pos c_2])), ht⟩) (fun _ h => nomatch h) dX5_isBannedNow_48
        · refine lv_aload_n hx hb dX5_isBannedNow_33 rfl (lv_at hl 0 rfl) ?_
          refine va_get (D := G.1) (ci := 5) (v := .ref (A 9)) (C := RX5) (T := TX5) (N := 20) hx hb hts hiX5 hown hX.1 (x1 hW hM.1) 0 rfl rfl 9 (by decide) hf31 (fun _ h9 => h9) rfl dX5_isBannedNow_34 ?_
          refine lv_iload_n hx hb dX5_isBannedNow_37 rfl (lv_at hl 1 rfl) ?_
          refine x_ild (k := u) hx hb hX.1 hW hM.2.2.2.2.2.2.2.2.1 (vp_in_nI hu (by omega)) (nI_clamp (by omega)) dX5_isBannedNow_38 ?_
          refine lv_iconst (v := 2) hx hb dX5_isBannedNow_39 (by decide) ?_
          refine lv_icmp_lt (tgt := 47) hx hb dX5_isBannedNow_40 (by decide) (fun c_3 => ?_) (fun c_3 => ?_)
          · refine lv_iconst (v := 0) hx hb dX5_isBannedNow_47 (by decide) ?_
            exact W.zret (v := 0) hx hb hr rfl (fun t ht hw => ⟨_, rfl, (congrArg zI (show false = fX5_isBannedNow σ u from by rw [hv, gX5_isBannedNow]; rw [if_pos c_1, if_neg c_2, if_pos c_3])), ht⟩) (fun _ h => nomatch h) dX5_isBannedNow_48
          · refine lv_iconst (v := 1) hx hb dX5_isBannedNow_43 (by decide) ?_
            refine lv_goto (tgt := 48) hx hb dX5_isBannedNow_44 (by decide) ?_
            exact W.zret (v := 1) hx hb hr rfl (fun t ht hw => ⟨_, rfl, (congrArg zI (show true = fX5_isBannedNow σ u from by rw [hv, gX5_isBannedNow]; rw [if_pos c_1, if_neg c_2, if_neg c_3])), ht⟩) (fun _ h => nomatch h) dX5_isBannedNow_48
      · have hk1 : k < 5 := x_nge (B := 5) c_1 (by omega)
        refine lv_iload_n hx hb dX5_isBannedNow_9 rfl (lv_at hl 3 rfl) ?_
        refine lv_aload_n hx hb dX5_isBannedNow_10 rfl (lv_at hl 0 rfl) ?_
        refine va_get (D := G.1) (ci := 5) (v := .ref (A 8)) (C := RX5) (T := TX5) (N := 20) hx hb hts hiX5 hown hX.1 (x1 hW hM.1) 0 rfl rfl 8 (by decide) hf28 (fun _ h9 => h9) rfl dX5_isBannedNow_11 ?_
        refine lv_iload_n hx hb dX5_isBannedNow_14 rfl (lv_at hl 1 rfl) ?_
        refine x_ild (k := u) hx hb hX.1 hW hM.2.2.2.2.2.2.2.1 (vp_in_nI hu (by omega)) (nI_clamp (by omega)) dX5_isBannedNow_15 ?_
        refine lv_iload_n hx hb dX5_isBannedNow_16 rfl (lv_at hl 2 rfl) ?_
        refine lv_ishr hx hb dX5_isBannedNow_17 ?_
        refine lv_iconst (v := 1) hx hb dX5_isBannedNow_18 (by decide) ?_
        refine lv_iand hx hb dX5_isBannedNow_19 ?_
        refine lv_iadd hx hb dX5_isBannedNow_20 ?_
        refine lv_istore_n (lv' := [(2, .int (v2 + (((σ 8 u) >>> ((nI k) &&& 31)) &&& 1))), (0, .ref o), (1, .int (nI u)), (3, .int (nI k))]) hx hb dX5_isBannedNow_21 rfl hl (by decide) rfl (fun ls hl => ?_)
        refine lv_iinc (v := nI (k + 1)) (lv' := [(3, .int (nI (k + 1))), (2, .int (v2 + (((σ 8 u) >>> ((nI k) &&& 31)) &&& 1))), (0, .ref o), (1, .int (nI u))]) hx hb dX5_isBannedNow_22 hl (k := 3) rfl (nI_1 _) (by decide) rfl (fun ls hl => ?_)
        refine lv_goto (tgt := 4) hx hb dX5_isBannedNow_25 (by decide) ?_
        exact ih (n, k + 1, (v2 + (((σ 8 u) >>> ((nI k) &&& 31)) &&& 1))) ls (Nat.lt_succ_self _) ⟨by rw [hv, gX5_isBannedNow]; rw [if_neg c_1], hk1, by dsimp only <;> omega⟩ (lv_sub hl [2, 3, 0, 1] rfl)
  · refine lv_iconst (v := 0) hx hb dX5_isBannedNow_0 (by decide) ?_
    refine lv_istore_n (lv' := [(2, .int 0), (0, .ref o), (1, .int (nI u))]) hx hb dX5_isBannedNow_1 rfl hl (by decide) rfl (fun ls hl => ?_)
    refine lv_iconst (v := 0) hx hb dX5_isBannedNow_2 (by decide) ?_
    refine lv_istore_n (lv' := [(3, .int 0), (2, .int 0), (0, .ref o), (1, .int (nI u))]) hx hb dX5_isBannedNow_3 rfl hl (by decide) rfl (fun ls hl => ?_)
    exact LP (6, 0, 0) ls ⟨by unfold fX5_isBannedNow; rfl, by dsimp only <;> omega, by dsimp only <;> omega⟩ (lv_sub hl [2, 3, 0, 1] rfl)

def fX5_canNow (σ : xSg) (d : Nat) (v : Nat) (g : Nat) (a1 : Int32) (a2 : Int32) : Bool := if (σ 15 g) = 0 then (if (((fX5_piecesOf (σ) d v g true) >>> (a1 &&& 31)) &&& 1) = 1 then (if (((fX5_goes (σ) (σ 12 g) (σ 6 v) (fX5_piecesOf (σ) d v g true) (fX5_piecesOf (σ) d v g false) (fX5_isSecondsTurn (σ) d v g) a1) >>> (a2 &&& 31)) &&& 1) = 1 then true else false) else false) else false
set_option maxHeartbeats 4000000 in
set_option maxRecDepth 100000 in
theorem kX5_canNow (l : Launch) (G : xG) (E : xE) (σ : xSg) (d : Nat) (v : Nat) (o : Nat) (g : Nat) (a1 : Int32) (a2 : Int32) (A : Nat → Nat) (hM : xMod G E o A σ) (hG : xGm σ g d v) (nC : Nat) (hC : xCd σ nC) : Met l yX5_canNow wsX5_canNow ({ frames := 3, cells := 0, slots := 0, locals := 84 }) (va_Pc [.ref o, .int (nI g), .int a1, .int a2] (xB G E)) (vp_Si (fun r => r = zI (fX5_canNow σ d v g a1 a2))) 0 0 (fun _ => False) := by
  refine Met.ofW (cc := cX5_canNow) (maxL := 5) (ret := (some .boolean)) (by decide) rfl ?_
  intro p e s m args below meth c s₁ B hml hv
  obtain ⟨rfl, hX, hW⟩ := hv
  have hx := B.exec
  have hb := B.bytes
  have hr := B.returns
  have hts := atoms_spec (ws := wsX5_canNow) B.pre
  have hown : s.vm.findClass RX5 = some m.cls := findClass_of_methodNamed B.named
  have hlocks := B.notSynchronized
  have hS : va_S (xA G) s.heap s.heap [] := va_S.rf
  have hiX5 : ∀ w ∈ u_ws RX5 TX5 20, w ∈ wsX5_canNow := by decide +kernel
  have hf46 := hts (Cond.fieldLink RX5 46 "VariantMillModel" "state" "[I") (by decide +kernel)
  have hf37 := hts (Cond.fieldLink RX5 37 "VariantMillModel" "plays" "[I") (by decide +kernel)
  have hf22 := hts (Cond.fieldLink RX5 22 "VariantMillModel" "holes" "[I") (by decide +kernel)
  have hf34 := hts (Cond.fieldLink RX5 34 "VariantMillModel" "variant" "[I") (by decide +kernel)
  have hl := lv_entry ([.ref o, .int (nI g), .int a1, .int a2]) (n := 5) (Nat.le_of_ble_eq_true rfl)
  rw [lg_entry_eq]
  generalize (lg_sl ([.ref o, .int (nI g), .int a1, .int a2]) ++ List.replicate (5 - (lg_sl ([.ref o, .int (nI g), .int a1, .int a2])).length) Slot.unset).toArray = ls at hl ⊢
  have hl : lv_has ls 5 [(0, .ref o), (1, .int (nI g)), (2, .int a1), (3, .int a2)] := hl
  refine lv_aload_n hx hb dX5_canNow_0 rfl (lv_at hl 0 rfl) ?_
  refine lv_iload_n hx hb dX5_canNow_1 rfl (lv_at hl 1 rfl) ?_
  refine lv_iconst (v := 1) hx hb dX5_canNow_2 (by decide) ?_
  refine x_callSe (va_runV (As := [.int (nI g), .int 1]) (rest := []) ⟨hx, hb, hml, hown, hts⟩ (kX5_piecesOf l G _ (σ) d v o g true A hM hG) (cwV 2 hts gX5_canNow_X5_piecesOf rfl rfl rfl (by decide +kernel) ⟨Nat.le_of_ble_eq_true rfl, Nat.le_of_ble_eq_true rfl⟩) (x_preV hX hS hW hM.1 rfl) rfl rfl hl.1 rfl (lv_room (Nat.le_of_ble_eq_true rfl)) dX5_canNow_3 ⟨Nat.le_of_ble_eq_true rfl, Nat.le_of_ble_eq_true rfl⟩) ?_
  refine lv_istore (lv' := [(4, .int (fX5_piecesOf (σ) d v g true)), (0, .ref o), (1, .int (nI g)), (2, .int a1), (3, .int a2)]) hx hb dX5_canNow_6 hl (by decide) rfl (fun ls hl => ?_)
  refine lv_aload_n hx hb dX5_canNow_8 rfl (lv_at hl 1 rfl) ?_
  refine va_get (D := G.1) (ci := 5) (v := .ref (A 15)) (C := RX5) (T := TX5) (N := 20) hx hb hts hiX5 hown hX.1 (x1 hW hM.1) 0 rfl rfl 15 (by decide) hf46 (fun _ h9 => h9) rfl dX5_canNow_9 ?_
  refine lv_iload_n hx hb dX5_canNow_12 rfl (lv_at hl 2 rfl) ?_
  refine x_ild (k := g) hx hb hX.1 hW hM.2.2.2.2.2.2.2.2.2.2.2.2.2.1 (vp_in_nI hG.1 (by omega)) (nI_clamp (by have := hG.1; omega)) dX5_canNow_13 ?_
  refine lv_if_ne (tgt := 74) hx hb dX5_canNow_14 (by decide) (fun c_1 => ?_) (fun c_1 => ?_)
  · refine lv_iconst (v := 0) hx hb dX5_canNow_74 (by decide) ?_
    exact W.zret (v := 0) hx hb hr rfl (fun t ht hw => ⟨_, rfl, (congrArg zI (show false = fX5_canNow σ d v g a1 a2 from by unfold fX5_canNow; rw [if_neg c_1])), ht⟩) (fun _ h => nomatch h) dX5_canNow_75
  · refine lv_iload hx hb dX5_canNow_17 (lv_at hl 0 rfl) ?_
    refine lv_iload_n hx hb dX5_canNow_19 rfl (lv_at hl 3 rfl) ?_
    refine lv_ishr hx hb dX5_canNow_20 ?_
    refine lv_iconst (v := 1) hx hb dX5_canNow_21 (by decide) ?_
    refine lv_iand hx hb dX5_canNow_22 ?_
    refine lv_iconst (v := 1) hx hb dX5_canNow_23 (by decide) ?_
    refine lv_icmp_ne (tgt := 74) hx hb dX5_canNow_24 (by decide) (fun c_2 => ?_) (fun c_2 => ?_)
    · refine lv_iconst (v := 0) hx hb dX5_canNow_74 (by decide) ?_
      exact W.zret (v := 0) hx hb hr rfl (fun t ht hw => ⟨_, rfl, (congrArg zI (show false = fX5_canNow σ d v g a1 a2 from by unfold fX5_canNow; rw [if_pos c_1, if_neg c_2])), ht⟩) (fun _ h => nomatch h) dX5_canNow_75
    · refine lv_aload_n hx hb dX5_canNow_27 rfl (lv_at hl 1 rfl) ?_
      refine lv_aload_n hx hb dX5_canNow_28 rfl (lv_at hl 1 rfl) ?_
      refine va_get (D := G.1) (ci := 5) (v := .ref (A 12)) (C := RX5) (T := TX5) (N := 20) hx hb hts hiX5 hown hX.1 (x1 hW hM.1) 0 rfl rfl 12 (by decide) hf37 (fun _ h9 => h9) rfl dX5_canNow_29 ?_
      refine lv_iload_n hx hb dX5_canNow_32 rfl (lv_at hl 2 rfl) ?_
      refine x_ild (k := g) hx hb hX.1 hW hM.2.2.2.2.2.2.2.2.2.2.1 (vp_in_nI hG.1 (by omega)) (nI_clamp (by have := hG.1; omega)) dX5_canNow_33 ?_
      refine lv_aload_n hx hb dX5_canNow_34 rfl (lv_at hl 1 rfl) ?_
      refine va_get (D := G.1) (ci := 5) (v := .ref (A 6)) (C := RX5) (T := TX5) (N := 20) hx hb hts hiX5 hown hX.1 (x1 hW hM.1) 0 rfl rfl 6 (by decide) hf22 (fun _ h9 => h9) rfl dX5_canNow_35 ?_
      refine lv_aload_n hx hb dX5_canNow_38 rfl (lv_at hl 1 rfl) ?_
      refine va_get (D := G.1) (ci := 5) (v := .ref (A 11)) (C := RX5) (T := TX5) (N := 20) hx hb hts hiX5 hown hX.1 (x1 hW hM.1) 0 rfl rfl 11 (by decide) hf34 (fun _ h9 => h9) rfl dX5_canNow_39 ?_
      refine lv_iload_n hx hb dX5_canNow_42 rfl (lv_at hl 2 rfl) ?_
      refine x_ild (k := g) hx hb hX.1 hW hM.2.2.2.2.2.2.2.2.2.1 (vp_in_nI hG.1 (by omega)) (nI_clamp (by have := hG.1; omega)) dX5_canNow_43 ?_
      refine x_ild (k := v) hx hb hX.1 hW hM.2.2.2.2.2.1 (by rw [hG.2.2.2.1]; exact vp_in_nI hG.2.2.2.2 (by omega)) (by rw [hG.2.2.2.1]; exact nI_clamp (by have := hG.2.2.2.2; omega)) dX5_canNow_44 ?_
      refine lv_iload hx hb dX5_canNow_45 (lv_at hl 0 rfl) ?_
      refine lv_aload_n hx hb dX5_canNow_47 rfl (lv_at hl 1 rfl) ?_
      refine lv_iload_n hx hb dX5_canNow_48 rfl (lv_at hl 2 rfl) ?_
      refine lv_iconst (v := 0) hx hb dX5_canNow_49 (by decide) ?_
      refine x_callSe (va_runV (As := [.int (nI g), .int 0]) (rest := [.int (fX5_piecesOf (σ) d v g true), .int (σ 6 v), .int (σ 12 g), .ref o]) ⟨hx, hb, hml, hown, hts⟩ (kX5_piecesOf l G _ (σ) d v o g false A hM hG) (cwV 2 hts gX5_canNow_X5_piecesOf rfl rfl rfl (by decide +kernel) ⟨Nat.le_of_ble_eq_true rfl, Nat.le_of_ble_eq_true rfl⟩) (x_preV hX hS hW hM.1 rfl) rfl rfl hl.1 rfl (lv_room (Nat.le_of_ble_eq_true rfl)) dX5_canNow_50 ⟨Nat.le_of_ble_eq_true rfl, Nat.le_of_ble_eq_true rfl⟩) ?_
      refine lv_aload_n hx hb dX5_canNow_53 rfl (lv_at hl 1 rfl) ?_
      refine lv_iload_n hx hb dX5_canNow_54 rfl (lv_at hl 2 rfl) ?_
      refine x_callSe (va_runV (As := [.int (nI g)]) (rest := [.int (fX5_piecesOf (σ) d v g false), .int (fX5_piecesOf (σ) d v g true), .int (σ 6 v), .int (σ 12 g), .ref o]) ⟨hx, hb, hml, hown, hts⟩ (kX5_isSecondsTurn l G _ (σ) d v o g A hM hG) (cwV 1 hts gX5_canNow_X5_isSecondsTurn rfl rfl rfl (by decide +kernel) ⟨Nat.le_of_ble_eq_true rfl, Nat.le_of_ble_eq_true rfl⟩) (x_preV hX hS hW hM.1 rfl) rfl rfl hl.1 rfl (lv_room (Nat.le_of_ble_eq_true rfl)) dX5_canNow_55 ⟨Nat.le_of_ble_eq_true rfl, Nat.le_of_ble_eq_true rfl⟩) ?_
      refine lv_iload_n hx hb dX5_canNow_58 rfl (lv_at hl 3 rfl) ?_
      refine x_callSe (va_runV (As := [.int (σ 12 g), .int (σ 6 v), .int (fX5_piecesOf (σ) d v g true), .int (fX5_piecesOf (σ) d v g false), .int (zI (fX5_isSecondsTurn (σ) d v g)), .int a1]) (rest := []) ⟨hx, hb, hml, hown, hts⟩ (kX5_goes l G _ (σ) o (σ 12 g) (σ 6 v) (fX5_piecesOf (σ) d v g true) (fX5_piecesOf (σ) d v g false) (fX5_isSecondsTurn (σ) d v g) a1 A hM nC hC) (cwV 6 hts gX5_canNow_X5_goes rfl rfl rfl (by decide +kernel) ⟨Nat.le_of_ble_eq_true rfl, Nat.le_of_ble_eq_true rfl⟩) (x_preV hX hS hW hM.1 rfl) rfl rfl hl.1 rfl (lv_room (Nat.le_of_ble_eq_true rfl)) dX5_canNow_59 ⟨Nat.le_of_ble_eq_true rfl, Nat.le_of_ble_eq_true rfl⟩) ?_
      refine lv_iload_n hx hb dX5_canNow_62 rfl (lv_at hl 4 rfl) ?_
      refine lv_ishr hx hb dX5_canNow_63 ?_
      refine lv_iconst (v := 1) hx hb dX5_canNow_64 (by decide) ?_
      refine lv_iand hx hb dX5_canNow_65 ?_
      refine lv_iconst (v := 1) hx hb dX5_canNow_66 (by decide) ?_
      refine lv_icmp_ne (tgt := 74) hx hb dX5_canNow_67 (by decide) (fun c_3 => ?_) (fun c_3 => ?_)
      · refine lv_iconst (v := 0) hx hb dX5_canNow_74 (by decide) ?_
        exact W.zret (v := 0) hx hb hr rfl (fun t ht hw => ⟨_, rfl, (congrArg zI (show false = fX5_canNow σ d v g a1 a2 from by unfold fX5_canNow; rw [if_pos c_1, if_pos c_2, if_neg c_3])), ht⟩) (fun _ h => nomatch h) dX5_canNow_75
      · refine lv_iconst (v := 1) hx hb dX5_canNow_70 (by decide) ?_
        refine lv_goto (tgt := 75) hx hb dX5_canNow_71 (by decide) ?_
        exact W.zret (v := 1) hx hb hr rfl (fun t ht hw => ⟨_, rfl, (congrArg zI (show true = fX5_canNow σ d v g a1 a2 from by unfold fX5_canNow; rw [if_pos c_1, if_pos c_2, if_pos c_3])), ht⟩) (fun _ h => nomatch h) dX5_canNow_75

def fX5_standing (σ : xSg) (d : Nat) (v : Nat) (g : Nat) (a1 : Int32) (a2 : Int32) (a3 : Bool) : Int32 := if (fX5_moves (σ) (σ 12 g) (σ 6 v) a1 a2 a3) = true then ((fX5_size a1) - (fX5_size a2)) else (-100)
set_option maxHeartbeats 4000000 in
set_option maxRecDepth 100000 in
theorem kX5_standing (l : Launch) (G : xG) (E : xE) (σ : xSg) (d : Nat) (v : Nat) (o : Nat) (g : Nat) (a1 : Int32) (a2 : Int32) (a3 : Bool) (A : Nat → Nat) (hM : xMod G E o A σ) (hG : xGm σ g d v) (nC : Nat) (hC : xCd σ nC) : Met l yX5_standing wsX5_standing ({ frames := 4, cells := 0, slots := 0, locals := 111 }) (va_Pc [.ref o, .int (nI g), .int a1, .int a2, .int (zI a3)] (xB G E)) (vp_Si (fun r => r = fX5_standing σ d v g a1 a2 a3)) 0 0 (fun _ => False) := by
  refine Met.ofW (cc := cX5_standing) (maxL := 5) (ret := (some .int)) (by decide) rfl ?_
  intro p e s m args below meth c s₁ B hml hv
  obtain ⟨rfl, hX, hW⟩ := hv
  have hx := B.exec
  have hb := B.bytes
  have hr := B.returns
  have hts := atoms_spec (ws := wsX5_standing) B.pre
  have hown : s.vm.findClass RX5 = some m.cls := findClass_of_methodNamed B.named
  have hlocks := B.notSynchronized
  have hS : va_S (xA G) s.heap s.heap [] := va_S.rf
  have hiX5 : ∀ w ∈ u_ws RX5 TX5 20, w ∈ wsX5_standing := by decide +kernel
  have hf37 := hts (Cond.fieldLink RX5 37 "VariantMillModel" "plays" "[I") (by decide +kernel)
  have hf22 := hts (Cond.fieldLink RX5 22 "VariantMillModel" "holes" "[I") (by decide +kernel)
  have hf34 := hts (Cond.fieldLink RX5 34 "VariantMillModel" "variant" "[I") (by decide +kernel)
  have hl := lv_entry ([.ref o, .int (nI g), .int a1, .int a2, .int (zI a3)]) (n := 5) (Nat.le_of_ble_eq_true rfl)
  rw [lg_entry_eq]
  generalize (lg_sl ([.ref o, .int (nI g), .int a1, .int a2, .int (zI a3)]) ++ List.replicate (5 - (lg_sl ([.ref o, .int (nI g), .int a1, .int a2, .int (zI a3)])).length) Slot.unset).toArray = ls at hl ⊢
  have hl : lv_has ls 5 [(0, .ref o), (1, .int (nI g)), (2, .int a1), (3, .int a2), (4, .int (zI a3))] := hl
  refine lv_aload_n hx hb dX5_standing_0 rfl (lv_at hl 0 rfl) ?_
  refine lv_aload_n hx hb dX5_standing_1 rfl (lv_at hl 0 rfl) ?_
  refine va_get (D := G.1) (ci := 5) (v := .ref (A 12)) (C := RX5) (T := TX5) (N := 20) hx hb hts hiX5 hown hX.1 (x1 hW hM.1) 0 rfl rfl 12 (by decide) hf37 (fun _ h9 => h9) rfl dX5_standing_2 ?_
  refine lv_iload_n hx hb dX5_standing_5 rfl (lv_at hl 1 rfl) ?_
  refine x_ild (k := g) hx hb hX.1 hW hM.2.2.2.2.2.2.2.2.2.2.1 (vp_in_nI hG.1 (by omega)) (nI_clamp (by have := hG.1; omega)) dX5_standing_6 ?_
  refine lv_aload_n hx hb dX5_standing_7 rfl (lv_at hl 0 rfl) ?_
  refine va_get (D := G.1) (ci := 5) (v := .ref (A 6)) (C := RX5) (T := TX5) (N := 20) hx hb hts hiX5 hown hX.1 (x1 hW hM.1) 0 rfl rfl 6 (by decide) hf22 (fun _ h9 => h9) rfl dX5_standing_8 ?_
  refine lv_aload_n hx hb dX5_standing_11 rfl (lv_at hl 0 rfl) ?_
  refine va_get (D := G.1) (ci := 5) (v := .ref (A 11)) (C := RX5) (T := TX5) (N := 20) hx hb hts hiX5 hown hX.1 (x1 hW hM.1) 0 rfl rfl 11 (by decide) hf34 (fun _ h9 => h9) rfl dX5_standing_12 ?_
  refine lv_iload_n hx hb dX5_standing_15 rfl (lv_at hl 1 rfl) ?_
  refine x_ild (k := g) hx hb hX.1 hW hM.2.2.2.2.2.2.2.2.2.1 (vp_in_nI hG.1 (by omega)) (nI_clamp (by have := hG.1; omega)) dX5_standing_16 ?_
  refine x_ild (k := v) hx hb hX.1 hW hM.2.2.2.2.2.1 (by rw [hG.2.2.2.1]; exact vp_in_nI hG.2.2.2.2 (by omega)) (by rw [hG.2.2.2.1]; exact nI_clamp (by have := hG.2.2.2.2; omega)) dX5_standing_17 ?_
  refine lv_iload_n hx hb dX5_standing_18 rfl (lv_at hl 2 rfl) ?_
  refine lv_iload_n hx hb dX5_standing_19 rfl (lv_at hl 3 rfl) ?_
  refine lv_iload hx hb dX5_standing_20 (lv_at hl 4 rfl) ?_
  refine x_callSe (va_runV (As := [.int (σ 12 g), .int (σ 6 v), .int a1, .int a2, .int (zI a3)]) (rest := []) ⟨hx, hb, hml, hown, hts⟩ (kX5_moves l G _ (σ) o (σ 12 g) (σ 6 v) a1 a2 a3 A hM nC hC) (cwV 5 hts gX5_standing_X5_moves rfl rfl rfl (by decide +kernel) ⟨Nat.le_of_ble_eq_true rfl, Nat.le_of_ble_eq_true rfl⟩) (x_preV hX hS hW hM.1 rfl) rfl rfl hl.1 rfl (lv_room (Nat.le_of_ble_eq_true rfl)) dX5_standing_22 ⟨Nat.le_of_ble_eq_true rfl, Nat.le_of_ble_eq_true rfl⟩) ?_
  refine x_ifz_eq (b := fX5_moves (σ) (σ 12 g) (σ 6 v) a1 a2 a3) (tgt := 40) hx hb dX5_standing_25 (by decide) (fun c_1 => ?_) (fun c_1 => ?_)
  · refine lv_bipush (v := (-100)) hx hb dX5_standing_40 (by decide) ?_
    exact W.iret (v := (-100)) hx hb hr (fun t ht hw => ⟨_, rfl, (show ((-100) : Int32) = fX5_standing σ d v g a1 a2 a3 from by unfold fX5_standing; rw [if_neg (Bool.eq_false_iff.mp c_1)]), ht⟩) (fun _ h => nomatch h) dX5_standing_42
  · refine lv_iload_n hx hb dX5_standing_28 rfl (lv_at hl 2 rfl) ?_
    refine x_callSe (va_runS (As := [.int a1]) (rest := []) ⟨hx, hb, hml, hown, hts⟩ (kX5_size l a1) (va_cwS 1 hts gX5_standing_X5_size rfl rfl rfl (by decide +kernel) ⟨Nat.le_of_ble_eq_true rfl, Nat.le_of_ble_eq_true rfl⟩) x_preT rfl rfl hl.1 rfl (lv_room (Nat.le_of_ble_eq_true rfl)) dX5_standing_29 ⟨Nat.le_of_ble_eq_true rfl, Nat.le_of_ble_eq_true rfl⟩) ?_
    refine lv_iload_n hx hb dX5_standing_32 rfl (lv_at hl 3 rfl) ?_
    refine x_callSe (va_runS (As := [.int a2]) (rest := [.int (fX5_size a1)]) ⟨hx, hb, hml, hown, hts⟩ (kX5_size l a2) (va_cwS 1 hts gX5_standing_X5_size rfl rfl rfl (by decide +kernel) ⟨Nat.le_of_ble_eq_true rfl, Nat.le_of_ble_eq_true rfl⟩) x_preT rfl rfl hl.1 rfl (lv_room (Nat.le_of_ble_eq_true rfl)) dX5_standing_33 ⟨Nat.le_of_ble_eq_true rfl, Nat.le_of_ble_eq_true rfl⟩) ?_
    refine lv_isub hx hb dX5_standing_36 ?_
    refine lv_goto (tgt := 42) hx hb dX5_standing_37 (by decide) ?_
    exact W.iret (v := (fX5_size a1) - (fX5_size a2)) hx hb hr (fun t ht hw => ⟨_, rfl, (show ((fX5_size a1) - (fX5_size a2) : Int32) = fX5_standing σ d v g a1 a2 a3 from by unfold fX5_standing; rw [if_pos c_1]), ht⟩) (fun _ h => nomatch h) dX5_standing_42

def g2X5_onward (σ : xSg) (d : Nat) (v : Nat) (g : Nat) (a1 : Int32) (a2 : Int32) (a3 : Bool) (k : Nat) (cont : Int32 → Int32) : Nat → Nat → Int32 → Int32
  | 0, _, _ => 0
  | n2 + 1, k2, v5 => if 25 ≤ (nI k2) then (cont v5) else (if (((if ((a1 >>> ((nI k) &&& 31)) &&& 1) = 1 then ((fX5_goes (σ) (σ 12 g) (σ 6 v) a1 a2 a3 (nI k))) else ((0 : Int32))) >>> ((nI k2) &&& 31)) &&& 1) = 1 then (g2X5_onward σ d v g a1 a2 a3 k cont n2 (k2 + 1) (if (-(fX5_standing (σ) d v g (a2 &&& (((1 : Int32) <<< ((nI k2) &&& 31)) ^^^ (-1))) ((a1 &&& (((1 : Int32) <<< ((nI k) &&& 31)) ^^^ (-1))) ||| ((1 : Int32) <<< ((nI k2) &&& 31))) (if a3 = true then (false) else (true)))) ≤ v5 then (v5) else ((-(fX5_standing (σ) d v g (a2 &&& (((1 : Int32) <<< ((nI k2) &&& 31)) ^^^ (-1))) ((a1 &&& (((1 : Int32) <<< ((nI k) &&& 31)) ^^^ (-1))) ||| ((1 : Int32) <<< ((nI k2) &&& 31))) (if a3 = true then (false) else (true))))))) else (g2X5_onward σ d v g a1 a2 a3 k cont n2 (k2 + 1) v5))
def gX5_onward (σ : xSg) (d : Nat) (v : Nat) (g : Nat) (a1 : Int32) (a2 : Int32) (a3 : Bool) : Nat → Nat → Int32 → Int32
  | 0, _, _ => 0
  | n + 1, k, v5 => if 25 ≤ (nI k) then v5 else (g2X5_onward σ d v g a1 a2 a3 k (fun v5 => gX5_onward σ d v g a1 a2 a3 n (k + 1) v5) 26 0 v5)
def fX5_onward (σ : xSg) (d : Nat) (v : Nat) (g : Nat) (a1 : Int32) (a2 : Int32) (a3 : Bool) : Int32 := gX5_onward σ d v g a1 a2 a3 26 0 (-100)
set_option maxHeartbeats 4000000 in
set_option maxRecDepth 100000 in
theorem kX5_onward (l : Launch) (G : xG) (E : xE) (σ : xSg) (d : Nat) (v : Nat) (o : Nat) (g : Nat) (a1 : Int32) (a2 : Int32) (a3 : Bool) (A : Nat → Nat) (hM : xMod G E o A σ) (hG : xGm σ g d v) (nC : Nat) (hC : xCd σ nC) : Met l yX5_onward wsX5_onward ({ frames := 5, cells := 0, slots := 0, locals := 135 }) (va_Pc [.ref o, .int (nI g), .int a1, .int a2, .int (zI a3)] (xB G E)) (vp_Si (fun r => r = fX5_onward σ d v g a1 a2 a3)) 0 0 (fun _ => False) := by
  refine Met.ofW (cc := cX5_onward) (maxL := 10) (ret := (some .int)) (by decide) rfl ?_
  intro p e s m args below meth c s₁ B hml hv
  obtain ⟨rfl, hX, hW⟩ := hv
  have hx := B.exec
  have hb := B.bytes
  have hr := B.returns
  have hts := atoms_spec (ws := wsX5_onward) B.pre
  have hown : s.vm.findClass RX5 = some m.cls := findClass_of_methodNamed B.named
  have hlocks := B.notSynchronized
  have hS : va_S (xA G) s.heap s.heap [] := va_S.rf
  have hiX5 : ∀ w ∈ u_ws RX5 TX5 20, w ∈ wsX5_onward := by decide +kernel
  have hf37 := hts (Cond.fieldLink RX5 37 "VariantMillModel" "plays" "[I") (by decide +kernel)
  have hf22 := hts (Cond.fieldLink RX5 22 "VariantMillModel" "holes" "[I") (by decide +kernel)
  have hf34 := hts (Cond.fieldLink RX5 34 "VariantMillModel" "variant" "[I") (by decide +kernel)
  have hl := lv_entry ([.ref o, .int (nI g), .int a1, .int a2, .int (zI a3)]) (n := 10) (Nat.le_of_ble_eq_true rfl)
  rw [lg_entry_eq]
  generalize (lg_sl ([.ref o, .int (nI g), .int a1, .int a2, .int (zI a3)]) ++ List.replicate (10 - (lg_sl ([.ref o, .int (nI g), .int a1, .int a2, .int (zI a3)])).length) Slot.unset).toArray = ls at hl ⊢
  have hl : lv_has ls 10 [(0, .ref o), (1, .int (nI g)), (2, .int a1), (3, .int a2), (4, .int (zI a3))] := hl
  refine x_loopK (σ := Nat × Nat × Int32) 7 10 (fun x => [(0, .ref o), (1, .int (nI g)), (2, .int a1), (3, .int a2), (4, .int (zI a3)), (6, .int (nI x.2.1)), (5, .int x.2.2)]) (fun x => fX5_onward σ d v g a1 a2 a3 = gX5_onward σ d v g a1 a2 a3 x.1 x.2.1 x.2.2 ∧ x.2.1 ≤ 25 ∧ x.1 + x.2.1 = 25 + 1) (fun x => x.1) ?_ (fun LP => ?_)
  · rintro ⟨n, k, v5⟩ ls ⟨hv, hk, hn⟩ hl ih
    dsimp only at hv hk hn
    rcases n with _ | n
    · omega
    · have hl : lv_has ls 10 [(0, .ref o), (1, .int (nI g)), (2, .int a1), (3, .int a2), (4, .int (zI a3)), (6, .int (nI k)), (5, .int v5)] := hl
      refine lv_iload hx hb dX5_onward_7 (lv_at hl 5 rfl) ?_
      refine lv_bipush (v := 25) hx hb dX5_onward_9 (by decide) ?_
      refine lv_icmp_ge (tgt := 145) hx hb dX5_onward_11 (by decide) (fun c_1 => ?_) (fun c_1 => ?_)
      · refine lv_iload hx hb dX5_onward_145 (lv_at hl 6 rfl) ?_
        exact W.iret (v := v5) hx hb hr (fun t ht hw => ⟨_, rfl, (show (v5 : Int32) = fX5_onward σ d v g a1 a2 a3 from by rw [hv, gX5_onward]; rw [if_pos c_1]), ht⟩) (fun _ h => nomatch h) dX5_onward_147
      · have hk1 : k < 25 := x_nge (B := 25) c_1 (by omega)
        refine lv_iload_n hx hb dX5_onward_14 rfl (lv_at hl 2 rfl) ?_
        refine lv_iload hx hb dX5_onward_15 (lv_at hl 5 rfl) ?_
        refine lv_ishr hx hb dX5_onward_17 ?_
        refine lv_iconst (v := 1) hx hb dX5_onward_18 (by decide) ?_
        refine lv_iand hx hb dX5_onward_19 ?_
        refine lv_iconst (v := 1) hx hb dX5_onward_20 (by decide) ?_
        refine x_join (ls' := ls) (rest' := []) 55 ((if ((a1 >>> ((nI k) &&& 31)) &&& 1) = 1 then ((fX5_goes (σ) (σ 12 g) (σ 6 v) a1 a2 a3 (nI k))) else ((0 : Int32)))) (fun v ev => ?_) (fun J => ?_)
        · subst ev
          refine lv_istore (lv' := [(7, .int (if ((a1 >>> ((nI k) &&& 31)) &&& 1) = 1 then ((fX5_goes (σ) (σ 12 g) (σ 6 v) a1 a2 a3 (nI k))) else ((0 : Int32)))), (0, .ref o), (1, .int (nI g)), (2, .int a1), (3, .int a2), (4, .int (zI a3)), (6, .int (nI k)), (5, .int v5)]) hx hb dX5_onward_55 hl (by decide) rfl (fun ls hl => ?_)
          refine lv_iconst (v := 0) hx hb dX5_onward_57 (by decide) ?_
          refine lv_istore (lv' := [(8, .int 0), (7, .int (if ((a1 >>> ((nI k) &&& 31)) &&& 1) = 1 then ((fX5_goes (σ) (σ 12 g) (σ 6 v) a1 a2 a3 (nI k))) else ((0 : Int32)))), (0, .ref o), (1, .int (nI g)), (2, .int a1), (3, .int a2), (4, .int (zI a3)), (6, .int (nI k)), (5, .int v5)]) hx hb dX5_onward_58 hl (by decide) rfl (fun ls hl => ?_)
          refine x_loop (σ := Nat × Nat × Int32) 60 10 (fun x => [(7, .int (if ((a1 >>> ((nI k) &&& 31)) &&& 1) = 1 then ((fX5_goes (σ) (σ 12 g) (σ 6 v) a1 a2 a3 (nI k))) else ((0 : Int32)))), (0, .ref o), (1, .int (nI g)), (2, .int a1), (3, .int a2), (4, .int (zI a3)), (6, .int (nI k)), (8, .int (nI x.2.1)), (5, .int x.2.2)]) (fun x => fX5_onward σ d v g a1 a2 a3 = g2X5_onward σ d v g a1 a2 a3 k (fun v5 => gX5_onward σ d v g a1 a2 a3 n (k + 1) v5) x.1 x.2.1 x.2.2 ∧ x.2.1 ≤ 25 ∧ x.1 + x.2.1 = 25 + 1) (fun x => x.1) ?_ (26, 0, v5) ls ⟨by rw [hv, gX5_onward]; rw [if_neg c_1], by dsimp only <;> omega, by dsimp only <;> omega⟩ (lv_sub hl [1, 2, 3, 4, 5, 6, 7, 0, 8] rfl)
          rintro ⟨n2, k2, v5⟩ ls ⟨hv2, hk2, hn2⟩ hl ih2
          dsimp only at hv2 hk2 hn2
          rcases n2 with _ | n2
          · omega
          · have hl : lv_has ls 10 [(7, .int (if ((a1 >>> ((nI k) &&& 31)) &&& 1) = 1 then ((fX5_goes (σ) (σ 12 g) (σ 6 v) a1 a2 a3 (nI k))) else ((0 : Int32)))), (0, .ref o), (1, .int (nI g)), (2, .int a1), (3, .int a2), (4, .int (zI a3)), (6, .int (nI k)), (8, .int (nI k2)), (5, .int v5)] := hl
            refine lv_iload hx hb dX5_onward_60 (lv_at hl 7 rfl) ?_
            refine lv_bipush (v := 25) hx hb dX5_onward_62 (by decide) ?_
            refine lv_icmp_ge (tgt := 139) hx hb dX5_onward_64 (by decide) (fun c_3 => ?_) (fun c_3 => ?_)
            · refine lv_iinc (v := nI (k + 1)) (lv' := [(6, .int (nI (k + 1))), (7, .int (if ((a1 >>> ((nI k) &&& 31)) &&& 1) = 1 then ((fX5_goes (σ) (σ 12 g) (σ 6 v) a1 a2 a3 (nI k))) else ((0 : Int32)))), (0, .ref o), (1, .int (nI g)), (2, .int a1), (3, .int a2), (4, .int (zI a3)), (8, .int (nI k2)), (5, .int v5)]) hx hb dX5_onward_139 hl (k := 6) rfl (nI_1 _) (by decide) rfl (fun ls hl => ?_)
              refine lv_goto (tgt := 7) hx hb dX5_onward_142 (by decide) ?_
              exact ih (n, k + 1, v5) ls (Nat.lt_succ_self _) ⟨by rw [hv2, g2X5_onward]; rw [if_pos c_3], hk1, by dsimp only <;> omega⟩ (lv_sub hl [2, 3, 4, 5, 6, 0, 8] rfl)
            · have hk12 : k2 < 25 := x_nge (B := 25) c_3 (by omega)
              refine lv_iload hx hb dX5_onward_67 (lv_at hl 0 rfl) ?_
              refine lv_iload hx hb dX5_onward_69 (lv_at hl 7 rfl) ?_
              refine lv_ishr hx hb dX5_onward_71 ?_
              refine lv_iconst (v := 1) hx hb dX5_onward_72 (by decide) ?_
              refine lv_iand hx hb dX5_onward_73 ?_
              refine lv_iconst (v := 1) hx hb dX5_onward_74 (by decide) ?_
              refine lv_icmp_ne (tgt := 133) hx hb dX5_onward_75 (by decide) (fun c_4 => ?_) (fun c_4 => ?_)
              · refine lv_iinc (v := nI (k2 + 1)) (lv' := [(8, .int (nI (k2 + 1))), (7, .int (if ((a1 >>> ((nI k) &&& 31)) &&& 1) = 1 then ((fX5_goes (σ) (σ 12 g) (σ 6 v) a1 a2 a3 (nI k))) else ((0 : Int32)))), (0, .ref o), (1, .int (nI g)), (2, .int a1), (3, .int a2), (4, .int (zI a3)), (6, .int (nI k)), (5, .int v5)]) hx hb dX5_onward_133 hl (k := 7) rfl (nI_1 _) (by decide) rfl (fun ls hl => ?_)
                refine lv_goto (tgt := 60) hx hb dX5_onward_136 (by decide) ?_
                exact ih2 (n2, k2 + 1, v5) ls (Nat.lt_succ_self _) ⟨by rw [hv2, g2X5_onward]; rw [if_neg c_3, if_neg c_4], hk12, by dsimp only <;> omega⟩ (lv_sub hl [1, 2, 3, 4, 5, 6, 7, 0, 8] rfl)
              · refine lv_aload_n hx hb dX5_onward_78 rfl (lv_at hl 1 rfl) ?_
                refine lv_iload_n hx hb dX5_onward_79 rfl (lv_at hl 2 rfl) ?_
                refine lv_iload_n hx hb dX5_onward_80 rfl (lv_at hl 4 rfl) ?_
                refine lv_iconst (v := 1) hx hb dX5_onward_81 (by decide) ?_
                refine lv_iload hx hb dX5_onward_82 (lv_at hl 7 rfl) ?_
                refine lv_ishl hx hb dX5_onward_84 ?_
                refine lv_iconst (v := (-1)) hx hb dX5_onward_85 (by decide) ?_
                refine lv_ixor hx hb dX5_onward_86 ?_
                refine lv_iand hx hb dX5_onward_87 ?_
                refine lv_iload_n hx hb dX5_onward_88 rfl (lv_at hl 3 rfl) ?_
                refine lv_iconst (v := 1) hx hb dX5_onward_89 (by decide) ?_
                refine lv_iload hx hb dX5_onward_90 (lv_at hl 6 rfl) ?_
                refine lv_ishl hx hb dX5_onward_92 ?_
                refine lv_iconst (v := (-1)) hx hb dX5_onward_93 (by decide) ?_
                refine lv_ixor hx hb dX5_onward_94 ?_
                refine lv_iand hx hb dX5_onward_95 ?_
                refine lv_iconst (v := 1) hx hb dX5_onward_96 (by decide) ?_
                refine lv_iload hx hb dX5_onward_97 (lv_at hl 7 rfl) ?_
                refine lv_ishl hx hb dX5_onward_99 ?_
                refine lv_ior hx hb dX5_onward_100 ?_
                refine lv_iload hx hb dX5_onward_101 (lv_at hl 5 rfl) ?_
                refine x_join (ls' := ls) (rest' := [.int ((a1 &&& (((1 : Int32) <<< ((nI k) &&& 31)) ^^^ (-1))) ||| ((1 : Int32) <<< ((nI k2) &&& 31))), .int (a2 &&& (((1 : Int32) <<< ((nI k2) &&& 31)) ^^^ (-1))), .int (nI g), .ref o]) 111 (zI (if a3 = true then (false) else (true))) (fun v ev => ?_) (fun J => ?_)
                · subst ev
                  refine x_callSe (va_runV (As := [.int (nI g), .int (a2 &&& (((1 : Int32) <<< ((nI k2) &&& 31)) ^^^ (-1))), .int ((a1 &&& (((1 : Int32) <<< ((nI k) &&& 31)) ^^^ (-1))) ||| ((1 : Int32) <<< ((nI k2) &&& 31))), .int (zI (if a3 = true then (false) else (true)))]) (rest := []) ⟨hx, hb, hml, hown, hts⟩ (kX5_standing l G _ (σ) d v o g (a2 &&& (((1 : Int32) <<< ((nI k2) &&& 31)) ^^^ (-1))) ((a1 &&& (((1 : Int32) <<< ((nI k) &&& 31)) ^^^ (-1))) ||| ((1 : Int32) <<< ((nI k2) &&& 31))) (if a3 = true then (false) else (true)) A hM hG nC hC) (cwV 4 hts gX5_onward_X5_standing rfl rfl rfl (by decide +kernel) ⟨Nat.le_of_ble_eq_true rfl, Nat.le_of_ble_eq_true rfl⟩) (x_preV hX hS hW hM.1 rfl) rfl rfl hl.1 rfl (lv_room (Nat.le_of_ble_eq_true rfl)) dX5_onward_111 ⟨Nat.le_of_ble_eq_true rfl, Nat.le_of_ble_eq_true rfl⟩) ?_
                  refine lv_ineg hx hb dX5_onward_114 ?_
                  refine lv_istore (lv' := [(9, .int (-(fX5_standing (σ) d v g (a2 &&& (((1 : Int32) <<< ((nI k2) &&& 31)) ^^^ (-1))) ((a1 &&& (((1 : Int32) <<< ((nI k) &&& 31)) ^^^ (-1))) ||| ((1 : Int32) <<< ((nI k2) &&& 31))) (if a3 = true then (false) else (true))))), (7, .int (if ((a1 >>> ((nI k) &&& 31)) &&& 1) = 1 then ((fX5_goes (σ) (σ 12 g) (σ 6 v) a1 a2 a3 (nI k))) else ((0 : Int32)))), (0, .ref o), (1, .int (nI g)), (2, .int a1), (3, .int a2), (4, .int (zI a3)), (6, .int (nI k)), (8, .int (nI k2)), (5, .int v5)]) hx hb dX5_onward_115 hl (by decide) rfl (fun ls hl => ?_)
                  refine lv_iload hx hb dX5_onward_117 (lv_at hl 0 rfl) ?_
                  refine lv_iload hx hb dX5_onward_119 (lv_at hl 9 rfl) ?_
                  refine x_join (ls' := ls) (rest' := []) 131 ((if (-(fX5_standing (σ) d v g (a2 &&& (((1 : Int32) <<< ((nI k2) &&& 31)) ^^^ (-1))) ((a1 &&& (((1 : Int32) <<< ((nI k) &&& 31)) ^^^ (-1))) ||| ((1 : Int32) <<< ((nI k2) &&& 31))) (if a3 = true then (false) else (true)))) ≤ v5 then (v5) else ((-(fX5_standing (σ) d v g (a2 &&& (((1 : Int32) <<< ((nI k2) &&& 31)) ^^^ (-1))) ((a1 &&& (((1 : Int32) <<< ((nI k) &&& 31)) ^^^ (-1))) ||| ((1 : Int32) <<< ((nI k2) &&& 31))) (if a3 = true then (false) else (true))))))) (fun v ev => ?_) (fun J => ?_)
                  · subst ev
                    refine lv_istore (lv' := [(5, .int (if (-(fX5_standing (σ) d v g (a2 &&& (((1 : Int32) <<< ((nI k2) &&& 31)) ^^^ (-1))) ((a1 &&& (((1 : Int32) <<< ((nI k) &&& 31)) ^^^ (-1))) ||| ((1 : Int32) <<< ((nI k2) &&& 31))) (if a3 = true then (false) else (true)))) ≤ v5 then (v5) else ((-(fX5_standing (σ) d v g (a2 &&& (((1 : Int32) <<< ((nI k2) &&& 31)) ^^^ (-1))) ((a1 &&& (((1 : Int32) <<< ((nI k) &&& 31)) ^^^ (-1))) ||| ((1 : Int32) <<< ((nI k2) &&& 31))) (if a3 = true then (false) else (true))))))), (9, .int (-(fX5_standing (σ) d v g (a2 &&& (((1 : Int32) <<< ((nI k2) &&& 31)) ^^^ (-1))) ((a1 &&& (((1 : Int32) <<< ((nI k) &&& 31)) ^^^ (-1))) ||| ((1 : Int32) <<< ((nI k2) &&& 31))) (if a3 = true then (false) else (true))))), (7, .int (if ((a1 >>> ((nI k) &&& 31)) &&& 1) = 1 then ((fX5_goes (σ) (σ 12 g) (σ 6 v) a1 a2 a3 (nI k))) else ((0 : Int32)))), (0, .ref o), (1, .int (nI g)), (2, .int a1), (3, .int a2), (4, .int (zI a3)), (6, .int (nI k)), (8, .int (nI k2))]) hx hb dX5_onward_131 hl (by decide) rfl (fun ls hl => ?_)
                    refine lv_iinc (v := nI (k2 + 1)) (lv' := [(8, .int (nI (k2 + 1))), (5, .int (if (-(fX5_standing (σ) d v g (a2 &&& (((1 : Int32) <<< ((nI k2) &&& 31)) ^^^ (-1))) ((a1 &&& (((1 : Int32) <<< ((nI k) &&& 31)) ^^^ (-1))) ||| ((1 : Int32) <<< ((nI k2) &&& 31))) (if a3 = true then (false) else (true)))) ≤ v5 then (v5) else ((-(fX5_standing (σ) d v g (a2 &&& (((1 : Int32) <<< ((nI k2) &&& 31)) ^^^ (-1))) ((a1 &&& (((1 : Int32) <<< ((nI k) &&& 31)) ^^^ (-1))) ||| ((1 : Int32) <<< ((nI k2) &&& 31))) (if a3 = true then (false) else (true))))))), (9, .int (-(fX5_standing (σ) d v g (a2 &&& (((1 : Int32) <<< ((nI k2) &&& 31)) ^^^ (-1))) ((a1 &&& (((1 : Int32) <<< ((nI k) &&& 31)) ^^^ (-1))) ||| ((1 : Int32) <<< ((nI k2) &&& 31))) (if a3 = true then (false) else (true))))), (7, .int (if ((a1 >>> ((nI k) &&& 31)) &&& 1) = 1 then ((fX5_goes (σ) (σ 12 g) (σ 6 v) a1 a2 a3 (nI k))) else ((0 : Int32)))), (0, .ref o), (1, .int (nI g)), (2, .int a1), (3, .int a2), (4, .int (zI a3)), (6, .int (nI k))]) hx hb dX5_onward_133 hl (k := 9) rfl (nI_1 _) (by decide) rfl (fun ls hl => ?_)
                    refine lv_goto (tgt := 60) hx hb dX5_onward_136 (by decide) ?_
                    exact ih2 (n2, k2 + 1, (if (-(fX5_standing (σ) d v g (a2 &&& (((1 : Int32) <<< ((nI k2) &&& 31)) ^^^ (-1))) ((a1 &&& (((1 : Int32) <<< ((nI k) &&& 31)) ^^^ (-1))) ||| ((1 : Int32) <<< ((nI k2) &&& 31))) (if a3 = true then (false) else (true)))) ≤ v5 then (v5) else ((-(fX5_standing (σ) d v g (a2 &&& (((1 : Int32) <<< ((nI k2) &&& 31)) ^^^ (-1))) ((a1 &&& (((1 : Int32) <<< ((nI k) &&& 31)) ^^^ (-1))) ||| ((1 : Int32) <<< ((nI k2) &&& 31))) (if a3 = true then (false) else (true))))))) ls (Nat.lt_succ_self _) ⟨by rw [hv2, g2X5_onward]; rw [if_neg c_3, if_pos c_4], hk12, by dsimp only <;> omega⟩ (lv_sub hl [3, 4, 5, 6, 7, 8, 9, 0, 1] rfl)
                  · refine lv_icmp_le (tgt := 129) hx hb dX5_onward_121 (by decide) (fun c_6 => ?_) (fun c_6 => ?_)
                    · refine lv_iload hx hb dX5_onward_129 (lv_at hl 9 rfl) ?_
                      exact J _ (show (v5 : Int32) = if (-(fX5_standing (σ) d v g (a2 &&& (((1 : Int32) <<< ((nI k2) &&& 31)) ^^^ (-1))) ((a1 &&& (((1 : Int32) <<< ((nI k) &&& 31)) ^^^ (-1))) ||| ((1 : Int32) <<< ((nI k2) &&& 31))) (if a3 = true then (false) else (true)))) ≤ v5 then (v5) else ((-(fX5_standing (σ) d v g (a2 &&& (((1 : Int32) <<< ((nI k2) &&& 31)) ^^^ (-1))) ((a1 &&& (((1 : Int32) <<< ((nI k) &&& 31)) ^^^ (-1))) ||| ((1 : Int32) <<< ((nI k2) &&& 31))) (if a3 = true then (false) else (true))))) from by rw [if_pos c_6])
                    · refine lv_iload hx hb dX5_onward_124 (lv_at hl 0 rfl) ?_
                      refine lv_goto (tgt := 131) hx hb dX5_onward_126 (by decide) ?_
                      exact J _ (show (-(fX5_standing (σ) d v g (a2 &&& (((1 : Int32) <<< ((nI k2) &&& 31)) ^^^ (-1))) ((a1 &&& (((1 : Int32) <<< ((nI k) &&& 31)) ^^^ (-1))) ||| ((1 : Int32) <<< ((nI k2) &&& 31))) (if a3 = true then (false) else (true))) : Int32) = if (-(fX5_standing (σ) d v g (a2 &&& (((1 : Int32) <<< ((nI k2) &&& 31)) ^^^ (-1))) ((a1 &&& (((1 : Int32) <<< ((nI k) &&& 31)) ^^^ (-1))) ||| ((1 : Int32) <<< ((nI k2) &&& 31))) (if a3 = true then (false) else (true)))) ≤ v5 then (v5) else ((-(fX5_standing (σ) d v g (a2 &&& (((1 : Int32) <<< ((nI k2) &&& 31)) ^^^ (-1))) ((a1 &&& (((1 : Int32) <<< ((nI k) &&& 31)) ^^^ (-1))) ||| ((1 : Int32) <<< ((nI k2) &&& 31))) (if a3 = true then (false) else (true))))) from by rw [if_neg c_6])
                · refine x_ifz_ne (b := a3) (tgt := 110) hx hb dX5_onward_103 (by decide) (fun c_5 => ?_) (fun c_5 => ?_)
                  · refine lv_iconst (v := 0) hx hb dX5_onward_110 (by decide) ?_
                    exact J _ (congrArg zI (show false = if a3 = true then (false) else (true) from by rw [if_pos c_5]))
                  · refine lv_iconst (v := 1) hx hb dX5_onward_106 (by decide) ?_
                    refine lv_goto (tgt := 111) hx hb dX5_onward_107 (by decide) ?_
                    exact J _ (congrArg zI (show true = if a3 = true then (false) else (true) from by rw [if_neg (Bool.eq_false_iff.mp c_5)]))
        · refine lv_icmp_ne (tgt := 54) hx hb dX5_onward_21 (by decide) (fun c_2 => ?_) (fun c_2 => ?_)
          · refine lv_iconst (v := 0) hx hb dX5_onward_54 (by decide) ?_
            exact J _ (show (0 : Int32) = if ((a1 >>> ((nI k) &&& 31)) &&& 1) = 1 then ((fX5_goes (σ) (σ 12 g) (σ 6 v) a1 a2 a3 (nI k))) else ((0 : Int32)) from by rw [if_neg c_2])
          · refine lv_aload_n hx hb dX5_onward_24 rfl (lv_at hl 0 rfl) ?_
            refine lv_aload_n hx hb dX5_onward_25 rfl (lv_at hl 0 rfl) ?_
            refine va_get (D := G.1) (ci := 5) (v := .ref (A 12)) (C := RX5) (T := TX5) (N := 20) hx hb hts hiX5 hown hX.1 (x1 hW hM.1) 0 rfl rfl 12 (by decide) hf37 (fun _ h9 => h9) rfl dX5_onward_26 ?_
            refine lv_iload_n hx hb dX5_onward_29 rfl (lv_at hl 1 rfl) ?_
            refine x_ild (k := g) hx hb hX.1 hW hM.2.2.2.2.2.2.2.2.2.2.1 (vp_in_nI hG.1 (by omega)) (nI_clamp (by have := hG.1; omega)) dX5_onward_30 ?_
            refine lv_aload_n hx hb dX5_onward_31 rfl (lv_at hl 0 rfl) ?_
            refine va_get (D := G.1) (ci := 5) (v := .ref (A 6)) (C := RX5) (T := TX5) (N := 20) hx hb hts hiX5 hown hX.1 (x1 hW hM.1) 0 rfl rfl 6 (by decide) hf22 (fun _ h9 => h9) rfl dX5_onward_32 ?_
            refine lv_aload_n hx hb dX5_onward_35 rfl (lv_at hl 0 rfl) ?_
            refine va_get (D := G.1) (ci := 5) (v := .ref (A 11)) (C := RX5) (T := TX5) (N := 20) hx hb hts hiX5 hown hX.1 (x1 hW hM.1) 0 rfl rfl 11 (by decide) hf34 (fun _ h9 => h9) rfl dX5_onward_36 ?_
            refine lv_iload_n hx hb dX5_onward_39 rfl (lv_at hl 1 rfl) ?_
            refine x_ild (k := g) hx hb hX.1 hW hM.2.2.2.2.2.2.2.2.2.1 (vp_in_nI hG.1 (by omega)) (nI_clamp (by have := hG.1; omega)) dX5_onward_40 ?_
            refine x_ild (k := v) hx hb hX.1 hW hM.2.2.2.2.2.1 (by rw [hG.2.2.2.1]; exact vp_in_nI hG.2.2.2.2 (by omega)) (by rw [hG.2.2.2.1]; exact nI_clamp (by have := hG.2.2.2.2; omega)) dX5_onward_41 ?_
            refine lv_iload_n hx hb dX5_onward_42 rfl (lv_at hl 2 rfl) ?_
            refine lv_iload_n hx hb dX5_onward_43 rfl (lv_at hl 3 rfl) ?_
            refine lv_iload hx hb dX5_onward_44 (lv_at hl 4 rfl) ?_
            refine lv_iload hx hb dX5_onward_46 (lv_at hl 5 rfl) ?_
            refine x_callSe (va_runV (As := [.int (σ 12 g), .int (σ 6 v), .int a1, .int a2, .int (zI a3), .int (nI k)]) (rest := []) ⟨hx, hb, hml, hown, hts⟩ (kX5_goes l G _ (σ) o (σ 12 g) (σ 6 v) a1 a2 a3 (nI k) A hM nC hC) (cwV 6 hts gX5_onward_X5_goes rfl rfl rfl (by decide +kernel) ⟨Nat.le_of_ble_eq_true rfl, Nat.le_of_ble_eq_true rfl⟩) (x_preV hX hS hW hM.1 rfl) rfl rfl hl.1 rfl (lv_room (Nat.le_of_ble_eq_true rfl)) dX5_onward_48 ⟨Nat.le_of_ble_eq_true rfl, Nat.le_of_ble_eq_true rfl⟩) ?_
            refine lv_goto (tgt := 55) hx hb dX5_onward_51 (by decide) ?_
            exact J _ (show (fX5_goes (σ) (σ 12 g) (σ 6 v) a1 a2 a3 (nI k) : Int32) = if ((a1 >>> ((nI k) &&& 31)) &&& 1) = 1 then ((fX5_goes (σ) (σ 12 g) (σ 6 v) a1 a2 a3 (nI k))) else ((0 : Int32)) from by rw [if_pos c_2])
  · refine lv_bipush (v := (-100)) hx hb dX5_onward_0 (by decide) ?_
    refine lv_istore (lv' := [(5, .int (-100)), (0, .ref o), (1, .int (nI g)), (2, .int a1), (3, .int a2), (4, .int (zI a3))]) hx hb dX5_onward_2 hl (by decide) rfl (fun ls hl => ?_)
    refine lv_iconst (v := 0) hx hb dX5_onward_4 (by decide) ?_
    refine lv_istore (lv' := [(6, .int 0), (5, .int (-100)), (0, .ref o), (1, .int (nI g)), (2, .int a1), (3, .int a2), (4, .int (zI a3))]) hx hb dX5_onward_5 hl (by decide) rfl (fun ls hl => ?_)
    exact LP (26, 0, (-100)) ls ⟨by unfold fX5_onward; rfl, by dsimp only <;> omega, by dsimp only <;> omega⟩ (lv_sub hl [2, 3, 4, 5, 6, 0, 1] rfl)

def g2X5_farther (σ : xSg) (d : Nat) (v : Nat) (g : Nat) (a1 : Int32) (a2 : Int32) (a3 : Bool) (k : Nat) (cont : Int32 → Int32) : Nat → Nat → Int32 → Int32
  | 0, _, _ => 0
  | n2 + 1, k2, v5 => if 25 ≤ (nI k2) then (cont v5) else (if (((if ((a1 >>> ((nI k) &&& 31)) &&& 1) = 1 then ((fX5_goes (σ) (σ 12 g) (σ 6 v) a1 a2 a3 (nI k))) else ((0 : Int32))) >>> ((nI k2) &&& 31)) &&& 1) = 1 then (g2X5_farther σ d v g a1 a2 a3 k cont n2 (k2 + 1) (if (-(fX5_onward (σ) d v g (a2 &&& (((1 : Int32) <<< ((nI k2) &&& 31)) ^^^ (-1))) ((a1 &&& (((1 : Int32) <<< ((nI k) &&& 31)) ^^^ (-1))) ||| ((1 : Int32) <<< ((nI k2) &&& 31))) (if a3 = true then (false) else (true)))) ≤ v5 then (v5) else ((-(fX5_onward (σ) d v g (a2 &&& (((1 : Int32) <<< ((nI k2) &&& 31)) ^^^ (-1))) ((a1 &&& (((1 : Int32) <<< ((nI k) &&& 31)) ^^^ (-1))) ||| ((1 : Int32) <<< ((nI k2) &&& 31))) (if a3 = true then (false) else (true))))))) else (g2X5_farther σ d v g a1 a2 a3 k cont n2 (k2 + 1) v5))
def gX5_farther (σ : xSg) (d : Nat) (v : Nat) (g : Nat) (a1 : Int32) (a2 : Int32) (a3 : Bool) : Nat → Nat → Int32 → Int32
  | 0, _, _ => 0
  | n + 1, k, v5 => if 25 ≤ (nI k) then v5 else (g2X5_farther σ d v g a1 a2 a3 k (fun v5 => gX5_farther σ d v g a1 a2 a3 n (k + 1) v5) 26 0 v5)
def fX5_farther (σ : xSg) (d : Nat) (v : Nat) (g : Nat) (a1 : Int32) (a2 : Int32) (a3 : Bool) : Int32 := gX5_farther σ d v g a1 a2 a3 26 0 (-100)
set_option maxHeartbeats 4000000 in
set_option maxRecDepth 100000 in
theorem kX5_farther (l : Launch) (G : xG) (E : xE) (σ : xSg) (d : Nat) (v : Nat) (o : Nat) (g : Nat) (a1 : Int32) (a2 : Int32) (a3 : Bool) (A : Nat → Nat) (hM : xMod G E o A σ) (hG : xGm σ g d v) (nC : Nat) (hC : xCd σ nC) : Met l yX5_farther wsX5_farther ({ frames := 6, cells := 0, slots := 0, locals := 164 }) (va_Pc [.ref o, .int (nI g), .int a1, .int a2, .int (zI a3)] (xB G E)) (vp_Si (fun r => r = fX5_farther σ d v g a1 a2 a3)) 0 0 (fun _ => False) := by
  refine Met.ofW (cc := cX5_farther) (maxL := 10) (ret := (some .int)) (by decide) rfl ?_
  intro p e s m args below meth c s₁ B hml hv
  obtain ⟨rfl, hX, hW⟩ := hv
  have hx := B.exec
  have hb := B.bytes
  have hr := B.returns
  have hts := atoms_spec (ws := wsX5_farther) B.pre
  have hown : s.vm.findClass RX5 = some m.cls := findClass_of_methodNamed B.named
  have hlocks := B.notSynchronized
  have hS : va_S (xA G) s.heap s.heap [] := va_S.rf
  have hiX5 : ∀ w ∈ u_ws RX5 TX5 20, w ∈ wsX5_farther := by decide +kernel
  have hf37 := hts (Cond.fieldLink RX5 37 "VariantMillModel" "plays" "[I") (by decide +kernel)
  have hf22 := hts (Cond.fieldLink RX5 22 "VariantMillModel" "holes" "[I") (by decide +kernel)
  have hf34 := hts (Cond.fieldLink RX5 34 "VariantMillModel" "variant" "[I") (by decide +kernel)
  have hl := lv_entry ([.ref o, .int (nI g), .int a1, .int a2, .int (zI a3)]) (n := 10) (Nat.le_of_ble_eq_true rfl)
  rw [lg_entry_eq]
  generalize (lg_sl ([.ref o, .int (nI g), .int a1, .int a2, .int (zI a3)]) ++ List.replicate (10 - (lg_sl ([.ref o, .int (nI g), .int a1, .int a2, .int (zI a3)])).length) Slot.unset).toArray = ls at hl ⊢
  have hl : lv_has ls 10 [(0, .ref o), (1, .int (nI g)), (2, .int a1), (3, .int a2), (4, .int (zI a3))] := hl
  refine x_loopK (σ := Nat × Nat × Int32) 7 10 (fun x => [(0, .ref o), (1, .int (nI g)), (2, .int a1), (3, .int a2), (4, .int (zI a3)), (6, .int (nI x.2.1)), (5, .int x.2.2)]) (fun x => fX5_farther σ d v g a1 a2 a3 = gX5_farther σ d v g a1 a2 a3 x.1 x.2.1 x.2.2 ∧ x.2.1 ≤ 25 ∧ x.1 + x.2.1 = 25 + 1) (fun x => x.1) ?_ (fun LP => ?_)
  · rintro ⟨n, k, v5⟩ ls ⟨hv, hk, hn⟩ hl ih
    dsimp only at hv hk hn
    rcases n with _ | n
    · omega
    · have hl : lv_has ls 10 [(0, .ref o), (1, .int (nI g)), (2, .int a1), (3, .int a2), (4, .int (zI a3)), (6, .int (nI k)), (5, .int v5)] := hl
      refine lv_iload hx hb dX5_farther_7 (lv_at hl 5 rfl) ?_
      refine lv_bipush (v := 25) hx hb dX5_farther_9 (by decide) ?_
      refine lv_icmp_ge (tgt := 145) hx hb dX5_farther_11 (by decide) (fun c_1 => ?_) (fun c_1 => ?_)
      · refine lv_iload hx hb dX5_farther_145 (lv_at hl 6 rfl) ?_
        exact W.iret (v := v5) hx hb hr (fun t ht hw => ⟨_, rfl, (show (v5 : Int32) = fX5_farther σ d v g a1 a2 a3 from by rw [hv, gX5_farther]; rw [if_pos c_1]), ht⟩) (fun _ h => nomatch h) dX5_farther_147
      · have hk1 : k < 25 := x_nge (B := 25) c_1 (by omega)
        refine lv_iload_n hx hb dX5_farther_14 rfl (lv_at hl 2 rfl) ?_
        refine lv_iload hx hb dX5_farther_15 (lv_at hl 5 rfl) ?_
        refine lv_ishr hx hb dX5_farther_17 ?_
        refine lv_iconst (v := 1) hx hb dX5_farther_18 (by decide) ?_
        refine lv_iand hx hb dX5_farther_19 ?_
        refine lv_iconst (v := 1) hx hb dX5_farther_20 (by decide) ?_
        refine x_join (ls' := ls) (rest' := []) 55 ((if ((a1 >>> ((nI k) &&& 31)) &&& 1) = 1 then ((fX5_goes (σ) (σ 12 g) (σ 6 v) a1 a2 a3 (nI k))) else ((0 : Int32)))) (fun v ev => ?_) (fun J => ?_)
        · subst ev
          refine lv_istore (lv' := [(7, .int (if ((a1 >>> ((nI k) &&& 31)) &&& 1) = 1 then ((fX5_goes (σ) (σ 12 g) (σ 6 v) a1 a2 a3 (nI k))) else ((0 : Int32)))), (0, .ref o), (1, .int (nI g)), (2, .int a1), (3, .int a2), (4, .int (zI a3)), (6, .int (nI k)), (5, .int v5)]) hx hb dX5_farther_55 hl (by decide) rfl (fun ls hl => ?_)
          refine lv_iconst (v := 0) hx hb dX5_farther_57 (by decide) ?_
          refine lv_istore (lv' := [(8, .int 0), (7, .int (if ((a1 >>> ((nI k) &&& 31)) &&& 1) = 1 then ((fX5_goes (σ) (σ 12 g) (σ 6 v) a1 a2 a3 (nI k))) else ((0 : Int32)))), (0, .ref o), (1, .int (nI g)), (2, .int a1), (3, .int a2), (4, .int (zI a3)), (6, .int (nI k)), (5, .int v5)]) hx hb dX5_farther_58 hl (by decide) rfl (fun ls hl => ?_)
          refine x_loop (σ := Nat × Nat × Int32) 60 10 (fun x => [(7, .int (if ((a1 >>> ((nI k) &&& 31)) &&& 1) = 1 then ((fX5_goes (σ) (σ 12 g) (σ 6 v) a1 a2 a3 (nI k))) else ((0 : Int32)))), (0, .ref o), (1, .int (nI g)), (2, .int a1), (3, .int a2), (4, .int (zI a3)), (6, .int (nI k)), (8, .int (nI x.2.1)), (5, .int x.2.2)]) (fun x => fX5_farther σ d v g a1 a2 a3 = g2X5_farther σ d v g a1 a2 a3 k (fun v5 => gX5_farther σ d v g a1 a2 a3 n (k + 1) v5) x.1 x.2.1 x.2.2 ∧ x.2.1 ≤ 25 ∧ x.1 + x.2.1 = 25 + 1) (fun x => x.1) ?_ (26, 0, v5) ls ⟨by rw [hv, gX5_farther]; rw [if_neg c_1], by dsimp only <;> omega, by dsimp only <;> omega⟩ (lv_sub hl [1, 2, 3, 4, 5, 6, 7, 0, 8] rfl)
          rintro ⟨n2, k2, v5⟩ ls ⟨hv2, hk2, hn2⟩ hl ih2
          dsimp only at hv2 hk2 hn2
          rcases n2 with _ | n2
          · omega
          · have hl : lv_has ls 10 [(7, .int (if ((a1 >>> ((nI k) &&& 31)) &&& 1) = 1 then ((fX5_goes (σ) (σ 12 g) (σ 6 v) a1 a2 a3 (nI k))) else ((0 : Int32)))), (0, .ref o), (1, .int (nI g)), (2, .int a1), (3, .int a2), (4, .int (zI a3)), (6, .int (nI k)), (8, .int (nI k2)), (5, .int v5)] := hl
            refine lv_iload hx hb dX5_farther_60 (lv_at hl 7 rfl) ?_
            refine lv_bipush (v := 25) hx hb dX5_farther_62 (by decide) ?_
            refine lv_icmp_ge (tgt := 139) hx hb dX5_farther_64 (by decide) (fun c_3 => ?_) (fun c_3 => ?_)
            · refine lv_iinc (v := nI (k + 1)) (lv' := [(6, .int (nI (k + 1))), (7, .int (if ((a1 >>> ((nI k) &&& 31)) &&& 1) = 1 then ((fX5_goes (σ) (σ 12 g) (σ 6 v) a1 a2 a3 (nI k))) else ((0 : Int32)))), (0, .ref o), (1, .int (nI g)), (2, .int a1), (3, .int a2), (4, .int (zI a3)), (8, .int (nI k2)), (5, .int v5)]) hx hb dX5_farther_139 hl (k := 6) rfl (nI_1 _) (by decide) rfl (fun ls hl => ?_)
              refine lv_goto (tgt := 7) hx hb dX5_farther_142 (by decide) ?_
              exact ih (n, k + 1, v5) ls (Nat.lt_succ_self _) ⟨by rw [hv2, g2X5_farther]; rw [if_pos c_3], hk1, by dsimp only <;> omega⟩ (lv_sub hl [2, 3, 4, 5, 6, 0, 8] rfl)
            · have hk12 : k2 < 25 := x_nge (B := 25) c_3 (by omega)
              refine lv_iload hx hb dX5_farther_67 (lv_at hl 0 rfl) ?_
              refine lv_iload hx hb dX5_farther_69 (lv_at hl 7 rfl) ?_
              refine lv_ishr hx hb dX5_farther_71 ?_
              refine lv_iconst (v := 1) hx hb dX5_farther_72 (by decide) ?_
              refine lv_iand hx hb dX5_farther_73 ?_
              refine lv_iconst (v := 1) hx hb dX5_farther_74 (by decide) ?_
              refine lv_icmp_ne (tgt := 133) hx hb dX5_farther_75 (by decide) (fun c_4 => ?_) (fun c_4 => ?_)
              · refine lv_iinc (v := nI (k2 + 1)) (lv' := [(8, .int (nI (k2 + 1))), (7, .int (if ((a1 >>> ((nI k) &&& 31)) &&& 1) = 1 then ((fX5_goes (σ) (σ 12 g) (σ 6 v) a1 a2 a3 (nI k))) else ((0 : Int32)))), (0, .ref o), (1, .int (nI g)), (2, .int a1), (3, .int a2), (4, .int (zI a3)), (6, .int (nI k)), (5, .int v5)]) hx hb dX5_farther_133 hl (k := 7) rfl (nI_1 _) (by decide) rfl (fun ls hl => ?_)
                refine lv_goto (tgt := 60) hx hb dX5_farther_136 (by decide) ?_
                exact ih2 (n2, k2 + 1, v5) ls (Nat.lt_succ_self _) ⟨by rw [hv2, g2X5_farther]; rw [if_neg c_3, if_neg c_4], hk12, by dsimp only <;> omega⟩ (lv_sub hl [1, 2, 3, 4, 5, 6, 7, 0, 8] rfl)
              · refine lv_aload_n hx hb dX5_farther_78 rfl (lv_at hl 1 rfl) ?_
                refine lv_iload_n hx hb dX5_farther_79 rfl (lv_at hl 2 rfl) ?_
                refine lv_iload_n hx hb dX5_farther_80 rfl (lv_at hl 4 rfl) ?_
                refine lv_iconst (v := 1) hx hb dX5_farther_81 (by decide) ?_
                refine lv_iload hx hb dX5_farther_82 (lv_at hl 7 rfl) ?_
                refine lv_ishl hx hb dX5_farther_84 ?_
                refine lv_iconst (v := (-1)) hx hb dX5_farther_85 (by decide) ?_
                refine lv_ixor hx hb dX5_farther_86 ?_
                refine lv_iand hx hb dX5_farther_87 ?_
                refine lv_iload_n hx hb dX5_farther_88 rfl (lv_at hl 3 rfl) ?_
                refine lv_iconst (v := 1) hx hb dX5_farther_89 (by decide) ?_
                refine lv_iload hx hb dX5_farther_90 (lv_at hl 6 rfl) ?_
                refine lv_ishl hx hb dX5_farther_92 ?_
                refine lv_iconst (v := (-1)) hx hb dX5_farther_93 (by decide) ?_
                refine lv_ixor hx hb dX5_farther_94 ?_
                refine lv_iand hx hb dX5_farther_95 ?_
                refine lv_iconst (v := 1) hx hb dX5_farther_96 (by decide) ?_
                refine lv_iload hx hb dX5_farther_97 (lv_at hl 7 rfl) ?_
                refine lv_ishl hx hb dX5_farther_99 ?_
                refine lv_ior hx hb dX5_farther_100 ?_
                refine lv_iload hx hb dX5_farther_101 (lv_at hl 5 rfl) ?_
                refine x_join (ls' := ls) (rest' := [.int ((a1 &&& (((1 : Int32) <<< ((nI k) &&& 31)) ^^^ (-1))) ||| ((1 : Int32) <<< ((nI k2) &&& 31))), .int (a2 &&& (((1 : Int32) <<< ((nI k2) &&& 31)) ^^^ (-1))), .int (nI g), .ref o]) 111 (zI (if a3 = true then (false) else (true))) (fun v ev => ?_) (fun J => ?_)
                · subst ev
                  refine x_callSe (va_runV (As := [.int (nI g), .int (a2 &&& (((1 : Int32) <<< ((nI k2) &&& 31)) ^^^ (-1))), .int ((a1 &&& (((1 : Int32) <<< ((nI k) &&& 31)) ^^^ (-1))) ||| ((1 : Int32) <<< ((nI k2) &&& 31))), .int (zI (if a3 = true then (false) else (true)))]) (rest := []) ⟨hx, hb, hml, hown, hts⟩ (kX5_onward l G _ (σ) d v o g (a2 &&& (((1 : Int32) <<< ((nI k2) &&& 31)) ^^^ (-1))) ((a1 &&& (((1 : Int32) <<< ((nI k) &&& 31)) ^^^ (-1))) ||| ((1 : Int32) <<< ((nI k2) &&& 31))) (if a3 = true then (false) else (true)) A hM hG nC hC) (cwV 4 hts gX5_farther_X5_onward rfl rfl rfl (by decide +kernel) ⟨Nat.le_of_ble_eq_true rfl, Nat.le_of_ble_eq_true rfl⟩) (x_preV hX hS hW hM.1 rfl) rfl rfl hl.1 rfl (lv_room (Nat.le_of_ble_eq_true rfl)) dX5_farther_111 ⟨Nat.le_of_ble_eq_true rfl, Nat.le_of_ble_eq_true rfl⟩) ?_
                  refine lv_ineg hx hb dX5_farther_114 ?_
                  refine lv_istore (lv' := [(9, .int (-(fX5_onward (σ) d v g (a2 &&& (((1 : Int32) <<< ((nI k2) &&& 31)) ^^^ (-1))) ((a1 &&& (((1 : Int32) <<< ((nI k) &&& 31)) ^^^ (-1))) ||| ((1 : Int32) <<< ((nI k2) &&& 31))) (if a3 = true then (false) else (true))))), (7, .int (if ((a1 >>> ((nI k) &&& 31)) &&& 1) = 1 then ((fX5_goes (σ) (σ 12 g) (σ 6 v) a1 a2 a3 (nI k))) else ((0 : Int32)))), (0, .ref o), (1, .int (nI g)), (2, .int a1), (3, .int a2), (4, .int (zI a3)), (6, .int (nI k)), (8, .int (nI k2)), (5, .int v5)]) hx hb dX5_farther_115 hl (by decide) rfl (fun ls hl => ?_)
                  refine lv_iload hx hb dX5_farther_117 (lv_at hl 0 rfl) ?_
                  refine lv_iload hx hb dX5_farther_119 (lv_at hl 9 rfl) ?_
                  refine x_join (ls' := ls) (rest' := []) 131 ((if (-(fX5_onward (σ) d v g (a2 &&& (((1 : Int32) <<< ((nI k2) &&& 31)) ^^^ (-1))) ((a1 &&& (((1 : Int32) <<< ((nI k) &&& 31)) ^^^ (-1))) ||| ((1 : Int32) <<< ((nI k2) &&& 31))) (if a3 = true then (false) else (true)))) ≤ v5 then (v5) else ((-(fX5_onward (σ) d v g (a2 &&& (((1 : Int32) <<< ((nI k2) &&& 31)) ^^^ (-1))) ((a1 &&& (((1 : Int32) <<< ((nI k) &&& 31)) ^^^ (-1))) ||| ((1 : Int32) <<< ((nI k2) &&& 31))) (if a3 = true then (false) else (true))))))) (fun v ev => ?_) (fun J => ?_)
                  · subst ev
                    refine lv_istore (lv' := [(5, .int (if (-(fX5_onward (σ) d v g (a2 &&& (((1 : Int32) <<< ((nI k2) &&& 31)) ^^^ (-1))) ((a1 &&& (((1 : Int32) <<< ((nI k) &&& 31)) ^^^ (-1))) ||| ((1 : Int32) <<< ((nI k2) &&& 31))) (if a3 = true then (false) else (true)))) ≤ v5 then (v5) else ((-(fX5_onward (σ) d v g (a2 &&& (((1 : Int32) <<< ((nI k2) &&& 31)) ^^^ (-1))) ((a1 &&& (((1 : Int32) <<< ((nI k) &&& 31)) ^^^ (-1))) ||| ((1 : Int32) <<< ((nI k2) &&& 31))) (if a3 = true then (false) else (true))))))), (9, .int (-(fX5_onward (σ) d v g (a2 &&& (((1 : Int32) <<< ((nI k2) &&& 31)) ^^^ (-1))) ((a1 &&& (((1 : Int32) <<< ((nI k) &&& 31)) ^^^ (-1))) ||| ((1 : Int32) <<< ((nI k2) &&& 31))) (if a3 = true then (false) else (true))))), (7, .int (if ((a1 >>> ((nI k) &&& 31)) &&& 1) = 1 then ((fX5_goes (σ) (σ 12 g) (σ 6 v) a1 a2 a3 (nI k))) else ((0 : Int32)))), (0, .ref o), (1, .int (nI g)), (2, .int a1), (3, .int a2), (4, .int (zI a3)), (6, .int (nI k)), (8, .int (nI k2))]) hx hb dX5_farther_131 hl (by decide) rfl (fun ls hl => ?_)
                    refine lv_iinc (v := nI (k2 + 1)) (lv' := [(8, .int (nI (k2 + 1))), (5, .int (if (-(fX5_onward (σ) d v g (a2 &&& (((1 : Int32) <<< ((nI k2) &&& 31)) ^^^ (-1))) ((a1 &&& (((1 : Int32) <<< ((nI k) &&& 31)) ^^^ (-1))) ||| ((1 : Int32) <<< ((nI k2) &&& 31))) (if a3 = true then (false) else (true)))) ≤ v5 then (v5) else ((-(fX5_onward (σ) d v g (a2 &&& (((1 : Int32) <<< ((nI k2) &&& 31)) ^^^ (-1))) ((a1 &&& (((1 : Int32) <<< ((nI k) &&& 31)) ^^^ (-1))) ||| ((1 : Int32) <<< ((nI k2) &&& 31))) (if a3 = true then (false) else (true))))))), (9, .int (-(fX5_onward (σ) d v g (a2 &&& (((1 : Int32) <<< ((nI k2) &&& 31)) ^^^ (-1))) ((a1 &&& (((1 : Int32) <<< ((nI k) &&& 31)) ^^^ (-1))) ||| ((1 : Int32) <<< ((nI k2) &&& 31))) (if a3 = true then (false) else (true))))), (7, .int (if ((a1 >>> ((nI k) &&& 31)) &&& 1) = 1 then ((fX5_goes (σ) (σ 12 g) (σ 6 v) a1 a2 a3 (nI k))) else ((0 : Int32)))), (0, .ref o), (1, .int (nI g)), (2, .int a1), (3, .int a2), (4, .int (zI a3)), (6, .int (nI k))]) hx hb dX5_farther_133 hl (k := 9) rfl (nI_1 _) (by decide) rfl (fun ls hl => ?_)
                    refine lv_goto (tgt := 60) hx hb dX5_farther_136 (by decide) ?_
                    exact ih2 (n2, k2 + 1, (if (-(fX5_onward (σ) d v g (a2 &&& (((1 : Int32) <<< ((nI k2) &&& 31)) ^^^ (-1))) ((a1 &&& (((1 : Int32) <<< ((nI k) &&& 31)) ^^^ (-1))) ||| ((1 : Int32) <<< ((nI k2) &&& 31))) (if a3 = true then (false) else (true)))) ≤ v5 then (v5) else ((-(fX5_onward (σ) d v g (a2 &&& (((1 : Int32) <<< ((nI k2) &&& 31)) ^^^ (-1))) ((a1 &&& (((1 : Int32) <<< ((nI k) &&& 31)) ^^^ (-1))) ||| ((1 : Int32) <<< ((nI k2) &&& 31))) (if a3 = true then (false) else (true))))))) ls (Nat.lt_succ_self _) ⟨by rw [hv2, g2X5_farther]; rw [if_neg c_3, if_pos c_4], hk12, by dsimp only <;> omega⟩ (lv_sub hl [3, 4, 5, 6, 7, 8, 9, 0, 1] rfl)
                  · refine lv_icmp_le (tgt := 129) hx hb dX5_farther_121 (by decide) (fun c_6 => ?_) (fun c_6 => ?_)
                    · refine lv_iload hx hb dX5_farther_129 (lv_at hl 9 rfl) ?_
                      exact J _ (show (v5 : Int32) = if (-(fX5_onward (σ) d v g (a2 &&& (((1 : Int32) <<< ((nI k2) &&& 31)) ^^^ (-1))) ((a1 &&& (((1 : Int32) <<< ((nI k) &&& 31)) ^^^ (-1))) ||| ((1 : Int32) <<< ((nI k2) &&& 31))) (if a3 = true then (false) else (true)))) ≤ v5 then (v5) else ((-(fX5_onward (σ) d v g (a2 &&& (((1 : Int32) <<< ((nI k2) &&& 31)) ^^^ (-1))) ((a1 &&& (((1 : Int32) <<< ((nI k) &&& 31)) ^^^ (-1))) ||| ((1 : Int32) <<< ((nI k2) &&& 31))) (if a3 = true then (false) else (true))))) from by rw [if_pos c_6])
                    · refine lv_iload hx hb dX5_farther_124 (lv_at hl 0 rfl) ?_
                      refine lv_goto (tgt := 131) hx hb dX5_farther_126 (by decide) ?_
                      exact J _ (show (-(fX5_onward (σ) d v g (a2 &&& (((1 : Int32) <<< ((nI k2) &&& 31)) ^^^ (-1))) ((a1 &&& (((1 : Int32) <<< ((nI k) &&& 31)) ^^^ (-1))) ||| ((1 : Int32) <<< ((nI k2) &&& 31))) (if a3 = true then (false) else (true))) : Int32) = if (-(fX5_onward (σ) d v g (a2 &&& (((1 : Int32) <<< ((nI k2) &&& 31)) ^^^ (-1))) ((a1 &&& (((1 : Int32) <<< ((nI k) &&& 31)) ^^^ (-1))) ||| ((1 : Int32) <<< ((nI k2) &&& 31))) (if a3 = true then (false) else (true)))) ≤ v5 then (v5) else ((-(fX5_onward (σ) d v g (a2 &&& (((1 : Int32) <<< ((nI k2) &&& 31)) ^^^ (-1))) ((a1 &&& (((1 : Int32) <<< ((nI k) &&& 31)) ^^^ (-1))) ||| ((1 : Int32) <<< ((nI k2) &&& 31))) (if a3 = true then (false) else (true))))) from by rw [if_neg c_6])
                · refine x_ifz_ne (b := a3) (tgt := 110) hx hb dX5_farther_103 (by decide) (fun c_5 => ?_) (fun c_5 => ?_)
                  · refine lv_iconst (v := 0) hx hb dX5_farther_110 (by decide) ?_
                    exact J _ (congrArg zI (show false = if a3 = true then (false) else (true) from by rw [if_pos c_5]))
                  · refine lv_iconst (v := 1) hx hb dX5_farther_106 (by decide) ?_
                    refine lv_goto (tgt := 111) hx hb dX5_farther_107 (by decide) ?_
                    exact J _ (congrArg zI (show true = if a3 = true then (false) else (true) from by rw [if_neg (Bool.eq_false_iff.mp c_5)]))
        · refine lv_icmp_ne (tgt := 54) hx hb dX5_farther_21 (by decide) (fun c_2 => ?_) (fun c_2 => ?_)
          · refine lv_iconst (v := 0) hx hb dX5_farther_54 (by decide) ?_
            exact J _ (show (0 : Int32) = if ((a1 >>> ((nI k) &&& 31)) &&& 1) = 1 then ((fX5_goes (σ) (σ 12 g) (σ 6 v) a1 a2 a3 (nI k))) else ((0 : Int32)) from by rw [if_neg c_2])
          · refine lv_aload_n hx hb dX5_farther_24 rfl (lv_at hl 0 rfl) ?_
            refine lv_aload_n hx hb dX5_farther_25 rfl (lv_at hl 0 rfl) ?_
            refine va_get (D := G.1) (ci := 5) (v := .ref (A 12)) (C := RX5) (T := TX5) (N := 20) hx hb hts hiX5 hown hX.1 (x1 hW hM.1) 0 rfl rfl 12 (by decide) hf37 (fun _ h9 => h9) rfl dX5_farther_26 ?_
            refine lv_iload_n hx hb dX5_farther_29 rfl (lv_at hl 1 rfl) ?_
            refine x_ild (k := g) hx hb hX.1 hW hM.2.2.2.2.2.2.2.2.2.2.1 (vp_in_nI hG.1 (by omega)) (nI_clamp (by have := hG.1; omega)) dX5_farther_30 ?_
            refine lv_aload_n hx hb dX5_farther_31 rfl (lv_at hl 0 rfl) ?_
            refine va_get (D := G.1) (ci := 5) (v := .ref (A 6)) (C := RX5) (T := TX5) (N := 20) hx hb hts hiX5 hown hX.1 (x1 hW hM.1) 0 rfl rfl 6 (by decide) hf22 (fun _ h9 => h9) rfl dX5_farther_32 ?_
            refine lv_aload_n hx hb dX5_farther_35 rfl (lv_at hl 0 rfl) ?_
            refine va_get (D := G.1) (ci := 5) (v := .ref (A 11)) (C := RX5) (T := TX5) (N := 20) hx hb hts hiX5 hown hX.1 (x1 hW hM.1) 0 rfl rfl 11 (by decide) hf34 (fun _ h9 => h9) rfl dX5_farther_36 ?_
            refine lv_iload_n hx hb dX5_farther_39 rfl (lv_at hl 1 rfl) ?_
            refine x_ild (k := g) hx hb hX.1 hW hM.2.2.2.2.2.2.2.2.2.1 (vp_in_nI hG.1 (by omega)) (nI_clamp (by have := hG.1; omega)) dX5_farther_40 ?_
            refine x_ild (k := v) hx hb hX.1 hW hM.2.2.2.2.2.1 (by rw [hG.2.2.2.1]; exact vp_in_nI hG.2.2.2.2 (by omega)) (by rw [hG.2.2.2.1]; exact nI_clamp (by have := hG.2.2.2.2; omega)) dX5_farther_41 ?_
            refine lv_iload_n hx hb dX5_farther_42 rfl (lv_at hl 2 rfl) ?_
            refine lv_iload_n hx hb dX5_farther_43 rfl (lv_at hl 3 rfl) ?_
            refine lv_iload hx hb dX5_farther_44 (lv_at hl 4 rfl) ?_
            refine lv_iload hx hb dX5_farther_46 (lv_at hl 5 rfl) ?_
            refine x_callSe (va_runV (As := [.int (σ 12 g), .int (σ 6 v), .int a1, .int a2, .int (zI a3), .int (nI k)]) (rest := []) ⟨hx, hb, hml, hown, hts⟩ (kX5_goes l G _ (σ) o (σ 12 g) (σ 6 v) a1 a2 a3 (nI k) A hM nC hC) (cwV 6 hts gX5_farther_X5_goes rfl rfl rfl (by decide +kernel) ⟨Nat.le_of_ble_eq_true rfl, Nat.le_of_ble_eq_true rfl⟩) (x_preV hX hS hW hM.1 rfl) rfl rfl hl.1 rfl (lv_room (Nat.le_of_ble_eq_true rfl)) dX5_farther_48 ⟨Nat.le_of_ble_eq_true rfl, Nat.le_of_ble_eq_true rfl⟩) ?_
            refine lv_goto (tgt := 55) hx hb dX5_farther_51 (by decide) ?_
            exact J _ (show (fX5_goes (σ) (σ 12 g) (σ 6 v) a1 a2 a3 (nI k) : Int32) = if ((a1 >>> ((nI k) &&& 31)) &&& 1) = 1 then ((fX5_goes (σ) (σ 12 g) (σ 6 v) a1 a2 a3 (nI k))) else ((0 : Int32)) from by rw [if_pos c_2])
  · refine lv_bipush (v := (-100)) hx hb dX5_farther_0 (by decide) ?_
    refine lv_istore (lv' := [(5, .int (-100)), (0, .ref o), (1, .int (nI g)), (2, .int a1), (3, .int a2), (4, .int (zI a3))]) hx hb dX5_farther_2 hl (by decide) rfl (fun ls hl => ?_)
    refine lv_iconst (v := 0) hx hb dX5_farther_4 (by decide) ?_
    refine lv_istore (lv' := [(6, .int 0), (5, .int (-100)), (0, .ref o), (1, .int (nI g)), (2, .int a1), (3, .int a2), (4, .int (zI a3))]) hx hb dX5_farther_5 hl (by decide) rfl (fun ls hl => ?_)
    exact LP (26, 0, (-100)) ls ⟨by unfold fX5_farther; rfl, by dsimp only <;> omega, by dsimp only <;> omega⟩ (lv_sub hl [2, 3, 4, 5, 6, 0, 1] rfl)

def fX5_valueAt (σ : xSg) (d : Nat) (v : Nat) (g : Nat) (a1 : Int32) : Int32 := if a1 = 0 then (fX5_standing (σ) d v g (fX5_piecesOf (σ) d v g true) (fX5_piecesOf (σ) d v g false) (fX5_isSecondsTurn (σ) d v g)) else (if a1 = 1 then (fX5_onward (σ) d v g (fX5_piecesOf (σ) d v g true) (fX5_piecesOf (σ) d v g false) (fX5_isSecondsTurn (σ) d v g)) else (fX5_farther (σ) d v g (fX5_piecesOf (σ) d v g true) (fX5_piecesOf (σ) d v g false) (fX5_isSecondsTurn (σ) d v g)))
set_option maxHeartbeats 4000000 in
set_option maxRecDepth 100000 in
theorem kX5_valueAt (l : Launch) (G : xG) (E : xE) (σ : xSg) (d : Nat) (v : Nat) (o : Nat) (g : Nat) (a1 : Int32) (A : Nat → Nat) (hM : xMod G E o A σ) (hG : xGm σ g d v) (nC : Nat) (hC : xCd σ nC) : Met l yX5_valueAt wsX5_valueAt ({ frames := 7, cells := 0, slots := 0, locals := 193 }) (va_Pc [.ref o, .int (nI g), .int a1] (xB G E)) (vp_Si (fun r => r = fX5_valueAt σ d v g a1)) 0 0 (fun _ => False) := by
  refine Met.ofW (cc := cX5_valueAt) (maxL := 6) (ret := (some .int)) (by decide) rfl ?_
  intro p e s m args below meth c s₁ B hml hv
  obtain ⟨rfl, hX, hW⟩ := hv
  have hx := B.exec
  have hb := B.bytes
  have hr := B.returns
  have hts := atoms_spec (ws := wsX5_valueAt) B.pre
  have hown : s.vm.findClass RX5 = some m.cls := findClass_of_methodNamed B.named
  have hlocks := B.notSynchronized
  have hS : va_S (xA G) s.heap s.heap [] := va_S.rf
  have hl := lv_entry ([.ref o, .int (nI g), .int a1]) (n := 6) (Nat.le_of_ble_eq_true rfl)
  rw [lg_entry_eq]
  generalize (lg_sl ([.ref o, .int (nI g), .int a1]) ++ List.replicate (6 - (lg_sl ([.ref o, .int (nI g), .int a1])).length) Slot.unset).toArray = ls at hl ⊢
  have hl : lv_has ls 6 [(0, .ref o), (1, .int (nI g)), (2, .int a1)] := hl
  refine lv_aload_n hx hb dX5_valueAt_0 rfl (lv_at hl 0 rfl) ?_
  refine lv_iload_n hx hb dX5_valueAt_1 rfl (lv_at hl 1 rfl) ?_
  refine lv_iconst (v := 1) hx hb dX5_valueAt_2 (by decide) ?_
  refine x_callSe (va_runV (As := [.int (nI g), .int 1]) (rest := []) ⟨hx, hb, hml, hown, hts⟩ (kX5_piecesOf l G _ (σ) d v o g true A hM hG) (cwV 2 hts gX5_valueAt_X5_piecesOf rfl rfl rfl (by decide +kernel) ⟨Nat.le_of_ble_eq_true rfl, Nat.le_of_ble_eq_true rfl⟩) (x_preV hX hS hW hM.1 rfl) rfl rfl hl.1 rfl (lv_room (Nat.le_of_ble_eq_true rfl)) dX5_valueAt_3 ⟨Nat.le_of_ble_eq_true rfl, Nat.le_of_ble_eq_true rfl⟩) ?_
  refine lv_istore_n (lv' := [(3, .int (fX5_piecesOf (σ) d v g true)), (0, .ref o), (1, .int (nI g)), (2, .int a1)]) hx hb dX5_valueAt_6 rfl hl (by decide) rfl (fun ls hl => ?_)
  refine lv_aload_n hx hb dX5_valueAt_7 rfl (lv_at hl 1 rfl) ?_
  refine lv_iload_n hx hb dX5_valueAt_8 rfl (lv_at hl 2 rfl) ?_
  refine lv_iconst (v := 0) hx hb dX5_valueAt_9 (by decide) ?_
  refine x_callSe (va_runV (As := [.int (nI g), .int 0]) (rest := []) ⟨hx, hb, hml, hown, hts⟩ (kX5_piecesOf l G _ (σ) d v o g false A hM hG) (cwV 2 hts gX5_valueAt_X5_piecesOf rfl rfl rfl (by decide +kernel) ⟨Nat.le_of_ble_eq_true rfl, Nat.le_of_ble_eq_true rfl⟩) (x_preV hX hS hW hM.1 rfl) rfl rfl hl.1 rfl (lv_room (Nat.le_of_ble_eq_true rfl)) dX5_valueAt_10 ⟨Nat.le_of_ble_eq_true rfl, Nat.le_of_ble_eq_true rfl⟩) ?_
  refine lv_istore (lv' := [(4, .int (fX5_piecesOf (σ) d v g false)), (3, .int (fX5_piecesOf (σ) d v g true)), (0, .ref o), (1, .int (nI g)), (2, .int a1)]) hx hb dX5_valueAt_13 hl (by decide) rfl (fun ls hl => ?_)
  refine lv_aload_n hx hb dX5_valueAt_15 rfl (lv_at hl 2 rfl) ?_
  refine lv_iload_n hx hb dX5_valueAt_16 rfl (lv_at hl 3 rfl) ?_
  refine x_callSe (va_runV (As := [.int (nI g)]) (rest := []) ⟨hx, hb, hml, hown, hts⟩ (kX5_isSecondsTurn l G _ (σ) d v o g A hM hG) (cwV 1 hts gX5_valueAt_X5_isSecondsTurn rfl rfl rfl (by decide +kernel) ⟨Nat.le_of_ble_eq_true rfl, Nat.le_of_ble_eq_true rfl⟩) (x_preV hX hS hW hM.1 rfl) rfl rfl hl.1 rfl (lv_room (Nat.le_of_ble_eq_true rfl)) dX5_valueAt_17 ⟨Nat.le_of_ble_eq_true rfl, Nat.le_of_ble_eq_true rfl⟩) ?_
  refine lv_istore (lv' := [(5, .int (zI (fX5_isSecondsTurn (σ) d v g))), (4, .int (fX5_piecesOf (σ) d v g false)), (3, .int (fX5_piecesOf (σ) d v g true)), (0, .ref o), (1, .int (nI g)), (2, .int a1)]) hx hb dX5_valueAt_20 hl (by decide) rfl (fun ls hl => ?_)
  refine lv_iload_n hx hb dX5_valueAt_22 rfl (lv_at hl 5 rfl) ?_
  refine lv_if_ne (tgt := 39) hx hb dX5_valueAt_23 (by decide) (fun c_1 => ?_) (fun c_1 => ?_)
  · refine lv_iload_n hx hb dX5_valueAt_39 rfl (lv_at hl 5 rfl) ?_
    refine lv_iconst (v := 1) hx hb dX5_valueAt_40 (by decide) ?_
    refine lv_icmp_ne (tgt := 57) hx hb dX5_valueAt_41 (by decide) (fun c_2 => ?_) (fun c_2 => ?_)
    · refine lv_aload_n hx hb dX5_valueAt_57 rfl (lv_at hl 3 rfl) ?_
      refine lv_iload_n hx hb dX5_valueAt_58 rfl (lv_at hl 4 rfl) ?_
      refine lv_iload_n hx hb dX5_valueAt_59 rfl (lv_at hl 2 rfl) ?_
      refine lv_iload hx hb dX5_valueAt_60 (lv_at hl 1 rfl) ?_
      refine lv_iload hx hb dX5_valueAt_62 (lv_at hl 0 rfl) ?_
      refine x_callSe (va_runV (As := [.int (nI g), .int (fX5_piecesOf (σ) d v g true), .int (fX5_piecesOf (σ) d v g false), .int (zI (fX5_isSecondsTurn (σ) d v g))]) (rest := []) ⟨hx, hb, hml, hown, hts⟩ (kX5_farther l G _ (σ) d v o g (fX5_piecesOf (σ) d v g true) (fX5_piecesOf (σ) d v g false) (fX5_isSecondsTurn (σ) d v g) A hM hG nC hC) (cwV 4 hts gX5_valueAt_X5_farther rfl rfl rfl (by decide +kernel) ⟨Nat.le_of_ble_eq_true rfl, Nat.le_of_ble_eq_true rfl⟩) (x_preV hX hS hW hM.1 rfl) rfl rfl hl.1 rfl (lv_room (Nat.le_of_ble_eq_true rfl)) dX5_valueAt_64 ⟨Nat.le_of_ble_eq_true rfl, Nat.le_of_ble_eq_true rfl⟩) ?_
      exact W.iret (v := fX5_farther (σ) d v g (fX5_piecesOf (σ) d v g true) (fX5_piecesOf (σ) d v g false) (fX5_isSecondsTurn (σ) d v g)) hx hb hr (fun t ht hw => ⟨_, rfl, (show (fX5_farther (σ) d v g (fX5_piecesOf (σ) d v g true) (fX5_piecesOf (σ) d v g false) (fX5_isSecondsTurn (σ) d v g) : Int32) = fX5_valueAt σ d v g a1 from by unfold fX5_valueAt; rw [if_neg c_1, if_neg c_2]), ht⟩) (fun _ h => nomatch h) dX5_valueAt_67
    · refine lv_aload_n hx hb dX5_valueAt_44 rfl (lv_at hl 3 rfl) ?_
      refine lv_iload_n hx hb dX5_valueAt_45 rfl (lv_at hl 4 rfl) ?_
      refine lv_iload_n hx hb dX5_valueAt_46 rfl (lv_at hl 2 rfl) ?_
      refine lv_iload hx hb dX5_valueAt_47 (lv_at hl 1 rfl) ?_
      refine lv_iload hx hb dX5_valueAt_49 (lv_at hl 0 rfl) ?_
      refine x_callSe (va_runV (As := [.int (nI g), .int (fX5_piecesOf (σ) d v g true), .int (fX5_piecesOf (σ) d v g false), .int (zI (fX5_isSecondsTurn (σ) d v g))]) (rest := []) ⟨hx, hb, hml, hown, hts⟩ (kX5_onward l G _ (σ) d v o g (fX5_piecesOf (σ) d v g true) (fX5_piecesOf (σ) d v g false) (fX5_isSecondsTurn (σ) d v g) A hM hG nC hC) (cwV 4 hts gX5_valueAt_X5_onward rfl rfl rfl (by decide +kernel) ⟨Nat.le_of_ble_eq_true rfl, Nat.le_of_ble_eq_true rfl⟩) (x_preV hX hS hW hM.1 rfl) rfl rfl hl.1 rfl (lv_room (Nat.le_of_ble_eq_true rfl)) dX5_valueAt_51 ⟨Nat.le_of_ble_eq_true rfl, Nat.le_of_ble_eq_true rfl⟩) ?_
      refine lv_goto (tgt := 67) hx hb dX5_valueAt_54 (by decide) ?_
      exact W.iret (v := fX5_onward (σ) d v g (fX5_piecesOf (σ) d v g true) (fX5_piecesOf (σ) d v g false) (fX5_isSecondsTurn (σ) d v g)) hx hb hr (fun t ht hw => ⟨_, rfl, (show (fX5_onward (σ) d v g (fX5_piecesOf (σ) d v g true) (fX5_piecesOf (σ) d v g false) (fX5_isSecondsTurn (σ) d v g) : Int32) = fX5_valueAt σ d v g a1 from by unfold fX5_valueAt; rw [if_neg c_1, if_pos c_2]), ht⟩) (fun _ h => nomatch h) dX5_valueAt_67
  · refine lv_aload_n hx hb dX5_valueAt_26 rfl (lv_at hl 3 rfl) ?_
    refine lv_iload_n hx hb dX5_valueAt_27 rfl (lv_at hl 4 rfl) ?_
    refine lv_iload_n hx hb dX5_valueAt_28 rfl (lv_at hl 2 rfl) ?_
    refine lv_iload hx hb dX5_valueAt_29 (lv_at hl 1 rfl) ?_
    refine lv_iload hx hb dX5_valueAt_31 (lv_at hl 0 rfl) ?_
    refine x_callSe (va_runV (As := [.int (nI g), .int (fX5_piecesOf (σ) d v g true), .int (fX5_piecesOf (σ) d v g false), .int (zI (fX5_isSecondsTurn (σ) d v g))]) (rest := []) ⟨hx, hb, hml, hown, hts⟩ (kX5_standing l G _ (σ) d v o g (fX5_piecesOf (σ) d v g true) (fX5_piecesOf (σ) d v g false) (fX5_isSecondsTurn (σ) d v g) A hM hG nC hC) (cwV 4 hts gX5_valueAt_X5_standing rfl rfl rfl (by decide +kernel) ⟨Nat.le_of_ble_eq_true rfl, Nat.le_of_ble_eq_true rfl⟩) (x_preV hX hS hW hM.1 rfl) rfl rfl hl.1 rfl (lv_room (Nat.le_of_ble_eq_true rfl)) dX5_valueAt_33 ⟨Nat.le_of_ble_eq_true rfl, Nat.le_of_ble_eq_true rfl⟩) ?_
    refine lv_goto (tgt := 67) hx hb dX5_valueAt_36 (by decide) ?_
    exact W.iret (v := fX5_standing (σ) d v g (fX5_piecesOf (σ) d v g true) (fX5_piecesOf (σ) d v g false) (fX5_isSecondsTurn (σ) d v g)) hx hb hr (fun t ht hw => ⟨_, rfl, (show (fX5_standing (σ) d v g (fX5_piecesOf (σ) d v g true) (fX5_piecesOf (σ) d v g false) (fX5_isSecondsTurn (σ) d v g) : Int32) = fX5_valueAt σ d v g a1 from by unfold fX5_valueAt; rw [if_pos c_1]), ht⟩) (fun _ h => nomatch h) dX5_valueAt_67
