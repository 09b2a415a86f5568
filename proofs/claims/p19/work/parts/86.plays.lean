set_option maxHeartbeats 4000000 in
set_option maxRecDepth 100000 in
theorem kL_plays (l : Launch) (hl9 : l.stackTraces = false) (G : xG) (E : xE) (o ga nC nV nG : Nat) (σ : xSg) (hO : pOb G E o σ nC nV nG) (hI : pI σ nC nV nG) (hg : E ga = some (.inl (G.2.1 0, 3, .inl (gF nC nV nG)))) (x z : Int32) (ma : Nat) (mf : Nat → Int32) (hma : E ma = some (.inl (G.2.1 0, 12, .inl mf))) (hm : ∀ k, k < nG → mf k = σ 11 k) : vx_Met l yL_plays wsL_plays ({ frames := 13, cells := 2200, slots := 14500, locals := 350 }) (va_Pc [.ref o, .ref ma, .ref ga, .int x, .int z] (xB2 G E)) (va_Qi (S := xE) (pPo G o ga E (fun σ' _ nG' => nG' = nG ∧ σ' 11 = σ 11)) (fun E' t => xW G E' t.heap) (xA G)) (xX G E (fun _ => False)) 2200 14500 (xA G) := by
  refine vx_ofW (cc := cL_plays) (maxL := 22) (ret := (some .boolean)) (by decide) rfl ?_
  intro p e s m args below meth c s₁ B hml hno hv
  obtain ⟨rfl, ⟨hX, hW⟩, hNc⟩ := hv
  have hx := B.exec
  have hb := B.bytes
  have hr := B.returns
  have hts := atoms_spec (ws := wsL_plays) B.pre
  have hown : s.vm.findClass RL = some m.cls := findClass_of_methodNamed B.named
  have hlocks := B.notSynchronized
  have hS : va_S (xA G) s.heap s.heap [] := va_S.rf
  have hl := lv_entry ([.ref o, .ref ma, .ref ga, .int x, .int z]) (n := 22) (Nat.le_of_ble_eq_true rfl)
  rw [lg_entry_eq]
  generalize (lg_sl ([.ref o, .ref ma, .ref ga, .int x, .int z]) ++ List.replicate (22 - (lg_sl ([.ref o, .ref ma, .ref ga, .int x, .int z])).length) Slot.unset).toArray = ls at hl ⊢
  have hl : lv_has ls 22 [(0, .ref o), (1, .ref ma), (2, .ref ga), (3, .int x), (4, .int z)] := hl
  obtain ⟨H, hH⟩ : ∃ z, z = s.heap := ⟨_, rfl⟩
  rw [← hH] at hW
  have hS : va_S (xA G) s.heap H [] := by rw [hH]; exact hS
  rw [← hH]
  obtain ⟨fs, hOE⟩ := hO.at
  obtain ⟨h00, h05, h010, hC8, hV4, hG12⟩ := hO.nums
  have hm9 : ∀ k, k < nG → mf k = nI (vN σ k) := fun k hk => (hm k hk).trans (n_11 hO hI hk).1
  have hvN : ∀ k, k < nG → vN σ k < nV := fun k hk => (n_11 hO hI hk).2
  refine lv_aload_n hx hb dL_plays_0 rfl (lv_at hl 2 rfl) ?_
  refine lv_iconst (v := 2) hx hb dL_plays_1 (by decide) ?_
  refine p_ild (k := 2) (v := nI nG) hx hb hX.1 hW hg (show vp_in (nI 2) 3 from vp_in_nI (by omega) (by omega)) rfl rfl dL_plays_2 ?_
  refine lv_if_ne (tgt := 29) hx hb dL_plays_3 (by decide) (fun c3 => ?_) (fun c3 => ?_)
  · have hG0 : 0 < nG := Nat.pos_of_ne_zero (fun z => c3 (by rw [z]; rfl))
    refine lv_aload_n hx hb dL_plays_29 rfl (lv_at hl 0 rfl) ?_
    refine lv_aload_n hx hb dL_plays_30 rfl (lv_at hl 2 rfl) ?_
    refine p_rdl (x := pAll (σ) nV nG) (vx_runS (As := [.ref o, .ref ga]) (rest := []) ⟨hx, hb, hml, hown, hts⟩ (kL_all l hl9 G E o ga nC nV nG (σ) hO hI hg) (va_cwS 2 hts gL_plays_L_all rfl rfl rfl (by decide +kernel) ⟨Nat.le_of_ble_eq_true rfl, Nat.le_of_ble_eq_true rfl⟩) (x_preS2 hX hNc hS hW) rfl rfl hl.1 rfl (lv_room (Nat.le_of_ble_eq_true rfl)) dL_plays_31 ⟨by show _ ≤ 2200; omega, by show _ ≤ 14500; omega⟩) hS (fun H locs hW hS => ?_)
    refine lv_lstore (lv' := [(5, .long (pAll (σ) nV nG)), (0, .ref o), (1, .ref ma), (2, .ref ga), (3, .int x), (4, .int z)]) hx hb dL_plays_34 hl (by decide) rfl (fun ls hl => ?_)
    refine lv_iload_n hx hb dL_plays_36 rfl (lv_at hl 4 rfl) ?_
    refine lv_iconst (v := 4) hx hb dL_plays_37 (by decide) ?_
    refine x_callSi (va_runS (As := [.int x, .int 4]) (rest := []) ⟨hx, hb, hml, hown, hts⟩ (kS l x (N := 4) (by omega) (by omega)) (va_cwS 2 hts gL_plays_L_some rfl rfl rfl (by decide +kernel) ⟨Nat.le_of_ble_eq_true rfl, Nat.le_of_ble_eq_true rfl⟩) x_preT rfl rfl hl.1 rfl (lv_room (Nat.le_of_ble_eq_true rfl)) dL_plays_38 ⟨by show _ ≤ 2200; omega, by show _ ≤ 14500; omega⟩) (fun vj38 hvj38 => ?_)
    obtain ⟨j38, hj38, ej38, xj38⟩ := hvj38
    rw [ej38]
    refine p_jk (P := fun kk => kk < nG) (F := fun kk => F0 m 61 ls [.int (nI kk)]) (fun kk hkk => ?_) (fun J61 => ?_)
    · refine lv_istore (lv' := [(7, .int (nI kk)), (5, .long (pAll (σ) nV nG)), (0, .ref o), (1, .ref ma), (2, .ref ga), (3, .int x), (4, .int z)]) hx hb dL_plays_61 hl (by decide) rfl (fun ls hl => ?_)
      refine lv_aload_n hx hb dL_plays_63 rfl (lv_at hl 2 rfl) ?_
      refine lv_iload hx hb dL_plays_64 (lv_at hl 0 rfl) ?_
      refine p_rd (x := nI (dN σ kk)) (vx_runV (As := [.int (nI kk)]) (rest := []) ⟨hx, hb, hml, hown, hts⟩ (dr_made l hl9 G E o nC nV nG σ hO (k := kk) (by omega)) (cwV 1 hts gL_plays_X4_made rfl rfl rfl (by decide +kernel) ⟨Nat.le_of_ble_eq_true rfl, Nat.le_of_ble_eq_true rfl⟩) (x_preV hX hS hW hOE rfl) rfl rfl hl.1 rfl (lv_room (Nat.le_of_ble_eq_true rfl)) dL_plays_66 ⟨by show _ ≤ 2200; omega, by show _ ≤ 14500; omega⟩) hS (fun H locs hW hS => ?_)
      refine lv_istore (lv' := [(8, .int (nI (dN σ kk))), (7, .int (nI kk)), (5, .long (pAll (σ) nV nG)), (0, .ref o), (1, .ref ma), (2, .ref ga), (3, .int x), (4, .int z)]) hx hb dL_plays_69 hl (by decide) rfl (fun ls hl => ?_)
      refine lv_iload hx hb dL_plays_71 (lv_at hl 0 rfl) ?_
      refine lv_iconst (v := 2) hx hb dL_plays_73 (by decide) ?_
      refine lv_irem hx hb dL_plays_74 (by decide) ?_
      refine lv_iconst (v := 1) hx hb dL_plays_75 (by decide) ?_
      refine x_join (ls' := ls) (rest' := []) 84 (zI (pSec σ kk)) (fun v ev => ?_) (fun J => ?_)
      · subst ev
        refine lv_istore (lv' := [(9, .int (zI (pSec σ kk))), (8, .int (nI (dN σ kk))), (7, .int (nI kk)), (5, .long (pAll (σ) nV nG)), (0, .ref o), (1, .ref ma), (2, .ref ga), (3, .int x), (4, .int z)]) hx hb dL_plays_84 hl (by decide) rfl (fun ls hl => ?_)
        refine lv_aload_n hx hb dL_plays_86 rfl (lv_at hl 4 rfl) ?_
        refine lv_iload hx hb dL_plays_87 (lv_at hl 2 rfl) ?_
        refine lv_iload hx hb dL_plays_89 (lv_at hl 0 rfl) ?_
        refine p_rd (x := pOwn σ kk) (mc := 1) (ms := 6) (vx_runV (As := [.int (nI kk), .int (zI (pSec σ kk))]) (rest := []) ⟨hx, hb, hml, hown, hts⟩ ((by have h9 := dr_pieces l hl9 G E o nC nV nG σ hO (k := kk) (by omega) (pSec σ kk); rw [pPc_own] at h9; exact h9)) (cwV 2 hts gL_plays_X4_pieces rfl rfl rfl (by decide +kernel) ⟨Nat.le_of_ble_eq_true rfl, Nat.le_of_ble_eq_true rfl⟩) (x_preV hX hS hW hOE rfl) rfl rfl hl.1 rfl (lv_room (Nat.le_of_ble_eq_true rfl)) dL_plays_91 ⟨by show _ ≤ 2200; omega, by show _ ≤ 14500; omega⟩) hS (fun H locs hW hS => ?_)
        refine lv_istore (lv' := [(10, .int (pOwn σ kk)), (9, .int (zI (pSec σ kk))), (8, .int (nI (dN σ kk))), (7, .int (nI kk)), (5, .long (pAll (σ) nV nG)), (0, .ref o), (1, .ref ma), (2, .ref ga), (3, .int x), (4, .int z)]) hx hb dL_plays_94 hl (by decide) rfl (fun ls hl => ?_)
        refine lv_aload_n hx hb dL_plays_96 rfl (lv_at hl 5 rfl) ?_
        refine lv_iload hx hb dL_plays_97 (lv_at hl 3 rfl) ?_
        refine lv_iload hx hb dL_plays_99 (lv_at hl 1 rfl) ?_
        refine x_join (ls' := ls) (rest' := [.int (nI kk), .ref o]) 109 (zI (!(pSec σ kk))) (fun v ev => ?_) (fun J => ?_)
        · subst ev
          refine p_rd (x := pOth σ kk) (mc := 1) (ms := 6) (vx_runV (As := [.int (nI kk), .int (zI (!(pSec σ kk)))]) (rest := []) ⟨hx, hb, hml, hown, hts⟩ ((by have h9 := dr_pieces l hl9 G E o nC nV nG σ hO (k := kk) (by omega) (!(pSec σ kk)); rw [pPc_oth] at h9; exact h9)) (cwV 2 hts gL_plays_X4_pieces rfl rfl rfl (by decide +kernel) ⟨Nat.le_of_ble_eq_true rfl, Nat.le_of_ble_eq_true rfl⟩) (x_preV hX hS hW hOE rfl) rfl rfl hl.1 rfl (lv_room (Nat.le_of_ble_eq_true rfl)) dL_plays_109 ⟨by show _ ≤ 2200; omega, by show _ ≤ 14500; omega⟩) hS (fun H locs hW hS => ?_)
          refine lv_istore (lv' := [(11, .int (pOth σ kk)), (10, .int (pOwn σ kk)), (9, .int (zI (pSec σ kk))), (8, .int (nI (dN σ kk))), (7, .int (nI kk)), (5, .long (pAll (σ) nV nG)), (0, .ref o), (1, .ref ma), (2, .ref ga), (3, .int x), (4, .int z)]) hx hb dL_plays_112 hl (by decide) rfl (fun ls hl => ?_)
          refine lv_aload_n hx hb dL_plays_114 rfl (lv_at hl 6 rfl) ?_
          refine lv_iload hx hb dL_plays_115 (lv_at hl 4 rfl) ?_
          refine p_rd (x := σ 15 kk) (vx_runV (As := [.int (nI kk)]) (rest := []) ⟨hx, hb, hml, hown, hts⟩ (dr_state l hl9 G E o nC nV nG σ hO (k := kk) (by omega)) (cwV 1 hts gL_plays_X4_state rfl rfl rfl (by decide +kernel) ⟨Nat.le_of_ble_eq_true rfl, Nat.le_of_ble_eq_true rfl⟩) (x_preV hX hS hW hOE rfl) rfl rfl hl.1 rfl (lv_room (Nat.le_of_ble_eq_true rfl)) dL_plays_117 ⟨by show _ ≤ 2200; omega, by show _ ≤ 14500; omega⟩) hS (fun H locs hW hS => ?_)
          refine lv_istore (lv' := [(12, .int (σ 15 kk)), (11, .int (pOth σ kk)), (10, .int (pOwn σ kk)), (9, .int (zI (pSec σ kk))), (8, .int (nI (dN σ kk))), (7, .int (nI kk)), (5, .long (pAll (σ) nV nG)), (0, .ref o), (1, .ref ma), (2, .ref ga), (3, .int x), (4, .int z)]) hx hb dL_plays_120 hl (by decide) rfl (fun ls hl => ?_)
          refine lv_iload hx hb dL_plays_122 (lv_at hl 11 rfl) ?_
          refine lv_sipush (v := 625) hx hb dL_plays_124 (by decide) ?_
          refine x_callSi (va_runS (As := [.int z, .int 625]) (rest := []) ⟨hx, hb, hml, hown, hts⟩ (kS l z (N := 625) (by omega) (by omega)) (va_cwS 2 hts gL_plays_L_some rfl rfl rfl (by decide +kernel) ⟨Nat.le_of_ble_eq_true rfl, Nat.le_of_ble_eq_true rfl⟩) x_preT rfl rfl hl.1 rfl (lv_room (Nat.le_of_ble_eq_true rfl)) dL_plays_127 ⟨by show _ ≤ 2200; omega, by show _ ≤ 14500; omega⟩) (fun vj127 hvj127 => ?_)
          obtain ⟨j127, hj127, ej127, xj127⟩ := hvj127
          rw [ej127]
          refine lv_istore (lv' := [(13, .int (nI j127)), (12, .int (σ 15 kk)), (11, .int (pOth σ kk)), (10, .int (pOwn σ kk)), (9, .int (zI (pSec σ kk))), (8, .int (nI (dN σ kk))), (7, .int (nI kk)), (5, .long (pAll (σ) nV nG)), (0, .ref o), (1, .ref ma), (2, .ref ga), (3, .int x), (4, .int z)]) hx hb dL_plays_130 hl (by decide) rfl (fun ls hl => ?_)
          refine lv_iload hx hb dL_plays_132 (lv_at hl 0 rfl) ?_
          refine lv_istore (lv' := [(14, .int (nI j127)), (13, .int (nI j127)), (12, .int (σ 15 kk)), (11, .int (pOth σ kk)), (10, .int (pOwn σ kk)), (9, .int (zI (pSec σ kk))), (8, .int (nI (dN σ kk))), (7, .int (nI kk)), (5, .long (pAll (σ) nV nG)), (0, .ref o), (1, .ref ma), (2, .ref ga), (3, .int x), (4, .int z)]) hx hb dL_plays_134 hl (by decide) rfl (fun ls hl => ?_)
          refine lv_iconst (v := 0) hx hb dL_plays_136 (by decide) ?_
          refine lv_istore (lv' := [(15, .int 0), (14, .int (nI j127)), (13, .int (nI j127)), (12, .int (σ 15 kk)), (11, .int (pOth σ kk)), (10, .int (pOwn σ kk)), (9, .int (zI (pSec σ kk))), (8, .int (nI (dN σ kk))), (7, .int (nI kk)), (5, .long (pAll (σ) nV nG)), (0, .ref o), (1, .ref ma), (2, .ref ga), (3, .int x), (4, .int z)]) hx hb dL_plays_137 hl (by decide) rfl (fun ls hl => ?_)
          refine p_jkl (T := Nat) (P := fun fo => fo < 625) (G := G) (E := E) (H0 := s.heap) 183 22 (fun fo => [(12, .int (σ 15 kk)), (11, .int (pOth σ kk)), (10, .int (pOwn σ kk)), (9, .int (zI (pSec σ kk))), (8, .int (nI (dN σ kk))), (7, .int (nI kk)), (5, .long (pAll (σ) nV nG)), (0, .ref o), (1, .ref ma), (2, .ref ga), (3, .int x), (4, .int z), (13, .int (nI fo))]) 1980 11900 (fun fo ls H locs cells slots hfo hcj hsj hW hS hl => ?_) (fun J183 => ?_)
          · have hl : lv_has ls 22 [(12, .int (σ 15 kk)), (11, .int (pOth σ kk)), (10, .int (pOwn σ kk)), (9, .int (zI (pSec σ kk))), (8, .int (nI (dN σ kk))), (7, .int (nI kk)), (5, .long (pAll (σ) nV nG)), (0, .ref o), (1, .ref ma), (2, .ref ga), (3, .int x), (4, .int z), (13, .int (nI fo))] := hl
            obtain ⟨f, hf⟩ : ∃ q, q = fo / 25 := ⟨_, rfl⟩
            obtain ⟨t, ht⟩ : ∃ q, q = fo % 25 := ⟨_, rfl⟩
            have hf25 : f < 25 := by omega
            have ht25 : t < 25 := by omega
            refine lv_iload hx hb dL_plays_183 (lv_at hl 12 rfl) ?_
            refine lv_bipush (v := 25) hx hb dL_plays_185 (by decide) ?_
            refine lv_idiv hx hb dL_plays_187 (by decide) ?_
            rw [show ((nI fo) / 25 : Int32) = nI f from (pk_div (a := fo) (d := 25) (by omega) (by omega) (by omega)).trans (by rw [hf])]
            refine lv_istore (lv' := [(15, .int (nI f)), (12, .int (σ 15 kk)), (11, .int (pOth σ kk)), (10, .int (pOwn σ kk)), (9, .int (zI (pSec σ kk))), (8, .int (nI (dN σ kk))), (7, .int (nI kk)), (5, .long (pAll (σ) nV nG)), (0, .ref o), (1, .ref ma), (2, .ref ga), (3, .int x), (4, .int z), (13, .int (nI fo))]) hx hb dL_plays_188 hl (by decide) rfl (fun ls hl => ?_)
            refine lv_iload hx hb dL_plays_190 (lv_at hl 13 rfl) ?_
            refine lv_bipush (v := 25) hx hb dL_plays_192 (by decide) ?_
            refine lv_irem hx hb dL_plays_194 (by decide) ?_
            rw [show ((nI fo) - (nI fo) / 25 * 25 : Int32) = nI t from (pk_rem (a := fo) (d := 25) (by omega) (by omega) (by omega)).trans (by rw [ht])]
            refine lv_istore (lv' := [(16, .int (nI t)), (15, .int (nI f)), (12, .int (σ 15 kk)), (11, .int (pOth σ kk)), (10, .int (pOwn σ kk)), (9, .int (zI (pSec σ kk))), (8, .int (nI (dN σ kk))), (7, .int (nI kk)), (5, .long (pAll (σ) nV nG)), (0, .ref o), (1, .ref ma), (2, .ref ga), (3, .int x), (4, .int z), (13, .int (nI fo))]) hx hb dL_plays_195 hl (by decide) rfl (fun ls hl => ?_)
            refine lv_aload_n hx hb dL_plays_197 rfl (lv_at hl 9 rfl) ?_
            refine lv_iload hx hb dL_plays_198 (lv_at hl 7 rfl) ?_
            refine lv_iload hx hb dL_plays_200 (lv_at hl 1 rfl) ?_
            refine lv_iload hx hb dL_plays_202 (lv_at hl 0 rfl) ?_
            refine p_rd (x := zI (pCan σ nC kk (nI f) (nI t))) (vx_runV (As := [.int (nI kk), .int (nI f), .int (nI t)]) (rest := []) ⟨hx, hb, hml, hown, hts⟩ (dr_can l hl9 G E o nC nV nG σ hO (k := kk) (f := f) (t := t) (by omega) (by omega) (by omega)) (cwV 3 hts gL_plays_X4_can rfl rfl rfl (by decide +kernel) ⟨Nat.le_of_ble_eq_true rfl, Nat.le_of_ble_eq_true rfl⟩) (x_preV hX hS hW hOE rfl) rfl rfl hl.1 rfl (lv_room (Nat.le_of_ble_eq_true rfl)) dL_plays_204 ⟨by show _ ≤ 2200; omega, by show _ ≤ 14500; omega⟩) hS (fun H locs hW hS => ?_)
            refine lv_istore (lv' := [(17, .int (zI (pCan σ nC kk (nI f) (nI t)))), (16, .int (nI t)), (15, .int (nI f)), (12, .int (σ 15 kk)), (11, .int (pOth σ kk)), (10, .int (pOwn σ kk)), (9, .int (zI (pSec σ kk))), (8, .int (nI (dN σ kk))), (7, .int (nI kk)), (5, .long (pAll (σ) nV nG)), (0, .ref o), (1, .ref ma), (2, .ref ga), (3, .int x), (4, .int z), (13, .int (nI fo))]) hx hb dL_plays_207 hl (by decide) rfl (fun ls hl => ?_)
            refine lv_aload_n hx hb dL_plays_209 rfl (lv_at hl 10 rfl) ?_
            refine lv_iload hx hb dL_plays_210 (lv_at hl 8 rfl) ?_
            refine lv_iload hx hb dL_plays_212 (lv_at hl 2 rfl) ?_
            refine lv_iload hx hb dL_plays_214 (lv_at hl 1 rfl) ?_
            refine p_rd (x := zI (pCab σ nC kk (nI f) (nI t))) (vx_runV (As := [.int (nI kk), .int (nI f), .int (nI t)]) (rest := []) ⟨hx, hb, hml, hown, hts⟩ (dr_canByAll l hl9 G E o nC nV nG σ hO (k := kk) (f := f) (t := t) (by omega) (by omega) (by omega)) (cwV 3 hts gL_plays_X4_canByAll rfl rfl rfl (by decide +kernel) ⟨Nat.le_of_ble_eq_true rfl, Nat.le_of_ble_eq_true rfl⟩) (x_preV hX hS hW hOE rfl) rfl rfl hl.1 rfl (lv_room (Nat.le_of_ble_eq_true rfl)) dL_plays_216 ⟨by show _ ≤ 2200; omega, by show _ ≤ 14500; omega⟩) hS (fun H locs hW hS => ?_)
            refine lv_iload hx hb dL_plays_219 (lv_at hl 0 rfl) ?_
            refine lv_icmp_ne (tgt := 259) hx hb dL_plays_221 (by decide) (fun c9 => False.elim (by exact c9 (by rw [n_cab hO hI hkk hf25 ht25]))) (fun c221 => ?_)
            refine lv_iload hx hb dL_plays_224 (lv_at hl 0 rfl) ?_
            refine p_jn 255 (ls' := ls) (rest' := []) ?_ (fun J255 => ?_)
            · refine lv_iconst (v := 1) hx hb dL_plays_255 (by decide) ?_
              refine lv_goto (tgt := 260) hx hb dL_plays_256 (by decide) ?_
              refine lv_istore (lv' := [(18, .int 1), (17, .int (zI (pCan σ nC kk (nI f) (nI t)))), (16, .int (nI t)), (15, .int (nI f)), (12, .int (σ 15 kk)), (11, .int (pOth σ kk)), (10, .int (pOwn σ kk)), (9, .int (zI (pSec σ kk))), (8, .int (nI (dN σ kk))), (7, .int (nI kk)), (5, .long (pAll (σ) nV nG)), (0, .ref o), (1, .ref ma), (2, .ref ga), (3, .int x), (4, .int z), (13, .int (nI fo))]) hx hb dL_plays_260 hl (by decide) rfl (fun ls hl => ?_)
              refine lv_aload_n hx hb dL_plays_262 rfl (lv_at hl 11 rfl) ?_
              refine lv_iload hx hb dL_plays_263 (lv_at hl 9 rfl) ?_
              refine lv_iconst (v := 1) hx hb dL_plays_265 (by decide) ?_
              refine p_rdn (x := pVal σ nC kk 1) (vx_runV (As := [.int (nI kk), .int 1]) (rest := []) ⟨hx, hb, hml, hown, hts⟩ (dr_value l hl9 G E o nC nV nG σ hO (k := kk) (n := 1) (by omega) (by omega)) (cwV 2 hts gL_plays_X4_value rfl rfl rfl (by decide +kernel) ⟨Nat.le_of_ble_eq_true rfl, Nat.le_of_ble_eq_true rfl⟩) (x_preV hX hS hW hOE rfl) rfl rfl hl.1 rfl (lv_room (Nat.le_of_ble_eq_true rfl)) dL_plays_266 ⟨by show _ ≤ 2200; omega, by show _ ≤ 14500; omega⟩) hS (fun v266 hv266 H locs hW hS => ?_)
              refine lv_istore (lv' := [(19, .int v266), (18, .int 1), (17, .int (zI (pCan σ nC kk (nI f) (nI t)))), (16, .int (nI t)), (15, .int (nI f)), (12, .int (σ 15 kk)), (11, .int (pOth σ kk)), (10, .int (pOwn σ kk)), (9, .int (zI (pSec σ kk))), (8, .int (nI (dN σ kk))), (7, .int (nI kk)), (5, .long (pAll (σ) nV nG)), (0, .ref o), (1, .ref ma), (2, .ref ga), (3, .int x), (4, .int z), (13, .int (nI fo))]) hx hb dL_plays_269 hl (by decide) rfl (fun ls hl => ?_)
              refine lv_aload_n hx hb dL_plays_271 rfl (lv_at hl 12 rfl) ?_
              refine lv_bipush (v := 6) hx hb dL_plays_272 (by decide) ?_
              refine lv_iload hx hb dL_plays_274 (lv_at hl 10 rfl) ?_
              refine lv_iload hx hb dL_plays_276 (lv_at hl 4 rfl) ?_
              refine lv_iload hx hb dL_plays_278 (lv_at hl 3 rfl) ?_
              refine lv_iconst (v := 0) hx hb dL_plays_280 (by decide) ?_
              refine lv_iconst (v := 0) hx hb dL_plays_281 (by decide) ?_
              refine p_wr (vx_runSX (As := [.ref o, .int 6, .int (nI kk), .int (nI f), .int (nI t), .int 0, .int 0]) (rest := []) ⟨hx, hb, hml, hown, hts⟩ (kC_move l hl9 G E o (nI kk) (nI f) (nI t) (0 : Int32) (0 : Int32) nC nV nG σ hO) (vx_cwSW 7 hts gL_plays_L_call rfl rfl rfl (by decide +kernel) ⟨Nat.le_of_ble_eq_true rfl, Nat.le_of_ble_eq_true rfl⟩) (x_preS2 hX hNc hS hW) rfl rfl hl.1 rfl (lv_room (Nat.le_of_ble_eq_true rfl)) dL_plays_282 ⟨by show _ ≤ 2200; omega, by show _ ≤ 14500; omega⟩) hS (fun r282 E2 H locs hq hW hS => ?_)
              rcases hq with hq1 | ⟨hT, hr9, hE9⟩
              · obtain ⟨σ1, hO1, hI1, hF1, h11, hcan, hst, hdn, hp1, hp2, hvv, hiff, hne, h60, hpos⟩ := n_mv hO hI hkk hf25 ht25 hq1
                have hg1 : E2 ga = _ := hF1 _ _ hg rfl
                obtain ⟨fs1, hOE1⟩ := hO1.at
                refine lv_istore (lv' := [(20, .int r282), (19, .int v266), (18, .int 1), (17, .int (zI (pCan σ nC kk (nI f) (nI t)))), (16, .int (nI t)), (15, .int (nI f)), (12, .int (σ 15 kk)), (11, .int (pOth σ kk)), (10, .int (pOwn σ kk)), (9, .int (zI (pSec σ kk))), (8, .int (nI (dN σ kk))), (7, .int (nI kk)), (5, .long (pAll (σ) nV nG)), (0, .ref o), (1, .ref ma), (2, .ref ga), (3, .int x), (4, .int z), (13, .int (nI fo))]) hx hb dL_plays_285 hl (by decide) rfl (fun ls hl => ?_)
                refine lv_iload hx hb dL_plays_287 (lv_at hl 0 rfl) ?_
                refine lv_if_ge (tgt := 343) hx hb dL_plays_289 (by decide) (fun c289 => ?_) (fun c9 => False.elim (by exact hpos (Int32.not_le.mp c9)))
                refine lv_iload hx hb dL_plays_343 (lv_at hl 8 rfl) ?_
                refine lv_iconst (v := 1) hx hb dL_plays_345 (by decide) ?_
                refine lv_iload hx hb dL_plays_346 (lv_at hl 5 rfl) ?_
                refine lv_ishl hx hb dL_plays_348 ?_
                refine lv_iconst (v := (-1)) hx hb dL_plays_349 (by decide) ?_
                refine lv_ixor hx hb dL_plays_350 ?_
                refine lv_iand hx hb dL_plays_351 ?_
                refine lv_iconst (v := 1) hx hb dL_plays_352 (by decide) ?_
                refine lv_iload hx hb dL_plays_353 (lv_at hl 4 rfl) ?_
                refine lv_ishl hx hb dL_plays_355 ?_
                refine lv_ior hx hb dL_plays_356 ?_
                refine lv_istore (lv' := [(21, .int (((pOwn σ kk) &&& (((1 : Int32) <<< ((nI f) &&& 31)) ^^^ (-1))) ||| ((1 : Int32) <<< ((nI t) &&& 31)))), (20, .int r282), (19, .int v266), (18, .int 1), (17, .int (zI (pCan σ nC kk (nI f) (nI t)))), (16, .int (nI t)), (15, .int (nI f)), (12, .int (σ 15 kk)), (11, .int (pOth σ kk)), (10, .int (pOwn σ kk)), (9, .int (zI (pSec σ kk))), (8, .int (nI (dN σ kk))), (7, .int (nI kk)), (5, .long (pAll (σ) nV nG)), (0, .ref o), (1, .ref ma), (2, .ref ga), (3, .int x), (4, .int z), (13, .int (nI fo))]) hx hb dL_plays_357 hl (by decide) rfl (fun ls hl => ?_)
                refine lv_iload hx hb dL_plays_359 (lv_at hl 3 rfl) ?_
                refine lv_if_eq (tgt := 451) hx hb dL_plays_361 (by decide) (fun c9 => absurd c9 (by decide)) (fun _ => ?_)
                refine lv_iload hx hb dL_plays_364 (lv_at hl 4 rfl) ?_
                refine x_ifz_eq (b := pCan σ nC kk (nI f) (nI t)) (tgt := 451) hx hb dL_plays_366 (by decide) (fun c9 => False.elim (by rw [hcan] at c9; cases c9)) (fun c366 => ?_)
                refine lv_iload hx hb dL_plays_369 (lv_at hl 1 rfl) ?_
                refine lv_aload_n hx hb dL_plays_371 rfl (lv_at hl 14 rfl) ?_
                refine lv_iload hx hb dL_plays_372 (lv_at hl 12 rfl) ?_
                refine p_rd (x := σ1 15 kk) (vx_runV (As := [.int (nI kk)]) (rest := [.int r282]) ⟨hx, hb, hml, hown, hts⟩ (dr_state l hl9 G E2 o nC nV nG σ1 hO1 (k := kk) (by omega)) (cwV 1 hts gL_plays_X4_state rfl rfl rfl (by decide +kernel) ⟨Nat.le_of_ble_eq_true rfl, Nat.le_of_ble_eq_true rfl⟩) (x_preV hX hS hW hOE1 rfl) rfl rfl hl.1 rfl (lv_room (Nat.le_of_ble_eq_true rfl)) dL_plays_374 ⟨by show _ ≤ 2200; omega, by show _ ≤ 14500; omega⟩) hS (fun H locs hW hS => ?_)
                refine lv_icmp_ne (tgt := 451) hx hb dL_plays_377 (by decide) (fun c9 => False.elim (by exact c9 hst)) (fun c377 => ?_)
                refine lv_aload_n hx hb dL_plays_380 rfl (lv_at hl 14 rfl) ?_
                refine lv_iload hx hb dL_plays_381 (lv_at hl 12 rfl) ?_
                refine p_rd (x := nI (dN σ1 kk)) (vx_runV (As := [.int (nI kk)]) (rest := []) ⟨hx, hb, hml, hown, hts⟩ (dr_made l hl9 G E2 o nC nV nG σ1 hO1 (k := kk) (by omega)) (cwV 1 hts gL_plays_X4_made rfl rfl rfl (by decide +kernel) ⟨Nat.le_of_ble_eq_true rfl, Nat.le_of_ble_eq_true rfl⟩) (x_preV hX hS hW hOE1 rfl) rfl rfl hl.1 rfl (lv_room (Nat.le_of_ble_eq_true rfl)) dL_plays_383 ⟨by show _ ≤ 2200; omega, by show _ ≤ 14500; omega⟩) hS (fun H locs hW hS => ?_)
                refine lv_iload hx hb dL_plays_386 (lv_at hl 11 rfl) ?_
                refine lv_iconst (v := 1) hx hb dL_plays_388 (by decide) ?_
                refine lv_iadd hx hb dL_plays_389 ?_
                refine lv_icmp_ne (tgt := 451) hx hb dL_plays_390 (by decide) (fun c9 => False.elim (by exact c9 (by rw [hdn, nI_1]))) (fun c390 => ?_)
                refine lv_aload_n hx hb dL_plays_393 rfl (lv_at hl 14 rfl) ?_
                refine lv_iload hx hb dL_plays_394 (lv_at hl 12 rfl) ?_
                refine lv_iload hx hb dL_plays_396 (lv_at hl 10 rfl) ?_
                refine p_rd (x := pPc σ1 kk (pSec σ kk)) (vx_runV (As := [.int (nI kk), .int (zI (pSec σ kk))]) (rest := []) ⟨hx, hb, hml, hown, hts⟩ (dr_pieces l hl9 G E2 o nC nV nG σ1 hO1 (k := kk) (by omega) (pSec σ kk)) (cwV 2 hts gL_plays_X4_pieces rfl rfl rfl (by decide +kernel) ⟨Nat.le_of_ble_eq_true rfl, Nat.le_of_ble_eq_true rfl⟩) (x_preV hX hS hW hOE1 rfl) rfl rfl hl.1 rfl (lv_room (Nat.le_of_ble_eq_true rfl)) dL_plays_398 ⟨by show _ ≤ 2200; omega, by show _ ≤ 14500; omega⟩) hS (fun H locs hW hS => ?_)
                refine lv_iload hx hb dL_plays_401 (lv_at hl 0 rfl) ?_
                refine lv_icmp_ne (tgt := 451) hx hb dL_plays_403 (by decide) (fun c9 => False.elim (by exact c9 hp1)) (fun c403 => ?_)
                refine lv_aload_n hx hb dL_plays_406 rfl (lv_at hl 14 rfl) ?_
                refine lv_iload hx hb dL_plays_407 (lv_at hl 12 rfl) ?_
                refine lv_iload hx hb dL_plays_409 (lv_at hl 10 rfl) ?_
                refine x_join (ls' := ls) (rest' := [.int (nI kk), .ref o]) 419 (zI (!(pSec σ kk))) (fun v ev => ?_) (fun J => ?_)
                · subst ev
                  refine p_rd (x := pPc σ1 kk (!(pSec σ kk))) (vx_runV (As := [.int (nI kk), .int (zI (!(pSec σ kk)))]) (rest := []) ⟨hx, hb, hml, hown, hts⟩ (dr_pieces l hl9 G E2 o nC nV nG σ1 hO1 (k := kk) (by omega) (!(pSec σ kk))) (cwV 2 hts gL_plays_X4_pieces rfl rfl rfl (by decide +kernel) ⟨Nat.le_of_ble_eq_true rfl, Nat.le_of_ble_eq_true rfl⟩) (x_preV hX hS hW hOE1 rfl) rfl rfl hl.1 rfl (lv_room (Nat.le_of_ble_eq_true rfl)) dL_plays_419 ⟨by show _ ≤ 2200; omega, by show _ ≤ 14500; omega⟩) hS (fun H locs hW hS => ?_)
                  refine lv_iload hx hb dL_plays_422 (lv_at hl 8 rfl) ?_
                  refine lv_iconst (v := 1) hx hb dL_plays_424 (by decide) ?_
                  refine lv_iload hx hb dL_plays_425 (lv_at hl 5 rfl) ?_
                  refine lv_ishl hx hb dL_plays_427 ?_
                  refine lv_iconst (v := (-1)) hx hb dL_plays_428 (by decide) ?_
                  refine lv_ixor hx hb dL_plays_429 ?_
                  refine lv_iand hx hb dL_plays_430 ?_
                  refine lv_icmp_ne (tgt := 451) hx hb dL_plays_431 (by decide) (fun c9 => False.elim (by exact c9 hp2)) (fun c431 => ?_)
                  refine lv_aload_n hx hb dL_plays_434 rfl (lv_at hl 14 rfl) ?_
                  refine lv_iload hx hb dL_plays_435 (lv_at hl 12 rfl) ?_
                  refine lv_iconst (v := 0) hx hb dL_plays_437 (by decide) ?_
                  refine p_rd (x := pVal σ1 nC kk 0) (vx_runV (As := [.int (nI kk), .int 0]) (rest := []) ⟨hx, hb, hml, hown, hts⟩ (dr_value l hl9 G E2 o nC nV nG σ1 hO1 (k := kk) (n := 0) (by omega) (by omega)) (cwV 2 hts gL_plays_X4_value rfl rfl rfl (by decide +kernel) ⟨Nat.le_of_ble_eq_true rfl, Nat.le_of_ble_eq_true rfl⟩) (x_preV hX hS hW hOE1 rfl) rfl rfl hl.1 rfl (lv_room (Nat.le_of_ble_eq_true rfl)) dL_plays_438 ⟨by show _ ≤ 2200; omega, by show _ ≤ 14500; omega⟩) hS (fun H locs hW hS => ?_)
                  refine lv_ineg hx hb dL_plays_441 ?_
                  refine lv_iload hx hb dL_plays_442 (lv_at hl 2 rfl) ?_
                  refine lv_icmp_gt (tgt := 451) hx hb dL_plays_444 (by decide) (fun c9 => False.elim (by rw [hv266] at c9; exact absurd hvv (Int32.not_le.mpr c9))) (fun c444 => ?_)
                  refine lv_iconst (v := 1) hx hb dL_plays_447 (by decide) ?_
                  refine lv_goto (tgt := 452) hx hb dL_plays_448 (by decide) ?_
                  refine lv_istore (lv' := [(18, .int 1), (21, .int (((pOwn σ kk) &&& (((1 : Int32) <<< ((nI f) &&& 31)) ^^^ (-1))) ||| ((1 : Int32) <<< ((nI t) &&& 31)))), (20, .int r282), (19, .int v266), (17, .int (zI (pCan σ nC kk (nI f) (nI t)))), (16, .int (nI t)), (15, .int (nI f)), (12, .int (σ 15 kk)), (11, .int (pOth σ kk)), (10, .int (pOwn σ kk)), (9, .int (zI (pSec σ kk))), (8, .int (nI (dN σ kk))), (7, .int (nI kk)), (5, .long (pAll (σ) nV nG)), (0, .ref o), (1, .ref ma), (2, .ref ga), (3, .int x), (4, .int z), (13, .int (nI fo))]) hx hb dL_plays_452 hl (by decide) rfl (fun ls hl => ?_)
                  refine lv_iload hx hb dL_plays_454 (lv_at hl 0 rfl) ?_
                  refine lv_if_eq (tgt := 532) hx hb dL_plays_456 (by decide) (fun c9 => absurd c9 (by decide)) (fun _ => ?_)
                  refine lv_iload hx hb dL_plays_459 (lv_at hl 2 rfl) ?_
                  refine lv_iload hx hb dL_plays_461 (lv_at hl 10 rfl) ?_
                  refine x_join (ls' := ls) (rest' := [.int r282]) 471 (if pSec σ kk = true then (2 : Int32) else 1) (fun v ev => ?_) (fun J => ?_)
                  · subst ev
                    refine x_join (ls' := ls) (rest' := []) 479 (zI (if r282 = (if pSec σ kk = true then (2 : Int32) else 1) then true else false)) (fun v ev => ?_) (fun J => ?_)
                    · subst ev
                      refine lv_aload_n hx hb dL_plays_479 rfl (lv_at hl 14 rfl) ?_
                      refine lv_iload hx hb dL_plays_480 (lv_at hl 12 rfl) ?_
                      refine lv_iconst (v := 0) hx hb dL_plays_482 (by decide) ?_
                      refine p_rd (x := pVal σ1 nC kk 0) (vx_runV (As := [.int (nI kk), .int 0]) (rest := [.int (zI (if r282 = (if pSec σ kk = true then (2 : Int32) else 1) then true else false))]) ⟨hx, hb, hml, hown, hts⟩ (dr_value l hl9 G E2 o nC nV nG σ1 hO1 (k := kk) (n := 0) (by omega) (by omega)) (cwV 2 hts gL_plays_X4_value rfl rfl rfl (by decide +kernel) ⟨Nat.le_of_ble_eq_true rfl, Nat.le_of_ble_eq_true rfl⟩) (x_preV hX hS hW hOE1 rfl) rfl rfl hl.1 rfl (lv_room (Nat.le_of_ble_eq_true rfl)) dL_plays_483 ⟨by show _ ≤ 2200; omega, by show _ ≤ 14500; omega⟩) hS (fun H locs hW hS => ?_)
                      refine lv_bipush (v := (-100)) hx hb dL_plays_486 (by decide) ?_
                      refine x_join (ls' := ls) (rest' := [.int (zI (if r282 = (if pSec σ kk = true then (2 : Int32) else 1) then true else false))]) 496 (zI (if pVal σ1 nC kk 0 = (-100) then true else false)) (fun v ev => ?_) (fun J => ?_)
                      · subst ev
                        refine lv_icmp_ne (tgt := 532) hx hb dL_plays_496 (by decide) (fun c9 => False.elim (by exact c9 (congrArg zI (n_iff hiff)))) (fun c496 => ?_)
                        refine lv_iload hx hb dL_plays_499 (lv_at hl 2 rfl) ?_
                        refine lv_iload hx hb dL_plays_501 (lv_at hl 10 rfl) ?_
                        refine x_join (ls' := ls) (rest' := [.int r282]) 511 (if pSec σ kk = true then (1 : Int32) else 2) (fun v ev => ?_) (fun J => ?_)
                        · subst ev
                          refine lv_icmp_eq (tgt := 532) hx hb dL_plays_511 (by decide) (fun c9 => False.elim (by exact hne c9)) (fun c511 => ?_)
                          refine lv_iload hx hb dL_plays_514 (lv_at hl 11 rfl) ?_
                          refine lv_iconst (v := 1) hx hb dL_plays_516 (by decide) ?_
                          refine lv_iadd hx hb dL_plays_517 ?_
                          refine lv_bipush (v := 60) hx hb dL_plays_518 (by decide) ?_
                          refine p_jn 528 (ls' := ls) (rest' := []) ?_ (fun J528 => ?_)
                          · refine lv_iconst (v := 1) hx hb dL_plays_528 (by decide) ?_
                            refine lv_goto (tgt := 533) hx hb dL_plays_529 (by decide) ?_
                            exact vx_ret (W.widen (k := 2200) (n := 14500) (by omega) (by omega) (W.zret (v := 1) hx hb hr rfl (fun t ht hw9 => ⟨⟨_, E2, rfl, ⟨rfl, ⟨σ1, nC, nV, nG, hO1, hI1, hg1, pFr_of hF1, rfl, h11⟩⟩, (show xW G E2 t.heap from by rw [ht]; exact hW)⟩, hS.F ht⟩) hS.2.2 dL_plays_533))
                          · refine lv_icmp_lt (tgt := 528) hx hb dL_plays_520 (by decide) (fun c520 => ?_) (fun c520 => ?_)
                            · exact J528
                            · refine lv_iload hx hb dL_plays_523 (lv_at hl 2 rfl) ?_
                              refine lv_if_eq (tgt := 532) hx hb dL_plays_525 (by decide) (fun c9 => False.elim (by rcases h60 with h | h; exact c520 (by rw [nI_1]; exact nI_lt (b := 60) h (by omega)); exact h c9)) (fun c525 => ?_)
                              exact J528
                        · refine x_ifz_eq (b := pSec σ kk) (tgt := 510) hx hb dL_plays_503 (by decide) (fun cz => ?_) (fun cz => ?_)
                          · refine lv_iconst (v := 2) hx hb dL_plays_510 (by decide) ?_
                            exact J _ (by rw [cz]; rfl)
                          · refine lv_iconst (v := 1) hx hb dL_plays_506 (by decide) ?_
                            refine lv_goto (tgt := 511) hx hb dL_plays_507 (by decide) ?_
                            exact J _ (by rw [cz]; rfl)
                      · refine lv_icmp_ne (tgt := 495) hx hb dL_plays_488 (by decide) (fun cz => ?_) (fun cz => ?_)
                        · refine lv_iconst (v := 0) hx hb dL_plays_495 (by decide) ?_
                          exact J _ (congrArg zI (show false = (if pVal σ1 nC kk 0 = (-100) then true else false) from by skip; rw [if_neg cz]))
                        · refine lv_iconst (v := 1) hx hb dL_plays_491 (by decide) ?_
                          refine lv_goto (tgt := 496) hx hb dL_plays_492 (by decide) ?_
                          exact J _ (congrArg zI (show true = (if pVal σ1 nC kk 0 = (-100) then true else false) from by skip; rw [if_pos cz]))
                    · refine lv_icmp_ne (tgt := 478) hx hb dL_plays_471 (by decide) (fun cz => ?_) (fun cz => ?_)
                      · refine lv_iconst (v := 0) hx hb dL_plays_478 (by decide) ?_
                        exact J _ (congrArg zI (show false = (if r282 = (if pSec σ kk = true then (2 : Int32) else 1) then true else false) from by skip; rw [if_neg cz]))
                      · refine lv_iconst (v := 1) hx hb dL_plays_474 (by decide) ?_
                        refine lv_goto (tgt := 479) hx hb dL_plays_475 (by decide) ?_
                        exact J _ (congrArg zI (show true = (if r282 = (if pSec σ kk = true then (2 : Int32) else 1) then true else false) from by skip; rw [if_pos cz]))
                  · refine x_ifz_eq (b := pSec σ kk) (tgt := 470) hx hb dL_plays_463 (by decide) (fun cz => ?_) (fun cz => ?_)
                    · refine lv_iconst (v := 1) hx hb dL_plays_470 (by decide) ?_
                      exact J _ (by rw [cz]; rfl)
                    · refine lv_iconst (v := 2) hx hb dL_plays_466 (by decide) ?_
                      refine lv_goto (tgt := 471) hx hb dL_plays_467 (by decide) ?_
                      exact J _ (by rw [cz]; rfl)
                · refine x_ifz_ne (b := pSec σ kk) (tgt := 418) hx hb dL_plays_411 (by decide) (fun cz => ?_) (fun cz => ?_)
                  · refine lv_iconst (v := 0) hx hb dL_plays_418 (by decide) ?_
                    exact J _ (by rw [cz]; rfl)
                  · refine lv_iconst (v := 1) hx hb dL_plays_414 (by decide) ?_
                    refine lv_goto (tgt := 419) hx hb dL_plays_415 (by decide) ?_
                    exact J _ (by rw [cz]; rfl)
              · rw [hE9] at hW
                obtain ⟨hT2, hor⟩ := n_moveT hO hI hkk hf25 ht25 hT
                rw [hr9, hT2]
                refine lv_istore (lv' := [(20, .int (rEx 2)), (19, .int v266), (18, .int 1), (17, .int (zI (pCan σ nC kk (nI f) (nI t)))), (16, .int (nI t)), (15, .int (nI f)), (12, .int (σ 15 kk)), (11, .int (pOth σ kk)), (10, .int (pOwn σ kk)), (9, .int (zI (pSec σ kk))), (8, .int (nI (dN σ kk))), (7, .int (nI kk)), (5, .long (pAll (σ) nV nG)), (0, .ref o), (1, .ref ma), (2, .ref ga), (3, .int x), (4, .int z), (13, .int (nI fo))]) hx hb dL_plays_285 hl (by decide) rfl (fun ls hl => ?_)
                refine lv_iload hx hb dL_plays_287 (lv_at hl 0 rfl) ?_
                refine lv_if_ge (tgt := 343) hx hb dL_plays_289 (by decide) (fun c9 => False.elim (by exact rEx_neg _ c9)) (fun c289 => ?_)
                refine lv_iload hx hb dL_plays_292 (lv_at hl 2 rfl) ?_
                refine lv_if_eq (tgt := 341) hx hb dL_plays_294 (by decide) (fun c9 => absurd c9 (by decide)) (fun _ => ?_)
                refine lv_iload hx hb dL_plays_297 (lv_at hl 0 rfl) ?_
                refine lv_sipush (v := (-1023)) hx hb dL_plays_299 (by decide) ?_
                refine lv_icmp_ne (tgt := 341) hx hb dL_plays_302 (by decide) (fun c9 => False.elim (by exact c9 rfl)) (fun c302 => ?_)
                refine lv_aload_n hx hb dL_plays_305 rfl (lv_at hl 13 rfl) ?_
                refine lv_aload_n hx hb dL_plays_306 rfl (lv_at hl 15 rfl) ?_
                refine p_rdl (x := pAll (σ) nV nG) (vx_runS (As := [.ref o, .ref ga]) (rest := []) ⟨hx, hb, hml, hown, hts⟩ (kL_all l hl9 G E o ga nC nV nG (σ) hO hI hg) (va_cwS 2 hts gL_plays_L_all rfl rfl rfl (by decide +kernel) ⟨Nat.le_of_ble_eq_true rfl, Nat.le_of_ble_eq_true rfl⟩) (x_preS2 hX hNc hS hW) rfl rfl hl.1 rfl (lv_room (Nat.le_of_ble_eq_true rfl)) dL_plays_307 ⟨by show _ ≤ 2200; omega, by show _ ≤ 14500; omega⟩) hS (fun H locs hW hS => ?_)
                refine lv_lload hx hb dL_plays_310 (lv_at hl 12 rfl) ?_
                refine W.lcmp hx hb dL_plays_312 ?_
                refine lv_if_ne (tgt := 341) hx hb dL_plays_313 (by decide) (fun c9 => False.elim (by exact c9 (lg_cmp_self _))) (fun c313 => ?_)
                refine lv_iload hx hb dL_plays_316 (lv_at hl 3 rfl) ?_
                refine x_ifz_eq (b := pCan σ nC kk (nI f) (nI t)) (tgt := 337) hx hb dL_plays_318 (by decide) (fun c318 => ?_) (fun c318 => ?_)
                · refine lv_iconst (v := 1) hx hb dL_plays_337 (by decide) ?_
                  refine lv_goto (tgt := 342) hx hb dL_plays_338 (by decide) ?_
                  exact vx_ret (W.widen (k := 2200) (n := 14500) (by omega) (by omega) (W.zret (v := 1) hx hb hr rfl (fun t ht hw9 => ⟨⟨_, E, rfl, ⟨rfl, ⟨σ, nC, nV, nG, hO, hI, hg, pFr_rf, rfl, rfl⟩⟩, (show xW G E t.heap from by rw [ht]; exact hW)⟩, hS.F ht⟩) hS.2.2 dL_plays_342))
                · refine lv_iload hx hb dL_plays_321 (lv_at hl 6 rfl) ?_
                  refine lv_if_ne (tgt := 337) hx hb dL_plays_323 (by decide) (fun c9 => False.elim (by exact c9 (n_can hO hI hkk hf25 ht25 c318).1)) (fun c323 => ?_)
                  refine lv_aload_n hx hb dL_plays_326 rfl (lv_at hl 13 rfl) ?_
                  refine lv_aload_n hx hb dL_plays_327 rfl (lv_at hl 14 rfl) ?_
                  refine lv_iload hx hb dL_plays_328 (lv_at hl 11 rfl) ?_
                  refine p_ild (k := kk) (v := nI (vN σ kk)) hx hb hX.1 hW hma (vp_in_nI (by omega) (by omega)) (nI_clamp (by omega)) (hm9 kk hkk) dL_plays_330 ?_
                  refine p_rd (x := zI (pBan σ (vN σ kk))) (vx_runV (As := [.int (nI (vN σ kk))]) (rest := []) ⟨hx, hb, hml, hown, hts⟩ (dr_isBanned l hl9 G E o nC nV nG σ hO (v := vN σ kk) (hvN kk hkk)) (cwV 1 hts gL_plays_X4_isBanned rfl rfl rfl (by decide +kernel) ⟨Nat.le_of_ble_eq_true rfl, Nat.le_of_ble_eq_true rfl⟩) (x_preV hX hS hW hOE rfl) rfl rfl hl.1 rfl (lv_room (Nat.le_of_ble_eq_true rfl)) dL_plays_331 ⟨by show _ ≤ 2200; omega, by show _ ≤ 14500; omega⟩) hS (fun H locs hW hS => ?_)
                  refine x_ifz_eq (b := pBan σ (vN σ kk)) (tgt := 341) hx hb dL_plays_334 (by decide) (fun c9 => False.elim (by rcases hor with h | h; rw [c318] at h; cases h; rw [c9] at h; cases h)) (fun c334 => ?_)
                  refine lv_iconst (v := 1) hx hb dL_plays_337 (by decide) ?_
                  refine lv_goto (tgt := 342) hx hb dL_plays_338 (by decide) ?_
                  exact vx_ret (W.widen (k := 2200) (n := 14500) (by omega) (by omega) (W.zret (v := 1) hx hb hr rfl (fun t ht hw9 => ⟨⟨_, E, rfl, ⟨rfl, ⟨σ, nC, nV, nG, hO, hI, hg, pFr_rf, rfl, rfl⟩⟩, (show xW G E t.heap from by rw [ht]; exact hW)⟩, hS.F ht⟩) hS.2.2 dL_plays_342))
            · refine x_ifz_eq (b := pCan σ nC kk (nI f) (nI t)) (tgt := 255) hx hb dL_plays_226 (by decide) (fun c226 => ?_) (fun c226 => ?_)
              · exact J255
              · refine lv_iload hx hb dL_plays_229 (lv_at hl 3 rfl) ?_
                refine lv_if_ne (tgt := 259) hx hb dL_plays_231 (by decide) (fun c9 => False.elim (by exact c9 (n_can hO hI hkk hf25 ht25 c226).1)) (fun c231 => ?_)
                refine lv_iload hx hb dL_plays_234 (lv_at hl 5 rfl) ?_
                refine lv_iload hx hb dL_plays_236 (lv_at hl 2 rfl) ?_
                refine lv_ishr hx hb dL_plays_238 ?_
                refine lv_iconst (v := 1) hx hb dL_plays_239 (by decide) ?_
                refine lv_iand hx hb dL_plays_240 ?_
                refine lv_iconst (v := 1) hx hb dL_plays_241 (by decide) ?_
                refine lv_icmp_ne (tgt := 259) hx hb dL_plays_242 (by decide) (fun c9 => False.elim (by exact c9 (by rw [x_bit1 _ (by omega), if_pos (n_can hO hI hkk hf25 ht25 c226).2.1]))) (fun c242 => ?_)
                refine lv_iload hx hb dL_plays_245 (lv_at hl 5 rfl) ?_
                refine lv_iload hx hb dL_plays_247 (lv_at hl 1 rfl) ?_
                refine lv_ishr hx hb dL_plays_249 ?_
                refine lv_iconst (v := 1) hx hb dL_plays_250 (by decide) ?_
                refine lv_iand hx hb dL_plays_251 ?_
                refine lv_if_ne (tgt := 259) hx hb dL_plays_252 (by decide) (fun c9 => False.elim (by exact c9 (by rw [x_bit1 _ (by omega), if_neg (Bool.eq_false_iff.mp (n_can hO hI hkk hf25 ht25 c226).2.2)]))) (fun c252 => ?_)
                exact J255
          · refine p_loop 139 22 (fun i => [(14, .int (nI j127)), (12, .int (σ 15 kk)), (11, .int (pOth σ kk)), (10, .int (pOwn σ kk)), (9, .int (zI (pSec σ kk))), (8, .int (nI (dN σ kk))), (7, .int (nI kk)), (5, .long (pAll (σ) nV nG)), (0, .ref o), (1, .ref ma), (2, .ref ga), (3, .int x), (4, .int z), (15, .int (nI i)), (13, .int (nI (pFo j127 i)))]) (fun i => True) 625 3 18 (1980) (11900) ?_ 0 ls _ _ _ _ (by omega) trivial (by omega) (by omega) hW hS (lv_sub hl [1, 3, 4, 5, 6, 7, 8, 9, 10, 11, 12, 13, 14, 0, 2] rfl)
            intro i ls H locs cellsb slotsb hkb hIb hcb hsb hW hS hl ihb
            have hl : lv_has ls 22 [(14, .int (nI j127)), (12, .int (σ 15 kk)), (11, .int (pOth σ kk)), (10, .int (pOwn σ kk)), (9, .int (zI (pSec σ kk))), (8, .int (nI (dN σ kk))), (7, .int (nI kk)), (5, .long (pAll (σ) nV nG)), (0, .ref o), (1, .ref ma), (2, .ref ga), (3, .int x), (4, .int z), (15, .int (nI i)), (13, .int (nI (pFo j127 i)))] := hl
            have hfo := pFo_lt hj127 i
            refine lv_iload hx hb dL_plays_139 (lv_at hl 13 rfl) ?_
            refine lv_sipush (v := 625) hx hb dL_plays_141 (by decide) ?_
            refine lv_icmp_ge (tgt := 183) hx hb dL_plays_144 (by decide) (fun c144 => ?_) (fun c144 => ?_)
            · exact J183 (pFo j127 i) ls _ _ _ _ hfo (by omega) (by omega) hW hS (lv_sub hl [1, 2, 3, 4, 5, 6, 7, 8, 9, 10, 11, 12, 14] rfl)
            · have hk1b : i < 625 := x_nge (B := 625) c144 (by omega)
              refine lv_aload_n hx hb dL_plays_147 rfl (lv_at hl 8 rfl) ?_
              refine lv_iload hx hb dL_plays_148 (lv_at hl 6 rfl) ?_
              refine lv_iload hx hb dL_plays_150 (lv_at hl 14 rfl) ?_
              refine lv_bipush (v := 25) hx hb dL_plays_152 (by decide) ?_
              refine lv_idiv hx hb dL_plays_154 (by decide) ?_
              rw [show ((nI (pFo j127 i)) / 25 : Int32) = nI (pFo j127 i / 25) from pk_div (a := pFo j127 i) (d := 25) (by omega) (by omega) (by omega)]
              refine lv_iload hx hb dL_plays_155 (lv_at hl 14 rfl) ?_
              refine lv_bipush (v := 25) hx hb dL_plays_157 (by decide) ?_
              refine lv_irem hx hb dL_plays_159 (by decide) ?_
              rw [show ((nI (pFo j127 i)) - (nI (pFo j127 i)) / 25 * 25 : Int32) = nI (pFo j127 i % 25) from pk_rem (a := pFo j127 i) (d := 25) (by omega) (by omega) (by omega)]
              refine p_rd (x := zI (pCan σ nC kk (nI (pFo j127 i / 25)) (nI (pFo j127 i % 25)))) (vx_runV (As := [.int (nI kk), .int (nI (pFo j127 i / 25)), .int (nI (pFo j127 i % 25))]) (rest := []) ⟨hx, hb, hml, hown, hts⟩ (dr_can l hl9 G E o nC nV nG σ hO (k := kk) (f := pFo j127 i / 25) (t := pFo j127 i % 25) (by omega) (by omega) (by omega)) (cwV 3 hts gL_plays_X4_can rfl rfl rfl (by decide +kernel) ⟨Nat.le_of_ble_eq_true rfl, Nat.le_of_ble_eq_true rfl⟩) (x_preV hX hS hW hOE rfl) rfl rfl hl.1 rfl (lv_room (Nat.le_of_ble_eq_true rfl)) dL_plays_160 ⟨by show _ ≤ 2200; omega, by show _ ≤ 14500; omega⟩) hS (fun H locs hW hS => ?_)
              refine x_ifz_ne (b := pCan σ nC kk (nI (pFo j127 i / 25)) (nI (pFo j127 i % 25))) (tgt := 183) hx hb dL_plays_163 (by decide) (fun c163 => ?_) (fun c163 => ?_)
              · exact J183 (pFo j127 i) ls _ _ _ _ hfo (by omega) (by omega) hW hS (lv_sub hl [1, 2, 3, 4, 5, 6, 7, 8, 9, 10, 11, 12, 14] rfl)
              · refine lv_iload hx hb dL_plays_166 (lv_at hl 0 rfl) ?_
                refine lv_iload hx hb dL_plays_168 (lv_at hl 13 rfl) ?_
                refine lv_iadd hx hb dL_plays_170 ?_
                refine lv_sipush (v := 625) hx hb dL_plays_171 (by decide) ?_
                refine lv_irem hx hb dL_plays_174 (by decide) ?_
                rw [show (((nI j127) + (nI i)) - ((nI j127) + (nI i)) / 625 * 625 : Int32) = nI (pFo j127 (i + 1)) from pFo_I hj127 hk1b]
                refine lv_istore (lv' := [(13, .int (nI (pFo j127 (i + 1)))), (14, .int (nI j127)), (12, .int (σ 15 kk)), (11, .int (pOth σ kk)), (10, .int (pOwn σ kk)), (9, .int (zI (pSec σ kk))), (8, .int (nI (dN σ kk))), (7, .int (nI kk)), (5, .long (pAll (σ) nV nG)), (0, .ref o), (1, .ref ma), (2, .ref ga), (3, .int x), (4, .int z), (15, .int (nI i))]) hx hb dL_plays_175 hl (by decide) rfl (fun ls hl => ?_)
                refine lv_iinc (v := nI (i + 1)) (lv' := [(15, .int (nI (i + 1))), (13, .int (nI (pFo j127 (i + 1)))), (14, .int (nI j127)), (12, .int (σ 15 kk)), (11, .int (pOth σ kk)), (10, .int (pOwn σ kk)), (9, .int (zI (pSec σ kk))), (8, .int (nI (dN σ kk))), (7, .int (nI kk)), (5, .long (pAll (σ) nV nG)), (0, .ref o), (1, .ref ma), (2, .ref ga), (3, .int x), (4, .int z)]) hx hb dL_plays_177 hl (k := 14) rfl (nI_1 _) (by decide) rfl (fun ls hl => ?_)
                refine lv_goto (tgt := 139) hx hb dL_plays_180 (by decide) ?_
                exact ihb ls _ _ _ _ hk1b trivial (by omega) (by omega) hW hS (lv_sub hl [2, 3, 4, 5, 6, 7, 8, 9, 10, 11, 12, 13, 14, 0, 1] rfl)
        · refine x_ifz_ne (b := pSec σ kk) (tgt := 108) hx hb dL_plays_101 (by decide) (fun cz => ?_) (fun cz => ?_)
          · refine lv_iconst (v := 0) hx hb dL_plays_108 (by decide) ?_
            exact J _ (by rw [cz]; rfl)
          · refine lv_iconst (v := 1) hx hb dL_plays_104 (by decide) ?_
            refine lv_goto (tgt := 109) hx hb dL_plays_105 (by decide) ?_
            exact J _ (by rw [cz]; rfl)
      · refine lv_icmp_ne (tgt := 83) hx hb dL_plays_76 (by decide) (fun cz => ?_) (fun cz => ?_)
        · refine lv_iconst (v := 0) hx hb dL_plays_83 (by decide) ?_
          exact J _ (congrArg zI (show false = pSec σ kk from by unfold pSec fX1_isSecondToMove; rw [if_neg cz]))
        · refine lv_iconst (v := 1) hx hb dL_plays_79 (by decide) ?_
          refine lv_goto (tgt := 84) hx hb dL_plays_80 (by decide) ?_
          exact J _ (congrArg zI (show true = pSec σ kk from by unfold pSec fX1_isSecondToMove; rw [if_pos cz]))
    · refine lv_if_ne (tgt := 56) hx hb dL_plays_41 (by decide) (fun c41 => ?_) (fun c41 => ?_)
      · refine lv_aload_n hx hb dL_plays_56 rfl (lv_at hl 3 rfl) ?_
        refine lv_iconst (v := 2) hx hb dL_plays_57 (by decide) ?_
        refine p_ild (k := 2) (v := nI nG) hx hb hX.1 hW hg (show vp_in (nI 2) 3 from vp_in_nI (by omega) (by omega)) rfl rfl dL_plays_58 ?_
        refine lv_iconst (v := 1) hx hb dL_plays_59 (by decide) ?_
        refine lv_isub hx hb dL_plays_60 ?_
        rw [show ((nI nG) - 1 : Int32) = nI (nG - 1) from pk_sub (b := 1) (by omega)]
        exact J61 (nG - 1) (by omega)
      · refine lv_iload_n hx hb dL_plays_44 rfl (lv_at hl 4 rfl) ?_
        refine lv_iconst (v := 3) hx hb dL_plays_45 (by decide) ?_
        refine lv_ishr hx hb dL_plays_46 ?_
        refine lv_aload_n hx hb dL_plays_47 rfl (lv_at hl 3 rfl) ?_
        refine lv_iconst (v := 2) hx hb dL_plays_48 (by decide) ?_
        refine p_ild (k := 2) (v := nI nG) hx hb hX.1 hW hg (show vp_in (nI 2) 3 from vp_in_nI (by omega) (by omega)) rfl rfl dL_plays_49 ?_
        refine x_callSi (va_runS (As := [.int (x >>> (3 &&& 31)), .int (nI nG)]) (rest := []) ⟨hx, hb, hml, hown, hts⟩ (kS l (x >>> (3 &&& 31)) (N := nG) (by omega) (by omega)) (va_cwS 2 hts gL_plays_L_some rfl rfl rfl (by decide +kernel) ⟨Nat.le_of_ble_eq_true rfl, Nat.le_of_ble_eq_true rfl⟩) x_preT rfl rfl hl.1 rfl (lv_room (Nat.le_of_ble_eq_true rfl)) dL_plays_50 ⟨by show _ ≤ 2200; omega, by show _ ≤ 14500; omega⟩) (fun vj50 hvj50 => ?_)
        obtain ⟨j50, hj50, ej50, xj50⟩ := hvj50
        rw [ej50]
        refine lv_goto (tgt := 61) hx hb dL_plays_53 (by decide) ?_
        exact J61 j50 (by omega)
  · refine lv_aload_n hx hb dL_plays_6 rfl (lv_at hl 0 rfl) ?_
    refine lv_bipush (v := 6) hx hb dL_plays_7 (by decide) ?_
    refine lv_iconst (v := 0) hx hb dL_plays_9 (by decide) ?_
    refine lv_iconst (v := 0) hx hb dL_plays_10 (by decide) ?_
    refine lv_iconst (v := 1) hx hb dL_plays_11 (by decide) ?_
    refine lv_iconst (v := 0) hx hb dL_plays_12 (by decide) ?_
    refine lv_iconst (v := 0) hx hb dL_plays_13 (by decide) ?_
    refine p_rd (x := (-1021)) (vx_runSX (As := [.ref o, .int 6, .int 0, .int 0, .int 1, .int 0, .int 0]) (rest := []) ⟨hx, hb, hml, hown, hts⟩ (kR_move l hl9 G E o (0 : Int32) (0 : Int32) (1 : Int32) (0 : Int32) (0 : Int32) nC nV nG σ hO (x := -1021) (by rw [q_p0 (n_0 c3)]; decide) (by rw [q_p0 (n_0 c3)]; rfl)) (vx_cwSW 7 hts gL_plays_L_call rfl rfl rfl (by decide +kernel) ⟨Nat.le_of_ble_eq_true rfl, Nat.le_of_ble_eq_true rfl⟩) (x_preS2 hX hNc hS hW) rfl rfl hl.1 rfl (lv_room (Nat.le_of_ble_eq_true rfl)) dL_plays_14 ⟨by show _ ≤ 2200; omega, by show _ ≤ 14500; omega⟩) hS (fun H locs hW hS => ?_)
    refine lv_sipush (v := (-1021)) hx hb dL_plays_17 (by decide) ?_
    refine lv_icmp_ne (tgt := 27) hx hb dL_plays_20 (by decide) (fun c9 => absurd (by decide) c9) (fun _ => ?_)
    refine lv_iconst (v := 1) hx hb dL_plays_23 (by decide) ?_
    refine lv_goto (tgt := 28) hx hb dL_plays_24 (by decide) ?_
    exact vx_ret (W.widen (k := 2200) (n := 14500) (by omega) (by omega) (W.zret (v := 1) hx hb hr rfl (fun t ht hw9 => ⟨⟨_, E, rfl, ⟨rfl, ⟨σ, nC, nV, nG, hO, hI, hg, pFr_rf, rfl, rfl⟩⟩, (show xW G E t.heap from by rw [ht]; exact hW)⟩, hS.F ht⟩) hS.2.2 dL_plays_28))

