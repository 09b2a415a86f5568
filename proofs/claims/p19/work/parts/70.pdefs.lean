/-! p19: the numbers of a state as the law sees them, what holds of them -/
def gF (nC nV nG : Nat) : Nat → Int32 := fun k => if k = 0 then nI nC else if k = 1 then nI nV else if k = 2 then nI nG else 0
theorem p_ild {p : Program} {l : Launch} {e : Env} {R : Room} {s : State} {m : MethodId} {args : Array Value} {below : List Frame} {meth : Method} {c : Code} {H : Heap} {locs : List Loc} {cells slots : Nat} {Q : State → Prop} {cc : ByteArray} {pc : Nat} {ls : Array Slot} {rest : List Value} {G : xG} {E : xE} {a : Nat}
    {n : Nat} {f : Nat → Int32} {i : Int32} {k : Nat} {v : Int32} (hexec : p.tables.exec = Jvm.exec) (hb : c.code = cc) (hK : va_K G.1 vwCl (xtys G) s) (hW : xW G E H) (ha : E a = some (.inl (G.2.1 0, n, .inl f))) (hin : vp_in i n) (hk : i.toNatClampNeg = k) (hv : f k = v) (hdg : decode cc pc = .ok (.iaload, 1))
    (kk : W p l e R s m args below meth c H locs cells slots Q (F0 m (pc + 1) ls (.int v :: rest))) : W p l e R s m args below meth c H locs cells slots Q (F0 m pc ls (.int i :: .ref a :: rest)) := by
  subst hv
  exact x_ild hexec hb hK hW ha hin hk hdg kk
def dN (σ : xSg) (k : Nat) : Nat := (σ 16 k).toNatClampNeg
def vN (σ : xSg) (k : Nat) : Nat := (σ 11 k).toNatClampNeg
def pP1 (σ : xSg) (k : Nat) : Int32 := σ 17 (61 * k + dN σ k)
def pP2 (σ : xSg) (k : Nat) : Int32 := σ 18 (61 * k + dN σ k)
def pPc (σ : xSg) (k : Nat) (b : Bool) : Int32 := if b = true then pP2 σ k else pP1 σ k
def pSec (σ : xSg) (k : Nat) : Bool := fX1_isSecondToMove (nI (dN σ k))
def pOwn (σ : xSg) (k : Nat) : Int32 := fX1_ofMover (pP1 σ k) (pP2 σ k) (nI (dN σ k))
def pOth (σ : xSg) (k : Nat) : Int32 := fX1_ofWaiting (pP1 σ k) (pP2 σ k) (nI (dN σ k))
def pCan (σ : xSg) (nC k : Nat) (f t : Int32) : Bool := fX1_allows σ nC (σ 12 k) (σ 6 (vN σ k)) (pP1 σ k) (pP2 σ k) (nI (dN σ k)) (σ 15 k) f t
def pCab (σ : xSg) (nC k : Nat) (f t : Int32) : Bool := fcanBy (σ 15 k) (fX4_isAmongAllMoves σ nC (σ 12 k) (σ 6 (vN σ k)) (pP1 σ k) (pP2 σ k) (nI (dN σ k)) f t)
def pVal (σ : xSg) (nC k n : Nat) : Int32 := vX4_searchWithCuts σ nC (σ 12 k) (σ 6 (vN σ k)) n (pOwn σ k) (pOth σ k) (pSec σ k) (-100) 100
def pVab (σ : xSg) (nC k n : Nat) : Int32 := vX4_searchAll σ nC (σ 12 k) (σ 6 (vN σ k)) n (pOwn σ k) (pOth σ k) (pSec σ k)
def pMv (σ : xSg) (nC k : Nat) : Bool := fX2_hasMove σ nC (σ 12 k) (σ 6 (vN σ k)) (pOwn σ k) (pOth σ k) (pSec σ k)
def pBan (σ : xSg) (v : Nat) : Bool := fX3_isOut (σ 8 v) (σ 9 v)
def pPts (σ : xSg) (nG v : Nat) (a : Int32) : Int32 := if fX3_isOut (σ 8 v) (σ 9 v) = true then 0 else gX4_points σ nG v a 13 0 0
/-- what holds of a game -/
def pGi (σ : xSg) (nC u : Nat) : Prop :=
  (σ 15 u = 0 ∨ σ 15 u = 1 ∨ σ 15 u = 2 ∨ σ 15 u = 3) ∧ (∃ c : Nat, c < 2 ^ nC ∧ σ 12 u = nI c) ∧
  (∃ a b : Nat, a < 2 ^ 25 ∧ b < 2 ^ 25 ∧ pP1 σ u = nI a ∧ pP2 σ u = nI b ∧ pS a 25 0 ≤ 6 ∧ pS b 25 0 ≤ 6 ∧ a &&& b = 0 ∧ (a = 0 → σ 15 u = 2) ∧ (b = 0 → σ 15 u = 1)) ∧
  (σ 15 u = 0 → pMv σ nC u = true) ∧ (σ 15 u = 1 → pMv σ nC u = false ∧ pSec σ u = true) ∧ (σ 15 u = 2 → pMv σ nC u = false ∧ pSec σ u = false)
/-- the endless games of the first n variants, the drawn ones of the first n games -/
def sE (σ : xSg) : Nat → Nat
  | 0 => 0
  | n + 1 => sE σ n + (σ 9 n).toNatClampNeg
def cD (σ : xSg) : Nat → Nat
  | 0 => 0
  | n + 1 => cD σ n + (if σ 15 n = 3 then 1 else 0)
/-- what holds of the numbers of a state -/
def pI (σ : xSg) (nC nV nG : Nat) : Prop :=
  xInv σ nC nV nG ∧ (∀ v, v < nV → ∃ c : Nat, 1 ≤ c ∧ c < 2 ^ nC ∧ σ 7 v = nI c) ∧ (∀ u, u < nG → pGi σ nC u) ∧ (∀ v, v < nV → ∃ e : Nat, e ≤ 12 ∧ σ 9 v = nI e) ∧ sE σ nV ≤ cD σ nG ∧
  (∀ u, u < nG → ∃ d v : Nat, xGm σ u d v ∧ v < nV ∧ (σ 15 u = 0 → d < 60))
/-- what the law counts up -/
def pGs (σ : xSg) : Nat → Int64
  | 0 => 7
  | k + 1 => ((((((pGs σ k) * 4) + ((σ 15 k).toInt64)) * 61) + ((nI (dN σ k)).toInt64)) * 1000003 + ((pPc σ k false).toInt64)) * 1000003 + ((pPc σ k true).toInt64)
def pPs (σ : xSg) (nG v : Nat) (h : Int64) : Nat → Int64
  | 0 => h
  | k + 1 => (pPs σ nG v h k) * 41 + ((pPts σ nG v (nI k)).toInt64)
def pVs (σ : xSg) (nG : Nat) : Nat → Int64
  | 0 => pGs σ nG
  | k + 1 => pPs σ nG k ((((pVs σ nG k) * 2) + ((zI (pBan σ k)).toInt64)) * 13 + ((σ 9 k).toInt64)) 5
def pAll (σ : xSg) (nV nG : Nat) : Int64 := pVs σ nG nV
/-- the points of the first n players in a variant -/
def pSm (σ : xSg) (nG v : Nat) : Nat → Int32
  | 0 => 0
  | n + 1 => (pSm σ nG v n) + (pPts σ nG v (nI n))

theorem dr_state (l : Launch) (hl9 : l.stackTraces = false) (G : xG) (E : xE) (o nC nV nG : Nat) (σ : xSg) (hO : pOb G E o σ nC nV nG) {k : Nat} (hk : k < nG) : vx_Met l yX4_state wsX4_state ({ frames := 7, cells := 1, slots := 6, locals := 112 }) (va_Pc [.ref o, .int (nI k)] (xB G E)) (va_Qi (S := xE) (pRd (σ 15 k) E) (fun E' t => xW G E' t.heap) (xA G)) (xX G E (fun _ => False)) 1 6 (xA G) := by
  obtain ⟨h0, h5, h10, hC, hV, hG⟩ := hO.nums
  refine p_mono (k_state l hl9 G E o (nI k) nC nV nG σ hO) (fun _ h => h) (fun r E' h => ?_) (fun n9 h => xEx_ne h (by unfold tX4_state; rw [if_pos (tIx_ok hk (by omega))]))
  obtain ⟨_, hE, u, d, v, hu, hug, hvn, xg, hop, hr⟩ := h
  obtain rfl : k = u := (nI_eq (by omega) (by omega)).mp hu
  refine ⟨?_, hE⟩
  have hd : dN σ k = d := by unfold dN; rw [xg.2.1]; exact nI_clamp (by have := xg.2.2.1; omega)
  have hv9 : vN σ k = v := by unfold vN; rw [xg.2.2.2.1]; exact nI_clamp (by omega)
  rw [hr]
theorem dr_made (l : Launch) (hl9 : l.stackTraces = false) (G : xG) (E : xE) (o nC nV nG : Nat) (σ : xSg) (hO : pOb G E o σ nC nV nG) {k : Nat} (hk : k < nG) : vx_Met l yX4_made wsX4_made ({ frames := 7, cells := 1, slots := 6, locals := 112 }) (va_Pc [.ref o, .int (nI k)] (xB G E)) (va_Qi (S := xE) (pRd (nI (dN σ k)) E) (fun E' t => xW G E' t.heap) (xA G)) (xX G E (fun _ => False)) 1 6 (xA G) := by
  obtain ⟨h0, h5, h10, hC, hV, hG⟩ := hO.nums
  refine p_mono (k_made l hl9 G E o (nI k) nC nV nG σ hO) (fun _ h => h) (fun r E' h => ?_) (fun n9 h => xEx_ne h (by unfold tX4_made; rw [if_pos (tIx_ok hk (by omega))]))
  obtain ⟨_, hE, u, d, v, hu, hug, hvn, xg, hop, hr⟩ := h
  obtain rfl : k = u := (nI_eq (by omega) (by omega)).mp hu
  refine ⟨?_, hE⟩
  have hd : dN σ k = d := by unfold dN; rw [xg.2.1]; exact nI_clamp (by have := xg.2.2.1; omega)
  have hv9 : vN σ k = v := by unfold vN; rw [xg.2.2.2.1]; exact nI_clamp (by omega)
  rw [hr, hd]
theorem dr_pieces (l : Launch) (hl9 : l.stackTraces = false) (G : xG) (E : xE) (o nC nV nG : Nat) (σ : xSg) (hO : pOb G E o σ nC nV nG) {k : Nat} (hk : k < nG) (b : Bool) : vx_Met l yX4_pieces wsX4_pieces ({ frames := 7, cells := 1, slots := 6, locals := 112 }) (va_Pc [.ref o, .int (nI k), .int (zI b)] (xB G E)) (va_Qi (S := xE) (pRd (pPc σ k b) E) (fun E' t => xW G E' t.heap) (xA G)) (xX G E (fun _ => False)) 1 6 (xA G) := by
  obtain ⟨h0, h5, h10, hC, hV, hG⟩ := hO.nums
  refine p_mono (k_pieces l hl9 G E o (nI k) b nC nV nG σ hO) (fun _ h => h) (fun r E' h => ?_) (fun n9 h => xEx_ne h (by unfold tX4_pieces; rw [if_pos (tIx_ok hk (by omega))]))
  obtain ⟨_, hE, u, d, v, hu, hug, hvn, xg, hop, hr⟩ := h
  obtain rfl : k = u := (nI_eq (by omega) (by omega)).mp hu
  refine ⟨?_, hE⟩
  have hd : dN σ k = d := by unfold dN; rw [xg.2.1]; exact nI_clamp (by have := xg.2.2.1; omega)
  have hv9 : vN σ k = v := by unfold vN; rw [xg.2.2.2.1]; exact nI_clamp (by omega)
  rw [hr]; unfold pPc pP1 pP2; rw [hd]
theorem p_cell {f : Nat} (hf : f < 25) : tX4_checkCell (nI f) = 0 := by rw [x_cc]; exact tIx_ok hf (by omega)
theorem p_player {f : Nat} (hf : f < 5) : tX4_checkPlayer (nI f) = 0 := by rw [x_cp]; exact tIx_ok hf (by omega)
theorem p_depth : ∀ n : Fin 3, tX4_checkDepth (nI n.val) = 0 := by decide +kernel

theorem dr_can (l : Launch) (hl9 : l.stackTraces = false) (G : xG) (E : xE) (o nC nV nG : Nat) (σ : xSg) (hO : pOb G E o σ nC nV nG) {k f t : Nat} (hk : k < nG) (hf : f < 25) (ht : t < 25) : vx_Met l yX4_can wsX4_can ({ frames := 7, cells := 3, slots := 18, locals := 112 }) (va_Pc [.ref o, .int (nI k), .int (nI f), .int (nI t)] (xB G E)) (va_Qi (S := xE) (pRd (zI (pCan σ nC k (nI f) (nI t))) E) (fun E' t => xW G E' t.heap) (xA G)) (xX G E (fun _ => False)) 3 18 (xA G) := by
  obtain ⟨h0, h5, h10, hC, hV, hG⟩ := hO.nums
  refine p_mono (k_can l hl9 G E o (nI k) (nI f) (nI t) nC nV nG σ hO) (fun _ h => h) (fun r E' h => ?_) (fun n9 h => xEx_ne h (by unfold tX4_can; rw [if_pos (tIx_ok hk (by omega)), if_pos (p_cell hf), if_pos (p_cell ht)]))
  obtain ⟨_, hE, u, d, v, hu, hug, hvn, xg, hop, hr⟩ := h
  obtain rfl : k = u := (nI_eq (by omega) (by omega)).mp hu
  refine ⟨?_, hE⟩
  have hd : dN σ k = d := by unfold dN; rw [xg.2.1]; exact nI_clamp (by have := xg.2.2.1; omega)
  have hv9 : vN σ k = v := by unfold vN; rw [xg.2.2.2.1]; exact nI_clamp (by omega)
  rw [hr]; unfold pCan pP1 pP2; rw [hd, hv9]
theorem dr_canByAll (l : Launch) (hl9 : l.stackTraces = false) (G : xG) (E : xE) (o nC nV nG : Nat) (σ : xSg) (hO : pOb G E o σ nC nV nG) {k f t : Nat} (hk : k < nG) (hf : f < 25) (ht : t < 25) : vx_Met l yX4_canByAll wsX4_canByAll ({ frames := 7, cells := 3, slots := 18, locals := 112 }) (va_Pc [.ref o, .int (nI k), .int (nI f), .int (nI t)] (xB G E)) (va_Qi (S := xE) (pRd (zI (pCab σ nC k (nI f) (nI t))) E) (fun E' t => xW G E' t.heap) (xA G)) (xX G E (fun _ => False)) 3 18 (xA G) := by
  obtain ⟨h0, h5, h10, hC, hV, hG⟩ := hO.nums
  refine p_mono (k_canByAll l hl9 G E o (nI k) (nI f) (nI t) nC nV nG σ hO) (fun _ h => h) (fun r E' h => ?_) (fun n9 h => xEx_ne h (by unfold tX4_canByAll tX4_can; rw [if_pos (tIx_ok hk (by omega)), if_pos (p_cell hf), if_pos (p_cell ht)]))
  obtain ⟨_, hE, u, d, v, hu, hug, hvn, xg, hop, hr⟩ := h
  obtain rfl : k = u := (nI_eq (by omega) (by omega)).mp hu
  refine ⟨?_, hE⟩
  have hd : dN σ k = d := by unfold dN; rw [xg.2.1]; exact nI_clamp (by have := xg.2.2.1; omega)
  have hv9 : vN σ k = v := by unfold vN; rw [xg.2.2.2.1]; exact nI_clamp (by omega)
  rw [hr]; unfold pCab pP1 pP2; rw [hd, hv9]
theorem dr_value (l : Launch) (hl9 : l.stackTraces = false) (G : xG) (E : xE) (o nC nV nG : Nat) (σ : xSg) (hO : pOb G E o σ nC nV nG) {k n : Nat} (hk : k < nG) (hn : n < 3) : vx_Met l yX4_value wsX4_value ({ frames := 7, cells := 2, slots := 12, locals := 198 }) (va_Pc [.ref o, .int (nI k), .int (nI n)] (xB G E)) (va_Qi (S := xE) (pRd (pVal σ nC k n) E) (fun E' t => xW G E' t.heap) (xA G)) (xX G E (fun _ => False)) 2 12 (xA G) := by
  obtain ⟨h0, h5, h10, hC, hV, hG⟩ := hO.nums
  refine p_mono (k_value l hl9 G E o (nI k) (nI n) nC nV nG σ hO) (fun _ h => h) (fun r E' h => ?_) (fun n9 h => xEx_ne h (by unfold tX4_value; rw [if_pos (tIx_ok hk (by omega)), if_pos (p_depth ⟨n, hn⟩)]))
  obtain ⟨_, hE, u, d, v, hu, hug, hvn, xg, hop, hr⟩ := h
  obtain rfl : k = u := (nI_eq (by omega) (by omega)).mp hu
  refine ⟨?_, hE⟩
  have hd : dN σ k = d := by unfold dN; rw [xg.2.1]; exact nI_clamp (by have := xg.2.2.1; omega)
  have hv9 : vN σ k = v := by unfold vN; rw [xg.2.2.2.1]; exact nI_clamp (by omega)
  rw [hr]; unfold pVal pOwn pOth pSec pP1 pP2; rw [hd, hv9, nI_clamp (by omega)]
theorem dr_valueByAll (l : Launch) (hl9 : l.stackTraces = false) (G : xG) (E : xE) (o nC nV nG : Nat) (σ : xSg) (hO : pOb G E o σ nC nV nG) {k n : Nat} (hk : k < nG) (hn : n < 3) : vx_Met l yX4_valueByAll wsX4_valueByAll ({ frames := 7, cells := 2, slots := 12, locals := 189 }) (va_Pc [.ref o, .int (nI k), .int (nI n)] (xB G E)) (va_Qi (S := xE) (pRd (pVab σ nC k n) E) (fun E' t => xW G E' t.heap) (xA G)) (xX G E (fun _ => False)) 2 12 (xA G) := by
  obtain ⟨h0, h5, h10, hC, hV, hG⟩ := hO.nums
  refine p_mono (k_valueByAll l hl9 G E o (nI k) (nI n) nC nV nG σ hO) (fun _ h => h) (fun r E' h => ?_) (fun n9 h => xEx_ne h (by unfold tX4_valueByAll; rw [if_pos (tIx_ok hk (by omega)), if_pos (p_depth ⟨n, hn⟩)]))
  obtain ⟨_, hE, u, d, v, hu, hug, hvn, xg, hop, hr⟩ := h
  obtain rfl : k = u := (nI_eq (by omega) (by omega)).mp hu
  refine ⟨?_, hE⟩
  have hd : dN σ k = d := by unfold dN; rw [xg.2.1]; exact nI_clamp (by have := xg.2.2.1; omega)
  have hv9 : vN σ k = v := by unfold vN; rw [xg.2.2.2.1]; exact nI_clamp (by omega)
  rw [hr]; unfold pVab pOwn pOth pSec pP1 pP2; rw [hd, hv9, nI_clamp (by omega)]
theorem dr_isBanned (l : Launch) (hl9 : l.stackTraces = false) (G : xG) (E : xE) (o nC nV nG : Nat) (σ : xSg) (hO : pOb G E o σ nC nV nG) {v : Nat} (hv : v < nV) : vx_Met l yX4_isBanned wsX4_isBanned ({ frames := 7, cells := 1, slots := 6, locals := 112 }) (va_Pc [.ref o, .int (nI v)] (xB G E)) (va_Qi (S := xE) (pRd (zI (pBan σ v)) E) (fun E' t => xW G E' t.heap) (xA G)) (xX G E (fun _ => False)) 1 6 (xA G) := by
  obtain ⟨h0, h5, h10, hC, hV, hG⟩ := hO.nums
  refine p_mono (k_isBanned l hl9 G E o (nI v) nC nV nG σ hO) (fun _ h => h) (fun r E' h => ?_) (fun n9 h => xEx_ne h (by unfold tX4_isBanned; rw [if_pos (tIx_ok hv (by omega))]))
  obtain ⟨_, hE, w, hw, hwn, hr⟩ := h
  obtain rfl : v = w := (nI_eq (by omega) (by omega)).mp hw
  exact ⟨hr, hE⟩
theorem dr_endless (l : Launch) (hl9 : l.stackTraces = false) (G : xG) (E : xE) (o nC nV nG : Nat) (σ : xSg) (hO : pOb G E o σ nC nV nG) {v : Nat} (hv : v < nV) : vx_Met l yX4_endless wsX4_endless ({ frames := 7, cells := 1, slots := 6, locals := 112 }) (va_Pc [.ref o, .int (nI v)] (xB G E)) (va_Qi (S := xE) (pRd (σ 9 v) E) (fun E' t => xW G E' t.heap) (xA G)) (xX G E (fun _ => False)) 1 6 (xA G) := by
  obtain ⟨h0, h5, h10, hC, hV, hG⟩ := hO.nums
  refine p_mono (k_endless l hl9 G E o (nI v) nC nV nG σ hO) (fun _ h => h) (fun r E' h => ?_) (fun n9 h => xEx_ne h (by unfold tX4_endless; rw [if_pos (tIx_ok hv (by omega))]))
  obtain ⟨_, hE, w, hw, hwn, hr⟩ := h
  obtain rfl : v = w := (nI_eq (by omega) (by omega)).mp hw
  exact ⟨hr, hE⟩
theorem dr_points (l : Launch) (hl9 : l.stackTraces = false) (G : xG) (E : xE) (o nC nV nG : Nat) (σ : xSg) (hO : pOb G E o σ nC nV nG) {v p : Nat} (hp : p < 5) (hv : v < nV) : vx_Met l yX4_points wsX4_points ({ frames := 7, cells := 2, slots := 12, locals := 112 }) (va_Pc [.ref o, .int (nI p), .int (nI v)] (xB G E)) (va_Qi (S := xE) (pRd (pPts σ nG v (nI p)) E) (fun E' t => xW G E' t.heap) (xA G)) (xX G E (fun _ => False)) 2 12 (xA G) := by
  obtain ⟨h0, h5, h10, hC, hV, hG⟩ := hO.nums
  refine p_mono (k_points l hl9 G E o (nI p) (nI v) nC nV nG σ hO) (fun _ h => h) (fun r E' h => ?_) (fun n9 h => xEx_ne h (by unfold tX4_points; rw [if_pos (p_player hp), if_pos (tIx_ok hv (by omega))]))
  obtain ⟨_, hE, w, hw, hwn, hr⟩ := h
  obtain rfl : v = w := (nI_eq (by omega) (by omega)).mp hw
  exact ⟨hr, hE⟩
theorem dr_setCards (l : Launch) (hl9 : l.stackTraces = false) (G : xG) (E : xE) (o nC nV nG : Nat) (σ : xSg) (hO : pOb G E o σ nC nV nG) {v c : Nat} (hv : v < nV) (hs : fX4_isSetOfCards (nI nC) (nI c) = true) : vx_Met l yX4_setCards wsX4_setCards ({ frames := 7, cells := 2, slots := 12, locals := 112 }) (va_Pc [.ref o, .int (nI v), .int (nI c)] (xB G E)) (va_Qi (S := xE) (d_setCards G E o (nI v) (nI c) nC nV nG σ) (fun E' t => xW G E' t.heap) (xA G)) (xX G E (fun _ => False)) 2 12 (xA G) := by
  obtain ⟨h0, h5, h10, hC, hV, hG⟩ := hO.nums
  exact p_mono (k_setCards l hl9 G E o (nI v) (nI c) nC nV nG σ hO) (fun _ h => h) (fun r E' h => h) (fun n9 h => xEx_ne h (by unfold tX4_setCards; rw [if_pos (tIx_ok hv (by omega)), if_pos hs]))
theorem dr_vote (l : Launch) (hl9 : l.stackTraces = false) (G : xG) (E : xE) (o nC nV nG : Nat) (σ : xSg) (hO : pOb G E o σ nC nV nG) {v p : Nat} (hp : p < 5) (hv : v < nV) : vx_Met l yX4_vote wsX4_vote ({ frames := 7, cells := 2, slots := 12, locals := 112 }) (va_Pc [.ref o, .int (nI p), .int (nI v)] (xB G E)) (va_Qi (S := xE) (d_vote G E o (nI p) (nI v) nC nV nG σ) (fun E' t => xW G E' t.heap) (xA G)) (xX G E (fun _ => False)) 2 12 (xA G) := by
  obtain ⟨h0, h5, h10, hC, hV, hG⟩ := hO.nums
  exact p_mono (k_vote l hl9 G E o (nI p) (nI v) nC nV nG σ hO) (fun _ h => h) (fun r E' h => h) (fun n9 h => xEx_ne h (by unfold tX4_vote; rw [if_pos (p_player hp), if_pos (tIx_ok hv (by omega))]))
