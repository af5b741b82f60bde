/-! the class's leaves: numbers, rows, exposures, pieces -/
def zhas (a b : Int32) : Bool := !decide ((a >>> (b &&& 31)) &&& 1 = 0)
def zwi (x lo hi : Int32) : Bool := !decide (x < lo) && !decide (hi < x)
def zat (N : Nat) (f : Nat → Int32) (i : Int32) : Int32 := if i < 0 then 0 else if nI N ≤ i then 0 else f i.toNatClampNeg
def zatL (N : Nat) (f : Nat → Int64) (i : Int32) : Int64 := if i < 0 then 0 else if nI N ≤ i then 0 else f i.toNatClampNeg
def zput (N : Nat) (f : Nat → Int32) (i x : Int32) : Nat → Int32 := if i < 0 then f else if nI N ≤ i then f else upd f i.toNatClampNeg x
def pct (s p : Int32) : Int32 := (s.toInt64 * p.toInt64 / 100).toInt32
def amt (g : Nat → Nat → Int32) (i : Nat) : Int32 := g 5 i + pct (g 6 i) 40
def vl1 (g : Nat → Nat → Int32) (j i : Nat) : Int32 := if g 13 j = g 7 i then pct (g 11 j) (100 - g 12 j) else pct (pct (g 11 j) (100 - g 12 j)) 92
def vl (g : Nat → Nat → Int32) (j i : Nat) : Int32 := if g 8 i ≤ g 14 j then vl1 g j i else ((vl1 g j i).toInt64 * (g 14 j).toInt64 / (g 8 i).toInt64).toInt32
theorem zset_self {α : Type} {ws : List α} {q0 : Nat} {x : α} (h : ws[q0]? = some x) : ws.set q0 x = ws := by
  apply List.ext_getElem?
  intro i
  by_cases hi : i = q0
  · subst hi; rw [List.getElem?_set_self (List.getElem?_eq_some_iff.mp h).1, h]
  · rw [List.getElem?_set_ne (fun e => hi e.symm)]
theorem zin_of {x : Int32} {N : Nat} (hN : N < 2 ^ 31) (h0 : ¬ x < 0) (h1 : ¬ nI N ≤ x) : vp_in x N := by
  rw [vp_in_iff]
  rw [Int32.lt_iff_toInt_lt, Int32.toInt_zero] at h0
  rw [Int32.le_iff_toInt_le, nI_toInt hN] at h1
  omega
theorem zex_lo {x : Int32} {n : Nat} (hn : n < 2 ^ 31) (h : x < 0) : ∀ i, i < n → x ≠ nI i := by
  intro i hi e; subst e; exact nI_pos (by omega) h
theorem zex_hi {x : Int32} {n N : Nat} (hn : n ≤ N) (hN : N < 2 ^ 31) (h : nI N ≤ x) : ∀ i, i < n → x ≠ nI i := by
  intro i hi e; subst e; exact nI_ge (show i < N by omega) hN h
theorem zex_in {ad : Nat → Nat} {x : Int32} {n N : Nat} (hn : n ≤ N) (hN : N < 2 ^ 31) (h0 : ¬ x < 0) (h1 : ¬ nI N ≤ x) : zexP ad n x (zbk ad n x.toNatClampNeg) := by
  obtain ⟨j, hj, rfl⟩ := vp_in_of (zin_of hN h0 h1) hN
  rw [nI_clamp (by omega)]
  by_cases h : j < n
  · exact Or.inl ⟨j, h, rfl, by simp [zbk, h]⟩
  · exact Or.inr ⟨by simp [zbk, h], fun i hi e => h (by rw [(nI_eq (by omega) (by omega)).mp e]; exact hi)⟩
theorem zpi_in {ad : Nat → Nat} {x : Int32} {n N : Nat} (hn : n ≤ N) (hN : N < 2 ^ 31) (h0 : ¬ x < 0) (h1 : ¬ nI N ≤ x) : zpiP ad n x (zcl ad n x.toNatClampNeg) := by
  obtain ⟨j, hj, rfl⟩ := vp_in_of (zin_of hN h0 h1) hN
  rw [nI_clamp (by omega)]
  by_cases h : j < n
  · exact Or.inl ⟨j, h, rfl, by simp [zcl, h]⟩
  · exact Or.inr ⟨by simp [zcl, h], fun i hi e => h (by rw [(nI_eq (by omega) (by omega)).mp e]; exact hi)⟩
theorem zrf (r : Option Nat) : va_rf r = .null ∨ ∃ a, va_rf r = .ref a := by
  cases r
  · exact Or.inl rfl
  · exact Or.inr ⟨_, rfl⟩
theorem zdpos {x : Int32} (h : 1 ≤ x.toInt) : ¬ x ≤ 0 := by
  rw [Int32.le_iff_toInt_le, Int32.toInt_zero]; omega
theorem zd64 {x : Int32} (h : 1 ≤ x.toInt) : ¬ x.toInt64 = 0 := by
  intro e
  have := congrArg Int64.toInt e
  rw [Int32.toInt_toInt64, Int64.toInt_zero] at this
  omega

set_option maxHeartbeats 4000000 in
set_option maxRecDepth 100000 in
theorem zX3_has (l : Launch) (D : va_G) (cI cL cE cP : ClassId) (ws : va_W) (a b : Int32) : Met l yX3_has wsX3_has ({ frames := 0, cells := 0, slots := 0, locals := 0 }) (zPr D cI cL cE cP (ws) [.int a, .int b]) (vp_Si (fun r : Int32 => r = zb (zhas a b))) 0 0 (fun _ => False) := by
  refine Met.ofW (cc := cX3_has) (maxL := 2) (ret := (some .boolean)) (by decide) rfl ?_
  intro p e s m args below meth c s₁ B hml hv
  obtain ⟨rfl, hE, hP⟩ := hv
  have hx := B.exec
  have hb := B.bytes
  have hr := B.returns
  have hts := atoms_spec (ws := wsX3_has) B.pre
  have hown : s.vm.findClass RX3 = some m.cls := findClass_of_methodNamed B.named
  have hlocks := B.notSynchronized
  have hK := hE.1
  have hl := lv_entry ([.int a, .int b]) (n := 2) (Nat.le_of_ble_eq_true rfl)
  rw [lg_entry_eq]
  generalize (lg_sl ([.int a, .int b]) ++ List.replicate (2 - (lg_sl ([.int a, .int b])).length) Slot.unset).toArray = ls at hl ⊢
  have hl : lv_has ls 2 [(0, .int a), (1, .int b)] := hl
  refine lv_iload_n hx hb dX3_has_0 rfl (lv_at hl 0 rfl) ?_
  refine lv_iload_n hx hb dX3_has_1 rfl (lv_at hl 1 rfl) ?_
  refine lv_ishr hx hb dX3_has_2 ?_
  refine lv_iconst (v := 1) hx hb dX3_has_3 (by decide) ?_
  refine lv_iand hx hb dX3_has_4 ?_
  refine lv_if_eq (tgt := 12) hx hb dX3_has_5 (by decide) (fun c_1 => ?_) (fun c_1 => ?_)
  · refine lv_iconst (v := 0) hx hb dX3_has_12 (by decide) ?_
    exact W.zret (v := 0) hx hb hr (by first | rfl | exact znb _) (fun t ht hW => ⟨_, rfl, (by first | rfl | (simp only [zb, zhas, c_1]; done) | (simp only [zb, zhas, c_1]; rfl) | (simp [zb, zhas, c_1]; done)), ht⟩) (fun _ h => nomatch h) dX3_has_13
  · refine lv_iconst (v := 1) hx hb dX3_has_8 (by decide) ?_
    refine lv_goto (tgt := 13) hx hb dX3_has_9 (by decide) ?_
    exact W.zret (v := 1) hx hb hr (by first | rfl | exact znb _) (fun t ht hW => ⟨_, rfl, (by first | rfl | (simp only [zb, zhas, c_1]; done) | (simp only [zb, zhas, c_1]; rfl) | (simp [zb, zhas, c_1]; done)), ht⟩) (fun _ h => nomatch h) dX3_has_13
set_option maxHeartbeats 4000000 in
set_option maxRecDepth 100000 in
theorem zX3_isWithin (l : Launch) (D : va_G) (cI cL cE cP : ClassId) (ws : va_W) (x lo hi : Int32) : Met l yX3_isWithin wsX3_isWithin ({ frames := 0, cells := 0, slots := 0, locals := 0 }) (zPr D cI cL cE cP (ws) [.int x, .int lo, .int hi]) (vp_Si (fun r : Int32 => r = zb (zwi x lo hi))) 0 0 (fun _ => False) := by
  refine Met.ofW (cc := cX3_isWithin) (maxL := 3) (ret := (some .boolean)) (by decide) rfl ?_
  intro p e s m args below meth c s₁ B hml hv
  obtain ⟨rfl, hE, hP⟩ := hv
  have hx := B.exec
  have hb := B.bytes
  have hr := B.returns
  have hts := atoms_spec (ws := wsX3_isWithin) B.pre
  have hown : s.vm.findClass RX3 = some m.cls := findClass_of_methodNamed B.named
  have hlocks := B.notSynchronized
  have hK := hE.1
  have hl := lv_entry ([.int x, .int lo, .int hi]) (n := 3) (Nat.le_of_ble_eq_true rfl)
  rw [lg_entry_eq]
  generalize (lg_sl ([.int x, .int lo, .int hi]) ++ List.replicate (3 - (lg_sl ([.int x, .int lo, .int hi])).length) Slot.unset).toArray = ls at hl ⊢
  have hl : lv_has ls 3 [(0, .int x), (1, .int lo), (2, .int hi)] := hl
  refine lv_iload_n hx hb dX3_isWithin_0 rfl (lv_at hl 1 rfl) ?_
  refine lv_iload_n hx hb dX3_isWithin_1 rfl (lv_at hl 0 rfl) ?_
  refine lv_icmp_gt (tgt := 14) hx hb dX3_isWithin_2 (by decide) (fun c_1 => ?_) (fun c_1 => ?_)
  · refine lv_iconst (v := 0) hx hb dX3_isWithin_14 (by decide) ?_
    exact W.zret (v := 0) hx hb hr (by first | rfl | exact znb _) (fun t ht hW => ⟨_, rfl, (by first | rfl | (simp only [zb, zwi, c_1]; done) | (simp only [zb, zwi, c_1]; rfl) | (simp [zb, zwi, c_1]; done)), ht⟩) (fun _ h => nomatch h) dX3_isWithin_15
  · refine lv_iload_n hx hb dX3_isWithin_5 rfl (lv_at hl 0 rfl) ?_
    refine lv_iload_n hx hb dX3_isWithin_6 rfl (lv_at hl 2 rfl) ?_
    refine lv_icmp_gt (tgt := 14) hx hb dX3_isWithin_7 (by decide) (fun c_2 => ?_) (fun c_2 => ?_)
    · refine lv_iconst (v := 0) hx hb dX3_isWithin_14 (by decide) ?_
      exact W.zret (v := 0) hx hb hr (by first | rfl | exact znb _) (fun t ht hW => ⟨_, rfl, (by first | rfl | (simp only [zb, zwi, c_1, c_2]; done) | (simp only [zb, zwi, c_1, c_2]; rfl) | (simp [zb, zwi, c_1, c_2]; done)), ht⟩) (fun _ h => nomatch h) dX3_isWithin_15
    · refine lv_iconst (v := 1) hx hb dX3_isWithin_10 (by decide) ?_
      refine lv_goto (tgt := 15) hx hb dX3_isWithin_11 (by decide) ?_
      exact W.zret (v := 1) hx hb hr (by first | rfl | exact znb _) (fun t ht hW => ⟨_, rfl, (by first | rfl | (simp only [zb, zwi, c_1, c_2]; done) | (simp only [zb, zwi, c_1, c_2]; rfl) | (simp [zb, zwi, c_1, c_2]; done)), ht⟩) (fun _ h => nomatch h) dX3_isWithin_15
set_option maxHeartbeats 4000000 in
set_option maxRecDepth 100000 in
theorem zX3_isClass (l : Launch) (D : va_G) (cI cL cE cP : ClassId) (ws : va_W) (x : Int32) : Met l yX3_isClass wsX3_isClass ({ frames := 1, cells := 0, slots := 0, locals := 22 }) (zPr D cI cL cE cP (ws) [.int x]) (vp_Si (fun r : Int32 => r = zb (zwi x 0 3))) 0 0 (fun _ => False) := by
  refine Met.ofW (cc := cX3_isClass) (maxL := 1) (ret := (some .boolean)) (by decide) rfl ?_
  intro p e s m args below meth c s₁ B hml hv
  obtain ⟨rfl, hE, hP⟩ := hv
  have hx := B.exec
  have hb := B.bytes
  have hr := B.returns
  have hts := atoms_spec (ws := wsX3_isClass) B.pre
  have hown : s.vm.findClass RX3 = some m.cls := findClass_of_methodNamed B.named
  have hlocks := B.notSynchronized
  have hK := hE.1
  have hl := lv_entry ([.int x]) (n := 1) (Nat.le_of_ble_eq_true rfl)
  rw [lg_entry_eq]
  generalize (lg_sl ([.int x]) ++ List.replicate (1 - (lg_sl ([.int x])).length) Slot.unset).toArray = ls at hl ⊢
  have hl : lv_has ls 1 [(0, .int x)] := hl
  refine lv_iload_n hx hb dX3_isClass_0 rfl (lv_at hl 0 rfl) ?_
  refine lv_iconst (v := 0) hx hb dX3_isClass_1 (by decide) ?_
  refine lv_iconst (v := 3) hx hb dX3_isClass_2 (by decide) ?_
  refine vp_callSi (va_Run.run (va_runS (As := [.int x, .int 0, .int 3]) (rest := []) ⟨hx, hb, hml, hown, hts⟩ (zX3_isWithin l D cI cL cE cP (ws) x 0 3) (va_cwS 3 hts gX3_isClass_X3_isWithin rfl rfl rfl (by decide +kernel) ⟨Nat.le_of_ble_eq_true rfl, Nat.le_of_ble_eq_true rfl⟩) ⟨zPr_blind, zPr_mk hE hP⟩ rfl rfl hl.1 rfl (lv_room (Nat.le_of_ble_eq_true rfl)) dX3_isClass_3 ⟨Nat.le_of_ble_eq_true rfl, Nat.le_of_ble_eq_true rfl⟩)) (fun r_1 e_2 => ?_)
  obtain rfl := e_2
  exact W.zret (v := zb (zwi x 0 3)) hx hb hr (by first | rfl | exact znb _) (fun t ht hW => ⟨_, rfl, (by first | rfl | (simp only []; done) | (simp only []; rfl) | (simp []; done)), ht⟩) (fun _ h => nomatch h) dX3_isClass_6
set_option maxHeartbeats 4000000 in
set_option maxRecDepth 100000 in
theorem zX3_isParty (l : Launch) (D : va_G) (cI cL cE cP : ClassId) (ws : va_W) (x : Int32) : Met l yX3_isParty wsX3_isParty ({ frames := 1, cells := 0, slots := 0, locals := 22 }) (zPr D cI cL cE cP (ws) [.int x]) (vp_Si (fun r : Int32 => r = zb (zwi x 0 3))) 0 0 (fun _ => False) := by
  refine Met.ofW (cc := cX3_isParty) (maxL := 1) (ret := (some .boolean)) (by decide) rfl ?_
  intro p e s m args below meth c s₁ B hml hv
  obtain ⟨rfl, hE, hP⟩ := hv
  have hx := B.exec
  have hb := B.bytes
  have hr := B.returns
  have hts := atoms_spec (ws := wsX3_isParty) B.pre
  have hown : s.vm.findClass RX3 = some m.cls := findClass_of_methodNamed B.named
  have hlocks := B.notSynchronized
  have hK := hE.1
  have hl := lv_entry ([.int x]) (n := 1) (Nat.le_of_ble_eq_true rfl)
  rw [lg_entry_eq]
  generalize (lg_sl ([.int x]) ++ List.replicate (1 - (lg_sl ([.int x])).length) Slot.unset).toArray = ls at hl ⊢
  have hl : lv_has ls 1 [(0, .int x)] := hl
  refine lv_iload_n hx hb dX3_isParty_0 rfl (lv_at hl 0 rfl) ?_
  refine lv_iconst (v := 0) hx hb dX3_isParty_1 (by decide) ?_
  refine lv_iconst (v := 3) hx hb dX3_isParty_2 (by decide) ?_
  refine vp_callSi (va_Run.run (va_runS (As := [.int x, .int 0, .int 3]) (rest := []) ⟨hx, hb, hml, hown, hts⟩ (zX3_isWithin l D cI cL cE cP (ws) x 0 3) (va_cwS 3 hts gX3_isParty_X3_isWithin rfl rfl rfl (by decide +kernel) ⟨Nat.le_of_ble_eq_true rfl, Nat.le_of_ble_eq_true rfl⟩) ⟨zPr_blind, zPr_mk hE hP⟩ rfl rfl hl.1 rfl (lv_room (Nat.le_of_ble_eq_true rfl)) dX3_isParty_3 ⟨Nat.le_of_ble_eq_true rfl, Nat.le_of_ble_eq_true rfl⟩)) (fun r_1 e_2 => ?_)
  obtain rfl := e_2
  exact W.zret (v := zb (zwi x 0 3)) hx hb hr (by first | rfl | exact znb _) (fun t ht hW => ⟨_, rfl, (by first | rfl | (simp only []; done) | (simp only []; rfl) | (simp []; done)), ht⟩) (fun _ h => nomatch h) dX3_isParty_6
set_option maxHeartbeats 4000000 in
set_option maxRecDepth 100000 in
theorem zX3_isCurrency (l : Launch) (D : va_G) (cI cL cE cP : ClassId) (ws : va_W) (x : Int32) : Met l yX3_isCurrency wsX3_isCurrency ({ frames := 1, cells := 0, slots := 0, locals := 22 }) (zPr D cI cL cE cP (ws) [.int x]) (vp_Si (fun r : Int32 => r = zb (zwi x 0 2))) 0 0 (fun _ => False) := by
  refine Met.ofW (cc := cX3_isCurrency) (maxL := 1) (ret := (some .boolean)) (by decide) rfl ?_
  intro p e s m args below meth c s₁ B hml hv
  obtain ⟨rfl, hE, hP⟩ := hv
  have hx := B.exec
  have hb := B.bytes
  have hr := B.returns
  have hts := atoms_spec (ws := wsX3_isCurrency) B.pre
  have hown : s.vm.findClass RX3 = some m.cls := findClass_of_methodNamed B.named
  have hlocks := B.notSynchronized
  have hK := hE.1
  have hl := lv_entry ([.int x]) (n := 1) (Nat.le_of_ble_eq_true rfl)
  rw [lg_entry_eq]
  generalize (lg_sl ([.int x]) ++ List.replicate (1 - (lg_sl ([.int x])).length) Slot.unset).toArray = ls at hl ⊢
  have hl : lv_has ls 1 [(0, .int x)] := hl
  refine lv_iload_n hx hb dX3_isCurrency_0 rfl (lv_at hl 0 rfl) ?_
  refine lv_iconst (v := 0) hx hb dX3_isCurrency_1 (by decide) ?_
  refine lv_iconst (v := 2) hx hb dX3_isCurrency_2 (by decide) ?_
  refine vp_callSi (va_Run.run (va_runS (As := [.int x, .int 0, .int 2]) (rest := []) ⟨hx, hb, hml, hown, hts⟩ (zX3_isWithin l D cI cL cE cP (ws) x 0 2) (va_cwS 3 hts gX3_isCurrency_X3_isWithin rfl rfl rfl (by decide +kernel) ⟨Nat.le_of_ble_eq_true rfl, Nat.le_of_ble_eq_true rfl⟩) ⟨zPr_blind, zPr_mk hE hP⟩ rfl rfl hl.1 rfl (lv_room (Nat.le_of_ble_eq_true rfl)) dX3_isCurrency_3 ⟨Nat.le_of_ble_eq_true rfl, Nat.le_of_ble_eq_true rfl⟩)) (fun r_1 e_2 => ?_)
  obtain rfl := e_2
  exact W.zret (v := zb (zwi x 0 2)) hx hb hr (by first | rfl | exact znb _) (fun t ht hW => ⟨_, rfl, (by first | rfl | (simp only []; done) | (simp only []; rfl) | (simp []; done)), ht⟩) (fun _ h => nomatch h) dX3_isCurrency_6
set_option maxHeartbeats 4000000 in
set_option maxRecDepth 100000 in
theorem zX3_isDays (l : Launch) (D : va_G) (cI cL cE cP : ClassId) (ws : va_W) (x : Int32) : Met l yX3_isDays wsX3_isDays ({ frames := 1, cells := 0, slots := 0, locals := 22 }) (zPr D cI cL cE cP (ws) [.int x]) (vp_Si (fun r : Int32 => r = zb (zwi x 1 3650))) 0 0 (fun _ => False) := by
  refine Met.ofW (cc := cX3_isDays) (maxL := 1) (ret := (some .boolean)) (by decide) rfl ?_
  intro p e s m args below meth c s₁ B hml hv
  obtain ⟨rfl, hE, hP⟩ := hv
  have hx := B.exec
  have hb := B.bytes
  have hr := B.returns
  have hts := atoms_spec (ws := wsX3_isDays) B.pre
  have hown : s.vm.findClass RX3 = some m.cls := findClass_of_methodNamed B.named
  have hlocks := B.notSynchronized
  have hK := hE.1
  have hl := lv_entry ([.int x]) (n := 1) (Nat.le_of_ble_eq_true rfl)
  rw [lg_entry_eq]
  generalize (lg_sl ([.int x]) ++ List.replicate (1 - (lg_sl ([.int x])).length) Slot.unset).toArray = ls at hl ⊢
  have hl : lv_has ls 1 [(0, .int x)] := hl
  refine lv_iload_n hx hb dX3_isDays_0 rfl (lv_at hl 0 rfl) ?_
  refine lv_iconst (v := 1) hx hb dX3_isDays_1 (by decide) ?_
  refine lv_sipush (v := 3650) hx hb dX3_isDays_2 (by decide) ?_
  refine vp_callSi (va_Run.run (va_runS (As := [.int x, .int 1, .int 3650]) (rest := []) ⟨hx, hb, hml, hown, hts⟩ (zX3_isWithin l D cI cL cE cP (ws) x 1 3650) (va_cwS 3 hts gX3_isDays_X3_isWithin rfl rfl rfl (by decide +kernel) ⟨Nat.le_of_ble_eq_true rfl, Nat.le_of_ble_eq_true rfl⟩) ⟨zPr_blind, zPr_mk hE hP⟩ rfl rfl hl.1 rfl (lv_room (Nat.le_of_ble_eq_true rfl)) dX3_isDays_5 ⟨Nat.le_of_ble_eq_true rfl, Nat.le_of_ble_eq_true rfl⟩)) (fun r_1 e_2 => ?_)
  obtain rfl := e_2
  exact W.zret (v := zb (zwi x 1 3650)) hx hb hr (by first | rfl | exact znb _) (fun t ht hW => ⟨_, rfl, (by first | rfl | (simp only []; done) | (simp only []; rfl) | (simp []; done)), ht⟩) (fun _ h => nomatch h) dX3_isDays_8
set_option maxHeartbeats 4000000 in
set_option maxRecDepth 100000 in
theorem zX3_isPart (l : Launch) (D : va_G) (cI cL cE cP : ClassId) (ws : va_W) (x : Int32) : Met l yX3_isPart wsX3_isPart ({ frames := 1, cells := 0, slots := 0, locals := 22 }) (zPr D cI cL cE cP (ws) [.int x]) (vp_Si (fun r : Int32 => r = zb (zwi x 0 10000000))) 0 0 (fun _ => False) := by
  refine Met.ofW (cc := cX3_isPart) (maxL := 1) (ret := (some .boolean)) (by decide) rfl ?_
  intro p e s m args below meth c s₁ B hml hv
  obtain ⟨rfl, hE, hP⟩ := hv
  have hx := B.exec
  have hb := B.bytes
  have hr := B.returns
  have hts := atoms_spec (ws := wsX3_isPart) B.pre
  have hown : s.vm.findClass RX3 = some m.cls := findClass_of_methodNamed B.named
  have hlocks := B.notSynchronized
  have hK := hE.1
  have hl := lv_entry ([.int x]) (n := 1) (Nat.le_of_ble_eq_true rfl)
  rw [lg_entry_eq]
  generalize (lg_sl ([.int x]) ++ List.replicate (1 - (lg_sl ([.int x])).length) Slot.unset).toArray = ls at hl ⊢
  have hl : lv_has ls 1 [(0, .int x)] := hl
  refine lv_iload_n hx hb dX3_isPart_0 rfl (lv_at hl 0 rfl) ?_
  refine lv_iconst (v := 0) hx hb dX3_isPart_1 (by decide) ?_
  refine lv_ldc (v := 10000000) hx hb hown (hts (.constant RX3 112 (10000000)) (by decide +kernel)) dX3_isPart_2 ?_
  refine vp_callSi (va_Run.run (va_runS (As := [.int x, .int 0, .int 10000000]) (rest := []) ⟨hx, hb, hml, hown, hts⟩ (zX3_isWithin l D cI cL cE cP (ws) x 0 10000000) (va_cwS 3 hts gX3_isPart_X3_isWithin rfl rfl rfl (by decide +kernel) ⟨Nat.le_of_ble_eq_true rfl, Nat.le_of_ble_eq_true rfl⟩) ⟨zPr_blind, zPr_mk hE hP⟩ rfl rfl hl.1 rfl (lv_room (Nat.le_of_ble_eq_true rfl)) dX3_isPart_4 ⟨Nat.le_of_ble_eq_true rfl, Nat.le_of_ble_eq_true rfl⟩)) (fun r_1 e_2 => ?_)
  obtain rfl := e_2
  exact W.zret (v := zb (zwi x 0 10000000)) hx hb hr (by first | rfl | exact znb _) (fun t ht hW => ⟨_, rfl, (by first | rfl | (simp only []; done) | (simp only []; rfl) | (simp []; done)), ht⟩) (fun _ h => nomatch h) dX3_isPart_7
set_option maxHeartbeats 4000000 in
set_option maxRecDepth 100000 in
theorem zX3_isPieceSum (l : Launch) (D : va_G) (cI cL cE cP : ClassId) (ws : va_W) (x : Int32) : Met l yX3_isPieceSum wsX3_isPieceSum ({ frames := 1, cells := 0, slots := 0, locals := 22 }) (zPr D cI cL cE cP (ws) [.int x]) (vp_Si (fun r : Int32 => r = zb (zwi x 1 10000000))) 0 0 (fun _ => False) := by
  refine Met.ofW (cc := cX3_isPieceSum) (maxL := 1) (ret := (some .boolean)) (by decide) rfl ?_
  intro p e s m args below meth c s₁ B hml hv
  obtain ⟨rfl, hE, hP⟩ := hv
  have hx := B.exec
  have hb := B.bytes
  have hr := B.returns
  have hts := atoms_spec (ws := wsX3_isPieceSum) B.pre
  have hown : s.vm.findClass RX3 = some m.cls := findClass_of_methodNamed B.named
  have hlocks := B.notSynchronized
  have hK := hE.1
  have hl := lv_entry ([.int x]) (n := 1) (Nat.le_of_ble_eq_true rfl)
  rw [lg_entry_eq]
  generalize (lg_sl ([.int x]) ++ List.replicate (1 - (lg_sl ([.int x])).length) Slot.unset).toArray = ls at hl ⊢
  have hl : lv_has ls 1 [(0, .int x)] := hl
  refine lv_iload_n hx hb dX3_isPieceSum_0 rfl (lv_at hl 0 rfl) ?_
  refine lv_iconst (v := 1) hx hb dX3_isPieceSum_1 (by decide) ?_
  refine lv_ldc (v := 10000000) hx hb hown (hts (.constant RX3 112 (10000000)) (by decide +kernel)) dX3_isPieceSum_2 ?_
  refine vp_callSi (va_Run.run (va_runS (As := [.int x, .int 1, .int 10000000]) (rest := []) ⟨hx, hb, hml, hown, hts⟩ (zX3_isWithin l D cI cL cE cP (ws) x 1 10000000) (va_cwS 3 hts gX3_isPieceSum_X3_isWithin rfl rfl rfl (by decide +kernel) ⟨Nat.le_of_ble_eq_true rfl, Nat.le_of_ble_eq_true rfl⟩) ⟨zPr_blind, zPr_mk hE hP⟩ rfl rfl hl.1 rfl (lv_room (Nat.le_of_ble_eq_true rfl)) dX3_isPieceSum_4 ⟨Nat.le_of_ble_eq_true rfl, Nat.le_of_ble_eq_true rfl⟩)) (fun r_1 e_2 => ?_)
  obtain rfl := e_2
  exact W.zret (v := zb (zwi x 1 10000000)) hx hb hr (by first | rfl | exact znb _) (fun t ht hW => ⟨_, rfl, (by first | rfl | (simp only []; done) | (simp only []; rfl) | (simp []; done)), ht⟩) (fun _ h => nomatch h) dX3_isPieceSum_7
set_option maxHeartbeats 4000000 in
set_option maxRecDepth 100000 in
theorem zX3_isUses (l : Launch) (D : va_G) (cI cL cE cP : ClassId) (ws : va_W) (x : Int32) : Met l yX3_isUses wsX3_isUses ({ frames := 1, cells := 0, slots := 0, locals := 22 }) (zPr D cI cL cE cP (ws) [.int x]) (vp_Si (fun r : Int32 => r = zb (zwi x 0 255))) 0 0 (fun _ => False) := by
  refine Met.ofW (cc := cX3_isUses) (maxL := 1) (ret := (some .boolean)) (by decide) rfl ?_
  intro p e s m args below meth c s₁ B hml hv
  obtain ⟨rfl, hE, hP⟩ := hv
  have hx := B.exec
  have hb := B.bytes
  have hr := B.returns
  have hts := atoms_spec (ws := wsX3_isUses) B.pre
  have hown : s.vm.findClass RX3 = some m.cls := findClass_of_methodNamed B.named
  have hlocks := B.notSynchronized
  have hK := hE.1
  have hl := lv_entry ([.int x]) (n := 1) (Nat.le_of_ble_eq_true rfl)
  rw [lg_entry_eq]
  generalize (lg_sl ([.int x]) ++ List.replicate (1 - (lg_sl ([.int x])).length) Slot.unset).toArray = ls at hl ⊢
  have hl : lv_has ls 1 [(0, .int x)] := hl
  refine lv_iload_n hx hb dX3_isUses_0 rfl (lv_at hl 0 rfl) ?_
  refine lv_iconst (v := 0) hx hb dX3_isUses_1 (by decide) ?_
  refine lv_sipush (v := 255) hx hb dX3_isUses_2 (by decide) ?_
  refine vp_callSi (va_Run.run (va_runS (As := [.int x, .int 0, .int 255]) (rest := []) ⟨hx, hb, hml, hown, hts⟩ (zX3_isWithin l D cI cL cE cP (ws) x 0 255) (va_cwS 3 hts gX3_isUses_X3_isWithin rfl rfl rfl (by decide +kernel) ⟨Nat.le_of_ble_eq_true rfl, Nat.le_of_ble_eq_true rfl⟩) ⟨zPr_blind, zPr_mk hE hP⟩ rfl rfl hl.1 rfl (lv_room (Nat.le_of_ble_eq_true rfl)) dX3_isUses_5 ⟨Nat.le_of_ble_eq_true rfl, Nat.le_of_ble_eq_true rfl⟩)) (fun r_1 e_2 => ?_)
  obtain rfl := e_2
  exact W.zret (v := zb (zwi x 0 255)) hx hb hr (by first | rfl | exact znb _) (fun t ht hW => ⟨_, rfl, (by first | rfl | (simp only []; done) | (simp only []; rfl) | (simp []; done)), ht⟩) (fun _ h => nomatch h) dX3_isUses_8
set_option maxHeartbeats 4000000 in
set_option maxRecDepth 100000 in
theorem zX3_percentOf (l : Launch) (D : va_G) (cI cL cE cP : ClassId) (ws : va_W) (s0 p0 : Int32) : Met l yX3_percentOf wsX3_percentOf ({ frames := 0, cells := 0, slots := 0, locals := 0 }) (zPr D cI cL cE cP (ws) [.int s0, .int p0]) (vp_Si (fun r : Int32 => r = pct s0 p0)) 0 0 (fun _ => False) := by
  refine Met.ofW (cc := cX3_percentOf) (maxL := 2) (ret := (some .int)) (by decide) rfl ?_
  intro p e s m args below meth c s₁ B hml hv
  obtain ⟨rfl, hE, hP⟩ := hv
  have hx := B.exec
  have hb := B.bytes
  have hr := B.returns
  have hts := atoms_spec (ws := wsX3_percentOf) B.pre
  have hown : s.vm.findClass RX3 = some m.cls := findClass_of_methodNamed B.named
  have hlocks := B.notSynchronized
  have hK := hE.1
  have hl := lv_entry ([.int s0, .int p0]) (n := 2) (Nat.le_of_ble_eq_true rfl)
  rw [lg_entry_eq]
  generalize (lg_sl ([.int s0, .int p0]) ++ List.replicate (2 - (lg_sl ([.int s0, .int p0])).length) Slot.unset).toArray = ls at hl ⊢
  have hl : lv_has ls 2 [(0, .int s0), (1, .int p0)] := hl
  refine lv_iload_n hx hb dX3_percentOf_0 rfl (lv_at hl 0 rfl) ?_
  refine lv_i2l hx hb dX3_percentOf_1 rfl ?_
  refine lv_iload_n hx hb dX3_percentOf_2 rfl (lv_at hl 1 rfl) ?_
  refine lv_i2l hx hb dX3_percentOf_3 rfl ?_
  refine lv_lmul hx hb dX3_percentOf_4 ?_
  refine lv_ldc2 (v := 100) hx hb hown (hts (.constantLong RX3 218 (100)) (by decide +kernel)) dX3_percentOf_5 ?_
  refine lv_ldiv hx hb dX3_percentOf_8 (by decide) ?_
  refine lv_l2i hx hb dX3_percentOf_9 rfl ?_
  exact W.iret (v := ((s0.toInt64 * p0.toInt64) / 100).toInt32) hx hb hr (fun t ht hW => ⟨_, rfl, (by first | rfl | (simp only [pct]; done) | (simp only [pct]; rfl) | (simp [pct]; done)), ht⟩) (fun _ h => nomatch h) dX3_percentOf_10
set_option maxHeartbeats 4000000 in
set_option maxRecDepth 100000 in
theorem zX3_at (l : Launch) (D : va_G) (cI cL cE cP : ClassId) (ws : va_W) (q0 a N : Nat) (f : Nat → Int32) (hN : N < 2 ^ 31) (hq : ws[q0]? = some (a, .inl (cI, N, .inl f))) (i : Int32) : Met l yX3_at wsX3_at ({ frames := 0, cells := 0, slots := 0, locals := 0 }) (zPr D cI cL cE cP (ws) [.ref a, .int i]) (vp_Si (fun r : Int32 => r = zat N f i)) 0 0 (fun _ => False) := by
  refine Met.ofW (cc := cX3_at) (maxL := 2) (ret := (some .int)) (by decide) rfl ?_
  intro p e s m args below meth c s₁ B hml hv
  obtain ⟨rfl, hE, hP⟩ := hv
  have hx := B.exec
  have hb := B.bytes
  have hr := B.returns
  have hts := atoms_spec (ws := wsX3_at) B.pre
  have hown : s.vm.findClass RX3 = some m.cls := findClass_of_methodNamed B.named
  have hlocks := B.notSynchronized
  have hK := hE.1
  have hl := lv_entry ([.ref a, .int i]) (n := 2) (Nat.le_of_ble_eq_true rfl)
  rw [lg_entry_eq]
  generalize (lg_sl ([.ref a, .int i]) ++ List.replicate (2 - (lg_sl ([.ref a, .int i])).length) Slot.unset).toArray = ls at hl ⊢
  have hl : lv_has ls 2 [(0, .ref a), (1, .int i)] := hl
  refine lv_iconst (v := 0) hx hb dX3_at_0 (by decide) ?_
  refine lv_iload_n hx hb dX3_at_1 rfl (lv_at hl 1 rfl) ?_
  refine lv_icmp_gt (tgt := 17) hx hb dX3_at_2 (by decide) (fun c_1 => ?_) (fun c_1 => ?_)
  · refine lv_iconst (v := 0) hx hb dX3_at_17 (by decide) ?_
    exact W.iret (v := 0) hx hb hr (fun t ht hW => ⟨_, rfl, (by first | rfl | (simp only [zat, c_1]; done) | (simp only [zat, c_1]; rfl) | (simp [zat, c_1]; done)), ht⟩) (fun _ h => nomatch h) dX3_at_18
  · refine lv_iload_n hx hb dX3_at_5 rfl (lv_at hl 1 rfl) ?_
    refine lv_aload_n hx hb dX3_at_6 rfl (lv_at hl 0 rfl) ?_
    refine va_alen (v := nI N) hx hb hK hP q0 0 hq rfl (by first | rfl | decide) dX3_at_7 ?_
    refine lv_icmp_ge (tgt := 17) hx hb dX3_at_8 (by decide) (fun c_2 => ?_) (fun c_2 => ?_)
    · refine lv_iconst (v := 0) hx hb dX3_at_17 (by decide) ?_
      exact W.iret (v := 0) hx hb hr (fun t ht hW => ⟨_, rfl, (by first | rfl | (simp only [zat, c_1, c_2]; done) | (simp only [zat, c_1, c_2]; rfl) | (simp [zat, c_1, c_2]; done)), ht⟩) (fun _ h => nomatch h) dX3_at_18
    · refine lv_aload_n hx hb dX3_at_11 rfl (lv_at hl 0 rfl) ?_
      refine lv_iload_n hx hb dX3_at_12 rfl (lv_at hl 1 rfl) ?_
      refine ziald (v := f i.toNatClampNeg) hx hb hK hP q0 0 hq rfl (zin_of hN c_1 c_2) (rfl) dX3_at_13 ?_
      refine lv_goto (tgt := 18) hx hb dX3_at_14 (by decide) ?_
      exact W.iret (v := f i.toNatClampNeg) hx hb hr (fun t ht hW => ⟨_, rfl, (by first | rfl | (simp only [zat, c_1, c_2]; done) | (simp only [zat, c_1, c_2]; rfl) | (simp [zat, c_1, c_2]; done)), ht⟩) (fun _ h => nomatch h) dX3_at_18
set_option maxHeartbeats 4000000 in
set_option maxRecDepth 100000 in
theorem zX3_put (l : Launch) (D : va_G) (cI cL cE cP : ClassId) (ws : va_W) (q0 a N : Nat) (f : Nat → Int32) (hN : N < 2 ^ 31) (hq : ws[q0]? = some (a, .inl (cI, N, .inl f))) (i x : Int32) (sz : Nat) : Met l yX3_put wsX3_put ({ frames := 0, cells := 0, slots := 0, locals := 0 }) (zPw D cI cL cE cP (ws) sz [.ref a, .int i, .int x]) (zQv D (ws) sz (ws.set q0 (a, .inl (cI, N, .inl (zput N f i x))))) 0 0 (va_A (ws) sz) := by
  refine Met.ofW (cc := cX3_put) (maxL := 3) (ret := none) (by decide) rfl ?_
  intro p e s m args below meth c s₁ B hml hv
  obtain ⟨rfl, hsz, hE, hP, hD0⟩ := hv
  subst hsz
  obtain ⟨A, hAe⟩ : ∃ A, A = va_A (ws) s.heap.size := ⟨_, rfl⟩
  have hD : va_D A (ws) := by rw [hAe]; exact hD0.self
  have hA : ∀ q : Nat, s.heap.size ≤ q → A q := fun q h => by rw [hAe]; exact Or.inr h
  have hS : va_S A s.heap s.heap [] := va_S.rf
  have hx := B.exec
  have hb := B.bytes
  have hr := B.returns
  have hts := atoms_spec (ws := wsX3_put) B.pre
  have hown : s.vm.findClass RX3 = some m.cls := findClass_of_methodNamed B.named
  have hlocks := B.notSynchronized
  have hK := hE.1
  have hl := lv_entry ([.ref a, .int i, .int x]) (n := 3) (Nat.le_of_ble_eq_true rfl)
  rw [lg_entry_eq]
  generalize (lg_sl ([.ref a, .int i, .int x]) ++ List.replicate (3 - (lg_sl ([.ref a, .int i, .int x])).length) Slot.unset).toArray = ls at hl ⊢
  have hl : lv_has ls 3 [(0, .ref a), (1, .int i), (2, .int x)] := hl
  refine lv_iconst (v := 0) hx hb dX3_put_0 (by decide) ?_
  refine lv_iload_n hx hb dX3_put_1 rfl (lv_at hl 1 rfl) ?_
  refine lv_icmp_gt (tgt := 15) hx hb dX3_put_2 (by decide) (fun c_1 => ?_) (fun c_1 => ?_)
  · exact zvret hx hb hr hAe (zP_re hP (by simp [zput, c_1, zset_self hq])) (zD_re hD (by simp [zput, c_1, zset_self hq])) hS dX3_put_15
  · refine lv_iload_n hx hb dX3_put_5 rfl (lv_at hl 1 rfl) ?_
    refine lv_aload_n hx hb dX3_put_6 rfl (lv_at hl 0 rfl) ?_
    refine va_alen (v := nI N) hx hb hK hP q0 0 hq rfl (by first | rfl | decide) dX3_put_7 ?_
    refine lv_icmp_ge (tgt := 15) hx hb dX3_put_8 (by decide) (fun c_2 => ?_) (fun c_2 => ?_)
    · exact zvret hx hb hr hAe (zP_re hP (by simp [zput, c_1, c_2, zset_self hq])) (zD_re hD (by simp [zput, c_1, c_2, zset_self hq])) hS dX3_put_15
    · refine lv_aload_n hx hb dX3_put_11 rfl (lv_at hl 0 rfl) ?_
      refine lv_iload_n hx hb dX3_put_12 rfl (lv_at hl 1 rfl) ?_
      refine lv_iload_n hx hb dX3_put_13 rfl (lv_at hl 2 rfl) ?_
      refine ziast (f2 := upd f i.toNatClampNeg x) hx hb hK hP hD hS q0 0 hq rfl (zin_of hN c_1 c_2) (rfl) dX3_put_14 (fun H locs hP hD hS => ?_)
      have hP : va_P D vwCl (ws.set q0 (a, .inl (cI, N, .inl (upd f i.toNatClampNeg x)))) H := hP
      have hD : va_D A (ws.set q0 (a, .inl (cI, N, .inl (upd f i.toNatClampNeg x)))) := hD
      exact zvret hx hb hr hAe (zP_re hP (by simp [zput, c_1, c_2, zset_self hq])) (zD_re hD (by simp [zput, c_1, c_2, zset_self hq])) hS dX3_put_15
set_option maxHeartbeats 4000000 in
set_option maxRecDepth 100000 in
theorem zX3_exposureAt (l : Launch) (D : va_G) (cI cL cE cP : ClassId) (ad : Nat → Nat) (g : Nat → Nat → Int32) (n k : Nat) (us wb tr : Nat → Int32) (pr le : Nat → Int64) (tk gf : Int32) (hok : zOk g n k) (x : Int32) : Met l yX3_exposureAt wsX3_exposureAt ({ frames := 0, cells := 0, slots := 0, locals := 0 }) (zPr D cI cL cE cP (cws cI cL cE cP ad g n k us wb tr pr le tk gf) [.ref (ad 0), .int x]) (va_Sq (fun r : Option Nat => zexP ad n x r)) 0 0 (fun _ => False) := by
  refine Met.ofW (cc := cX3_exposureAt) (maxL := 2) (ret := (some (.object "CapitalReckoner$Exposure"))) (by decide) rfl ?_
  intro p e s m args below meth c s₁ B hml hv
  obtain ⟨rfl, hE, hP⟩ := hv
  have hx := B.exec
  have hb := B.bytes
  have hr := B.returns
  have hts := atoms_spec (ws := wsX3_exposureAt) B.pre
  have hown : s.vm.findClass RX3 = some m.cls := findClass_of_methodNamed B.named
  have hlocks := B.notSynchronized
  have hK := hE.1
  have iX3 : ∀ w ∈ wsX30, w ∈ wsX3_exposureAt := by decide +kernel
  have hl := lv_entry ([.ref (ad 0), .int x]) (n := 2) (Nat.le_of_ble_eq_true rfl)
  rw [lg_entry_eq]
  generalize (lg_sl ([.ref (ad 0), .int x]) ++ List.replicate (2 - (lg_sl ([.ref (ad 0), .int x])).length) Slot.unset).toArray = ls at hl ⊢
  have hl : lv_has ls 2 [(0, .ref (ad 0)), (1, .int x)] := hl
  refine lv_iconst (v := 0) hx hb dX3_exposureAt_0 (by decide) ?_
  refine lv_iload_n hx hb dX3_exposureAt_1 rfl (lv_at hl 1 rfl) ?_
  refine lv_icmp_gt (tgt := 23) hx hb dX3_exposureAt_2 (by decide) (fun c_1 => ?_) (fun c_1 => ?_)
  · refine lv_null hx hb dX3_exposureAt_23 ?_
    exact W.aret (v := va_rf (none)) hx hb hr (Or.inl ⟨_, rfl⟩) (zrf _) (fun t ht hW => ⟨_, rfl, (by first | exact Or.inr ⟨rfl, zex_lo (by have := hok.n; omega) c_1⟩ | exact Or.inr ⟨rfl, zex_hi (N := 8) hok.n (by decide) c_2⟩ | exact zex_in (N := 8) hok.n (by decide) c_1 c_2), ht⟩) (fun _ h => nomatch h) dX3_exposureAt_24
  · refine lv_iload_n hx hb dX3_exposureAt_5 rfl (lv_at hl 1 rfl) ?_
    refine lv_aload_n hx hb dX3_exposureAt_6 rfl (lv_at hl 0 rfl) ?_
    refine va_get (D := D) (ci := 3) (v := .ref (ad 3)) (C := RX3) (T := TX3) (N := 9) hx hb hts iX3 hown hK hP 0 cws_0 rfl 2 (by decide) (hts (.fieldLink RX3 18 "CapitalReckoner" "book" "[LCapitalReckoner$Exposure;") (by decide +kernel)) (fun _ h9 => h9) rfl dX3_exposureAt_7 ?_
    refine va_alen (v := nI 8) hx hb hK hP 3 2 cws_3 rfl (by first | rfl | decide) dX3_exposureAt_10 ?_
    refine lv_icmp_ge (tgt := 23) hx hb dX3_exposureAt_11 (by decide) (fun c_2 => ?_) (fun c_2 => ?_)
    · refine lv_null hx hb dX3_exposureAt_23 ?_
      exact W.aret (v := va_rf (none)) hx hb hr (Or.inl ⟨_, rfl⟩) (zrf _) (fun t ht hW => ⟨_, rfl, (by first | exact Or.inr ⟨rfl, zex_lo (by have := hok.n; omega) c_1⟩ | exact Or.inr ⟨rfl, zex_hi (N := 8) hok.n (by decide) c_2⟩ | exact zex_in (N := 8) hok.n (by decide) c_1 c_2), ht⟩) (fun _ h => nomatch h) dX3_exposureAt_24
    · refine lv_aload_n hx hb dX3_exposureAt_14 rfl (lv_at hl 0 rfl) ?_
      refine va_get (D := D) (ci := 3) (v := .ref (ad 3)) (C := RX3) (T := TX3) (N := 9) hx hb hts iX3 hown hK hP 0 cws_0 rfl 2 (by decide) (hts (.fieldLink RX3 18 "CapitalReckoner" "book" "[LCapitalReckoner$Exposure;") (by decide +kernel)) (fun _ h9 => h9) rfl dX3_exposureAt_15 ?_
      refine lv_iload_n hx hb dX3_exposureAt_18 rfl (lv_at hl 1 rfl) ?_
      refine va_aldq hx hb hK hP 3 2 cws_3 rfl (zin_of (N := 8) (by decide) c_1 c_2) dX3_exposureAt_19 ?_
      refine lv_goto (tgt := 24) hx hb dX3_exposureAt_20 (by decide) ?_
      exact W.aret (v := va_rf (zbk ad n x.toNatClampNeg)) hx hb hr (Or.inl ⟨_, rfl⟩) (zrf _) (fun t ht hW => ⟨_, rfl, (by first | exact Or.inr ⟨rfl, zex_lo (by have := hok.n; omega) c_1⟩ | exact Or.inr ⟨rfl, zex_hi (N := 8) hok.n (by decide) c_2⟩ | exact zex_in (N := 8) hok.n (by decide) c_1 c_2), ht⟩) (fun _ h => nomatch h) dX3_exposureAt_24
set_option maxHeartbeats 4000000 in
set_option maxRecDepth 100000 in
theorem zX3_pieceAt (l : Launch) (D : va_G) (cI cL cE cP : ClassId) (ad : Nat → Nat) (g : Nat → Nat → Int32) (n k : Nat) (us wb tr : Nat → Int32) (pr le : Nat → Int64) (tk gf : Int32) (hok : zOk g n k) (x : Int32) : Met l yX3_pieceAt wsX3_pieceAt ({ frames := 0, cells := 0, slots := 0, locals := 0 }) (zPr D cI cL cE cP (cws cI cL cE cP ad g n k us wb tr pr le tk gf) [.ref (ad 0), .int x]) (va_Sq (fun r : Option Nat => zpiP ad k x r)) 0 0 (fun _ => False) := by
  refine Met.ofW (cc := cX3_pieceAt) (maxL := 2) (ret := (some (.object "CapitalReckoner$Piece"))) (by decide) rfl ?_
  intro p e s m args below meth c s₁ B hml hv
  obtain ⟨rfl, hE, hP⟩ := hv
  have hx := B.exec
  have hb := B.bytes
  have hr := B.returns
  have hts := atoms_spec (ws := wsX3_pieceAt) B.pre
  have hown : s.vm.findClass RX3 = some m.cls := findClass_of_methodNamed B.named
  have hlocks := B.notSynchronized
  have hK := hE.1
  have iX3 : ∀ w ∈ wsX30, w ∈ wsX3_pieceAt := by decide +kernel
  have hl := lv_entry ([.ref (ad 0), .int x]) (n := 2) (Nat.le_of_ble_eq_true rfl)
  rw [lg_entry_eq]
  generalize (lg_sl ([.ref (ad 0), .int x]) ++ List.replicate (2 - (lg_sl ([.ref (ad 0), .int x])).length) Slot.unset).toArray = ls at hl ⊢
  have hl : lv_has ls 2 [(0, .ref (ad 0)), (1, .int x)] := hl
  refine lv_iconst (v := 0) hx hb dX3_pieceAt_0 (by decide) ?_
  refine lv_iload_n hx hb dX3_pieceAt_1 rfl (lv_at hl 1 rfl) ?_
  refine lv_icmp_gt (tgt := 23) hx hb dX3_pieceAt_2 (by decide) (fun c_1 => ?_) (fun c_1 => ?_)
  · refine lv_null hx hb dX3_pieceAt_23 ?_
    exact W.aret (v := va_rf (none)) hx hb hr (Or.inl ⟨_, rfl⟩) (zrf _) (fun t ht hW => ⟨_, rfl, (by first | exact Or.inr ⟨rfl, zex_lo (by have := hok.k; omega) c_1⟩ | exact Or.inr ⟨rfl, zex_hi (N := 5) hok.k (by decide) c_2⟩ | exact zpi_in (N := 5) hok.k (by decide) c_1 c_2), ht⟩) (fun _ h => nomatch h) dX3_pieceAt_24
  · refine lv_iload_n hx hb dX3_pieceAt_5 rfl (lv_at hl 1 rfl) ?_
    refine lv_aload_n hx hb dX3_pieceAt_6 rfl (lv_at hl 0 rfl) ?_
    refine va_get (D := D) (ci := 3) (v := .ref (ad 4)) (C := RX3) (T := TX3) (N := 9) hx hb hts iX3 hown hK hP 0 cws_0 rfl 3 (by decide) (hts (.fieldLink RX3 24 "CapitalReckoner" "collateral" "[LCapitalReckoner$Piece;") (by decide +kernel)) (fun _ h9 => h9) rfl dX3_pieceAt_7 ?_
    refine va_alen (v := nI 5) hx hb hK hP 4 3 cws_4 rfl (by first | rfl | decide) dX3_pieceAt_10 ?_
    refine lv_icmp_ge (tgt := 23) hx hb dX3_pieceAt_11 (by decide) (fun c_2 => ?_) (fun c_2 => ?_)
    · refine lv_null hx hb dX3_pieceAt_23 ?_
      exact W.aret (v := va_rf (none)) hx hb hr (Or.inl ⟨_, rfl⟩) (zrf _) (fun t ht hW => ⟨_, rfl, (by first | exact Or.inr ⟨rfl, zex_lo (by have := hok.k; omega) c_1⟩ | exact Or.inr ⟨rfl, zex_hi (N := 5) hok.k (by decide) c_2⟩ | exact zpi_in (N := 5) hok.k (by decide) c_1 c_2), ht⟩) (fun _ h => nomatch h) dX3_pieceAt_24
    · refine lv_aload_n hx hb dX3_pieceAt_14 rfl (lv_at hl 0 rfl) ?_
      refine va_get (D := D) (ci := 3) (v := .ref (ad 4)) (C := RX3) (T := TX3) (N := 9) hx hb hts iX3 hown hK hP 0 cws_0 rfl 3 (by decide) (hts (.fieldLink RX3 24 "CapitalReckoner" "collateral" "[LCapitalReckoner$Piece;") (by decide +kernel)) (fun _ h9 => h9) rfl dX3_pieceAt_15 ?_
      refine lv_iload_n hx hb dX3_pieceAt_18 rfl (lv_at hl 1 rfl) ?_
      refine va_aldq hx hb hK hP 4 3 cws_4 rfl (zin_of (N := 5) (by decide) c_1 c_2) dX3_pieceAt_19 ?_
      refine lv_goto (tgt := 24) hx hb dX3_pieceAt_20 (by decide) ?_
      exact W.aret (v := va_rf (zcl ad k x.toNatClampNeg)) hx hb hr (Or.inl ⟨_, rfl⟩) (zrf _) (fun t ht hW => ⟨_, rfl, (by first | exact Or.inr ⟨rfl, zex_lo (by have := hok.k; omega) c_1⟩ | exact Or.inr ⟨rfl, zex_hi (N := 5) hok.k (by decide) c_2⟩ | exact zpi_in (N := 5) hok.k (by decide) c_1 c_2), ht⟩) (fun _ h => nomatch h) dX3_pieceAt_24
set_option maxHeartbeats 4000000 in
set_option maxRecDepth 100000 in
theorem zX0_amountNow (l : Launch) (D : va_G) (cI cL cE cP : ClassId) (ad : Nat → Nat) (g : Nat → Nat → Int32) (n k : Nat) (us wb tr : Nat → Int32) (pr le : Nat → Int64) (tk gf : Int32) (hok : zOk g n k) (i : Nat) (hi : i < n) : Met l yX0_amountNow wsX0_amountNow ({ frames := 1, cells := 0, slots := 0, locals := 21 }) (zPr D cI cL cE cP (cws cI cL cE cP ad g n k us wb tr pr le tk gf) [.ref (ad (11 + i))]) (vp_Si (fun r : Int32 => r = amt g i)) 0 0 (fun _ => False) := by
  refine Met.ofW (cc := cX0_amountNow) (maxL := 1) (ret := (some .int)) (by decide) rfl ?_
  intro p e s m args below meth c s₁ B hml hv
  obtain ⟨rfl, hE, hP⟩ := hv
  have hx := B.exec
  have hb := B.bytes
  have hr := B.returns
  have hts := atoms_spec (ws := wsX0_amountNow) B.pre
  have hown : s.vm.findClass RX0 = some m.cls := findClass_of_methodNamed B.named
  have hlocks := B.notSynchronized
  have hK := hE.1
  have iX0 : ∀ w ∈ wsX00, w ∈ wsX0_amountNow := by decide +kernel
  have hl := lv_entry ([.ref (ad (11 + i))]) (n := 1) (Nat.le_of_ble_eq_true rfl)
  rw [lg_entry_eq]
  generalize (lg_sl ([.ref (ad (11 + i))]) ++ List.replicate (1 - (lg_sl ([.ref (ad (11 + i))])).length) Slot.unset).toArray = ls at hl ⊢
  have hl : lv_has ls 1 [(0, .ref (ad (11 + i)))] := hl
  refine lv_aload_n hx hb dX0_amountNow_0 rfl (lv_at hl 0 rfl) ?_
  refine va_get (D := D) (ci := 0) (v := .int (g 5 i)) (C := RX0) (T := TX0) (N := 8) hx hb hts iX0 hown hK hP (11 + i) (cws_E hi) rfl 4 (by decide) (hts (.fieldLink RX0 18 "CapitalReckoner$Exposure" "drawn" "I") (by decide +kernel)) (fun _ h9 => h9) rfl dX0_amountNow_1 ?_
  refine lv_aload_n hx hb dX0_amountNow_4 rfl (lv_at hl 0 rfl) ?_
  refine va_get (D := D) (ci := 0) (v := .int (g 6 i)) (C := RX0) (T := TX0) (N := 8) hx hb hts iX0 hown hK hP (11 + i) (cws_E hi) rfl 5 (by decide) (hts (.fieldLink RX0 21 "CapitalReckoner$Exposure" "promised" "I") (by decide +kernel)) (fun _ h9 => h9) rfl dX0_amountNow_5 ?_
  refine lv_bipush (v := 40) hx hb dX0_amountNow_8 (by decide) ?_
  refine vp_callSi (va_Run.run (va_runSN (As := [.int (g 6 i), .int 40]) (rest := [.int (g 5 i)]) ⟨hx, hb, hml, hown, hts⟩ (zX3_percentOf l D cI cL cE cP (cws cI cL cE cP ad g n k us wb tr pr le tk gf) (g 6 i) 40) ⟨va_cnB 2 hts gX0_amountNow_X3_percentOf_n36 rfl rfl rfl (hE.2 (.methodLinkNest RX0 36 yX3_percentOf RX3) (List.mem_of_getElem? (i := 5) rfl)) (hts (.initialized RX3) (by decide +kernel)) (by decide +kernel) ⟨Nat.le_of_ble_eq_true rfl, Nat.le_of_ble_eq_true rfl⟩, (hts (.static yX3_percentOf) (by decide +kernel)), trivial⟩ ⟨zPr_blind, zPr_mk hE hP⟩ rfl rfl hl.1 rfl (lv_room (Nat.le_of_ble_eq_true rfl)) dX0_amountNow_10 ⟨Nat.le_of_ble_eq_true rfl, Nat.le_of_ble_eq_true rfl⟩)) (fun r_1 e_2 => ?_)
  obtain rfl := e_2
  refine lv_iadd hx hb dX0_amountNow_13 ?_
  exact W.iret (v := (g 5 i) + (pct (g 6 i) 40)) hx hb hr (fun t ht hW => ⟨_, rfl, (by first | rfl | (simp only [amt]; done) | (simp only [amt]; rfl) | (simp [amt]; done)), ht⟩) (fun _ h => nomatch h) dX0_amountNow_14
set_option maxHeartbeats 4000000 in
set_option maxRecDepth 100000 in
theorem zX1_valueFor (l : Launch) (D : va_G) (cI cL cE cP : ClassId) (ad : Nat → Nat) (g : Nat → Nat → Int32) (n k : Nat) (us wb tr : Nat → Int32) (pr le : Nat → Int64) (tk gf : Int32) (hok : zOk g n k) (j : Nat) (hj : j < k) (i : Nat) (hi : i < n) : Met l yX1_valueFor wsX1_valueFor ({ frames := 1, cells := 0, slots := 0, locals := 21 }) (zPr D cI cL cE cP (cws cI cL cE cP ad g n k us wb tr pr le tk gf) [.ref (ad (19 + j)), .ref (ad (11 + i))]) (vp_Si (fun r : Int32 => r = vl g j i)) 0 0 (fun _ => False) := by
  refine Met.ofW (cc := cX1_valueFor) (maxL := 3) (ret := (some .int)) (by decide) rfl ?_
  intro p e s m args below meth c s₁ B hml hv
  obtain ⟨rfl, hE, hP⟩ := hv
  have hx := B.exec
  have hb := B.bytes
  have hr := B.returns
  have hts := atoms_spec (ws := wsX1_valueFor) B.pre
  have hown : s.vm.findClass RX1 = some m.cls := findClass_of_methodNamed B.named
  have hlocks := B.notSynchronized
  have hK := hE.1
  have iX0 : ∀ w ∈ wsX00, w ∈ wsX1_valueFor := by decide +kernel
  have iX1 : ∀ w ∈ wsX10, w ∈ wsX1_valueFor := by decide +kernel
  have hl := lv_entry ([.ref (ad (19 + j)), .ref (ad (11 + i))]) (n := 3) (Nat.le_of_ble_eq_true rfl)
  rw [lg_entry_eq]
  generalize (lg_sl ([.ref (ad (19 + j)), .ref (ad (11 + i))]) ++ List.replicate (3 - (lg_sl ([.ref (ad (19 + j)), .ref (ad (11 + i))])).length) Slot.unset).toArray = ls at hl ⊢
  have hl : lv_has ls 3 [(0, .ref (ad (19 + j))), (1, .ref (ad (11 + i)))] := hl
  refine lv_aload_n hx hb dX1_valueFor_0 rfl (lv_at hl 0 rfl) ?_
  refine va_get (D := D) (ci := 1) (v := .int (g 11 j)) (C := RX1) (T := TX1) (N := 5) hx hb hts iX1 hown hK hP (11 + n + j) (cws_P hj) rfl 3 (by decide) (hts (.fieldLink RX1 9 "CapitalReckoner$Piece" "amount" "I") (by decide +kernel)) (fun _ h9 => h9) rfl dX1_valueFor_1 ?_
  refine lv_bipush (v := 100) hx hb dX1_valueFor_4 (by decide) ?_
  refine lv_aload_n hx hb dX1_valueFor_6 rfl (lv_at hl 0 rfl) ?_
  refine va_get (D := D) (ci := 1) (v := .int (g 12 j)) (C := RX1) (T := TX1) (N := 5) hx hb hts iX1 hown hK hP (11 + n + j) (cws_P hj) rfl 0 (by decide) (hts (.fieldLink RX1 15 "CapitalReckoner$Piece" "haircut" "I") (by decide +kernel)) (fun _ h9 => h9) rfl dX1_valueFor_7 ?_
  refine lv_isub hx hb dX1_valueFor_10 ?_
  refine vp_callSi (va_Run.run (va_runSN (As := [.int (g 11 j), .int (100 - (g 12 j))]) (rest := []) ⟨hx, hb, hml, hown, hts⟩ (zX3_percentOf l D cI cL cE cP (cws cI cL cE cP ad g n k us wb tr pr le tk gf) (g 11 j) (100 - (g 12 j))) ⟨va_cnB 2 hts gX1_valueFor_X3_percentOf_n27 rfl rfl rfl (hE.2 (.methodLinkNest RX1 27 yX3_percentOf RX3) (List.mem_of_getElem? (i := 7) rfl)) (hts (.initialized RX3) (by decide +kernel)) (by decide +kernel) ⟨Nat.le_of_ble_eq_true rfl, Nat.le_of_ble_eq_true rfl⟩, (hts (.static yX3_percentOf) (by decide +kernel)), trivial⟩ ⟨zPr_blind, zPr_mk hE hP⟩ rfl rfl hl.1 rfl (lv_room (Nat.le_of_ble_eq_true rfl)) dX1_valueFor_11 ⟨Nat.le_of_ble_eq_true rfl, Nat.le_of_ble_eq_true rfl⟩)) (fun r_1 e_2 => ?_)
  obtain rfl := e_2
  refine lv_istore_n (lv' := [(2, .int (pct (g 11 j) (100 - (g 12 j)))), (0, .ref (ad (19 + j))), (1, .ref (ad (11 + i)))]) hx hb dX1_valueFor_14 rfl hl (by decide) rfl (fun ls hl => ?_)
  refine lv_aload_n hx hb dX1_valueFor_15 rfl (lv_at hl 1 rfl) ?_
  refine va_get (D := D) (ci := 1) (v := .int (g 13 j)) (C := RX1) (T := TX1) (N := 5) hx hb hts iX1 hown hK hP (11 + n + j) (cws_P hj) rfl 1 (by decide) (hts (.fieldLink RX1 18 "CapitalReckoner$Piece" "currency" "I") (by decide +kernel)) (fun _ h9 => h9) rfl dX1_valueFor_16 ?_
  refine lv_aload_n hx hb dX1_valueFor_19 rfl (lv_at hl 2 rfl) ?_
  refine va_getN (D := D) (ci := 0) (v := .int (g 7 i)) (C := RX0) (T := TX0) (N := 8) hx hb hts iX0 hown hK hP (11 + i) (cws_E hi) rfl 1 (by decide) (va_Nw.use rfl (hE.2 (.fieldLinkNest RX1 31 "CapitalReckoner$Exposure" "currency" "I" RX3) (List.mem_of_getElem? (i := 20) rfl))) (fun _ h9 => h9) rfl dX1_valueFor_20 ?_
  refine lv_icmp_eq (tgt := 33) hx hb dX1_valueFor_23 (by decide) (fun c_3 => ?_) (fun c_3 => ?_)
  · refine lv_aload_n hx hb dX1_valueFor_33 rfl (lv_at hl 2 rfl) ?_
    refine va_getN (D := D) (ci := 0) (v := .int (g 8 i)) (C := RX0) (T := TX0) (N := 8) hx hb hts iX0 hown hK hP (11 + i) (cws_E hi) rfl 2 (by decide) (va_Nw.use rfl (hE.2 (.fieldLinkNest RX1 34 "CapitalReckoner$Exposure" "days" "I" RX3) (List.mem_of_getElem? (i := 21) rfl))) (fun _ h9 => h9) rfl dX1_valueFor_34 ?_
    refine lv_if_le (tgt := 67) hx hb dX1_valueFor_37 (by decide) (fun c_4 => absurd c_4 (zdpos (hok.2.2.2.2.2.1 i hi).2.2.2.2.2.1.1)) (fun c_4 => ?_)
    refine lv_aload_n hx hb dX1_valueFor_40 rfl (lv_at hl 1 rfl) ?_
    refine va_get (D := D) (ci := 1) (v := .int (g 14 j)) (C := RX1) (T := TX1) (N := 5) hx hb hts iX1 hown hK hP (11 + n + j) (cws_P hj) rfl 2 (by decide) (hts (.fieldLink RX1 21 "CapitalReckoner$Piece" "days" "I") (by decide +kernel)) (fun _ h9 => h9) rfl dX1_valueFor_41 ?_
    refine lv_aload_n hx hb dX1_valueFor_44 rfl (lv_at hl 2 rfl) ?_
    refine va_getN (D := D) (ci := 0) (v := .int (g 8 i)) (C := RX0) (T := TX0) (N := 8) hx hb hts iX0 hown hK hP (11 + i) (cws_E hi) rfl 2 (by decide) (va_Nw.use rfl (hE.2 (.fieldLinkNest RX1 34 "CapitalReckoner$Exposure" "days" "I" RX3) (List.mem_of_getElem? (i := 21) rfl))) (fun _ h9 => h9) rfl dX1_valueFor_45 ?_
    refine lv_icmp_ge (tgt := 67) hx hb dX1_valueFor_48 (by decide) (fun c_5 => ?_) (fun c_5 => ?_)
    · refine lv_iload_n hx hb dX1_valueFor_67 rfl (lv_at hl 0 rfl) ?_
      exact W.iret (v := pct (g 11 j) (100 - (g 12 j))) hx hb hr (fun t ht hW => ⟨_, rfl, (by first | rfl | (simp only [vl, vl1, c_3, c_4, c_5]; done) | (simp only [vl, vl1, c_3, c_4, c_5]; rfl) | (simp [vl, vl1, c_3, c_4, c_5]; done)), ht⟩) (fun _ h => nomatch h) dX1_valueFor_68
    · refine lv_iload_n hx hb dX1_valueFor_51 rfl (lv_at hl 0 rfl) ?_
      refine lv_i2l hx hb dX1_valueFor_52 rfl ?_
      refine lv_aload_n hx hb dX1_valueFor_53 rfl (lv_at hl 1 rfl) ?_
      refine va_get (D := D) (ci := 1) (v := .int (g 14 j)) (C := RX1) (T := TX1) (N := 5) hx hb hts iX1 hown hK hP (11 + n + j) (cws_P hj) rfl 2 (by decide) (hts (.fieldLink RX1 21 "CapitalReckoner$Piece" "days" "I") (by decide +kernel)) (fun _ h9 => h9) rfl dX1_valueFor_54 ?_
      refine lv_i2l hx hb dX1_valueFor_57 rfl ?_
      refine lv_lmul hx hb dX1_valueFor_58 ?_
      refine lv_aload_n hx hb dX1_valueFor_59 rfl (lv_at hl 2 rfl) ?_
      refine va_getN (D := D) (ci := 0) (v := .int (g 8 i)) (C := RX0) (T := TX0) (N := 8) hx hb hts iX0 hown hK hP (11 + i) (cws_E hi) rfl 2 (by decide) (va_Nw.use rfl (hE.2 (.fieldLinkNest RX1 34 "CapitalReckoner$Exposure" "days" "I" RX3) (List.mem_of_getElem? (i := 21) rfl))) (fun _ h9 => h9) rfl dX1_valueFor_60 ?_
      refine lv_i2l hx hb dX1_valueFor_63 rfl ?_
      refine lv_ldiv hx hb dX1_valueFor_64 (zd64 (hok.2.2.2.2.2.1 i hi).2.2.2.2.2.1.1) ?_
      refine lv_l2i hx hb dX1_valueFor_65 rfl ?_
      refine lv_istore_n (lv' := [(2, .int (((((pct (g 11 j) (100 - (g 12 j))).toInt64) * ((g 14 j).toInt64)) / ((g 8 i).toInt64)).toInt32)), (0, .ref (ad (19 + j))), (1, .ref (ad (11 + i)))]) hx hb dX1_valueFor_66 rfl hl (by decide) rfl (fun ls hl => ?_)
      refine lv_iload_n hx hb dX1_valueFor_67 rfl (lv_at hl 0 rfl) ?_
      exact W.iret (v := ((((pct (g 11 j) (100 - (g 12 j))).toInt64) * ((g 14 j).toInt64)) / ((g 8 i).toInt64)).toInt32) hx hb hr (fun t ht hW => ⟨_, rfl, (by first | rfl | (simp only [vl, vl1, c_3, c_4, c_5]; done) | (simp only [vl, vl1, c_3, c_4, c_5]; rfl) | (simp [vl, vl1, c_3, c_4, c_5]; done)), ht⟩) (fun _ h => nomatch h) dX1_valueFor_68
  · refine lv_iload_n hx hb dX1_valueFor_26 rfl (lv_at hl 0 rfl) ?_
    refine lv_bipush (v := 92) hx hb dX1_valueFor_27 (by decide) ?_
    refine vp_callSi (va_Run.run (va_runSN (As := [.int (pct (g 11 j) (100 - (g 12 j))), .int 92]) (rest := []) ⟨hx, hb, hml, hown, hts⟩ (zX3_percentOf l D cI cL cE cP (cws cI cL cE cP ad g n k us wb tr pr le tk gf) (pct (g 11 j) (100 - (g 12 j))) 92) ⟨va_cnB 2 hts gX1_valueFor_X3_percentOf_n27 rfl rfl rfl (hE.2 (.methodLinkNest RX1 27 yX3_percentOf RX3) (List.mem_of_getElem? (i := 7) rfl)) (hts (.initialized RX3) (by decide +kernel)) (by decide +kernel) ⟨Nat.le_of_ble_eq_true rfl, Nat.le_of_ble_eq_true rfl⟩, (hts (.static yX3_percentOf) (by decide +kernel)), trivial⟩ ⟨zPr_blind, zPr_mk hE hP⟩ rfl rfl hl.1 rfl (lv_room (Nat.le_of_ble_eq_true rfl)) dX1_valueFor_29 ⟨Nat.le_of_ble_eq_true rfl, Nat.le_of_ble_eq_true rfl⟩)) (fun r_6 e_7 => ?_)
    obtain rfl := e_7
    refine lv_istore_n (lv' := [(2, .int (pct (pct (g 11 j) (100 - (g 12 j))) 92)), (0, .ref (ad (19 + j))), (1, .ref (ad (11 + i)))]) hx hb dX1_valueFor_32 rfl hl (by decide) rfl (fun ls hl => ?_)
    refine lv_aload_n hx hb dX1_valueFor_33 rfl (lv_at hl 2 rfl) ?_
    refine va_getN (D := D) (ci := 0) (v := .int (g 8 i)) (C := RX0) (T := TX0) (N := 8) hx hb hts iX0 hown hK hP (11 + i) (cws_E hi) rfl 2 (by decide) (va_Nw.use rfl (hE.2 (.fieldLinkNest RX1 34 "CapitalReckoner$Exposure" "days" "I" RX3) (List.mem_of_getElem? (i := 21) rfl))) (fun _ h9 => h9) rfl dX1_valueFor_34 ?_
    refine lv_if_le (tgt := 67) hx hb dX1_valueFor_37 (by decide) (fun c_8 => absurd c_8 (zdpos (hok.2.2.2.2.2.1 i hi).2.2.2.2.2.1.1)) (fun c_8 => ?_)
    refine lv_aload_n hx hb dX1_valueFor_40 rfl (lv_at hl 1 rfl) ?_
    refine va_get (D := D) (ci := 1) (v := .int (g 14 j)) (C := RX1) (T := TX1) (N := 5) hx hb hts iX1 hown hK hP (11 + n + j) (cws_P hj) rfl 2 (by decide) (hts (.fieldLink RX1 21 "CapitalReckoner$Piece" "days" "I") (by decide +kernel)) (fun _ h9 => h9) rfl dX1_valueFor_41 ?_
    refine lv_aload_n hx hb dX1_valueFor_44 rfl (lv_at hl 2 rfl) ?_
    refine va_getN (D := D) (ci := 0) (v := .int (g 8 i)) (C := RX0) (T := TX0) (N := 8) hx hb hts iX0 hown hK hP (11 + i) (cws_E hi) rfl 2 (by decide) (va_Nw.use rfl (hE.2 (.fieldLinkNest RX1 34 "CapitalReckoner$Exposure" "days" "I" RX3) (List.mem_of_getElem? (i := 21) rfl))) (fun _ h9 => h9) rfl dX1_valueFor_45 ?_
    refine lv_icmp_ge (tgt := 67) hx hb dX1_valueFor_48 (by decide) (fun c_9 => ?_) (fun c_9 => ?_)
    · refine lv_iload_n hx hb dX1_valueFor_67 rfl (lv_at hl 0 rfl) ?_
      exact W.iret (v := pct (pct (g 11 j) (100 - (g 12 j))) 92) hx hb hr (fun t ht hW => ⟨_, rfl, (by first | rfl | (simp only [vl, vl1, c_3, c_8, c_9]; done) | (simp only [vl, vl1, c_3, c_8, c_9]; rfl) | (simp [vl, vl1, c_3, c_8, c_9]; done)), ht⟩) (fun _ h => nomatch h) dX1_valueFor_68
    · refine lv_iload_n hx hb dX1_valueFor_51 rfl (lv_at hl 0 rfl) ?_
      refine lv_i2l hx hb dX1_valueFor_52 rfl ?_
      refine lv_aload_n hx hb dX1_valueFor_53 rfl (lv_at hl 1 rfl) ?_
      refine va_get (D := D) (ci := 1) (v := .int (g 14 j)) (C := RX1) (T := TX1) (N := 5) hx hb hts iX1 hown hK hP (11 + n + j) (cws_P hj) rfl 2 (by decide) (hts (.fieldLink RX1 21 "CapitalReckoner$Piece" "days" "I") (by decide +kernel)) (fun _ h9 => h9) rfl dX1_valueFor_54 ?_
      refine lv_i2l hx hb dX1_valueFor_57 rfl ?_
      refine lv_lmul hx hb dX1_valueFor_58 ?_
      refine lv_aload_n hx hb dX1_valueFor_59 rfl (lv_at hl 2 rfl) ?_
      refine va_getN (D := D) (ci := 0) (v := .int (g 8 i)) (C := RX0) (T := TX0) (N := 8) hx hb hts iX0 hown hK hP (11 + i) (cws_E hi) rfl 2 (by decide) (va_Nw.use rfl (hE.2 (.fieldLinkNest RX1 34 "CapitalReckoner$Exposure" "days" "I" RX3) (List.mem_of_getElem? (i := 21) rfl))) (fun _ h9 => h9) rfl dX1_valueFor_60 ?_
      refine lv_i2l hx hb dX1_valueFor_63 rfl ?_
      refine lv_ldiv hx hb dX1_valueFor_64 (zd64 (hok.2.2.2.2.2.1 i hi).2.2.2.2.2.1.1) ?_
      refine lv_l2i hx hb dX1_valueFor_65 rfl ?_
      refine lv_istore_n (lv' := [(2, .int (((((pct (pct (g 11 j) (100 - (g 12 j))) 92).toInt64) * ((g 14 j).toInt64)) / ((g 8 i).toInt64)).toInt32)), (0, .ref (ad (19 + j))), (1, .ref (ad (11 + i)))]) hx hb dX1_valueFor_66 rfl hl (by decide) rfl (fun ls hl => ?_)
      refine lv_iload_n hx hb dX1_valueFor_67 rfl (lv_at hl 0 rfl) ?_
      exact W.iret (v := ((((pct (pct (g 11 j) (100 - (g 12 j))) 92).toInt64) * ((g 14 j).toInt64)) / ((g 8 i).toInt64)).toInt32) hx hb hr (fun t ht hW => ⟨_, rfl, (by first | rfl | (simp only [vl, vl1, c_3, c_8, c_9]; done) | (simp only [vl, vl1, c_3, c_8, c_9]; rfl) | (simp [vl, vl1, c_3, c_8, c_9]; done)), ht⟩) (fun _ h => nomatch h) dX1_valueFor_68
