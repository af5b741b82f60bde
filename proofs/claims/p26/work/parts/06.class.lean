/-! the class's sums and its search as a whole -/
def bwL (g : Nat → Nat → Int32) (i : Nat) (set : Int32) : Nat → Int32
  | 0 => amt g i
  | j + 1 => if zhas set (nI j) = true then bwL g i set j - vl g j i else bwL g i set j
def bw (g : Nat → Nat → Int32) (k i : Nat) (set : Int32) : Int32 := if bwL g i set k < 0 then 0 else bwL g i set k
def wo (g : Nat → Nat → Int32) (i : Nat) (b : Int32) : Int32 := if zat 4 (g 0) (g 3 i) ≤ zat 4 (g 0) (g 9 i) then pct 0 (zat 4 (g 0) (g 9 i)) + pct (b - 0) (zat 4 (g 0) (g 3 i)) else pct (if g 10 i < b then g 10 i else b) (zat 4 (g 0) (g 9 i)) + pct (b - (if g 10 i < b then g 10 i else b)) (zat 4 (g 0) (g 3 i))
def usL (g : Nat → Nat → Int32) (e : Int32) : Nat → Int32
  | 0 => 0
  | j + 1 => if zhas (g 15 j) e = true then usL g e j ||| ((1 : Int32) <<< (nI j &&& 31)) else usL g e j
def US (g : Nat → Nat → Int32) (k : Nat) : Nat → Int32 := fun i => usL g (nI i) k
def WB (g : Nat → Nat → Int32) (k : Nat) : Nat → Int32 := fun j => wo g (j / 32) (bw g k (j / 32) (nI (j % 32)))
theorem US_step {g : Nat → Nat → Int32} {k i : Nat} {us : Nat → Int32} (hi : i < 8) : zput 8 (zfl (US g k) us i) (nI i) (usL g (nI i) k) = zfl (US g k) us (i + 1) := by
  rw [zput_nI hi (by decide)]; exact zfl_u (US g k) us i
theorem WB_step {g : Nat → Nat → Int32} {k i S : Nat} {wb : Nat → Int32} (hi : i < 8) (hS : S < 32) : zput 256 (zfl (WB g k) wb (32 * i + S)) ((nI i * 32) + nI S) (wo g i (bw g k i (nI S))) = zfl (WB g k) wb (32 * i + (S + 1)) := by
  have e : (nI i * 32) + nI S = nI (32 * i + S) := by
    have : (32 : Int32) = nI 32 := by decide +kernel
    rw [this, pk_mul, nI_add, Nat.mul_comm]
  rw [e, zput_nI (by omega) (by decide)]
  have h := zfl_u (WB g k) wb (32 * i + S)
  have h2 : WB g k (32 * i + S) = wo g i (bw g k i (nI S)) := by
    unfold WB
    rw [show (32 * i + S) / 32 = i by omega, show (32 * i + S) % 32 = S by omega]
  rw [h2] at h
  exact h
def bpL (g : Nat → Nat → Int32) (k : Nat) (le : Nat → Int64) (party : Int32) : Nat → Int32
  | 0 => 0
  | i + 1 => if g 4 i = party then bpL g k le party i + bw g k i (gsL le k (nI i) k) else bpL g k le party i
def plL (g : Nat → Nat → Int32) : Nat → Int32
  | 0 => 0
  | i + 1 => plL g i + pct (amt g i) (zat 4 (g 1) (g 3 i))
def tlL (g : Nat → Nat → Int32) (n k : Nat) (le : Nat → Int64) : Nat → Int32
  | 0 => 0
  | p + 1 => if bpL g k le (nI p) n ≤ g 2 1 / 4 then tlL g n k le p else tlL g n k le p ||| ((1 : Int32) <<< (nI p &&& 31))

set_option maxHeartbeats 4000000 in
set_option maxRecDepth 100000 in
theorem zX3_bareWith (l : Launch) (D : va_G) (cI cL cE cP : ClassId) (ad : Nat → Nat) (g : Nat → Nat → Int32) (n k : Nat) (us wb tr : Nat → Int32) (pr le : Nat → Int64) (tk gf : Int32) (hok : zOk g n k) (i : Nat) (hi : i < n) (set : Int32) : Met l yX3_bareWith wsX3_bareWith ({ frames := 2, cells := 0, slots := 0, locals := 43 }) (zPr D cI cL cE cP (cws cI cL cE cP ad g n k us wb tr pr le tk gf) [.ref (ad 0), .ref (ad (11 + i)), .int set]) (vp_Si (fun r : Int32 => r = bw g k i set)) 0 0 (fun _ => False) := by
  refine Met.ofW (cc := cX3_bareWith) (maxL := 6) (ret := (some .int)) (by decide) rfl ?_
  intro p e s m args below meth c s₁ B hml hv
  obtain ⟨rfl, hE, hP⟩ := hv
  have hx := B.exec
  have hb := B.bytes
  have hr := B.returns
  have hts := atoms_spec (ws := wsX3_bareWith) B.pre
  have hown : s.vm.findClass RX3 = some m.cls := findClass_of_methodNamed B.named
  have hlocks := B.notSynchronized
  have hK := hE.1
  have iX3 : ∀ w ∈ wsX30, w ∈ wsX3_bareWith := by decide +kernel
  have hl := lv_entry ([.ref (ad 0), .ref (ad (11 + i)), .int set]) (n := 6) (Nat.le_of_ble_eq_true rfl)
  rw [lg_entry_eq]
  generalize (lg_sl ([.ref (ad 0), .ref (ad (11 + i)), .int set]) ++ List.replicate (6 - (lg_sl ([.ref (ad 0), .ref (ad (11 + i)), .int set])).length) Slot.unset).toArray = ls at hl ⊢
  have hl : lv_has ls 6 [(0, .ref (ad 0)), (1, .ref (ad (11 + i))), (2, .int set)] := hl
  refine lv_aload_n hx hb dX3_bareWith_0 rfl (lv_at hl 1 rfl) ?_
  refine vp_callSi (va_Run.run (va_runVN (As := []) (rest := []) ⟨hx, hb, hml, hown, hts⟩ (zX0_amountNow l D cI cL cE cP ad g n k us wb tr pr le tk gf hok i hi) ⟨va_cnB 0 hts gX3_bareWith_X0_amountNow_n132 rfl rfl rfl (hE.2 (.methodLinkNest RX3 132 yX0_amountNow RX3) (List.mem_of_getElem? (i := 4) rfl)) (hts (.initialized RX0) (by decide +kernel)) (by decide +kernel) ⟨Nat.le_of_ble_eq_true rfl, Nat.le_of_ble_eq_true rfl⟩, (hts (.instanceMethod yX0_amountNow) (by decide +kernel)), (hts (.selects RX0 yX0_amountNow yX0_amountNow) (by decide +kernel))⟩ ⟨zPr_blind, va_recv hK hP (ci := 0) (q0 := (11 + i)) rfl (cws_E hi), zPr_mk hE hP⟩ rfl rfl hl.1 rfl (lv_room (Nat.le_of_ble_eq_true rfl)) dX3_bareWith_1 ⟨Nat.le_of_ble_eq_true rfl, Nat.le_of_ble_eq_true rfl⟩)) (fun r_1 e_2 => ?_)
  obtain rfl := e_2
  refine lv_istore_n (lv' := [(3, .int (amt g i)), (0, .ref (ad 0)), (1, .ref (ad (11 + i))), (2, .int set)]) hx hb dX3_bareWith_4 rfl hl (by decide) rfl (fun ls hl => ?_)
  refine lv_iconst (v := 0) hx hb dX3_bareWith_5 (by decide) ?_
  refine lv_istore (lv' := [(4, .int 0), (3, .int (amt g i)), (0, .ref (ad 0)), (1, .ref (ad (11 + i))), (2, .int set)]) hx hb dX3_bareWith_6 hl (by decide) rfl (fun ls hl => ?_)
  refine zloop (nL := 6) (lv := fun j => [(0, .ref (ad 0)), (1, .ref (ad (11 + i))), (2, .int set), (3, .int (bwL g i set (j))), (4, .int (nI (j)))]) (n := k) (lv_re (lv_sub hl [2, 3, 4, 1, 0] rfl) (by first | rfl | (simp only [bw, bwL, nI_0]; done) | (simp only [bw, bwL, nI_0]; rfl) | (simp [bw, bwL, nI_0]; done))) (fun ls hl => ?_) (fun j hj ih_8 ls hl => ?_)
  · have hl : lv_has ls 6 [(0, .ref (ad 0)), (1, .ref (ad (11 + i))), (2, .int set), (3, .int (bwL g i set (k))), (4, .int (nI (k)))] := hl
    refine lv_iload hx hb dX3_bareWith_8 (lv_at hl 4 rfl) ?_
    refine lv_aload_n hx hb dX3_bareWith_10 rfl (lv_at hl 0 rfl) ?_
    refine va_get (D := D) (ci := 3) (v := .int (nI k)) (C := RX3) (T := TX3) (N := 9) hx hb hts iX3 hown hK hP 0 cws_0 rfl 6 (by decide) (hts (.fieldLink RX3 39 "CapitalReckoner" "pieceCount" "I") (by decide +kernel)) (fun _ h9 => h9) rfl dX3_bareWith_11 ?_
    refine lv_icmp_ge (tgt := 54) hx hb dX3_bareWith_14 (by decide) (fun c_3 => ?_) (fun c_3 => absurd (zle_refl (nI k)) c_3)
    refine lv_iload_n hx hb dX3_bareWith_54 rfl (lv_at hl 3 rfl) ?_
    refine lv_iconst (v := 0) hx hb dX3_bareWith_55 (by decide) ?_
    refine va_mmax hx hb (hml.trans hl.1.symm) hown (hts (.methodLink RX3 208 Lib.Math.max.name) (by decide +kernel)) (hts (.static Lib.Math.max.name) (by decide +kernel)) (hts (.initialized "java/lang/Math") (by decide +kernel)) (hts (.code Lib.Math.max.name Lib.Math.max.code 2 (some .int)) (by decide +kernel)) (Nat.le_of_ble_eq_true rfl) (Nat.le_of_ble_eq_true rfl) (Nat.zero_le _) (Nat.zero_le _) dX3_bareWith_56 ?_
    exact W.iret (v := if bwL g i set (k) < 0 then 0 else bwL g i set (k)) hx hb hr (fun t ht hW => ⟨_, rfl, (by rfl), ht⟩) (fun _ h => nomatch h) dX3_bareWith_59
  · have hl : lv_has ls 6 [(0, .ref (ad 0)), (1, .ref (ad (11 + i))), (2, .int set), (3, .int (bwL g i set (j))), (4, .int (nI (j)))] := hl
    refine lv_iload hx hb dX3_bareWith_8 (lv_at hl 4 rfl) ?_
    refine lv_aload_n hx hb dX3_bareWith_10 rfl (lv_at hl 0 rfl) ?_
    refine va_get (D := D) (ci := 3) (v := .int (nI k)) (C := RX3) (T := TX3) (N := 9) hx hb hts iX3 hown hK hP 0 cws_0 rfl 6 (by decide) (hts (.fieldLink RX3 39 "CapitalReckoner" "pieceCount" "I") (by decide +kernel)) (fun _ h9 => h9) rfl dX3_bareWith_11 ?_
    refine lv_icmp_ge (tgt := 54) hx hb dX3_bareWith_14 (by decide) (fun c_4 => absurd c_4 (nI_ge hj (by have := hok.k; omega))) (fun c_4 => ?_)
    refine lv_aload_n hx hb dX3_bareWith_17 rfl (lv_at hl 0 rfl) ?_
    refine lv_iload hx hb dX3_bareWith_18 (lv_at hl 4 rfl) ?_
    refine va_csq (va_Run.run (va_runV (As := [.int (nI (j))]) (rest := []) ⟨hx, hb, hml, hown, hts⟩ (zX3_pieceAt l D cI cL cE cP ad g n k us wb tr pr le tk gf hok (nI (j))) (cwV 1 hts gX3_bareWith_X3_pieceAt rfl rfl rfl (by decide +kernel) ⟨Nat.le_of_ble_eq_true rfl, Nat.le_of_ble_eq_true rfl⟩) ⟨zPr_blind, va_recv hK hP (ci := 3) (q0 := 0) rfl cws_0, zPr_mk hE hP⟩ rfl rfl hl.1 rfl (lv_room (Nat.le_of_ble_eq_true rfl)) dX3_bareWith_20 ⟨Nat.le_of_ble_eq_true rfl, Nat.le_of_ble_eq_true rfl⟩)) (fun r_5 e_6 => ?_)
    obtain rfl := zpi_known e_6 hj hok
    refine lv_astore (lv' := [(5, .ref (ad (19 + j))), (0, .ref (ad 0)), (1, .ref (ad (11 + i))), (2, .int set), (3, .int (bwL g i set (j))), (4, .int (nI (j)))]) hx hb dX3_bareWith_23 hl (by decide) rfl (fun ls hl => ?_)
    refine lv_aload hx hb dX3_bareWith_25 (lv_at hl 0 rfl) ?_
    refine lv_ifnull hx hb dX3_bareWith_27 ?_
    refine lv_iload_n hx hb dX3_bareWith_30 rfl (lv_at hl 3 rfl) ?_
    refine lv_iload hx hb dX3_bareWith_31 (lv_at hl 5 rfl) ?_
    refine vp_callSi (va_Run.run (va_runS (As := [.int set, .int (nI (j))]) (rest := []) ⟨hx, hb, hml, hown, hts⟩ (zX3_has l D cI cL cE cP (cws cI cL cE cP ad g n k us wb tr pr le tk gf) set (nI (j))) (va_cwS 2 hts gX3_bareWith_X3_has rfl rfl rfl (by decide +kernel) ⟨Nat.le_of_ble_eq_true rfl, Nat.le_of_ble_eq_true rfl⟩) ⟨zPr_blind, zPr_mk hE hP⟩ rfl rfl hl.1 rfl (lv_room (Nat.le_of_ble_eq_true rfl)) dX3_bareWith_33 ⟨Nat.le_of_ble_eq_true rfl, Nat.le_of_ble_eq_true rfl⟩)) (fun r_7 e_8 => ?_)
    obtain rfl := e_8
    refine lv_if_eq (tgt := 48) hx hb dX3_bareWith_36 (by decide) (fun c_9 => ?_) (fun c_9 => ?_)
    · have c_9 := zb_eq c_9
      refine lv_iinc (v := nI ((j) + 1)) (lv' := [(4, .int (nI ((j) + 1))), (5, .ref (ad (19 + j))), (0, .ref (ad 0)), (1, .ref (ad (11 + i))), (2, .int set), (3, .int (bwL g i set (j)))]) hx hb dX3_bareWith_48 hl (k := 5) rfl (zinc _) (by decide) rfl (fun ls hl => ?_)
      refine lv_goto (tgt := 8) hx hb dX3_bareWith_51 (by decide) ?_
      exact ih_8 ls (lv_re (lv_sub hl [2, 3, 4, 5, 0] rfl) (by first | rfl | (simp only [bw, bwL, c_4, c_9]; done) | (simp only [bw, bwL, c_4, c_9]; rfl) | (simp [bw, bwL, c_4, c_9]; done)))
    · have c_9 := zb_ne c_9
      refine lv_iload_n hx hb dX3_bareWith_39 rfl (lv_at hl 4 rfl) ?_
      refine lv_aload hx hb dX3_bareWith_40 (lv_at hl 0 rfl) ?_
      refine lv_aload_n hx hb dX3_bareWith_42 rfl (lv_at hl 2 rfl) ?_
      refine vp_callSi (va_Run.run (va_runVN (As := [.ref (ad (11 + i))]) (rest := [.int (bwL g i set (j))]) ⟨hx, hb, hml, hown, hts⟩ (zX1_valueFor l D cI cL cE cP ad g n k us wb tr pr le tk gf hok j hj i hi) ⟨va_cnB 1 hts gX3_bareWith_X1_valueFor_n165 rfl rfl rfl (hE.2 (.methodLinkNest RX3 165 yX1_valueFor RX3) (List.mem_of_getElem? (i := 6) rfl)) (hts (.initialized RX1) (by decide +kernel)) (by decide +kernel) ⟨Nat.le_of_ble_eq_true rfl, Nat.le_of_ble_eq_true rfl⟩, (hts (.instanceMethod yX1_valueFor) (by decide +kernel)), (hts (.selects RX1 yX1_valueFor yX1_valueFor) (by decide +kernel))⟩ ⟨zPr_blind, va_recv hK hP (ci := 1) (q0 := (11 + n + j)) rfl (cws_P hj), zPr_mk hE hP⟩ rfl rfl hl.1 rfl (lv_room (Nat.le_of_ble_eq_true rfl)) dX3_bareWith_43 ⟨Nat.le_of_ble_eq_true rfl, Nat.le_of_ble_eq_true rfl⟩)) (fun r_10 e_11 => ?_)
      obtain rfl := e_11
      refine lv_isub hx hb dX3_bareWith_46 ?_
      refine lv_istore_n (lv' := [(3, .int ((bwL g i set (j)) - (vl g j i))), (5, .ref (ad (19 + j))), (0, .ref (ad 0)), (1, .ref (ad (11 + i))), (2, .int set), (4, .int (nI (j)))]) hx hb dX3_bareWith_47 rfl hl (by decide) rfl (fun ls hl => ?_)
      refine lv_iinc (v := nI ((j) + 1)) (lv' := [(4, .int (nI ((j) + 1))), (3, .int ((bwL g i set (j)) - (vl g j i))), (5, .ref (ad (19 + j))), (0, .ref (ad 0)), (1, .ref (ad (11 + i))), (2, .int set)]) hx hb dX3_bareWith_48 hl (k := 5) rfl (zinc _) (by decide) rfl (fun ls hl => ?_)
      refine lv_goto (tgt := 8) hx hb dX3_bareWith_51 (by decide) ?_
      exact ih_8 ls (lv_re (lv_sub hl [3, 4, 5, 1, 0] rfl) (by first | rfl | (simp only [bw, bwL, c_4, c_9]; done) | (simp only [bw, bwL, c_4, c_9]; rfl) | (simp [bw, bwL, c_4, c_9]; done)))
set_option maxHeartbeats 4000000 in
set_option maxRecDepth 100000 in
theorem zX3_weightedOf (l : Launch) (D : va_G) (cI cL cE cP : ClassId) (ad : Nat → Nat) (g : Nat → Nat → Int32) (n k : Nat) (us wb tr : Nat → Int32) (pr le : Nat → Int64) (tk gf : Int32) (hok : zOk g n k) (i : Nat) (hi : i < n) (b0 : Int32) : Met l yX3_weightedOf wsX3_weightedOf ({ frames := 1, cells := 0, slots := 0, locals := 24 }) (zPr D cI cL cE cP (cws cI cL cE cP ad g n k us wb tr pr le tk gf) [.ref (ad 0), .ref (ad (11 + i)), .int b0]) (vp_Si (fun r : Int32 => r = wo g i b0)) 0 0 (fun _ => False) := by
  refine Met.ofW (cc := cX3_weightedOf) (maxL := 6) (ret := (some .int)) (by decide) rfl ?_
  intro p e s m args below meth c s₁ B hml hv
  obtain ⟨rfl, hE, hP⟩ := hv
  have hx := B.exec
  have hb := B.bytes
  have hr := B.returns
  have hts := atoms_spec (ws := wsX3_weightedOf) B.pre
  have hown : s.vm.findClass RX3 = some m.cls := findClass_of_methodNamed B.named
  have hlocks := B.notSynchronized
  have hK := hE.1
  have iX0 : ∀ w ∈ wsX00, w ∈ wsX3_weightedOf := by decide +kernel
  have iX3 : ∀ w ∈ wsX30, w ∈ wsX3_weightedOf := by decide +kernel
  have hl := lv_entry ([.ref (ad 0), .ref (ad (11 + i)), .int b0]) (n := 6) (Nat.le_of_ble_eq_true rfl)
  rw [lg_entry_eq]
  generalize (lg_sl ([.ref (ad 0), .ref (ad (11 + i)), .int b0]) ++ List.replicate (6 - (lg_sl ([.ref (ad 0), .ref (ad (11 + i)), .int b0])).length) Slot.unset).toArray = ls at hl ⊢
  have hl : lv_has ls 6 [(0, .ref (ad 0)), (1, .ref (ad (11 + i))), (2, .int b0)] := hl
  refine lv_aload_n hx hb dX3_weightedOf_0 rfl (lv_at hl 0 rfl) ?_
  refine va_get (D := D) (ci := 3) (v := .ref (ad 1)) (C := RX3) (T := TX3) (N := 9) hx hb hts iX3 hown hK hP 0 cws_0 rfl 0 (by decide) (hts (.fieldLink RX3 7 "CapitalReckoner" "weights" "[I") (by decide +kernel)) (fun _ h9 => h9) rfl dX3_weightedOf_1 ?_
  refine lv_aload_n hx hb dX3_weightedOf_4 rfl (lv_at hl 1 rfl) ?_
  refine va_getN (D := D) (ci := 0) (v := .int (g 3 i)) (C := RX0) (T := TX0) (N := 8) hx hb hts iX0 hown hK hP (11 + i) (cws_E hi) rfl 3 (by decide) (va_Nw.use rfl (hE.2 (.fieldLinkNest RX3 123 "CapitalReckoner$Exposure" "kind" "I" RX3) (List.mem_of_getElem? (i := 22) rfl))) (fun _ h9 => h9) rfl dX3_weightedOf_5 ?_
  refine vp_callSi (va_Run.run (va_runS (As := [.ref (ad 1), .int (g 3 i)]) (rest := []) ⟨hx, hb, hml, hown, hts⟩ (zX3_at l D cI cL cE cP (cws cI cL cE cP ad g n k us wb tr pr le tk gf) 1 (ad 1) 4 (g 0) (by decide) cws_1 (g 3 i)) (va_cwS 2 hts gX3_weightedOf_X3_at rfl rfl rfl (by decide +kernel) ⟨Nat.le_of_ble_eq_true rfl, Nat.le_of_ble_eq_true rfl⟩) ⟨zPr_blind, zPr_mk hE hP⟩ rfl rfl hl.1 rfl (lv_room (Nat.le_of_ble_eq_true rfl)) dX3_weightedOf_8 ⟨Nat.le_of_ble_eq_true rfl, Nat.le_of_ble_eq_true rfl⟩)) (fun r_1 e_2 => ?_)
  obtain rfl := e_2
  refine lv_istore_n (lv' := [(3, .int (zat 4 (g 0) (g 3 i))), (0, .ref (ad 0)), (1, .ref (ad (11 + i))), (2, .int b0)]) hx hb dX3_weightedOf_11 rfl hl (by decide) rfl (fun ls hl => ?_)
  refine lv_aload_n hx hb dX3_weightedOf_12 rfl (lv_at hl 1 rfl) ?_
  refine va_get (D := D) (ci := 3) (v := .ref (ad 1)) (C := RX3) (T := TX3) (N := 9) hx hb hts iX3 hown hK hP 0 cws_0 rfl 0 (by decide) (hts (.fieldLink RX3 7 "CapitalReckoner" "weights" "[I") (by decide +kernel)) (fun _ h9 => h9) rfl dX3_weightedOf_13 ?_
  refine lv_aload_n hx hb dX3_weightedOf_16 rfl (lv_at hl 2 rfl) ?_
  refine va_getN (D := D) (ci := 0) (v := .int (g 9 i)) (C := RX0) (T := TX0) (N := 8) hx hb hts iX0 hown hK hP (11 + i) (cws_E hi) rfl 6 (by decide) (va_Nw.use rfl (hE.2 (.fieldLinkNest RX3 129 "CapitalReckoner$Exposure" "guaranteeKind" "I" RX3) (List.mem_of_getElem? (i := 25) rfl))) (fun _ h9 => h9) rfl dX3_weightedOf_17 ?_
  refine vp_callSi (va_Run.run (va_runS (As := [.ref (ad 1), .int (g 9 i)]) (rest := []) ⟨hx, hb, hml, hown, hts⟩ (zX3_at l D cI cL cE cP (cws cI cL cE cP ad g n k us wb tr pr le tk gf) 1 (ad 1) 4 (g 0) (by decide) cws_1 (g 9 i)) (va_cwS 2 hts gX3_weightedOf_X3_at rfl rfl rfl (by decide +kernel) ⟨Nat.le_of_ble_eq_true rfl, Nat.le_of_ble_eq_true rfl⟩) ⟨zPr_blind, zPr_mk hE hP⟩ rfl rfl hl.1 rfl (lv_room (Nat.le_of_ble_eq_true rfl)) dX3_weightedOf_20 ⟨Nat.le_of_ble_eq_true rfl, Nat.le_of_ble_eq_true rfl⟩)) (fun r_3 e_4 => ?_)
  obtain rfl := e_4
  refine lv_istore (lv' := [(4, .int (zat 4 (g 0) (g 9 i))), (3, .int (zat 4 (g 0) (g 3 i))), (0, .ref (ad 0)), (1, .ref (ad (11 + i))), (2, .int b0)]) hx hb dX3_weightedOf_23 hl (by decide) rfl (fun ls hl => ?_)
  refine lv_iload hx hb dX3_weightedOf_25 (lv_at hl 0 rfl) ?_
  refine lv_iload_n hx hb dX3_weightedOf_27 rfl (lv_at hl 1 rfl) ?_
  refine lv_icmp_ge (tgt := 42) hx hb dX3_weightedOf_28 (by decide) (fun c_5 => ?_) (fun c_5 => ?_)
  · refine lv_iconst (v := 0) hx hb dX3_weightedOf_42 (by decide) ?_
    refine lv_istore (lv' := [(5, .int 0), (4, .int (zat 4 (g 0) (g 9 i))), (3, .int (zat 4 (g 0) (g 3 i))), (0, .ref (ad 0)), (1, .ref (ad (11 + i))), (2, .int b0)]) hx hb dX3_weightedOf_43 hl (by decide) rfl (fun ls hl => ?_)
    refine lv_iload hx hb dX3_weightedOf_45 (lv_at hl 0 rfl) ?_
    refine lv_iload hx hb dX3_weightedOf_47 (lv_at hl 1 rfl) ?_
    refine vp_callSi (va_Run.run (va_runS (As := [.int 0, .int (zat 4 (g 0) (g 9 i))]) (rest := []) ⟨hx, hb, hml, hown, hts⟩ (zX3_percentOf l D cI cL cE cP (cws cI cL cE cP ad g n k us wb tr pr le tk gf) 0 (zat 4 (g 0) (g 9 i))) (va_cwS 2 hts gX3_weightedOf_X3_percentOf rfl rfl rfl (by decide +kernel) ⟨Nat.le_of_ble_eq_true rfl, Nat.le_of_ble_eq_true rfl⟩) ⟨zPr_blind, zPr_mk hE hP⟩ rfl rfl hl.1 rfl (lv_room (Nat.le_of_ble_eq_true rfl)) dX3_weightedOf_49 ⟨Nat.le_of_ble_eq_true rfl, Nat.le_of_ble_eq_true rfl⟩)) (fun r_6 e_7 => ?_)
    obtain rfl := e_7
    refine lv_iload_n hx hb dX3_weightedOf_52 rfl (lv_at hl 5 rfl) ?_
    refine lv_iload hx hb dX3_weightedOf_53 (lv_at hl 0 rfl) ?_
    refine lv_isub hx hb dX3_weightedOf_55 ?_
    refine lv_iload_n hx hb dX3_weightedOf_56 rfl (lv_at hl 2 rfl) ?_
    refine vp_callSi (va_Run.run (va_runS (As := [.int (b0 - 0), .int (zat 4 (g 0) (g 3 i))]) (rest := [.int (pct 0 (zat 4 (g 0) (g 9 i)))]) ⟨hx, hb, hml, hown, hts⟩ (zX3_percentOf l D cI cL cE cP (cws cI cL cE cP ad g n k us wb tr pr le tk gf) (b0 - 0) (zat 4 (g 0) (g 3 i))) (va_cwS 2 hts gX3_weightedOf_X3_percentOf rfl rfl rfl (by decide +kernel) ⟨Nat.le_of_ble_eq_true rfl, Nat.le_of_ble_eq_true rfl⟩) ⟨zPr_blind, zPr_mk hE hP⟩ rfl rfl hl.1 rfl (lv_room (Nat.le_of_ble_eq_true rfl)) dX3_weightedOf_57 ⟨Nat.le_of_ble_eq_true rfl, Nat.le_of_ble_eq_true rfl⟩)) (fun r_8 e_9 => ?_)
    obtain rfl := e_9
    refine lv_iadd hx hb dX3_weightedOf_60 ?_
    exact W.iret (v := (pct 0 (zat 4 (g 0) (g 9 i))) + (pct (b0 - 0) (zat 4 (g 0) (g 3 i)))) hx hb hr (fun t ht hW => ⟨_, rfl, (by first | rfl | (simp only [wo, c_5]; done) | (simp only [wo, c_5]; rfl) | (simp [wo, c_5]; done)), ht⟩) (fun _ h => nomatch h) dX3_weightedOf_61
  · refine lv_iload_n hx hb dX3_weightedOf_31 rfl (lv_at hl 4 rfl) ?_
    refine lv_aload_n hx hb dX3_weightedOf_32 rfl (lv_at hl 3 rfl) ?_
    refine va_getN (D := D) (ci := 0) (v := .int (g 10 i)) (C := RX0) (T := TX0) (N := 8) hx hb hts iX0 hown hK hP (11 + i) (cws_E hi) rfl 7 (by decide) (va_Nw.use rfl (hE.2 (.fieldLinkNest RX3 126 "CapitalReckoner$Exposure" "guaranteeSum" "I" RX3) (List.mem_of_getElem? (i := 26) rfl))) (fun _ h9 => h9) rfl dX3_weightedOf_33 ?_
    refine va_mmin hx hb (hml.trans hl.1.symm) hown (hts (.methodLink RX3 224 Lib.Math.min.name) (by decide +kernel)) (hts (.static Lib.Math.min.name) (by decide +kernel)) (hts (.initialized "java/lang/Math") (by decide +kernel)) (hts (.code Lib.Math.min.name Lib.Math.min.code 2 (some .int)) (by decide +kernel)) (Nat.le_of_ble_eq_true rfl) (Nat.le_of_ble_eq_true rfl) (Nat.zero_le _) (Nat.zero_le _) dX3_weightedOf_36 ?_
    refine lv_goto (tgt := 43) hx hb dX3_weightedOf_39 (by decide) ?_
    refine lv_istore (lv' := [(5, .int (if g 10 i < b0 then g 10 i else b0)), (4, .int (zat 4 (g 0) (g 9 i))), (3, .int (zat 4 (g 0) (g 3 i))), (0, .ref (ad 0)), (1, .ref (ad (11 + i))), (2, .int b0)]) hx hb dX3_weightedOf_43 hl (by decide) rfl (fun ls hl => ?_)
    refine lv_iload hx hb dX3_weightedOf_45 (lv_at hl 0 rfl) ?_
    refine lv_iload hx hb dX3_weightedOf_47 (lv_at hl 1 rfl) ?_
    refine vp_callSi (va_Run.run (va_runS (As := [.int (if g 10 i < b0 then g 10 i else b0), .int (zat 4 (g 0) (g 9 i))]) (rest := []) ⟨hx, hb, hml, hown, hts⟩ (zX3_percentOf l D cI cL cE cP (cws cI cL cE cP ad g n k us wb tr pr le tk gf) (if g 10 i < b0 then g 10 i else b0) (zat 4 (g 0) (g 9 i))) (va_cwS 2 hts gX3_weightedOf_X3_percentOf rfl rfl rfl (by decide +kernel) ⟨Nat.le_of_ble_eq_true rfl, Nat.le_of_ble_eq_true rfl⟩) ⟨zPr_blind, zPr_mk hE hP⟩ rfl rfl hl.1 rfl (lv_room (Nat.le_of_ble_eq_true rfl)) dX3_weightedOf_49 ⟨Nat.le_of_ble_eq_true rfl, Nat.le_of_ble_eq_true rfl⟩)) (fun r_10 e_11 => ?_)
    obtain rfl := e_11
    refine lv_iload_n hx hb dX3_weightedOf_52 rfl (lv_at hl 5 rfl) ?_
    refine lv_iload hx hb dX3_weightedOf_53 (lv_at hl 0 rfl) ?_
    refine lv_isub hx hb dX3_weightedOf_55 ?_
    refine lv_iload_n hx hb dX3_weightedOf_56 rfl (lv_at hl 2 rfl) ?_
    refine vp_callSi (va_Run.run (va_runS (As := [.int (b0 - (if g 10 i < b0 then g 10 i else b0)), .int (zat 4 (g 0) (g 3 i))]) (rest := [.int (pct (if g 10 i < b0 then g 10 i else b0) (zat 4 (g 0) (g 9 i)))]) ⟨hx, hb, hml, hown, hts⟩ (zX3_percentOf l D cI cL cE cP (cws cI cL cE cP ad g n k us wb tr pr le tk gf) (b0 - (if g 10 i < b0 then g 10 i else b0)) (zat 4 (g 0) (g 3 i))) (va_cwS 2 hts gX3_weightedOf_X3_percentOf rfl rfl rfl (by decide +kernel) ⟨Nat.le_of_ble_eq_true rfl, Nat.le_of_ble_eq_true rfl⟩) ⟨zPr_blind, zPr_mk hE hP⟩ rfl rfl hl.1 rfl (lv_room (Nat.le_of_ble_eq_true rfl)) dX3_weightedOf_57 ⟨Nat.le_of_ble_eq_true rfl, Nat.le_of_ble_eq_true rfl⟩)) (fun r_12 e_13 => ?_)
    obtain rfl := e_13
    refine lv_iadd hx hb dX3_weightedOf_60 ?_
    exact W.iret (v := (pct (if g 10 i < b0 then g 10 i else b0) (zat 4 (g 0) (g 9 i))) + (pct (b0 - (if g 10 i < b0 then g 10 i else b0)) (zat 4 (g 0) (g 3 i)))) hx hb hr (fun t ht hW => ⟨_, rfl, (by first | rfl | (simp only [wo, c_5]; done) | (simp only [wo, c_5]; rfl) | (simp [wo, c_5]; done)), ht⟩) (fun _ h => nomatch h) dX3_weightedOf_61
set_option maxHeartbeats 4000000 in
set_option maxRecDepth 100000 in
theorem zX3_usableFor (l : Launch) (D : va_G) (cI cL cE cP : ClassId) (ad : Nat → Nat) (g : Nat → Nat → Int32) (n k : Nat) (us wb tr : Nat → Int32) (pr le : Nat → Int64) (tk gf : Int32) (hok : zOk g n k) (e0 : Int32) : Met l yX3_usableFor wsX3_usableFor ({ frames := 1, cells := 0, slots := 0, locals := 21 }) (zPr D cI cL cE cP (cws cI cL cE cP ad g n k us wb tr pr le tk gf) [.ref (ad 0), .int e0]) (vp_Si (fun r : Int32 => r = usL g e0 k)) 0 0 (fun _ => False) := by
  refine Met.ofW (cc := cX3_usableFor) (maxL := 5) (ret := (some .int)) (by decide) rfl ?_
  intro p e s m args below meth c s₁ B hml hv
  obtain ⟨rfl, hE, hP⟩ := hv
  have hx := B.exec
  have hb := B.bytes
  have hr := B.returns
  have hts := atoms_spec (ws := wsX3_usableFor) B.pre
  have hown : s.vm.findClass RX3 = some m.cls := findClass_of_methodNamed B.named
  have hlocks := B.notSynchronized
  have hK := hE.1
  have iX1 : ∀ w ∈ wsX10, w ∈ wsX3_usableFor := by decide +kernel
  have iX3 : ∀ w ∈ wsX30, w ∈ wsX3_usableFor := by decide +kernel
  have hl := lv_entry ([.ref (ad 0), .int e0]) (n := 5) (Nat.le_of_ble_eq_true rfl)
  rw [lg_entry_eq]
  generalize (lg_sl ([.ref (ad 0), .int e0]) ++ List.replicate (5 - (lg_sl ([.ref (ad 0), .int e0])).length) Slot.unset).toArray = ls at hl ⊢
  have hl : lv_has ls 5 [(0, .ref (ad 0)), (1, .int e0)] := hl
  refine lv_iconst (v := 0) hx hb dX3_usableFor_0 (by decide) ?_
  refine lv_istore_n (lv' := [(2, .int 0), (0, .ref (ad 0)), (1, .int e0)]) hx hb dX3_usableFor_1 rfl hl (by decide) rfl (fun ls hl => ?_)
  refine lv_iconst (v := 0) hx hb dX3_usableFor_2 (by decide) ?_
  refine lv_istore_n (lv' := [(3, .int 0), (2, .int 0), (0, .ref (ad 0)), (1, .int e0)]) hx hb dX3_usableFor_3 rfl hl (by decide) rfl (fun ls hl => ?_)
  refine zloop (nL := 5) (lv := fun j => [(0, .ref (ad 0)), (1, .int e0), (2, .int (usL g e0 (j))), (3, .int (nI (j)))]) (n := k) (lv_re (lv_sub hl [2, 3, 1, 0] rfl) (by first | rfl | (simp only [usL, nI_0]; done) | (simp only [usL, nI_0]; rfl) | (simp [usL, nI_0]; done))) (fun ls hl => ?_) (fun j hj ih_4 ls hl => ?_)
  · have hl : lv_has ls 5 [(0, .ref (ad 0)), (1, .int e0), (2, .int (usL g e0 (k))), (3, .int (nI (k)))] := hl
    refine lv_iload_n hx hb dX3_usableFor_4 rfl (lv_at hl 3 rfl) ?_
    refine lv_aload_n hx hb dX3_usableFor_5 rfl (lv_at hl 0 rfl) ?_
    refine va_get (D := D) (ci := 3) (v := .int (nI k)) (C := RX3) (T := TX3) (N := 9) hx hb hts iX3 hown hK hP 0 cws_0 rfl 6 (by decide) (hts (.fieldLink RX3 39 "CapitalReckoner" "pieceCount" "I") (by decide +kernel)) (fun _ h9 => h9) rfl dX3_usableFor_6 ?_
    refine lv_icmp_ge (tgt := 48) hx hb dX3_usableFor_9 (by decide) (fun c_1 => ?_) (fun c_1 => absurd (zle_refl (nI k)) c_1)
    refine lv_iload_n hx hb dX3_usableFor_48 rfl (lv_at hl 2 rfl) ?_
    exact W.iret (v := usL g e0 (k)) hx hb hr (fun t ht hW => ⟨_, rfl, (by first | rfl | (simp only [usL, c_1]; done) | (simp only [usL, c_1]; rfl) | (simp [usL, c_1]; done)), ht⟩) (fun _ h => nomatch h) dX3_usableFor_49
  · have hl : lv_has ls 5 [(0, .ref (ad 0)), (1, .int e0), (2, .int (usL g e0 (j))), (3, .int (nI (j)))] := hl
    refine lv_iload_n hx hb dX3_usableFor_4 rfl (lv_at hl 3 rfl) ?_
    refine lv_aload_n hx hb dX3_usableFor_5 rfl (lv_at hl 0 rfl) ?_
    refine va_get (D := D) (ci := 3) (v := .int (nI k)) (C := RX3) (T := TX3) (N := 9) hx hb hts iX3 hown hK hP 0 cws_0 rfl 6 (by decide) (hts (.fieldLink RX3 39 "CapitalReckoner" "pieceCount" "I") (by decide +kernel)) (fun _ h9 => h9) rfl dX3_usableFor_6 ?_
    refine lv_icmp_ge (tgt := 48) hx hb dX3_usableFor_9 (by decide) (fun c_2 => absurd c_2 (nI_ge hj (by have := hok.k; omega))) (fun c_2 => ?_)
    refine lv_aload_n hx hb dX3_usableFor_12 rfl (lv_at hl 0 rfl) ?_
    refine lv_iload_n hx hb dX3_usableFor_13 rfl (lv_at hl 3 rfl) ?_
    refine va_csq (va_Run.run (va_runV (As := [.int (nI (j))]) (rest := []) ⟨hx, hb, hml, hown, hts⟩ (zX3_pieceAt l D cI cL cE cP ad g n k us wb tr pr le tk gf hok (nI (j))) (cwV 1 hts gX3_usableFor_X3_pieceAt rfl rfl rfl (by decide +kernel) ⟨Nat.le_of_ble_eq_true rfl, Nat.le_of_ble_eq_true rfl⟩) ⟨zPr_blind, va_recv hK hP (ci := 3) (q0 := 0) rfl cws_0, zPr_mk hE hP⟩ rfl rfl hl.1 rfl (lv_room (Nat.le_of_ble_eq_true rfl)) dX3_usableFor_14 ⟨Nat.le_of_ble_eq_true rfl, Nat.le_of_ble_eq_true rfl⟩)) (fun r_3 e_4 => ?_)
    obtain rfl := zpi_known e_4 hj hok
    refine lv_astore (lv' := [(4, .ref (ad (19 + j))), (0, .ref (ad 0)), (1, .int e0), (2, .int (usL g e0 (j))), (3, .int (nI (j)))]) hx hb dX3_usableFor_17 hl (by decide) rfl (fun ls hl => ?_)
    refine lv_aload hx hb dX3_usableFor_19 (lv_at hl 0 rfl) ?_
    refine lv_ifnull hx hb dX3_usableFor_21 ?_
    refine lv_aload hx hb dX3_usableFor_24 (lv_at hl 0 rfl) ?_
    refine va_getN (D := D) (ci := 1) (v := .int (g 15 j)) (C := RX1) (T := TX1) (N := 5) hx hb hts iX1 hown hK hP (11 + n + j) (cws_P hj) rfl 4 (by decide) (va_Nw.use rfl (hE.2 (.fieldLinkNest RX3 160 "CapitalReckoner$Piece" "uses" "I" RX3) (List.mem_of_getElem? (i := 28) rfl))) (fun _ h9 => h9) rfl dX3_usableFor_26 ?_
    refine lv_iload_n hx hb dX3_usableFor_29 rfl (lv_at hl 2 rfl) ?_
    refine vp_callSi (va_Run.run (va_runS (As := [.int (g 15 j), .int e0]) (rest := []) ⟨hx, hb, hml, hown, hts⟩ (zX3_has l D cI cL cE cP (cws cI cL cE cP ad g n k us wb tr pr le tk gf) (g 15 j) e0) (va_cwS 2 hts gX3_usableFor_X3_has rfl rfl rfl (by decide +kernel) ⟨Nat.le_of_ble_eq_true rfl, Nat.le_of_ble_eq_true rfl⟩) ⟨zPr_blind, zPr_mk hE hP⟩ rfl rfl hl.1 rfl (lv_room (Nat.le_of_ble_eq_true rfl)) dX3_usableFor_30 ⟨Nat.le_of_ble_eq_true rfl, Nat.le_of_ble_eq_true rfl⟩)) (fun r_5 e_6 => ?_)
    obtain rfl := e_6
    refine lv_if_eq (tgt := 42) hx hb dX3_usableFor_33 (by decide) (fun c_7 => ?_) (fun c_7 => ?_)
    · have c_7 := zb_eq c_7
      refine lv_iinc (v := nI ((j) + 1)) (lv' := [(3, .int (nI ((j) + 1))), (4, .ref (ad (19 + j))), (0, .ref (ad 0)), (1, .int e0), (2, .int (usL g e0 (j)))]) hx hb dX3_usableFor_42 hl (k := 4) rfl (zinc _) (by decide) rfl (fun ls hl => ?_)
      refine lv_goto (tgt := 4) hx hb dX3_usableFor_45 (by decide) ?_
      exact ih_4 ls (lv_re (lv_sub hl [2, 3, 4, 0] rfl) (by first | rfl | (simp only [usL, c_2, c_7]; done) | (simp only [usL, c_2, c_7]; rfl) | (simp [usL, c_2, c_7]; done)))
    · have c_7 := zb_ne c_7
      refine lv_iload_n hx hb dX3_usableFor_36 rfl (lv_at hl 3 rfl) ?_
      refine lv_iconst (v := 1) hx hb dX3_usableFor_37 (by decide) ?_
      refine lv_iload_n hx hb dX3_usableFor_38 rfl (lv_at hl 4 rfl) ?_
      refine lv_ishl hx hb dX3_usableFor_39 ?_
      refine lv_ior hx hb dX3_usableFor_40 ?_
      refine lv_istore_n (lv' := [(2, .int ((usL g e0 (j)) ||| ((1 : Int32) <<< ((nI (j)) &&& 31)))), (4, .ref (ad (19 + j))), (0, .ref (ad 0)), (1, .int e0), (3, .int (nI (j)))]) hx hb dX3_usableFor_41 rfl hl (by decide) rfl (fun ls hl => ?_)
      refine lv_iinc (v := nI ((j) + 1)) (lv' := [(3, .int (nI ((j) + 1))), (2, .int ((usL g e0 (j)) ||| ((1 : Int32) <<< ((nI (j)) &&& 31)))), (4, .ref (ad (19 + j))), (0, .ref (ad 0)), (1, .int e0)]) hx hb dX3_usableFor_42 hl (k := 4) rfl (zinc _) (by decide) rfl (fun ls hl => ?_)
      refine lv_goto (tgt := 4) hx hb dX3_usableFor_45 (by decide) ?_
      exact ih_4 ls (lv_re (lv_sub hl [3, 4, 1, 0] rfl) (by first | rfl | (simp only [usL, c_2, c_7]; done) | (simp only [usL, c_2, c_7]; rfl) | (simp [usL, c_2, c_7]; done)))
set_option maxHeartbeats 4000000 in
set_option maxRecDepth 100000 in
theorem zX3_bareOfParty (l : Launch) (D : va_G) (cI cL cE cP : ClassId) (ad : Nat → Nat) (g : Nat → Nat → Int32) (n k : Nat) (us wb tr : Nat → Int32) (pr le : Nat → Int64) (hok : zOk g n k) (p0 : Int32) : Met l yX3_bareOfParty wsX3_bareOfParty ({ frames := 4, cells := 0, slots := 0, locals := 86 }) (zPr D cI cL cE cP (cws cI cL cE cP ad g n k us wb tr pr le (nI n) (nI k)) [.ref (ad 0), .int p0]) (vp_Si (fun r : Int32 => r = bpL g k le p0 n)) 0 0 (fun _ => False) := by
  refine Met.ofW (cc := cX3_bareOfParty) (maxL := 5) (ret := (some .int)) (by decide) rfl ?_
  intro p e s m args below meth c s₁ B hml hv
  obtain ⟨rfl, hE, hP⟩ := hv
  have hx := B.exec
  have hb := B.bytes
  have hr := B.returns
  have hts := atoms_spec (ws := wsX3_bareOfParty) B.pre
  have hown : s.vm.findClass RX3 = some m.cls := findClass_of_methodNamed B.named
  have hlocks := B.notSynchronized
  have hK := hE.1
  have iX0 : ∀ w ∈ wsX00, w ∈ wsX3_bareOfParty := by decide +kernel
  have iX3 : ∀ w ∈ wsX30, w ∈ wsX3_bareOfParty := by decide +kernel
  have hl := lv_entry ([.ref (ad 0), .int p0]) (n := 5) (Nat.le_of_ble_eq_true rfl)
  rw [lg_entry_eq]
  generalize (lg_sl ([.ref (ad 0), .int p0]) ++ List.replicate (5 - (lg_sl ([.ref (ad 0), .int p0])).length) Slot.unset).toArray = ls at hl ⊢
  have hl : lv_has ls 5 [(0, .ref (ad 0)), (1, .int p0)] := hl
  refine lv_iconst (v := 0) hx hb dX3_bareOfParty_0 (by decide) ?_
  refine lv_istore_n (lv' := [(2, .int 0), (0, .ref (ad 0)), (1, .int p0)]) hx hb dX3_bareOfParty_1 rfl hl (by decide) rfl (fun ls hl => ?_)
  refine lv_iconst (v := 0) hx hb dX3_bareOfParty_2 (by decide) ?_
  refine lv_istore_n (lv' := [(3, .int 0), (2, .int 0), (0, .ref (ad 0)), (1, .int p0)]) hx hb dX3_bareOfParty_3 rfl hl (by decide) rfl (fun ls hl => ?_)
  refine zloop (nL := 5) (lv := fun i => [(0, .ref (ad 0)), (1, .int p0), (2, .int (bpL g k le p0 (i))), (3, .int (nI (i)))]) (n := n) (lv_re (lv_sub hl [2, 3, 1, 0] rfl) (by first | rfl | (simp only [bpL, nI_0]; done) | (simp only [bpL, nI_0]; rfl) | (simp [bpL, nI_0]; done))) (fun ls hl => ?_) (fun i hi ih_4 ls hl => ?_)
  · have hl : lv_has ls 5 [(0, .ref (ad 0)), (1, .int p0), (2, .int (bpL g k le p0 (n))), (3, .int (nI (n)))] := hl
    refine lv_iload_n hx hb dX3_bareOfParty_4 rfl (lv_at hl 3 rfl) ?_
    refine lv_aload_n hx hb dX3_bareOfParty_5 rfl (lv_at hl 0 rfl) ?_
    refine va_get (D := D) (ci := 3) (v := .int (nI n)) (C := RX3) (T := TX3) (N := 9) hx hb hts iX3 hown hK hP 0 cws_0 rfl 5 (by decide) (hts (.fieldLink RX3 35 "CapitalReckoner" "exposureCount" "I") (by decide +kernel)) (fun _ h9 => h9) rfl dX3_bareOfParty_6 ?_
    refine lv_icmp_ge (tgt := 56) hx hb dX3_bareOfParty_9 (by decide) (fun c_1 => ?_) (fun c_1 => absurd (zle_refl (nI n)) c_1)
    refine lv_iload_n hx hb dX3_bareOfParty_56 rfl (lv_at hl 2 rfl) ?_
    exact W.iret (v := bpL g k le p0 (n)) hx hb hr (fun t ht hW => ⟨_, rfl, (by first | rfl | (simp only [bpL, c_1]; done) | (simp only [bpL, c_1]; rfl) | (simp [bpL, c_1]; done)), ht⟩) (fun _ h => nomatch h) dX3_bareOfParty_57
  · have hl : lv_has ls 5 [(0, .ref (ad 0)), (1, .int p0), (2, .int (bpL g k le p0 (i))), (3, .int (nI (i)))] := hl
    refine lv_iload_n hx hb dX3_bareOfParty_4 rfl (lv_at hl 3 rfl) ?_
    refine lv_aload_n hx hb dX3_bareOfParty_5 rfl (lv_at hl 0 rfl) ?_
    refine va_get (D := D) (ci := 3) (v := .int (nI n)) (C := RX3) (T := TX3) (N := 9) hx hb hts iX3 hown hK hP 0 cws_0 rfl 5 (by decide) (hts (.fieldLink RX3 35 "CapitalReckoner" "exposureCount" "I") (by decide +kernel)) (fun _ h9 => h9) rfl dX3_bareOfParty_6 ?_
    refine lv_icmp_ge (tgt := 56) hx hb dX3_bareOfParty_9 (by decide) (fun c_2 => absurd c_2 (nI_ge hi (by have := hok.n; omega))) (fun c_2 => ?_)
    refine lv_aload_n hx hb dX3_bareOfParty_12 rfl (lv_at hl 0 rfl) ?_
    refine lv_iload_n hx hb dX3_bareOfParty_13 rfl (lv_at hl 3 rfl) ?_
    refine va_csq (va_Run.run (va_runV (As := [.int (nI (i))]) (rest := []) ⟨hx, hb, hml, hown, hts⟩ (zX3_exposureAt l D cI cL cE cP ad g n k us wb tr pr le (nI n) (nI k) hok (nI (i))) (cwV 1 hts gX3_bareOfParty_X3_exposureAt rfl rfl rfl (by decide +kernel) ⟨Nat.le_of_ble_eq_true rfl, Nat.le_of_ble_eq_true rfl⟩) ⟨zPr_blind, va_recv hK hP (ci := 3) (q0 := 0) rfl cws_0, zPr_mk hE hP⟩ rfl rfl hl.1 rfl (lv_room (Nat.le_of_ble_eq_true rfl)) dX3_bareOfParty_14 ⟨Nat.le_of_ble_eq_true rfl, Nat.le_of_ble_eq_true rfl⟩)) (fun r_3 e_4 => ?_)
    obtain rfl := zex_known e_4 hi hok
    refine lv_astore (lv' := [(4, .ref (ad (11 + i))), (0, .ref (ad 0)), (1, .int p0), (2, .int (bpL g k le p0 (i))), (3, .int (nI (i)))]) hx hb dX3_bareOfParty_17 hl (by decide) rfl (fun ls hl => ?_)
    refine lv_aload hx hb dX3_bareOfParty_19 (lv_at hl 0 rfl) ?_
    refine lv_ifnull hx hb dX3_bareOfParty_21 ?_
    refine lv_aload hx hb dX3_bareOfParty_24 (lv_at hl 0 rfl) ?_
    refine va_getN (D := D) (ci := 0) (v := .int (g 4 i)) (C := RX0) (T := TX0) (N := 8) hx hb hts iX0 hown hK hP (11 + i) (cws_E hi) rfl 0 (by decide) (va_Nw.use rfl (hE.2 (.fieldLinkNest RX3 227 "CapitalReckoner$Exposure" "party" "I" RX3) (List.mem_of_getElem? (i := 19) rfl))) (fun _ h9 => h9) rfl dX3_bareOfParty_26 ?_
    refine lv_iload_n hx hb dX3_bareOfParty_29 rfl (lv_at hl 2 rfl) ?_
    refine lv_icmp_ne (tgt := 50) hx hb dX3_bareOfParty_30 (by decide) (fun c_5 => ?_) (fun c_5 => ?_)
    · refine lv_iinc (v := nI ((i) + 1)) (lv' := [(3, .int (nI ((i) + 1))), (4, .ref (ad (11 + i))), (0, .ref (ad 0)), (1, .int p0), (2, .int (bpL g k le p0 (i)))]) hx hb dX3_bareOfParty_50 hl (k := 4) rfl (zinc _) (by decide) rfl (fun ls hl => ?_)
      refine lv_goto (tgt := 4) hx hb dX3_bareOfParty_53 (by decide) ?_
      exact ih_4 ls (lv_re (lv_sub hl [2, 3, 4, 0] rfl) (by first | rfl | (simp only [bpL, c_2, c_5]; done) | (simp only [bpL, c_2, c_5]; rfl) | (simp [bpL, c_2, c_5]; done)))
    · refine lv_iload_n hx hb dX3_bareOfParty_33 rfl (lv_at hl 3 rfl) ?_
      refine lv_aload_n hx hb dX3_bareOfParty_34 rfl (lv_at hl 1 rfl) ?_
      refine lv_aload hx hb dX3_bareOfParty_35 (lv_at hl 0 rfl) ?_
      refine lv_aload_n hx hb dX3_bareOfParty_37 rfl (lv_at hl 1 rfl) ?_
      refine va_get (D := D) (ci := 3) (v := .ref (ad 5)) (C := RX3) (T := TX3) (N := 9) hx hb hts iX3 hown hK hP 0 cws_0 rfl 4 (by decide) (hts (.fieldLink RX3 31 "CapitalReckoner" "search" "LCapitalReckoner$Search;") (by decide +kernel)) (fun _ h9 => h9) rfl dX3_bareOfParty_38 ?_
      refine lv_iload_n hx hb dX3_bareOfParty_41 rfl (lv_at hl 4 rfl) ?_
      refine vp_callSi (va_Run.run (va_runVN (As := [.int (nI (i))]) (rest := [.ref (ad (11 + i)), .ref (ad 0), .int (bpL g k le p0 (i))]) ⟨hx, hb, hml, hown, hts⟩ (zX2_givenSet l D cI cL cE cP ad g n k us wb tr pr le hok (nI (i))) ⟨va_cnB 1 hts gX3_bareOfParty_X2_givenSet_n176 rfl rfl rfl (hE.2 (.methodLinkNest RX3 176 yX2_givenSet RX3) (List.mem_of_getElem? (i := 14) rfl)) (hts (.initialized RX2) (by decide +kernel)) (by decide +kernel) ⟨Nat.le_of_ble_eq_true rfl, Nat.le_of_ble_eq_true rfl⟩, (hts (.instanceMethod yX2_givenSet) (by decide +kernel)), (hts (.selects RX2 yX2_givenSet yX2_givenSet) (by decide +kernel))⟩ ⟨zPr_blind, va_recv hK hP (ci := 2) (q0 := 5) rfl cws_5, zPr_mk hE hP⟩ rfl rfl hl.1 rfl (lv_room (Nat.le_of_ble_eq_true rfl)) dX3_bareOfParty_42 ⟨Nat.le_of_ble_eq_true rfl, Nat.le_of_ble_eq_true rfl⟩)) (fun r_6 e_7 => ?_)
      obtain rfl := e_7
      refine vp_callSi (va_Run.run (va_runV (As := [.ref (ad (11 + i)), .int (gsL le k (nI (i)) k)]) (rest := [.int (bpL g k le p0 (i))]) ⟨hx, hb, hml, hown, hts⟩ (zX3_bareWith l D cI cL cE cP ad g n k us wb tr pr le (nI n) (nI k) hok i hi (gsL le k (nI (i)) k)) (cwV 2 hts gX3_bareOfParty_X3_bareWith rfl rfl rfl (by decide +kernel) ⟨Nat.le_of_ble_eq_true rfl, Nat.le_of_ble_eq_true rfl⟩) ⟨zPr_blind, va_recv hK hP (ci := 3) (q0 := 0) rfl cws_0, zPr_mk hE hP⟩ rfl rfl hl.1 rfl (lv_room (Nat.le_of_ble_eq_true rfl)) dX3_bareOfParty_45 ⟨Nat.le_of_ble_eq_true rfl, Nat.le_of_ble_eq_true rfl⟩)) (fun r_8 e_9 => ?_)
      obtain rfl := e_9
      refine lv_iadd hx hb dX3_bareOfParty_48 ?_
      refine lv_istore_n (lv' := [(2, .int ((bpL g k le p0 (i)) + (bw g k i (gsL le k (nI (i)) k)))), (4, .ref (ad (11 + i))), (0, .ref (ad 0)), (1, .int p0), (3, .int (nI (i)))]) hx hb dX3_bareOfParty_49 rfl hl (by decide) rfl (fun ls hl => ?_)
      refine lv_iinc (v := nI ((i) + 1)) (lv' := [(3, .int (nI ((i) + 1))), (2, .int ((bpL g k le p0 (i)) + (bw g k i (gsL le k (nI (i)) k)))), (4, .ref (ad (11 + i))), (0, .ref (ad 0)), (1, .int p0)]) hx hb dX3_bareOfParty_50 hl (k := 4) rfl (zinc _) (by decide) rfl (fun ls hl => ?_)
      refine lv_goto (tgt := 4) hx hb dX3_bareOfParty_53 (by decide) ?_
      exact ih_4 ls (lv_re (lv_sub hl [3, 4, 1, 0] rfl) (by first | rfl | (simp only [bpL, c_2, c_5]; done) | (simp only [bpL, c_2, c_5]; rfl) | (simp [bpL, c_2, c_5]; done)))
set_option maxHeartbeats 4000000 in
set_option maxRecDepth 100000 in
theorem zX3_fillSearch (l : Launch) (D : va_G) (cI cL cE cP : ClassId) (ad : Nat → Nat) (g : Nat → Nat → Int32) (n k : Nat) (us wb tr : Nat → Int32) (pr le : Nat → Int64) (tk gf : Int32) (hok : zOk g n k) (sz : Nat) : Met l yX3_fillSearch wsX3_fillSearch ({ frames := 3, cells := 0, slots := 0, locals := 68 }) (zPw D cI cL cE cP (cws cI cL cE cP ad g n k us wb tr pr le tk gf) sz [.ref (ad 0)]) (zQv D (cws cI cL cE cP ad g n k us wb tr pr le tk gf) sz (cws cI cL cE cP ad g n k (zfl (US g k) us n) (zfl (WB g k) wb (32 * n)) tr pr le (nI n) (nI k))) 0 0 (va_A (cws cI cL cE cP ad g n k us wb tr pr le tk gf) sz) := by
  refine Met.ofW (cc := cX3_fillSearch) (maxL := 4) (ret := none) (by decide) rfl ?_
  intro p e s m args below meth c s₁ B hml hv
  obtain ⟨rfl, hsz, hE, hP, hD0⟩ := hv
  subst hsz
  obtain ⟨A, hAe⟩ : ∃ A, A = va_A (cws cI cL cE cP ad g n k us wb tr pr le tk gf) s.heap.size := ⟨_, rfl⟩
  have hD : va_D A (cws cI cL cE cP ad g n k us wb tr pr le tk gf) := by rw [hAe]; exact hD0.self
  have hA : ∀ q : Nat, s.heap.size ≤ q → A q := fun q h => by rw [hAe]; exact Or.inr h
  have hS : va_S A s.heap s.heap [] := va_S.rf
  have hx := B.exec
  have hb := B.bytes
  have hr := B.returns
  have hts := atoms_spec (ws := wsX3_fillSearch) B.pre
  have hown : s.vm.findClass RX3 = some m.cls := findClass_of_methodNamed B.named
  have hlocks := B.notSynchronized
  have hK := hE.1
  have iX3 : ∀ w ∈ wsX30, w ∈ wsX3_fillSearch := by decide +kernel
  have hl := lv_entry ([.ref (ad 0)]) (n := 4) (Nat.le_of_ble_eq_true rfl)
  rw [lg_entry_eq]
  generalize (lg_sl ([.ref (ad 0)]) ++ List.replicate (4 - (lg_sl ([.ref (ad 0)])).length) Slot.unset).toArray = ls at hl ⊢
  have hl : lv_has ls 4 [(0, .ref (ad 0))] := hl
  refine lv_aload_n hx hb dX3_fillSearch_0 rfl (lv_at hl 0 rfl) ?_
  refine va_get (D := D) (ci := 3) (v := .ref (ad 5)) (C := RX3) (T := TX3) (N := 9) hx hb hts iX3 hown hK hP 0 cws_0 rfl 4 (by decide) (hts (.fieldLink RX3 31 "CapitalReckoner" "search" "LCapitalReckoner$Search;") (by decide +kernel)) (fun _ h9 => h9) rfl dX3_fillSearch_1 ?_
  refine lv_aload_n hx hb dX3_fillSearch_4 rfl (lv_at hl 0 rfl) ?_
  refine va_get (D := D) (ci := 3) (v := .int (nI n)) (C := RX3) (T := TX3) (N := 9) hx hb hts iX3 hown hK hP 0 cws_0 rfl 5 (by decide) (hts (.fieldLink RX3 35 "CapitalReckoner" "exposureCount" "I") (by decide +kernel)) (fun _ h9 => h9) rfl dX3_fillSearch_5 ?_
  refine lv_aload_n hx hb dX3_fillSearch_8 rfl (lv_at hl 0 rfl) ?_
  refine va_get (D := D) (ci := 3) (v := .int (nI k)) (C := RX3) (T := TX3) (N := 9) hx hb hts iX3 hown hK hP 0 cws_0 rfl 6 (by decide) (hts (.fieldLink RX3 39 "CapitalReckoner" "pieceCount" "I") (by decide +kernel)) (fun _ h9 => h9) rfl dX3_fillSearch_9 ?_
  refine zcallv (va_runVN (As := [.int (nI n), .int (nI k)]) (rest := []) ⟨hx, hb, hml, hown, hts⟩ (zX2_begin l D cI cL cE cP ad g n k us wb tr pr le tk gf hok s.heap.size) ⟨va_cnB 2 hts gX3_fillSearch_X2_begin_n233 rfl rfl rfl (hE.2 (.methodLinkNest RX3 233 yX2_begin RX3) (List.mem_of_getElem? (i := 1) rfl)) (hts (.initialized RX2) (by decide +kernel)) (by decide +kernel) ⟨Nat.le_of_ble_eq_true rfl, Nat.le_of_ble_eq_true rfl⟩, (hts (.instanceMethod yX2_begin) (by decide +kernel)), (hts (.selects RX2 yX2_begin yX2_begin) (by decide +kernel))⟩ ⟨zPw_blind, va_recv hK hP (ci := 2) (q0 := 5) rfl cws_5, zPw_mk hE hP hD⟩ rfl rfl hl.1 rfl (lv_room (Nat.le_of_ble_eq_true rfl)) dX3_fillSearch_12 ⟨Nat.le_of_ble_eq_true rfl, Nat.le_of_ble_eq_true rfl⟩) hD hS hA (fun H locs hP hD hS => ?_)
  have hP : va_P D vwCl (cws cI cL cE cP ad g n k us wb tr pr le (nI n) (nI k)) H := hP
  have hD : va_D A (cws cI cL cE cP ad g n k us wb tr pr le (nI n) (nI k)) := hD
  refine lv_iconst (v := 0) hx hb dX3_fillSearch_15 (by decide) ?_
  refine lv_istore_n (lv' := [(1, .int 0), (0, .ref (ad 0))]) hx hb dX3_fillSearch_16 rfl hl (by decide) rfl (fun ls hl => ?_)
  refine zloopM (nL := 4) (lv := fun i => [(0, .ref (ad 0)), (1, .int (nI (i)))]) (wd := fun i => cws cI cL cE cP ad g n k (zfl (US g k) us (i)) (zfl (WB g k) wb (32 * (i))) tr pr le (nI n) (nI k)) (n := n) (lv_re (lv_sub hl [1, 0] rfl) (by first | rfl | (simp only [nI_0]; done) | (simp only [nI_0]; rfl) | (simp [nI_0]; done))) (zP_re hP (by rw [zfl_0, Nat.mul_zero, zfl_0])) (zD_re hD (by rw [zfl_0, Nat.mul_zero, zfl_0])) hS (fun H locs ls hP hD hS hl => ?_) (fun i hi ih_17 H locs ls hP hD hS hl => ?_)
  · have hl : lv_has ls 4 [(0, .ref (ad 0)), (1, .int (nI (n)))] := hl
    have hP : va_P D vwCl (cws cI cL cE cP ad g n k (zfl (US g k) us (n)) (zfl (WB g k) wb (32 * (n))) tr pr le (nI n) (nI k)) H := hP
    have hD : va_D A (cws cI cL cE cP ad g n k (zfl (US g k) us (n)) (zfl (WB g k) wb (32 * (n))) tr pr le (nI n) (nI k)) := hD
    refine lv_iload_n hx hb dX3_fillSearch_17 rfl (lv_at hl 1 rfl) ?_
    refine lv_aload_n hx hb dX3_fillSearch_18 rfl (lv_at hl 0 rfl) ?_
    refine va_get (D := D) (ci := 3) (v := .int (nI n)) (C := RX3) (T := TX3) (N := 9) hx hb hts iX3 hown hK hP 0 cws_0 rfl 5 (by decide) (hts (.fieldLink RX3 35 "CapitalReckoner" "exposureCount" "I") (by decide +kernel)) (fun _ h9 => h9) rfl dX3_fillSearch_19 ?_
    refine lv_icmp_ge (tgt := 88) hx hb dX3_fillSearch_22 (by decide) (fun c_3 => ?_) (fun c_3 => absurd (zle_refl (nI n)) c_3)
    exact zvret hx hb hr hAe (zP_re hP (by first | rfl | (simp only [c_3]; done) | (simp only [c_3]; rfl) | (simp [c_3]; done))) (zD_re hD (by first | rfl | (simp only [c_3]; done) | (simp only [c_3]; rfl) | (simp [c_3]; done))) hS dX3_fillSearch_88
  · have hl : lv_has ls 4 [(0, .ref (ad 0)), (1, .int (nI (i)))] := hl
    have hP : va_P D vwCl (cws cI cL cE cP ad g n k (zfl (US g k) us (i)) (zfl (WB g k) wb (32 * (i))) tr pr le (nI n) (nI k)) H := hP
    have hD : va_D A (cws cI cL cE cP ad g n k (zfl (US g k) us (i)) (zfl (WB g k) wb (32 * (i))) tr pr le (nI n) (nI k)) := hD
    refine lv_iload_n hx hb dX3_fillSearch_17 rfl (lv_at hl 1 rfl) ?_
    refine lv_aload_n hx hb dX3_fillSearch_18 rfl (lv_at hl 0 rfl) ?_
    refine va_get (D := D) (ci := 3) (v := .int (nI n)) (C := RX3) (T := TX3) (N := 9) hx hb hts iX3 hown hK hP 0 cws_0 rfl 5 (by decide) (hts (.fieldLink RX3 35 "CapitalReckoner" "exposureCount" "I") (by decide +kernel)) (fun _ h9 => h9) rfl dX3_fillSearch_19 ?_
    refine lv_icmp_ge (tgt := 88) hx hb dX3_fillSearch_22 (by decide) (fun c_4 => absurd c_4 (nI_ge hi (by have := hok.n; omega))) (fun c_4 => ?_)
    refine lv_aload_n hx hb dX3_fillSearch_25 rfl (lv_at hl 0 rfl) ?_
    refine lv_iload_n hx hb dX3_fillSearch_26 rfl (lv_at hl 1 rfl) ?_
    refine va_csq (va_Run.run (va_runV (As := [.int (nI (i))]) (rest := []) ⟨hx, hb, hml, hown, hts⟩ (zX3_exposureAt l D cI cL cE cP ad g n k (zfl (US g k) us (i)) (zfl (WB g k) wb (32 * (i))) tr pr le (nI n) (nI k) hok (nI (i))) (cwV 1 hts gX3_fillSearch_X3_exposureAt rfl rfl rfl (by decide +kernel) ⟨Nat.le_of_ble_eq_true rfl, Nat.le_of_ble_eq_true rfl⟩) ⟨zPr_blind, va_recv hK hP (ci := 3) (q0 := 0) rfl cws_0, zPr_mk hE hP⟩ rfl rfl hl.1 rfl (lv_room (Nat.le_of_ble_eq_true rfl)) dX3_fillSearch_27 ⟨Nat.le_of_ble_eq_true rfl, Nat.le_of_ble_eq_true rfl⟩)) (fun r_5 e_6 => ?_)
    obtain rfl := zex_known e_6 hi hok
    refine lv_astore_n (lv' := [(2, .ref (ad (11 + i))), (0, .ref (ad 0)), (1, .int (nI (i)))]) hx hb dX3_fillSearch_30 rfl hl (by decide) rfl (fun ls hl => ?_)
    refine lv_aload_n hx hb dX3_fillSearch_31 rfl (lv_at hl 0 rfl) ?_
    refine lv_ifnull hx hb dX3_fillSearch_32 ?_
    refine lv_aload_n hx hb dX3_fillSearch_35 rfl (lv_at hl 1 rfl) ?_
    refine va_get (D := D) (ci := 3) (v := .ref (ad 5)) (C := RX3) (T := TX3) (N := 9) hx hb hts iX3 hown hK hP 0 cws_0 rfl 4 (by decide) (hts (.fieldLink RX3 31 "CapitalReckoner" "search" "LCapitalReckoner$Search;") (by decide +kernel)) (fun _ h9 => h9) rfl dX3_fillSearch_36 ?_
    refine lv_iload_n hx hb dX3_fillSearch_39 rfl (lv_at hl 2 rfl) ?_
    refine lv_aload_n hx hb dX3_fillSearch_40 rfl (lv_at hl 1 rfl) ?_
    refine lv_iload_n hx hb dX3_fillSearch_41 rfl (lv_at hl 2 rfl) ?_
    refine vp_callSi (va_Run.run (va_runV (As := [.int (nI (i))]) (rest := [.int (nI (i)), .ref (ad 5)]) ⟨hx, hb, hml, hown, hts⟩ (zX3_usableFor l D cI cL cE cP ad g n k (zfl (US g k) us (i)) (zfl (WB g k) wb (32 * (i))) tr pr le (nI n) (nI k) hok (nI (i))) (cwV 1 hts gX3_fillSearch_X3_usableFor rfl rfl rfl (by decide +kernel) ⟨Nat.le_of_ble_eq_true rfl, Nat.le_of_ble_eq_true rfl⟩) ⟨zPr_blind, va_recv hK hP (ci := 3) (q0 := 0) rfl cws_0, zPr_mk hE hP⟩ rfl rfl hl.1 rfl (lv_room (Nat.le_of_ble_eq_true rfl)) dX3_fillSearch_42 ⟨Nat.le_of_ble_eq_true rfl, Nat.le_of_ble_eq_true rfl⟩)) (fun r_7 e_8 => ?_)
    obtain rfl := e_8
    refine zcallv (va_runVN (As := [.int (nI (i)), .int (usL g (nI (i)) k)]) (rest := []) ⟨hx, hb, hml, hown, hts⟩ (zX2_setUsable l D cI cL cE cP ad g n k (zfl (US g k) us (i)) (zfl (WB g k) wb (32 * (i))) tr pr le (nI n) (nI k) hok (nI (i)) (usL g (nI (i)) k) H.size) ⟨va_cnB 2 hts gX3_fillSearch_X2_setUsable_n240 rfl rfl rfl (hE.2 (.methodLinkNest RX3 240 yX2_setUsable RX3) (List.mem_of_getElem? (i := 2) rfl)) (hts (.initialized RX2) (by decide +kernel)) (by decide +kernel) ⟨Nat.le_of_ble_eq_true rfl, Nat.le_of_ble_eq_true rfl⟩, (hts (.instanceMethod yX2_setUsable) (by decide +kernel)), (hts (.selects RX2 yX2_setUsable yX2_setUsable) (by decide +kernel))⟩ ⟨zPw_blind, va_recv hK hP (ci := 2) (q0 := 5) rfl cws_5, zPw_mk hE hP hD⟩ rfl rfl hl.1 rfl (lv_room (Nat.le_of_ble_eq_true rfl)) dX3_fillSearch_45 ⟨Nat.le_of_ble_eq_true rfl, Nat.le_of_ble_eq_true rfl⟩) hD hS hA (fun H locs hP hD hS => ?_)
    have hP : va_P D vwCl (cws cI cL cE cP ad g n k (zput 8 (zfl (US g k) us (i)) (nI (i)) (usL g (nI (i)) k)) (zfl (WB g k) wb (32 * (i))) tr pr le (nI n) (nI k)) H := hP
    have hD : va_D A (cws cI cL cE cP ad g n k (zput 8 (zfl (US g k) us (i)) (nI (i)) (usL g (nI (i)) k)) (zfl (WB g k) wb (32 * (i))) tr pr le (nI n) (nI k)) := hD
    refine lv_iconst (v := 0) hx hb dX3_fillSearch_48 (by decide) ?_
    refine lv_istore_n (lv' := [(3, .int 0), (2, .ref (ad (11 + i))), (0, .ref (ad 0)), (1, .int (nI (i)))]) hx hb dX3_fillSearch_49 rfl hl (by decide) rfl (fun ls hl => ?_)
    refine zloopM (nL := 4) (lv := fun S1 => [(0, .ref (ad 0)), (1, .int (nI i)), (2, .ref (ad (11 + i))), (3, .int (nI (S1)))]) (wd := fun S1 => cws cI cL cE cP ad g n k (zput 8 (zfl (US g k) us i) (nI i) (usL g (nI i) k)) (zfl (WB g k) wb (32 * i + (S1))) tr pr le (nI n) (nI k)) (n := 32) (lv_re (lv_sub hl [2, 3, 1, 0] rfl) (by first | rfl | (simp only [nI_0]; done) | (simp only [nI_0]; rfl) | (simp [nI_0]; done))) (zP_re hP (by rfl)) (zD_re hD (by rfl)) hS (fun H locs ls hP hD hS hl => ?_) (fun S1 hS1 ih_50 H locs ls hP hD hS hl => ?_)
    · have hl : lv_has ls 4 [(0, .ref (ad 0)), (1, .int (nI i)), (2, .ref (ad (11 + i))), (3, .int (nI (32)))] := hl
      have hP : va_P D vwCl (cws cI cL cE cP ad g n k (zput 8 (zfl (US g k) us i) (nI i) (usL g (nI i) k)) (zfl (WB g k) wb (32 * i + (32))) tr pr le (nI n) (nI k)) H := hP
      have hD : va_D A (cws cI cL cE cP ad g n k (zput 8 (zfl (US g k) us i) (nI i) (usL g (nI i) k)) (zfl (WB g k) wb (32 * i + (32))) tr pr le (nI n) (nI k)) := hD
      refine lv_iload_n hx hb dX3_fillSearch_50 rfl (lv_at hl 3 rfl) ?_
      refine lv_bipush (v := 32) hx hb dX3_fillSearch_51 (by decide) ?_
      refine lv_icmp_ge (tgt := 82) hx hb dX3_fillSearch_53 (by decide) (fun c_11 => ?_) (fun c_11 => absurd (zle_refl (nI 32)) c_11)
      refine lv_iinc (v := nI (i + 1)) (lv' := [(1, .int (nI (i + 1))), (0, .ref (ad 0)), (2, .ref (ad (11 + i))), (3, .int (nI (32)))]) hx hb dX3_fillSearch_82 hl (k := 1) rfl (zinc _) (by decide) rfl (fun ls hl => ?_)
      refine lv_goto (tgt := 17) hx hb dX3_fillSearch_85 (by decide) ?_
      exact ih_17 H locs ls (zP_re hP (by rw [US_step (show i < 8 by have := hok.n; omega), show 32 * (i + 1) = 32 * i + 32 from by omega])) (zD_re hD (by rw [US_step (show i < 8 by have := hok.n; omega), show 32 * (i + 1) = 32 * i + 32 from by omega])) hS (lv_re (lv_sub hl [1, 0] rfl) (by first | rfl | (simp only [c_4, c_11]; done) | (simp only [c_4, c_11]; rfl) | (simp [c_4, c_11]; done)))
    · have hl : lv_has ls 4 [(0, .ref (ad 0)), (1, .int (nI i)), (2, .ref (ad (11 + i))), (3, .int (nI (S1)))] := hl
      have hP : va_P D vwCl (cws cI cL cE cP ad g n k (zput 8 (zfl (US g k) us i) (nI i) (usL g (nI i) k)) (zfl (WB g k) wb (32 * i + (S1))) tr pr le (nI n) (nI k)) H := hP
      have hD : va_D A (cws cI cL cE cP ad g n k (zput 8 (zfl (US g k) us i) (nI i) (usL g (nI i) k)) (zfl (WB g k) wb (32 * i + (S1))) tr pr le (nI n) (nI k)) := hD
      refine lv_iload_n hx hb dX3_fillSearch_50 rfl (lv_at hl 3 rfl) ?_
      refine lv_bipush (v := 32) hx hb dX3_fillSearch_51 (by decide) ?_
      refine lv_icmp_ge (tgt := 82) hx hb dX3_fillSearch_53 (by decide) (fun c_12 => absurd c_12 (nI_ge hS1 (by decide))) (fun c_12 => ?_)
      refine lv_aload_n hx hb dX3_fillSearch_56 rfl (lv_at hl 0 rfl) ?_
      refine va_get (D := D) (ci := 3) (v := .ref (ad 5)) (C := RX3) (T := TX3) (N := 9) hx hb hts iX3 hown hK hP 0 cws_0 rfl 4 (by decide) (hts (.fieldLink RX3 31 "CapitalReckoner" "search" "LCapitalReckoner$Search;") (by decide +kernel)) (fun _ h9 => h9) rfl dX3_fillSearch_57 ?_
      refine lv_iload_n hx hb dX3_fillSearch_60 rfl (lv_at hl 1 rfl) ?_
      refine lv_iload_n hx hb dX3_fillSearch_61 rfl (lv_at hl 3 rfl) ?_
      refine lv_aload_n hx hb dX3_fillSearch_62 rfl (lv_at hl 0 rfl) ?_
      refine lv_aload_n hx hb dX3_fillSearch_63 rfl (lv_at hl 2 rfl) ?_
      refine lv_aload_n hx hb dX3_fillSearch_64 rfl (lv_at hl 0 rfl) ?_
      refine lv_aload_n hx hb dX3_fillSearch_65 rfl (lv_at hl 2 rfl) ?_
      refine lv_iload_n hx hb dX3_fillSearch_66 rfl (lv_at hl 3 rfl) ?_
      refine vp_callSi (va_Run.run (va_runV (As := [.ref (ad (11 + i)), .int (nI (S1))]) (rest := [.ref (ad (11 + i)), .ref (ad 0), .int (nI (S1)), .int (nI i), .ref (ad 5)]) ⟨hx, hb, hml, hown, hts⟩ (zX3_bareWith l D cI cL cE cP ad g n k (zput 8 (zfl (US g k) us i) (nI i) (usL g (nI i) k)) (zfl (WB g k) wb (32 * i + (S1))) tr pr le (nI n) (nI k) hok i hi (nI (S1))) (cwV 2 hts gX3_fillSearch_X3_bareWith rfl rfl rfl (by decide +kernel) ⟨Nat.le_of_ble_eq_true rfl, Nat.le_of_ble_eq_true rfl⟩) ⟨zPr_blind, va_recv hK hP (ci := 3) (q0 := 0) rfl cws_0, zPr_mk hE hP⟩ rfl rfl hl.1 rfl (lv_room (Nat.le_of_ble_eq_true rfl)) dX3_fillSearch_67 ⟨Nat.le_of_ble_eq_true rfl, Nat.le_of_ble_eq_true rfl⟩)) (fun r_13 e_14 => ?_)
      obtain rfl := e_14
      refine vp_callSi (va_Run.run (va_runV (As := [.ref (ad (11 + i)), .int (bw g k i (nI (S1)))]) (rest := [.int (nI (S1)), .int (nI i), .ref (ad 5)]) ⟨hx, hb, hml, hown, hts⟩ (zX3_weightedOf l D cI cL cE cP ad g n k (zput 8 (zfl (US g k) us i) (nI i) (usL g (nI i) k)) (zfl (WB g k) wb (32 * i + (S1))) tr pr le (nI n) (nI k) hok i hi (bw g k i (nI (S1)))) (cwV 2 hts gX3_fillSearch_X3_weightedOf rfl rfl rfl (by decide +kernel) ⟨Nat.le_of_ble_eq_true rfl, Nat.le_of_ble_eq_true rfl⟩) ⟨zPr_blind, va_recv hK hP (ci := 3) (q0 := 0) rfl cws_0, zPr_mk hE hP⟩ rfl rfl hl.1 rfl (lv_room (Nat.le_of_ble_eq_true rfl)) dX3_fillSearch_70 ⟨Nat.le_of_ble_eq_true rfl, Nat.le_of_ble_eq_true rfl⟩)) (fun r_15 e_16 => ?_)
      obtain rfl := e_16
      refine zcallv (va_runVN (As := [.int (nI i), .int (nI (S1)), .int (wo g i (bw g k i (nI (S1))))]) (rest := []) ⟨hx, hb, hml, hown, hts⟩ (zX2_setWeighted l D cI cL cE cP ad g n k (zput 8 (zfl (US g k) us i) (nI i) (usL g (nI i) k)) (zfl (WB g k) wb (32 * i + (S1))) tr pr le (nI n) (nI k) hok (nI i) (nI (S1)) (wo g i (bw g k i (nI (S1)))) H.size) ⟨va_cnB 3 hts gX3_fillSearch_X2_setWeighted_n243 rfl rfl rfl (hE.2 (.methodLinkNest RX3 243 yX2_setWeighted RX3) (List.mem_of_getElem? (i := 8) rfl)) (hts (.initialized RX2) (by decide +kernel)) (by decide +kernel) ⟨Nat.le_of_ble_eq_true rfl, Nat.le_of_ble_eq_true rfl⟩, (hts (.instanceMethod yX2_setWeighted) (by decide +kernel)), (hts (.selects RX2 yX2_setWeighted yX2_setWeighted) (by decide +kernel))⟩ ⟨zPw_blind, va_recv hK hP (ci := 2) (q0 := 5) rfl cws_5, zPw_mk hE hP hD⟩ rfl rfl hl.1 rfl (lv_room (Nat.le_of_ble_eq_true rfl)) dX3_fillSearch_73 ⟨Nat.le_of_ble_eq_true rfl, Nat.le_of_ble_eq_true rfl⟩) hD hS hA (fun H locs hP hD hS => ?_)
      have hP : va_P D vwCl (cws cI cL cE cP ad g n k (zput 8 (zfl (US g k) us i) (nI i) (usL g (nI i) k)) (zput 256 (zfl (WB g k) wb (32 * i + (S1))) (((nI i) * 32) + (nI (S1))) (wo g i (bw g k i (nI (S1))))) tr pr le (nI n) (nI k)) H := hP
      have hD : va_D A (cws cI cL cE cP ad g n k (zput 8 (zfl (US g k) us i) (nI i) (usL g (nI i) k)) (zput 256 (zfl (WB g k) wb (32 * i + (S1))) (((nI i) * 32) + (nI (S1))) (wo g i (bw g k i (nI (S1))))) tr pr le (nI n) (nI k)) := hD
      refine lv_iinc (v := nI ((S1) + 1)) (lv' := [(3, .int (nI ((S1) + 1))), (0, .ref (ad 0)), (1, .int (nI i)), (2, .ref (ad (11 + i)))]) hx hb dX3_fillSearch_76 hl (k := 3) rfl (zinc _) (by decide) rfl (fun ls hl => ?_)
      refine lv_goto (tgt := 50) hx hb dX3_fillSearch_79 (by decide) ?_
      exact ih_50 H locs ls (zP_re hP (by rw [WB_step (show i < 8 by have := hok.n; omega) hS1])) (zD_re hD (by rw [WB_step (show i < 8 by have := hok.n; omega) hS1])) hS (lv_re (lv_sub hl [1, 2, 3, 0] rfl) (by first | rfl | (simp only [c_4, c_12]; done) | (simp only [c_4, c_12]; rfl) | (simp [c_4, c_12]; done)))
set_option maxHeartbeats 4000000 in
set_option maxRecDepth 100000 in
theorem zX3_findBest (l : Launch) (D : va_G) (cI cL cE cP : ClassId) (ad : Nat → Nat) (g : Nat → Nat → Int32) (n k : Nat) (us wb tr : Nat → Int32) (pr le : Nat → Int64) (tk gf : Int32) (hok : zOk g n k) (sz : Nat) : Met l yX3_findBest wsX3_findBest ({ frames := 4, cells := 0, slots := 0, locals := 91 }) (zPw D cI cL cE cP (cws cI cL cE cP ad g n k us wb tr pr le tk gf) sz [.ref (ad 0)]) (zQv D (cws cI cL cE cP ad g n k us wb tr pr le tk gf) sz (cws cI cL cE cP ad g n k (zfl (US g k) us n) (zfl (WB g k) wb (32 * n)) tr (PRO (zfl (WB g k) wb (32 * n)) pr n) (LEO (zfl (US g k) us n) (zfl (WB g k) wb (32 * n)) pr le n) (nI n) (nI k))) 0 0 (va_A (cws cI cL cE cP ad g n k us wb tr pr le tk gf) sz) := by
  refine Met.ofW (cc := cX3_findBest) (maxL := 1) (ret := none) (by decide) rfl ?_
  intro p e s m args below meth c s₁ B hml hv
  obtain ⟨rfl, hsz, hE, hP, hD0⟩ := hv
  subst hsz
  obtain ⟨A, hAe⟩ : ∃ A, A = va_A (cws cI cL cE cP ad g n k us wb tr pr le tk gf) s.heap.size := ⟨_, rfl⟩
  have hD : va_D A (cws cI cL cE cP ad g n k us wb tr pr le tk gf) := by rw [hAe]; exact hD0.self
  have hA : ∀ q : Nat, s.heap.size ≤ q → A q := fun q h => by rw [hAe]; exact Or.inr h
  have hS : va_S A s.heap s.heap [] := va_S.rf
  have hx := B.exec
  have hb := B.bytes
  have hr := B.returns
  have hts := atoms_spec (ws := wsX3_findBest) B.pre
  have hown : s.vm.findClass RX3 = some m.cls := findClass_of_methodNamed B.named
  have hlocks := B.notSynchronized
  have hK := hE.1
  have iX3 : ∀ w ∈ wsX30, w ∈ wsX3_findBest := by decide +kernel
  have hl := lv_entry ([.ref (ad 0)]) (n := 1) (Nat.le_of_ble_eq_true rfl)
  rw [lg_entry_eq]
  generalize (lg_sl ([.ref (ad 0)]) ++ List.replicate (1 - (lg_sl ([.ref (ad 0)])).length) Slot.unset).toArray = ls at hl ⊢
  have hl : lv_has ls 1 [(0, .ref (ad 0))] := hl
  refine lv_aload_n hx hb dX3_findBest_0 rfl (lv_at hl 0 rfl) ?_
  refine zcallv (va_runV (As := []) (rest := []) ⟨hx, hb, hml, hown, hts⟩ (zX3_fillSearch l D cI cL cE cP ad g n k us wb tr pr le tk gf hok s.heap.size) (cwV 0 hts gX3_findBest_X3_fillSearch rfl rfl rfl (by decide +kernel) ⟨Nat.le_of_ble_eq_true rfl, Nat.le_of_ble_eq_true rfl⟩) ⟨zPw_blind, va_recv hK hP (ci := 3) (q0 := 0) rfl cws_0, zPw_mk hE hP hD⟩ rfl rfl hl.1 rfl (lv_room (Nat.le_of_ble_eq_true rfl)) dX3_findBest_1 ⟨Nat.le_of_ble_eq_true rfl, Nat.le_of_ble_eq_true rfl⟩) hD hS hA (fun H locs hP hD hS => ?_)
  have hP : va_P D vwCl (cws cI cL cE cP ad g n k (zfl (US g k) us n) (zfl (WB g k) wb (32 * n)) tr pr le (nI n) (nI k)) H := hP
  have hD : va_D A (cws cI cL cE cP ad g n k (zfl (US g k) us n) (zfl (WB g k) wb (32 * n)) tr pr le (nI n) (nI k)) := hD
  refine lv_aload_n hx hb dX3_findBest_4 rfl (lv_at hl 0 rfl) ?_
  refine va_get (D := D) (ci := 3) (v := .ref (ad 5)) (C := RX3) (T := TX3) (N := 9) hx hb hts iX3 hown hK hP 0 cws_0 rfl 4 (by decide) (hts (.fieldLink RX3 31 "CapitalReckoner" "search" "LCapitalReckoner$Search;") (by decide +kernel)) (fun _ h9 => h9) rfl dX3_findBest_5 ?_
  refine zcallv (va_runVN (As := []) (rest := []) ⟨hx, hb, hml, hown, hts⟩ (zX2_findLeast l D cI cL cE cP ad g n k (zfl (US g k) us n) (zfl (WB g k) wb (32 * n)) tr pr le hok H.size) ⟨va_cnB 0 hts gX3_findBest_X2_findLeast_n230 rfl rfl rfl (hE.2 (.methodLinkNest RX3 230 yX2_findLeast RX3) (List.mem_of_getElem? (i := 9) rfl)) (hts (.initialized RX2) (by decide +kernel)) (by decide +kernel) ⟨Nat.le_of_ble_eq_true rfl, Nat.le_of_ble_eq_true rfl⟩, (hts (.instanceMethod yX2_findLeast) (by decide +kernel)), (hts (.selects RX2 yX2_findLeast yX2_findLeast) (by decide +kernel))⟩ ⟨zPw_blind, va_recv hK hP (ci := 2) (q0 := 5) rfl cws_5, zPw_mk hE hP hD⟩ rfl rfl hl.1 rfl (lv_room (Nat.le_of_ble_eq_true rfl)) dX3_findBest_8 ⟨Nat.le_of_ble_eq_true rfl, Nat.le_of_ble_eq_true rfl⟩) hD hS hA (fun H locs hP hD hS => ?_)
  have hP : va_P D vwCl (cws cI cL cE cP ad g n k (zfl (US g k) us n) (zfl (WB g k) wb (32 * n)) tr (PRO (zfl (WB g k) wb (32 * n)) pr n) (LEO (zfl (US g k) us n) (zfl (WB g k) wb (32 * n)) pr le n) (nI n) (nI k)) H := hP
  have hD : va_D A (cws cI cL cE cP ad g n k (zfl (US g k) us n) (zfl (WB g k) wb (32 * n)) tr (PRO (zfl (WB g k) wb (32 * n)) pr n) (LEO (zfl (US g k) us n) (zfl (WB g k) wb (32 * n)) pr le n) (nI n) (nI k)) := hD
  exact zvret hx hb hr hAe (zP_re hP (rfl)) (zD_re hD (rfl)) hS dX3_findBest_11
set_option maxHeartbeats 4000000 in
set_option maxRecDepth 100000 in
theorem zX3_plain (l : Launch) (D : va_G) (cI cL cE cP : ClassId) (ad : Nat → Nat) (g : Nat → Nat → Int32) (n k : Nat) (us wb tr : Nat → Int32) (pr le : Nat → Int64) (tk gf : Int32) (hok : zOk g n k) : Met l yX3_plain wsX3_plain ({ frames := 2, cells := 0, slots := 0, locals := 41 }) (zPr D cI cL cE cP (cws cI cL cE cP ad g n k us wb tr pr le tk gf) [.ref (ad 0)]) (vp_Si (fun r : Int32 => r = plL g n)) 0 0 (fun _ => False) := by
  refine Met.ofW (cc := cX3_plain) (maxL := 4) (ret := (some .int)) (by decide) rfl ?_
  intro p e s m args below meth c s₁ B hml hv
  obtain ⟨rfl, hE, hP⟩ := hv
  have hx := B.exec
  have hb := B.bytes
  have hr := B.returns
  have hts := atoms_spec (ws := wsX3_plain) B.pre
  have hown : s.vm.findClass RX3 = some m.cls := findClass_of_methodNamed B.named
  have hlocks := B.notSynchronized
  have hK := hE.1
  have iX0 : ∀ w ∈ wsX00, w ∈ wsX3_plain := by decide +kernel
  have iX3 : ∀ w ∈ wsX30, w ∈ wsX3_plain := by decide +kernel
  have hl := lv_entry ([.ref (ad 0)]) (n := 4) (Nat.le_of_ble_eq_true rfl)
  rw [lg_entry_eq]
  generalize (lg_sl ([.ref (ad 0)]) ++ List.replicate (4 - (lg_sl ([.ref (ad 0)])).length) Slot.unset).toArray = ls at hl ⊢
  have hl : lv_has ls 4 [(0, .ref (ad 0))] := hl
  refine lv_iconst (v := 0) hx hb dX3_plain_0 (by decide) ?_
  refine lv_istore_n (lv' := [(1, .int 0), (0, .ref (ad 0))]) hx hb dX3_plain_1 rfl hl (by decide) rfl (fun ls hl => ?_)
  refine lv_iconst (v := 0) hx hb dX3_plain_2 (by decide) ?_
  refine lv_istore_n (lv' := [(2, .int 0), (1, .int 0), (0, .ref (ad 0))]) hx hb dX3_plain_3 rfl hl (by decide) rfl (fun ls hl => ?_)
  refine zloop (nL := 4) (lv := fun i => [(0, .ref (ad 0)), (1, .int (plL g (i))), (2, .int (nI (i)))]) (n := n) (lv_re (lv_sub hl [2, 1, 0] rfl) (by first | rfl | (simp only [plL, nI_0]; done) | (simp only [plL, nI_0]; rfl) | (simp [plL, nI_0]; done))) (fun ls hl => ?_) (fun i hi ih_4 ls hl => ?_)
  · have hl : lv_has ls 4 [(0, .ref (ad 0)), (1, .int (plL g (n))), (2, .int (nI (n)))] := hl
    refine lv_iload_n hx hb dX3_plain_4 rfl (lv_at hl 2 rfl) ?_
    refine lv_aload_n hx hb dX3_plain_5 rfl (lv_at hl 0 rfl) ?_
    refine va_get (D := D) (ci := 3) (v := .int (nI n)) (C := RX3) (T := TX3) (N := 9) hx hb hts iX3 hown hK hP 0 cws_0 rfl 5 (by decide) (hts (.fieldLink RX3 35 "CapitalReckoner" "exposureCount" "I") (by decide +kernel)) (fun _ h9 => h9) rfl dX3_plain_6 ?_
    refine lv_icmp_ge (tgt := 49) hx hb dX3_plain_9 (by decide) (fun c_1 => ?_) (fun c_1 => absurd (zle_refl (nI n)) c_1)
    refine lv_iload_n hx hb dX3_plain_49 rfl (lv_at hl 1 rfl) ?_
    exact W.iret (v := plL g (n)) hx hb hr (fun t ht hW => ⟨_, rfl, (by first | rfl | (simp only [plL, c_1]; done) | (simp only [plL, c_1]; rfl) | (simp [plL, c_1]; done)), ht⟩) (fun _ h => nomatch h) dX3_plain_50
  · have hl : lv_has ls 4 [(0, .ref (ad 0)), (1, .int (plL g (i))), (2, .int (nI (i)))] := hl
    refine lv_iload_n hx hb dX3_plain_4 rfl (lv_at hl 2 rfl) ?_
    refine lv_aload_n hx hb dX3_plain_5 rfl (lv_at hl 0 rfl) ?_
    refine va_get (D := D) (ci := 3) (v := .int (nI n)) (C := RX3) (T := TX3) (N := 9) hx hb hts iX3 hown hK hP 0 cws_0 rfl 5 (by decide) (hts (.fieldLink RX3 35 "CapitalReckoner" "exposureCount" "I") (by decide +kernel)) (fun _ h9 => h9) rfl dX3_plain_6 ?_
    refine lv_icmp_ge (tgt := 49) hx hb dX3_plain_9 (by decide) (fun c_2 => absurd c_2 (nI_ge hi (by have := hok.n; omega))) (fun c_2 => ?_)
    refine lv_aload_n hx hb dX3_plain_12 rfl (lv_at hl 0 rfl) ?_
    refine lv_iload_n hx hb dX3_plain_13 rfl (lv_at hl 2 rfl) ?_
    refine va_csq (va_Run.run (va_runV (As := [.int (nI (i))]) (rest := []) ⟨hx, hb, hml, hown, hts⟩ (zX3_exposureAt l D cI cL cE cP ad g n k us wb tr pr le tk gf hok (nI (i))) (cwV 1 hts gX3_plain_X3_exposureAt rfl rfl rfl (by decide +kernel) ⟨Nat.le_of_ble_eq_true rfl, Nat.le_of_ble_eq_true rfl⟩) ⟨zPr_blind, va_recv hK hP (ci := 3) (q0 := 0) rfl cws_0, zPr_mk hE hP⟩ rfl rfl hl.1 rfl (lv_room (Nat.le_of_ble_eq_true rfl)) dX3_plain_14 ⟨Nat.le_of_ble_eq_true rfl, Nat.le_of_ble_eq_true rfl⟩)) (fun r_3 e_4 => ?_)
    obtain rfl := zex_known e_4 hi hok
    refine lv_astore_n (lv' := [(3, .ref (ad (11 + i))), (0, .ref (ad 0)), (1, .int (plL g (i))), (2, .int (nI (i)))]) hx hb dX3_plain_17 rfl hl (by decide) rfl (fun ls hl => ?_)
    refine lv_aload_n hx hb dX3_plain_18 rfl (lv_at hl 0 rfl) ?_
    refine lv_ifnull hx hb dX3_plain_19 ?_
    refine lv_iload_n hx hb dX3_plain_22 rfl (lv_at hl 2 rfl) ?_
    refine lv_aload_n hx hb dX3_plain_23 rfl (lv_at hl 0 rfl) ?_
    refine vp_callSi (va_Run.run (va_runVN (As := []) (rest := [.int (plL g (i))]) ⟨hx, hb, hml, hown, hts⟩ (zX0_amountNow l D cI cL cE cP ad g n k us wb tr pr le tk gf hok i hi) ⟨va_cnB 0 hts gX3_plain_X0_amountNow_n132 rfl rfl rfl (hE.2 (.methodLinkNest RX3 132 yX0_amountNow RX3) (List.mem_of_getElem? (i := 4) rfl)) (hts (.initialized RX0) (by decide +kernel)) (by decide +kernel) ⟨Nat.le_of_ble_eq_true rfl, Nat.le_of_ble_eq_true rfl⟩, (hts (.instanceMethod yX0_amountNow) (by decide +kernel)), (hts (.selects RX0 yX0_amountNow yX0_amountNow) (by decide +kernel))⟩ ⟨zPr_blind, va_recv hK hP (ci := 0) (q0 := (11 + i)) rfl (cws_E hi), zPr_mk hE hP⟩ rfl rfl hl.1 rfl (lv_room (Nat.le_of_ble_eq_true rfl)) dX3_plain_24 ⟨Nat.le_of_ble_eq_true rfl, Nat.le_of_ble_eq_true rfl⟩)) (fun r_5 e_6 => ?_)
    obtain rfl := e_6
    refine lv_aload_n hx hb dX3_plain_27 rfl (lv_at hl 1 rfl) ?_
    refine va_get (D := D) (ci := 3) (v := .ref (ad 2)) (C := RX3) (T := TX3) (N := 9) hx hb hts iX3 hown hK hP 0 cws_0 rfl 1 (by decide) (hts (.fieldLink RX3 13 "CapitalReckoner" "plainWeights" "[I") (by decide +kernel)) (fun _ h9 => h9) rfl dX3_plain_28 ?_
    refine lv_aload_n hx hb dX3_plain_31 rfl (lv_at hl 0 rfl) ?_
    refine va_getN (D := D) (ci := 0) (v := .int (g 3 i)) (C := RX0) (T := TX0) (N := 8) hx hb hts iX0 hown hK hP (11 + i) (cws_E hi) rfl 3 (by decide) (va_Nw.use rfl (hE.2 (.fieldLinkNest RX3 123 "CapitalReckoner$Exposure" "kind" "I" RX3) (List.mem_of_getElem? (i := 22) rfl))) (fun _ h9 => h9) rfl dX3_plain_32 ?_
    refine vp_callSi (va_Run.run (va_runS (As := [.ref (ad 2), .int (g 3 i)]) (rest := [.int (amt g i), .int (plL g (i))]) ⟨hx, hb, hml, hown, hts⟩ (zX3_at l D cI cL cE cP (cws cI cL cE cP ad g n k us wb tr pr le tk gf) 2 (ad 2) 4 (g 1) (by decide) cws_2 (g 3 i)) (va_cwS 2 hts gX3_plain_X3_at rfl rfl rfl (by decide +kernel) ⟨Nat.le_of_ble_eq_true rfl, Nat.le_of_ble_eq_true rfl⟩) ⟨zPr_blind, zPr_mk hE hP⟩ rfl rfl hl.1 rfl (lv_room (Nat.le_of_ble_eq_true rfl)) dX3_plain_35 ⟨Nat.le_of_ble_eq_true rfl, Nat.le_of_ble_eq_true rfl⟩)) (fun r_7 e_8 => ?_)
    obtain rfl := e_8
    refine vp_callSi (va_Run.run (va_runS (As := [.int (amt g i), .int (zat 4 (g 1) (g 3 i))]) (rest := [.int (plL g (i))]) ⟨hx, hb, hml, hown, hts⟩ (zX3_percentOf l D cI cL cE cP (cws cI cL cE cP ad g n k us wb tr pr le tk gf) (amt g i) (zat 4 (g 1) (g 3 i))) (va_cwS 2 hts gX3_plain_X3_percentOf rfl rfl rfl (by decide +kernel) ⟨Nat.le_of_ble_eq_true rfl, Nat.le_of_ble_eq_true rfl⟩) ⟨zPr_blind, zPr_mk hE hP⟩ rfl rfl hl.1 rfl (lv_room (Nat.le_of_ble_eq_true rfl)) dX3_plain_38 ⟨Nat.le_of_ble_eq_true rfl, Nat.le_of_ble_eq_true rfl⟩)) (fun r_9 e_10 => ?_)
    obtain rfl := e_10
    refine lv_iadd hx hb dX3_plain_41 ?_
    refine lv_istore_n (lv' := [(1, .int ((plL g (i)) + (pct (amt g i) (zat 4 (g 1) (g 3 i))))), (3, .ref (ad (11 + i))), (0, .ref (ad 0)), (2, .int (nI (i)))]) hx hb dX3_plain_42 rfl hl (by decide) rfl (fun ls hl => ?_)
    refine lv_iinc (v := nI ((i) + 1)) (lv' := [(2, .int (nI ((i) + 1))), (1, .int ((plL g (i)) + (pct (amt g i) (zat 4 (g 1) (g 3 i))))), (3, .ref (ad (11 + i))), (0, .ref (ad 0))]) hx hb dX3_plain_43 hl (k := 3) rfl (zinc _) (by decide) rfl (fun ls hl => ?_)
    refine lv_goto (tgt := 4) hx hb dX3_plain_46 (by decide) ?_
    exact ih_4 ls (lv_re (lv_sub hl [3, 1, 0] rfl) (by first | rfl | (simp only [plL, c_2]; done) | (simp only [plL, c_2]; rfl) | (simp [plL, c_2]; done)))
set_option maxHeartbeats 4000000 in
set_option maxRecDepth 100000 in
theorem zX3_exposures (l : Launch) (D : va_G) (cI cL cE cP : ClassId) (ad : Nat → Nat) (g : Nat → Nat → Int32) (n k : Nat) (us wb tr : Nat → Int32) (pr le : Nat → Int64) (tk gf : Int32) (hok : zOk g n k) : Met l yX3_exposures wsX3_exposures ({ frames := 0, cells := 0, slots := 0, locals := 0 }) (zPr D cI cL cE cP (cws cI cL cE cP ad g n k us wb tr pr le tk gf) [.ref (ad 0)]) (vp_Si (fun r : Int32 => r = nI n)) 0 0 (fun _ => False) := by
  refine Met.ofW (cc := cX3_exposures) (maxL := 1) (ret := (some .int)) (by decide) rfl ?_
  intro p e s m args below meth c s₁ B hml hv
  obtain ⟨rfl, hE, hP⟩ := hv
  have hx := B.exec
  have hb := B.bytes
  have hr := B.returns
  have hts := atoms_spec (ws := wsX3_exposures) B.pre
  have hown : s.vm.findClass RX3 = some m.cls := findClass_of_methodNamed B.named
  have hlocks := B.notSynchronized
  have hK := hE.1
  have iX3 : ∀ w ∈ wsX30, w ∈ wsX3_exposures := by decide +kernel
  have hl := lv_entry ([.ref (ad 0)]) (n := 1) (Nat.le_of_ble_eq_true rfl)
  rw [lg_entry_eq]
  generalize (lg_sl ([.ref (ad 0)]) ++ List.replicate (1 - (lg_sl ([.ref (ad 0)])).length) Slot.unset).toArray = ls at hl ⊢
  have hl : lv_has ls 1 [(0, .ref (ad 0))] := hl
  refine lv_aload_n hx hb dX3_exposures_0 rfl (lv_at hl 0 rfl) ?_
  refine va_get (D := D) (ci := 3) (v := .int (nI n)) (C := RX3) (T := TX3) (N := 9) hx hb hts iX3 hown hK hP 0 cws_0 rfl 5 (by decide) (hts (.fieldLink RX3 35 "CapitalReckoner" "exposureCount" "I") (by decide +kernel)) (fun _ h9 => h9) rfl dX3_exposures_1 ?_
  exact W.iret (v := nI n) hx hb hr (fun t ht hW => ⟨_, rfl, (by first | rfl | (simp only []; done) | (simp only []; rfl) | (simp []; done)), ht⟩) (fun _ h => nomatch h) dX3_exposures_4
set_option maxHeartbeats 4000000 in
set_option maxRecDepth 100000 in
theorem zX3_pieces (l : Launch) (D : va_G) (cI cL cE cP : ClassId) (ad : Nat → Nat) (g : Nat → Nat → Int32) (n k : Nat) (us wb tr : Nat → Int32) (pr le : Nat → Int64) (tk gf : Int32) (hok : zOk g n k) : Met l yX3_pieces wsX3_pieces ({ frames := 0, cells := 0, slots := 0, locals := 0 }) (zPr D cI cL cE cP (cws cI cL cE cP ad g n k us wb tr pr le tk gf) [.ref (ad 0)]) (vp_Si (fun r : Int32 => r = nI k)) 0 0 (fun _ => False) := by
  refine Met.ofW (cc := cX3_pieces) (maxL := 1) (ret := (some .int)) (by decide) rfl ?_
  intro p e s m args below meth c s₁ B hml hv
  obtain ⟨rfl, hE, hP⟩ := hv
  have hx := B.exec
  have hb := B.bytes
  have hr := B.returns
  have hts := atoms_spec (ws := wsX3_pieces) B.pre
  have hown : s.vm.findClass RX3 = some m.cls := findClass_of_methodNamed B.named
  have hlocks := B.notSynchronized
  have hK := hE.1
  have iX3 : ∀ w ∈ wsX30, w ∈ wsX3_pieces := by decide +kernel
  have hl := lv_entry ([.ref (ad 0)]) (n := 1) (Nat.le_of_ble_eq_true rfl)
  rw [lg_entry_eq]
  generalize (lg_sl ([.ref (ad 0)]) ++ List.replicate (1 - (lg_sl ([.ref (ad 0)])).length) Slot.unset).toArray = ls at hl ⊢
  have hl : lv_has ls 1 [(0, .ref (ad 0))] := hl
  refine lv_aload_n hx hb dX3_pieces_0 rfl (lv_at hl 0 rfl) ?_
  refine va_get (D := D) (ci := 3) (v := .int (nI k)) (C := RX3) (T := TX3) (N := 9) hx hb hts iX3 hown hK hP 0 cws_0 rfl 6 (by decide) (hts (.fieldLink RX3 39 "CapitalReckoner" "pieceCount" "I") (by decide +kernel)) (fun _ h9 => h9) rfl dX3_pieces_1 ?_
  exact W.iret (v := nI k) hx hb hr (fun t ht hW => ⟨_, rfl, (by first | rfl | (simp only []; done) | (simp only []; rfl) | (simp []; done)), ht⟩) (fun _ h => nomatch h) dX3_pieces_4
set_option maxHeartbeats 4000000 in
set_option maxRecDepth 100000 in
theorem zX3_whole (l : Launch) (D : va_G) (cI cL cE cP : ClassId) (ad : Nat → Nat) (g : Nat → Nat → Int32) (n k : Nat) (us wb tr : Nat → Int32) (pr le : Nat → Int64) (tk gf : Int32) (hok : zOk g n k) (sz : Nat) : Met l yX3_whole wsX3_whole ({ frames := 5, cells := 0, slots := 0, locals := 111 }) (zPw D cI cL cE cP (cws cI cL cE cP ad g n k us wb tr pr le tk gf) sz [.ref (ad 0)]) (zQi D (cws cI cL cE cP ad g n k us wb tr pr le tk gf) sz (fun r : Int32 => r = bwE (LEO (zfl (US g k) us n) (zfl (WB g k) wb (32 * n)) pr le n) k) (cws cI cL cE cP ad g n k (zfl (US g k) us n) (zfl (WB g k) wb (32 * n)) tr (PRO (zfl (WB g k) wb (32 * n)) pr n) (LEO (zfl (US g k) us n) (zfl (WB g k) wb (32 * n)) pr le n) (nI n) (nI k))) 0 0 (va_A (cws cI cL cE cP ad g n k us wb tr pr le tk gf) sz) := by
  refine Met.ofW (cc := cX3_whole) (maxL := 1) (ret := (some .int)) (by decide) rfl ?_
  intro p e s m args below meth c s₁ B hml hv
  obtain ⟨rfl, hsz, hE, hP, hD0⟩ := hv
  subst hsz
  obtain ⟨A, hAe⟩ : ∃ A, A = va_A (cws cI cL cE cP ad g n k us wb tr pr le tk gf) s.heap.size := ⟨_, rfl⟩
  have hD : va_D A (cws cI cL cE cP ad g n k us wb tr pr le tk gf) := by rw [hAe]; exact hD0.self
  have hA : ∀ q : Nat, s.heap.size ≤ q → A q := fun q h => by rw [hAe]; exact Or.inr h
  have hS : va_S A s.heap s.heap [] := va_S.rf
  have hx := B.exec
  have hb := B.bytes
  have hr := B.returns
  have hts := atoms_spec (ws := wsX3_whole) B.pre
  have hown : s.vm.findClass RX3 = some m.cls := findClass_of_methodNamed B.named
  have hlocks := B.notSynchronized
  have hK := hE.1
  have iX3 : ∀ w ∈ wsX30, w ∈ wsX3_whole := by decide +kernel
  have hl := lv_entry ([.ref (ad 0)]) (n := 1) (Nat.le_of_ble_eq_true rfl)
  rw [lg_entry_eq]
  generalize (lg_sl ([.ref (ad 0)]) ++ List.replicate (1 - (lg_sl ([.ref (ad 0)])).length) Slot.unset).toArray = ls at hl ⊢
  have hl : lv_has ls 1 [(0, .ref (ad 0))] := hl
  refine lv_aload_n hx hb dX3_whole_0 rfl (lv_at hl 0 rfl) ?_
  refine zcallv (va_runV (As := []) (rest := []) ⟨hx, hb, hml, hown, hts⟩ (zX3_findBest l D cI cL cE cP ad g n k us wb tr pr le tk gf hok s.heap.size) (cwV 0 hts gX3_whole_X3_findBest rfl rfl rfl (by decide +kernel) ⟨Nat.le_of_ble_eq_true rfl, Nat.le_of_ble_eq_true rfl⟩) ⟨zPw_blind, va_recv hK hP (ci := 3) (q0 := 0) rfl cws_0, zPw_mk hE hP hD⟩ rfl rfl hl.1 rfl (lv_room (Nat.le_of_ble_eq_true rfl)) dX3_whole_1 ⟨Nat.le_of_ble_eq_true rfl, Nat.le_of_ble_eq_true rfl⟩) hD hS hA (fun H locs hP hD hS => ?_)
  have hP : va_P D vwCl (cws cI cL cE cP ad g n k (zfl (US g k) us n) (zfl (WB g k) wb (32 * n)) tr (PRO (zfl (WB g k) wb (32 * n)) pr n) (LEO (zfl (US g k) us n) (zfl (WB g k) wb (32 * n)) pr le n) (nI n) (nI k)) H := hP
  have hD : va_D A (cws cI cL cE cP ad g n k (zfl (US g k) us n) (zfl (WB g k) wb (32 * n)) tr (PRO (zfl (WB g k) wb (32 * n)) pr n) (LEO (zfl (US g k) us n) (zfl (WB g k) wb (32 * n)) pr le n) (nI n) (nI k)) := hD
  refine lv_aload_n hx hb dX3_whole_4 rfl (lv_at hl 0 rfl) ?_
  refine va_get (D := D) (ci := 3) (v := .ref (ad 5)) (C := RX3) (T := TX3) (N := 9) hx hb hts iX3 hown hK hP 0 cws_0 rfl 4 (by decide) (hts (.fieldLink RX3 31 "CapitalReckoner" "search" "LCapitalReckoner$Search;") (by decide +kernel)) (fun _ h9 => h9) rfl dX3_whole_5 ?_
  refine vp_callSi (va_Run.run (va_runVN (As := []) (rest := []) ⟨hx, hb, hml, hown, hts⟩ (zX2_bestWhole l D cI cL cE cP ad g n k (zfl (US g k) us n) (zfl (WB g k) wb (32 * n)) tr (PRO (zfl (WB g k) wb (32 * n)) pr n) (LEO (zfl (US g k) us n) (zfl (WB g k) wb (32 * n)) pr le n) hok ) ⟨va_cnB 0 hts gX3_whole_X2_bestWhole_n186 rfl rfl rfl (hE.2 (.methodLinkNest RX3 186 yX2_bestWhole RX3) (List.mem_of_getElem? (i := 12) rfl)) (hts (.initialized RX2) (by decide +kernel)) (by decide +kernel) ⟨Nat.le_of_ble_eq_true rfl, Nat.le_of_ble_eq_true rfl⟩, (hts (.instanceMethod yX2_bestWhole) (by decide +kernel)), (hts (.selects RX2 yX2_bestWhole yX2_bestWhole) (by decide +kernel))⟩ ⟨zPr_blind, va_recv hK hP (ci := 2) (q0 := 5) rfl cws_5, zPr_mk hE hP⟩ rfl rfl hl.1 rfl (lv_room (Nat.le_of_ble_eq_true rfl)) dX3_whole_8 ⟨Nat.le_of_ble_eq_true rfl, Nat.le_of_ble_eq_true rfl⟩)) (fun r_3 e_4 => ?_)
  obtain rfl := e_4
  exact ziret (v := bwE (LEO (zfl (US g k) us n) (zfl (WB g k) wb (32 * n)) pr le n) k) hx hb hr hAe (by first | rfl | (simp only []; done) | (simp only []; rfl) | (simp []; done)) (zP_re hP (rfl)) (zD_re hD (rfl)) hS dX3_whole_11
set_option maxHeartbeats 4000000 in
set_option maxRecDepth 100000 in
theorem zX3_wholeByTrying (l : Launch) (D : va_G) (cI cL cE cP : ClassId) (ad : Nat → Nat) (g : Nat → Nat → Int32) (n k : Nat) (us wb tr : Nat → Int32) (pr le : Nat → Int64) (tk gf : Int32) (hok : zOk g n k) (sz : Nat) : Met l yX3_wholeByTrying wsX3_wholeByTrying ({ frames := 13, cells := 0, slots := 0, locals := 722 }) (zPw D cI cL cE cP (cws cI cL cE cP ad g n k us wb tr pr le tk gf) sz [.ref (ad 0)]) (zQi D (cws cI cL cE cP ad g n k us wb tr pr le tk gf) sz (fun r : Int32 => r = tfF (zfl (US g k) us n) (zfl (WB g k) wb (32 * n)) n k 0 (trL tr n) (twL (zfl (WB g k) wb (32 * n)) n)) (cws cI cL cE cP ad g n k (zfl (US g k) us n) (zfl (WB g k) wb (32 * n)) (trL tr n) pr le (nI n) (nI k))) 0 0 (va_A (cws cI cL cE cP ad g n k us wb tr pr le tk gf) sz) := by
  refine Met.ofW (cc := cX3_wholeByTrying) (maxL := 1) (ret := (some .int)) (by decide) rfl ?_
  intro p e s m args below meth c s₁ B hml hv
  obtain ⟨rfl, hsz, hE, hP, hD0⟩ := hv
  subst hsz
  obtain ⟨A, hAe⟩ : ∃ A, A = va_A (cws cI cL cE cP ad g n k us wb tr pr le tk gf) s.heap.size := ⟨_, rfl⟩
  have hD : va_D A (cws cI cL cE cP ad g n k us wb tr pr le tk gf) := by rw [hAe]; exact hD0.self
  have hA : ∀ q : Nat, s.heap.size ≤ q → A q := fun q h => by rw [hAe]; exact Or.inr h
  have hS : va_S A s.heap s.heap [] := va_S.rf
  have hx := B.exec
  have hb := B.bytes
  have hr := B.returns
  have hts := atoms_spec (ws := wsX3_wholeByTrying) B.pre
  have hown : s.vm.findClass RX3 = some m.cls := findClass_of_methodNamed B.named
  have hlocks := B.notSynchronized
  have hK := hE.1
  have iX3 : ∀ w ∈ wsX30, w ∈ wsX3_wholeByTrying := by decide +kernel
  have hl := lv_entry ([.ref (ad 0)]) (n := 1) (Nat.le_of_ble_eq_true rfl)
  rw [lg_entry_eq]
  generalize (lg_sl ([.ref (ad 0)]) ++ List.replicate (1 - (lg_sl ([.ref (ad 0)])).length) Slot.unset).toArray = ls at hl ⊢
  have hl : lv_has ls 1 [(0, .ref (ad 0))] := hl
  refine lv_aload_n hx hb dX3_wholeByTrying_0 rfl (lv_at hl 0 rfl) ?_
  refine zcallv (va_runV (As := []) (rest := []) ⟨hx, hb, hml, hown, hts⟩ (zX3_fillSearch l D cI cL cE cP ad g n k us wb tr pr le tk gf hok s.heap.size) (cwV 0 hts gX3_wholeByTrying_X3_fillSearch rfl rfl rfl (by decide +kernel) ⟨Nat.le_of_ble_eq_true rfl, Nat.le_of_ble_eq_true rfl⟩) ⟨zPw_blind, va_recv hK hP (ci := 3) (q0 := 0) rfl cws_0, zPw_mk hE hP hD⟩ rfl rfl hl.1 rfl (lv_room (Nat.le_of_ble_eq_true rfl)) dX3_wholeByTrying_1 ⟨Nat.le_of_ble_eq_true rfl, Nat.le_of_ble_eq_true rfl⟩) hD hS hA (fun H locs hP hD hS => ?_)
  have hP : va_P D vwCl (cws cI cL cE cP ad g n k (zfl (US g k) us n) (zfl (WB g k) wb (32 * n)) tr pr le (nI n) (nI k)) H := hP
  have hD : va_D A (cws cI cL cE cP ad g n k (zfl (US g k) us n) (zfl (WB g k) wb (32 * n)) tr pr le (nI n) (nI k)) := hD
  refine lv_aload_n hx hb dX3_wholeByTrying_4 rfl (lv_at hl 0 rfl) ?_
  refine va_get (D := D) (ci := 3) (v := .ref (ad 5)) (C := RX3) (T := TX3) (N := 9) hx hb hts iX3 hown hK hP 0 cws_0 rfl 4 (by decide) (hts (.fieldLink RX3 31 "CapitalReckoner" "search" "LCapitalReckoner$Search;") (by decide +kernel)) (fun _ h9 => h9) rfl dX3_wholeByTrying_5 ?_
  refine zcalli (va_runVN (As := []) (rest := []) ⟨hx, hb, hml, hown, hts⟩ (zX2_triedWhole l D cI cL cE cP ad g n k (zfl (US g k) us n) (zfl (WB g k) wb (32 * n)) tr pr le hok H.size) ⟨va_cnB 0 hts gX3_wholeByTrying_X2_triedWhole_n192 rfl rfl rfl (hE.2 (.methodLinkNest RX3 192 yX2_triedWhole RX3) (List.mem_of_getElem? (i := 13) rfl)) (hts (.initialized RX2) (by decide +kernel)) (by decide +kernel) ⟨Nat.le_of_ble_eq_true rfl, Nat.le_of_ble_eq_true rfl⟩, (hts (.instanceMethod yX2_triedWhole) (by decide +kernel)), (hts (.selects RX2 yX2_triedWhole yX2_triedWhole) (by decide +kernel))⟩ ⟨zPw_blind, va_recv hK hP (ci := 2) (q0 := 5) rfl cws_5, zPw_mk hE hP hD⟩ rfl rfl hl.1 rfl (lv_room (Nat.le_of_ble_eq_true rfl)) dX3_wholeByTrying_8 ⟨Nat.le_of_ble_eq_true rfl, Nat.le_of_ble_eq_true rfl⟩) hD hS hA (fun r_3 H locs e_4 hP hD hS => ?_)
  obtain rfl := e_4
  have hP : va_P D vwCl (cws cI cL cE cP ad g n k (zfl (US g k) us n) (zfl (WB g k) wb (32 * n)) (trL tr n) pr le (nI n) (nI k)) H := hP
  have hD : va_D A (cws cI cL cE cP ad g n k (zfl (US g k) us n) (zfl (WB g k) wb (32 * n)) (trL tr n) pr le (nI n) (nI k)) := hD
  exact ziret (v := tfF (zfl (US g k) us n) (zfl (WB g k) wb (32 * n)) n k 0 (trL tr n) (twL (zfl (WB g k) wb (32 * n)) n)) hx hb hr hAe (by first | rfl | (simp only []; done) | (simp only []; rfl) | (simp []; done)) (zP_re hP (rfl)) (zD_re hD (rfl)) hS dX3_wholeByTrying_11
set_option maxHeartbeats 4000000 in
set_option maxRecDepth 100000 in
theorem zX3_required (l : Launch) (D : va_G) (cI cL cE cP : ClassId) (ad : Nat → Nat) (g : Nat → Nat → Int32) (n k : Nat) (us wb tr : Nat → Int32) (pr le : Nat → Int64) (tk gf : Int32) (hok : zOk g n k) (sz : Nat) : Met l yX3_required wsX3_required ({ frames := 6, cells := 0, slots := 0, locals := 131 }) (zPw D cI cL cE cP (cws cI cL cE cP ad g n k us wb tr pr le tk gf) sz [.ref (ad 0)]) (zQi D (cws cI cL cE cP ad g n k us wb tr pr le tk gf) sz (fun r : Int32 => r = if bwE (LEO (zfl (US g k) us n) (zfl (WB g k) wb (32 * n)) pr le n) k < pct (plL g n) (g 2 0) then pct (plL g n) (g 2 0) else bwE (LEO (zfl (US g k) us n) (zfl (WB g k) wb (32 * n)) pr le n) k) (cws cI cL cE cP ad g n k (zfl (US g k) us n) (zfl (WB g k) wb (32 * n)) tr (PRO (zfl (WB g k) wb (32 * n)) pr n) (LEO (zfl (US g k) us n) (zfl (WB g k) wb (32 * n)) pr le n) (nI n) (nI k))) 0 0 (va_A (cws cI cL cE cP ad g n k us wb tr pr le tk gf) sz) := by
  refine Met.ofW (cc := cX3_required) (maxL := 1) (ret := (some .int)) (by decide) rfl ?_
  intro p e s m args below meth c s₁ B hml hv
  obtain ⟨rfl, hsz, hE, hP, hD0⟩ := hv
  subst hsz
  obtain ⟨A, hAe⟩ : ∃ A, A = va_A (cws cI cL cE cP ad g n k us wb tr pr le tk gf) s.heap.size := ⟨_, rfl⟩
  have hD : va_D A (cws cI cL cE cP ad g n k us wb tr pr le tk gf) := by rw [hAe]; exact hD0.self
  have hA : ∀ q : Nat, s.heap.size ≤ q → A q := fun q h => by rw [hAe]; exact Or.inr h
  have hS : va_S A s.heap s.heap [] := va_S.rf
  have hx := B.exec
  have hb := B.bytes
  have hr := B.returns
  have hts := atoms_spec (ws := wsX3_required) B.pre
  have hown : s.vm.findClass RX3 = some m.cls := findClass_of_methodNamed B.named
  have hlocks := B.notSynchronized
  have hK := hE.1
  have iX3 : ∀ w ∈ wsX30, w ∈ wsX3_required := by decide +kernel
  have hl := lv_entry ([.ref (ad 0)]) (n := 1) (Nat.le_of_ble_eq_true rfl)
  rw [lg_entry_eq]
  generalize (lg_sl ([.ref (ad 0)]) ++ List.replicate (1 - (lg_sl ([.ref (ad 0)])).length) Slot.unset).toArray = ls at hl ⊢
  have hl : lv_has ls 1 [(0, .ref (ad 0))] := hl
  refine lv_aload_n hx hb dX3_required_0 rfl (lv_at hl 0 rfl) ?_
  refine zcalli (va_runV (As := []) (rest := []) ⟨hx, hb, hml, hown, hts⟩ (zX3_whole l D cI cL cE cP ad g n k us wb tr pr le tk gf hok s.heap.size) (cwV 0 hts gX3_required_X3_whole rfl rfl rfl (by decide +kernel) ⟨Nat.le_of_ble_eq_true rfl, Nat.le_of_ble_eq_true rfl⟩) ⟨zPw_blind, va_recv hK hP (ci := 3) (q0 := 0) rfl cws_0, zPw_mk hE hP hD⟩ rfl rfl hl.1 rfl (lv_room (Nat.le_of_ble_eq_true rfl)) dX3_required_1 ⟨Nat.le_of_ble_eq_true rfl, Nat.le_of_ble_eq_true rfl⟩) hD hS hA (fun r_1 H locs e_2 hP hD hS => ?_)
  obtain rfl := e_2
  have hP : va_P D vwCl (cws cI cL cE cP ad g n k (zfl (US g k) us n) (zfl (WB g k) wb (32 * n)) tr (PRO (zfl (WB g k) wb (32 * n)) pr n) (LEO (zfl (US g k) us n) (zfl (WB g k) wb (32 * n)) pr le n) (nI n) (nI k)) H := hP
  have hD : va_D A (cws cI cL cE cP ad g n k (zfl (US g k) us n) (zfl (WB g k) wb (32 * n)) tr (PRO (zfl (WB g k) wb (32 * n)) pr n) (LEO (zfl (US g k) us n) (zfl (WB g k) wb (32 * n)) pr le n) (nI n) (nI k)) := hD
  refine lv_aload_n hx hb dX3_required_4 rfl (lv_at hl 0 rfl) ?_
  refine vp_callSi (va_Run.run (va_runV (As := []) (rest := [.int (bwE (LEO (zfl (US g k) us n) (zfl (WB g k) wb (32 * n)) pr le n) k)]) ⟨hx, hb, hml, hown, hts⟩ (zX3_plain l D cI cL cE cP ad g n k (zfl (US g k) us n) (zfl (WB g k) wb (32 * n)) tr (PRO (zfl (WB g k) wb (32 * n)) pr n) (LEO (zfl (US g k) us n) (zfl (WB g k) wb (32 * n)) pr le n) (nI n) (nI k) hok ) (cwV 0 hts gX3_required_X3_plain rfl rfl rfl (by decide +kernel) ⟨Nat.le_of_ble_eq_true rfl, Nat.le_of_ble_eq_true rfl⟩) ⟨zPr_blind, va_recv hK hP (ci := 3) (q0 := 0) rfl cws_0, zPr_mk hE hP⟩ rfl rfl hl.1 rfl (lv_room (Nat.le_of_ble_eq_true rfl)) dX3_required_5 ⟨Nat.le_of_ble_eq_true rfl, Nat.le_of_ble_eq_true rfl⟩)) (fun r_3 e_4 => ?_)
  obtain rfl := e_4
  refine lv_aload_n hx hb dX3_required_8 rfl (lv_at hl 0 rfl) ?_
  refine va_get (D := D) (ci := 3) (v := .int (g 2 0)) (C := RX3) (T := TX3) (N := 9) hx hb hts iX3 hown hK hP 0 cws_0 rfl 7 (by decide) (hts (.fieldLink RX3 42 "CapitalReckoner" "floor" "I") (by decide +kernel)) (fun _ h9 => h9) rfl dX3_required_9 ?_
  refine vp_callSi (va_Run.run (va_runS (As := [.int (plL g n), .int (g 2 0)]) (rest := [.int (bwE (LEO (zfl (US g k) us n) (zfl (WB g k) wb (32 * n)) pr le n) k)]) ⟨hx, hb, hml, hown, hts⟩ (zX3_percentOf l D cI cL cE cP (cws cI cL cE cP ad g n k (zfl (US g k) us n) (zfl (WB g k) wb (32 * n)) tr (PRO (zfl (WB g k) wb (32 * n)) pr n) (LEO (zfl (US g k) us n) (zfl (WB g k) wb (32 * n)) pr le n) (nI n) (nI k)) (plL g n) (g 2 0)) (va_cwS 2 hts gX3_required_X3_percentOf rfl rfl rfl (by decide +kernel) ⟨Nat.le_of_ble_eq_true rfl, Nat.le_of_ble_eq_true rfl⟩) ⟨zPr_blind, zPr_mk hE hP⟩ rfl rfl hl.1 rfl (lv_room (Nat.le_of_ble_eq_true rfl)) dX3_required_12 ⟨Nat.le_of_ble_eq_true rfl, Nat.le_of_ble_eq_true rfl⟩)) (fun r_5 e_6 => ?_)
  obtain rfl := e_6
  refine va_mmax hx hb (hml.trans hl.1.symm) hown (hts (.methodLink RX3 208 Lib.Math.max.name) (by decide +kernel)) (hts (.static Lib.Math.max.name) (by decide +kernel)) (hts (.initialized "java/lang/Math") (by decide +kernel)) (hts (.code Lib.Math.max.name Lib.Math.max.code 2 (some .int)) (by decide +kernel)) (Nat.le_of_ble_eq_true rfl) (Nat.le_of_ble_eq_true rfl) (Nat.zero_le _) (Nat.zero_le _) dX3_required_15 ?_
  exact ziret (v := if bwE (LEO (zfl (US g k) us n) (zfl (WB g k) wb (32 * n)) pr le n) k < pct (plL g n) (g 2 0) then pct (plL g n) (g 2 0) else bwE (LEO (zfl (US g k) us n) (zfl (WB g k) wb (32 * n)) pr le n) k) hx hb hr hAe (by first | rfl | (simp only []; done) | (simp only []; rfl) | (simp []; done)) (zP_re hP (rfl)) (zD_re hD (rfl)) hS dX3_required_18
set_option maxHeartbeats 4000000 in
set_option maxRecDepth 100000 in
theorem zX3_tooLarge (l : Launch) (D : va_G) (cI cL cE cP : ClassId) (ad : Nat → Nat) (g : Nat → Nat → Int32) (n k : Nat) (us wb tr : Nat → Int32) (pr le : Nat → Int64) (tk gf : Int32) (hok : zOk g n k) (sz : Nat) : Met l yX3_tooLarge wsX3_tooLarge ({ frames := 5, cells := 0, slots := 0, locals := 111 }) (zPw D cI cL cE cP (cws cI cL cE cP ad g n k us wb tr pr le tk gf) sz [.ref (ad 0)]) (zQi D (cws cI cL cE cP ad g n k us wb tr pr le tk gf) sz (fun r : Int32 => r = tlL g n k (LEO (zfl (US g k) us n) (zfl (WB g k) wb (32 * n)) pr le n) 4) (cws cI cL cE cP ad g n k (zfl (US g k) us n) (zfl (WB g k) wb (32 * n)) tr (PRO (zfl (WB g k) wb (32 * n)) pr n) (LEO (zfl (US g k) us n) (zfl (WB g k) wb (32 * n)) pr le n) (nI n) (nI k))) 0 0 (va_A (cws cI cL cE cP ad g n k us wb tr pr le tk gf) sz) := by
  refine Met.ofW (cc := cX3_tooLarge) (maxL := 3) (ret := (some .int)) (by decide) rfl ?_
  intro p e s m args below meth c s₁ B hml hv
  obtain ⟨rfl, hsz, hE, hP, hD0⟩ := hv
  subst hsz
  obtain ⟨A, hAe⟩ : ∃ A, A = va_A (cws cI cL cE cP ad g n k us wb tr pr le tk gf) s.heap.size := ⟨_, rfl⟩
  have hD : va_D A (cws cI cL cE cP ad g n k us wb tr pr le tk gf) := by rw [hAe]; exact hD0.self
  have hA : ∀ q : Nat, s.heap.size ≤ q → A q := fun q h => by rw [hAe]; exact Or.inr h
  have hS : va_S A s.heap s.heap [] := va_S.rf
  have hx := B.exec
  have hb := B.bytes
  have hr := B.returns
  have hts := atoms_spec (ws := wsX3_tooLarge) B.pre
  have hown : s.vm.findClass RX3 = some m.cls := findClass_of_methodNamed B.named
  have hlocks := B.notSynchronized
  have hK := hE.1
  have iX3 : ∀ w ∈ wsX30, w ∈ wsX3_tooLarge := by decide +kernel
  have hl := lv_entry ([.ref (ad 0)]) (n := 3) (Nat.le_of_ble_eq_true rfl)
  rw [lg_entry_eq]
  generalize (lg_sl ([.ref (ad 0)]) ++ List.replicate (3 - (lg_sl ([.ref (ad 0)])).length) Slot.unset).toArray = ls at hl ⊢
  have hl : lv_has ls 3 [(0, .ref (ad 0))] := hl
  refine lv_aload_n hx hb dX3_tooLarge_0 rfl (lv_at hl 0 rfl) ?_
  refine zcallv (va_runV (As := []) (rest := []) ⟨hx, hb, hml, hown, hts⟩ (zX3_findBest l D cI cL cE cP ad g n k us wb tr pr le tk gf hok s.heap.size) (cwV 0 hts gX3_tooLarge_X3_findBest rfl rfl rfl (by decide +kernel) ⟨Nat.le_of_ble_eq_true rfl, Nat.le_of_ble_eq_true rfl⟩) ⟨zPw_blind, va_recv hK hP (ci := 3) (q0 := 0) rfl cws_0, zPw_mk hE hP hD⟩ rfl rfl hl.1 rfl (lv_room (Nat.le_of_ble_eq_true rfl)) dX3_tooLarge_1 ⟨Nat.le_of_ble_eq_true rfl, Nat.le_of_ble_eq_true rfl⟩) hD hS hA (fun H locs hP hD hS => ?_)
  have hP : va_P D vwCl (cws cI cL cE cP ad g n k (zfl (US g k) us n) (zfl (WB g k) wb (32 * n)) tr (PRO (zfl (WB g k) wb (32 * n)) pr n) (LEO (zfl (US g k) us n) (zfl (WB g k) wb (32 * n)) pr le n) (nI n) (nI k)) H := hP
  have hD : va_D A (cws cI cL cE cP ad g n k (zfl (US g k) us n) (zfl (WB g k) wb (32 * n)) tr (PRO (zfl (WB g k) wb (32 * n)) pr n) (LEO (zfl (US g k) us n) (zfl (WB g k) wb (32 * n)) pr le n) (nI n) (nI k)) := hD
  refine lv_iconst (v := 0) hx hb dX3_tooLarge_4 (by decide) ?_
  refine lv_istore_n (lv' := [(1, .int 0), (0, .ref (ad 0))]) hx hb dX3_tooLarge_5 rfl hl (by decide) rfl (fun ls hl => ?_)
  refine lv_iconst (v := 0) hx hb dX3_tooLarge_6 (by decide) ?_
  refine lv_istore_n (lv' := [(2, .int 0), (1, .int 0), (0, .ref (ad 0))]) hx hb dX3_tooLarge_7 rfl hl (by decide) rfl (fun ls hl => ?_)
  refine zloopM (nL := 3) (lv := fun i => [(0, .ref (ad 0)), (1, .int (tlL g n k (LEO (zfl (US g k) us n) (zfl (WB g k) wb (32 * n)) pr le n) (i))), (2, .int (nI (i)))]) (wd := fun i => cws cI cL cE cP ad g n k (zfl (US g k) us n) (zfl (WB g k) wb (32 * n)) tr (PRO (zfl (WB g k) wb (32 * n)) pr n) (LEO (zfl (US g k) us n) (zfl (WB g k) wb (32 * n)) pr le n) (nI n) (nI k)) (n := 4) (lv_re (lv_sub hl [2, 1, 0] rfl) (by first | rfl | (simp only [tlL, nI_0]; done) | (simp only [tlL, nI_0]; rfl) | (simp [tlL, nI_0]; done))) (zP_re hP (by rfl)) (zD_re hD (by rfl)) hS (fun H locs ls hP hD hS hl => ?_) (fun i hi ih_8 H locs ls hP hD hS hl => ?_)
  · have hl : lv_has ls 3 [(0, .ref (ad 0)), (1, .int (tlL g n k (LEO (zfl (US g k) us n) (zfl (WB g k) wb (32 * n)) pr le n) (4))), (2, .int (nI (4)))] := hl
    have hP : va_P D vwCl (cws cI cL cE cP ad g n k (zfl (US g k) us n) (zfl (WB g k) wb (32 * n)) tr (PRO (zfl (WB g k) wb (32 * n)) pr n) (LEO (zfl (US g k) us n) (zfl (WB g k) wb (32 * n)) pr le n) (nI n) (nI k)) H := hP
    have hD : va_D A (cws cI cL cE cP ad g n k (zfl (US g k) us n) (zfl (WB g k) wb (32 * n)) tr (PRO (zfl (WB g k) wb (32 * n)) pr n) (LEO (zfl (US g k) us n) (zfl (WB g k) wb (32 * n)) pr le n) (nI n) (nI k)) := hD
    refine lv_iload_n hx hb dX3_tooLarge_8 rfl (lv_at hl 2 rfl) ?_
    refine lv_iconst (v := 4) hx hb dX3_tooLarge_9 (by decide) ?_
    refine lv_icmp_ge (tgt := 39) hx hb dX3_tooLarge_10 (by decide) (fun c_3 => ?_) (fun c_3 => absurd (zle_refl (nI 4)) c_3)
    refine lv_iload_n hx hb dX3_tooLarge_39 rfl (lv_at hl 1 rfl) ?_
    exact ziret (v := tlL g n k (LEO (zfl (US g k) us n) (zfl (WB g k) wb (32 * n)) pr le n) (4)) hx hb hr hAe (by first | rfl | (simp only [tlL, c_3]; done) | (simp only [tlL, c_3]; rfl) | (simp [tlL, c_3]; done)) (zP_re hP (rfl)) (zD_re hD (rfl)) hS dX3_tooLarge_40
  · have hl : lv_has ls 3 [(0, .ref (ad 0)), (1, .int (tlL g n k (LEO (zfl (US g k) us n) (zfl (WB g k) wb (32 * n)) pr le n) (i))), (2, .int (nI (i)))] := hl
    have hP : va_P D vwCl (cws cI cL cE cP ad g n k (zfl (US g k) us n) (zfl (WB g k) wb (32 * n)) tr (PRO (zfl (WB g k) wb (32 * n)) pr n) (LEO (zfl (US g k) us n) (zfl (WB g k) wb (32 * n)) pr le n) (nI n) (nI k)) H := hP
    have hD : va_D A (cws cI cL cE cP ad g n k (zfl (US g k) us n) (zfl (WB g k) wb (32 * n)) tr (PRO (zfl (WB g k) wb (32 * n)) pr n) (LEO (zfl (US g k) us n) (zfl (WB g k) wb (32 * n)) pr le n) (nI n) (nI k)) := hD
    refine lv_iload_n hx hb dX3_tooLarge_8 rfl (lv_at hl 2 rfl) ?_
    refine lv_iconst (v := 4) hx hb dX3_tooLarge_9 (by decide) ?_
    refine lv_icmp_ge (tgt := 39) hx hb dX3_tooLarge_10 (by decide) (fun c_4 => absurd c_4 (nI_ge hi (by decide))) (fun c_4 => ?_)
    refine lv_aload_n hx hb dX3_tooLarge_13 rfl (lv_at hl 0 rfl) ?_
    refine lv_iload_n hx hb dX3_tooLarge_14 rfl (lv_at hl 2 rfl) ?_
    refine vp_callSi (va_Run.run (va_runV (As := [.int (nI (i))]) (rest := []) ⟨hx, hb, hml, hown, hts⟩ (zX3_bareOfParty l D cI cL cE cP ad g n k (zfl (US g k) us n) (zfl (WB g k) wb (32 * n)) tr (PRO (zfl (WB g k) wb (32 * n)) pr n) (LEO (zfl (US g k) us n) (zfl (WB g k) wb (32 * n)) pr le n) hok (nI (i))) (cwV 1 hts gX3_tooLarge_X3_bareOfParty rfl rfl rfl (by decide +kernel) ⟨Nat.le_of_ble_eq_true rfl, Nat.le_of_ble_eq_true rfl⟩) ⟨zPr_blind, va_recv hK hP (ci := 3) (q0 := 0) rfl cws_0, zPr_mk hE hP⟩ rfl rfl hl.1 rfl (lv_room (Nat.le_of_ble_eq_true rfl)) dX3_tooLarge_15 ⟨Nat.le_of_ble_eq_true rfl, Nat.le_of_ble_eq_true rfl⟩)) (fun r_5 e_6 => ?_)
    obtain rfl := e_6
    refine lv_aload_n hx hb dX3_tooLarge_18 rfl (lv_at hl 0 rfl) ?_
    refine va_get (D := D) (ci := 3) (v := .int (g 2 1)) (C := RX3) (T := TX3) (N := 9) hx hb hts iX3 hown hK hP 0 cws_0 rfl 8 (by decide) (hts (.fieldLink RX3 45 "CapitalReckoner" "capital" "I") (by decide +kernel)) (fun _ h9 => h9) rfl dX3_tooLarge_19 ?_
    refine lv_iconst (v := 4) hx hb dX3_tooLarge_22 (by decide) ?_
    refine lv_idiv hx hb dX3_tooLarge_23 (by decide) ?_
    refine lv_icmp_le (tgt := 33) hx hb dX3_tooLarge_24 (by decide) (fun c_7 => ?_) (fun c_7 => ?_)
    · refine lv_iinc (v := nI ((i) + 1)) (lv' := [(2, .int (nI ((i) + 1))), (0, .ref (ad 0)), (1, .int (tlL g n k (LEO (zfl (US g k) us n) (zfl (WB g k) wb (32 * n)) pr le n) (i)))]) hx hb dX3_tooLarge_33 hl (k := 2) rfl (zinc _) (by decide) rfl (fun ls hl => ?_)
      refine lv_goto (tgt := 8) hx hb dX3_tooLarge_36 (by decide) ?_
      exact ih_8 H locs ls (zP_re hP (by rfl)) (zD_re hD (by rfl)) hS (lv_re (lv_sub hl [1, 2, 0] rfl) (by first | rfl | (simp only [tlL, c_4, c_7]; done) | (simp only [tlL, c_4, c_7]; rfl) | (simp [tlL, c_4, c_7]; done)))
    · refine lv_iload_n hx hb dX3_tooLarge_27 rfl (lv_at hl 1 rfl) ?_
      refine lv_iconst (v := 1) hx hb dX3_tooLarge_28 (by decide) ?_
      refine lv_iload_n hx hb dX3_tooLarge_29 rfl (lv_at hl 2 rfl) ?_
      refine lv_ishl hx hb dX3_tooLarge_30 ?_
      refine lv_ior hx hb dX3_tooLarge_31 ?_
      refine lv_istore_n (lv' := [(1, .int ((tlL g n k (LEO (zfl (US g k) us n) (zfl (WB g k) wb (32 * n)) pr le n) (i)) ||| ((1 : Int32) <<< ((nI (i)) &&& 31)))), (0, .ref (ad 0)), (2, .int (nI (i)))]) hx hb dX3_tooLarge_32 rfl hl (by decide) rfl (fun ls hl => ?_)
      refine lv_iinc (v := nI ((i) + 1)) (lv' := [(2, .int (nI ((i) + 1))), (1, .int ((tlL g n k (LEO (zfl (US g k) us n) (zfl (WB g k) wb (32 * n)) pr le n) (i)) ||| ((1 : Int32) <<< ((nI (i)) &&& 31)))), (0, .ref (ad 0))]) hx hb dX3_tooLarge_33 hl (k := 2) rfl (zinc _) (by decide) rfl (fun ls hl => ?_)
      refine lv_goto (tgt := 8) hx hb dX3_tooLarge_36 (by decide) ?_
      exact ih_8 H locs ls (zP_re hP (by rfl)) (zD_re hD (by rfl)) hS (lv_re (lv_sub hl [2, 1, 0] rfl) (by first | rfl | (simp only [tlL, c_4, c_7]; done) | (simp only [tlL, c_4, c_7]; rfl) | (simp [tlL, c_4, c_7]; done)))
