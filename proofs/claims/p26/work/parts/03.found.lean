/-! foundation: the nest's links, the environment of a state, the class's world, rows for calls -/
def zNest : List Cond := [.methodLinkNest RX3 30 yX2_init RX3, .methodLinkNest RX3 233 yX2_begin RX3, .methodLinkNest RX3 240 yX2_setUsable RX3, .methodLinkNest RX2 41 yX3_put RX3, .methodLinkNest RX3 132 yX0_amountNow RX3, .methodLinkNest RX0 36 yX3_percentOf RX3, .methodLinkNest RX3 165 yX1_valueFor RX3, .methodLinkNest RX1 27 yX3_percentOf RX3, .methodLinkNest RX3 243 yX2_setWeighted RX3, .methodLinkNest RX3 230 yX2_findLeast RX3, .methodLinkNest RX2 49 yX3_has RX3, .methodLinkNest RX2 45 yX3_at RX3, .methodLinkNest RX3 186 yX2_bestWhole RX3, .methodLinkNest RX3 192 yX2_triedWhole RX3, .methodLinkNest RX3 176 yX2_givenSet RX3, .methodLinkNest RX3 102 yX0_init RX3, .methodLinkNest RX3 146 yX1_init RX3, .methodLinkNest RX3 172 yX2_takerOf RX3, .methodLinkNest RX3 195 yX2_wholeWithout RX3, .fieldLinkNest RX3 227 "CapitalReckoner$Exposure" "party" "I" RX3, .fieldLinkNest RX1 31 "CapitalReckoner$Exposure" "currency" "I" RX3, .fieldLinkNest RX1 34 "CapitalReckoner$Exposure" "days" "I" RX3, .fieldLinkNest RX3 123 "CapitalReckoner$Exposure" "kind" "I" RX3, .fieldLinkNest RX3 113 "CapitalReckoner$Exposure" "drawn" "I" RX3, .fieldLinkNest RX3 116 "CapitalReckoner$Exposure" "promised" "I" RX3, .fieldLinkNest RX3 129 "CapitalReckoner$Exposure" "guaranteeKind" "I" RX3, .fieldLinkNest RX3 126 "CapitalReckoner$Exposure" "guaranteeSum" "I" RX3, .fieldLinkNest RX3 157 "CapitalReckoner$Piece" "amount" "I" RX3, .fieldLinkNest RX3 160 "CapitalReckoner$Piece" "uses" "I" RX3]
theorem zNest_warm {s U : State} (hW : s.WarmedH U.vm) : ∀ w ∈ zNest, va_Nw w s → va_Nw w U := by
  intro w hw h
  simp only [zNest, List.mem_cons, List.not_mem_nil, or_false] at hw
  rcases hw with rfl | rfl | rfl | rfl | rfl | rfl | rfl | rfl | rfl | rfl | rfl | rfl | rfl | rfl | rfl | rfl | rfl | rfl | rfl | rfl | rfl | rfl | rfl | rfl | rfl | rfl | rfl | rfl | rfl <;> first | exact va_Nw.warmM hW h | exact va_Nw.warmF hW h
theorem zNest_tabs : ∀ w ∈ zNest, w.onTables = true := by
  intro w hw
  simp only [zNest, List.mem_cons, List.not_mem_nil, or_false] at hw
  rcases hw with rfl | rfl | rfl | rfl | rfl | rfl | rfl | rfl | rfl | rfl | rfl | rfl | rfl | rfl | rfl | rfl | rfl | rfl | rfl | rfl | rfl | rfl | rfl | rfl | rfl | rfl | rfl | rfl | rfl <;> rfl
abbrev zTys (cI cL cE cP : ClassId) : List (ClassId × FieldType) := [(cI, .int), (cL, .long), (cE, .object RX0), (cP, .object RX1)]
/-- what a state's tables are known to hold -/
def zE (D : va_G) (cI cL cE cP : ClassId) (U : State) : Prop := va_K D vwCl (zTys cI cL cE cP) U ∧ ∀ w ∈ zNest, va_Nw w U
theorem zE.warm {D : va_G} {cI cL cE cP : ClassId} {s U : State} (hW : s.WarmedH U.vm) (h : zE D cI cL cE cP s) : zE D cI cL cE cP U := ⟨va_K.moved hW.alike h.1, fun w hw => zNest_warm hW w hw (h.2 w hw)⟩
theorem zE.calling {D : va_G} {cI cL cE cP : ClassId} {U : State} (g : JFrame) (mk : MethodId) (a : Array Value) (h : zE D cI cL cE cP U) : zE D cI cL cE cP (U.calling g mk a) := ⟨va_K.moved (u := U) (U := U.calling g mk a) (Vm.Alike.refl U.vm) h.1, fun w hw => va_Nw.same (u := U) (U := U.calling g mk a) (zNest_tabs w hw) rfl (h.2 w hw)⟩
/-- the start of a method that only reads -/
def zPr (D : va_G) (cI cL cE cP : ClassId) (ws : va_W) (as : List Value) : Array Value → State → Prop := va_Pc as (fun U => zE D cI cL cE cP U ∧ va_P D vwCl ws U.heap)
theorem zPr_blind {D : va_G} {cI cL cE cP : ClassId} {ws : va_W} {as : List Value} : FrameBlind (zPr D cI cL cE cP ws as) := fun a U g mk q => ⟨q.1, q.2.1.calling g mk a, q.2.2⟩
theorem zPr_mk {D : va_G} {cI cL cE cP : ClassId} {ws : va_W} {as : List Value} {s : State} {H : Heap} (hE : zE D cI cL cE cP s) (hP : va_P D vwCl ws H) : ∀ U : State, U.heap = H → s.WarmedH U.vm → zPr D cI cL cE cP ws as as.toArray U := fun U hU hW => ⟨rfl, hE.warm hW, by rw [hU]; exact hP⟩
/-- the start of a method that writes -/
def zPw (D : va_G) (cI cL cE cP : ClassId) (ws : va_W) (sz : Nat) (as : List Value) : Array Value → State → Prop := va_Pc as (fun U => U.heap.size = sz ∧ zE D cI cL cE cP U ∧ va_P D vwCl ws U.heap ∧ va_D (fun _ => True) ws)
theorem zPw_blind {D : va_G} {cI cL cE cP : ClassId} {ws : va_W} {sz : Nat} {as : List Value} : FrameBlind (zPw D cI cL cE cP ws sz as) := fun a U g mk q => ⟨q.1, q.2.1, q.2.2.1.calling g mk a, q.2.2.2⟩
theorem zPw_mk {D : va_G} {cI cL cE cP : ClassId} {ws : va_W} {as : List Value} {s : State} {H : Heap} {A : Nat → Prop} (hE : zE D cI cL cE cP s) (hP : va_P D vwCl ws H) (hD : va_D A ws) : ∀ U : State, U.heap = H → s.WarmedH U.vm → zPw D cI cL cE cP ws H.size as as.toArray U := fun U hU hW => ⟨rfl, by rw [hU], hE.warm hW, by rw [hU]; exact hP, hD.weaken (fun _ _ _ _ => trivial)⟩
abbrev zB (D : va_G) (ws0 : va_W) (sz : Nat) (ws1 : va_W) (t : State) : Prop := va_P D vwCl ws1 t.heap ∧ va_D (va_A ws0 sz) ws1
/-- the end of a method that writes: its answer, and the world then -/
abbrev zQi (D : va_G) (ws0 : va_W) (sz : Nat) (post : Int32 → Prop) (ws1 : va_W) : Array Value → State → Outcome → State → Prop := va_Qi (fun (r : Int32) (_ : Unit) => post r) (fun _ t => zB D ws0 sz ws1 t) (va_A ws0 sz)
abbrev zQv (D : va_G) (ws0 : va_W) (sz : Nat) (ws1 : va_W) : Array Value → State → Outcome → State → Prop := va_Qv (fun (_ : Unit) => True) (fun _ t => zB D ws0 sz ws1 t) (va_A ws0 sz)
theorem va_A_in {A : Nat → Prop} {ws : va_W} {H0 H : Heap} {locs : List Loc} (hD : va_D A ws) (hS : va_S A H0 H locs) (hA : ∀ q, H0.size ≤ q → A q) : ∀ q, va_A ws H.size q → A q := by
  intro q hq
  rcases hq with ⟨k, e, h⟩ | h
  · exact hD.2 k (q, e) h
  · exact hA q (Nat.le_trans hS.1 h)
section ZC
variable {p : Program} {l : Launch} {e : Env} {R : Room} {s : State} {m : MethodId} {args : Array Value} {below : List Frame} {meth : Method} {c : Code} {H : Heap} {locs : List Loc} {cells slots : Nat} {Q : State → Prop} {pc : Nat} {ls : Array Slot} {rest st0 : List Value} {a : Array Value} {A : Nat → Prop} {H0 : Heap} {D : va_G}
theorem zcalli {ws0 ws1 : va_W} {mc ms : Nat} {post : Int32 → Prop} (hr : va_Run p l e R s m args below meth c H locs cells slots mc ms (F0 m pc ls st0) rest (zQi D ws0 H.size post ws1 a) (va_A ws0 H.size)) (hD : va_D A ws0) (hS : va_S A H0 H locs) (hA : ∀ q, H0.size ≤ q → A q)
    (kk : ∀ (r : Int32) (H1 : Heap) (locs1 : List Loc), post r → va_P D vwCl ws1 H1 → va_D A ws1 → va_S A H0 H1 locs1 → W p l e R s m args below meth c H1 locs1 (cells + mc) (slots + ms) Q (F0 m (pc + 3) ls (.int r :: rest))) : W p l e R s m args below meth c H locs cells slots Q (F0 m pc ls st0) :=
  va_calli hr hS (fun q _ h => va_A_in hD hS hA q h) (va_A_in hD hS hA) (fun r u t H1 locs1 ht hvm hp hB hz hk hS1 => kk r H1 locs1 hp (by rw [← ht]; exact hB.1) (hB.2.weaken (fun _ _ _ h => va_A_in hD hS hA _ h)) hS1)
theorem zcallv {ws0 ws1 : va_W} {mc ms : Nat} (hr : va_Run p l e R s m args below meth c H locs cells slots mc ms (F0 m pc ls st0) rest (zQv D ws0 H.size ws1 a) (va_A ws0 H.size)) (hD : va_D A ws0) (hS : va_S A H0 H locs) (hA : ∀ q, H0.size ≤ q → A q)
    (kk : ∀ (H1 : Heap) (locs1 : List Loc), va_P D vwCl ws1 H1 → va_D A ws1 → va_S A H0 H1 locs1 → W p l e R s m args below meth c H1 locs1 (cells + mc) (slots + ms) Q (F0 m (pc + 3) ls rest)) : W p l e R s m args below meth c H locs cells slots Q (F0 m pc ls st0) :=
  va_callv hr hS (fun q _ h => va_A_in hD hS hA q h) (va_A_in hD hS hA) (fun u t H1 locs1 ht hvm hp hB hz hk hS1 => kk H1 locs1 (by rw [← ht]; exact hB.1) (hB.2.weaken (fun _ _ _ h => va_A_in hD hS hA _ h)) hS1)
/-- a loop that only reads: the locals at its head by the number of turns -/
theorem zloop {nL head : Nat} {lv : Nat → List (Nat × Value)} {n : Nat} {ls0 : Array Slot} (hl : lv_has ls0 nL (lv 0)) (hx : ∀ ls, lv_has ls nL (lv n) → W p l e R s m args below meth c H locs cells slots Q (F0 m head ls []))
    (hs : ∀ i, i < n → (∀ ls, lv_has ls nL (lv (i + 1)) → W p l e R s m args below meth c H locs cells slots Q (F0 m head ls [])) → ∀ ls, lv_has ls nL (lv i) → W p l e R s m args below meth c H locs cells slots Q (F0 m head ls [])) : W p l e R s m args below meth c H locs cells slots Q (F0 m head ls0 []) := by
  have key : ∀ d i, i + d = n → ∀ ls, lv_has ls nL (lv i) → W p l e R s m args below meth c H locs cells slots Q (F0 m head ls []) := by
    intro d
    induction d with
    | zero => intro i hi ls h; have : i = n := by omega
              subst this; exact hx ls h
    | succ d ih => intro i hi ls h; exact hs i (by omega) (ih (i + 1) (by omega)) ls h
  exact key n 0 (by omega) ls0 hl
/-- a loop that writes -/
theorem zloopM {nL head : Nat} {lv : Nat → List (Nat × Value)} {wd : Nat → va_W} {n : Nat} {ls0 : Array Slot} (hl : lv_has ls0 nL (lv 0)) (hP : va_P D vwCl (wd 0) H) (hD : va_D A (wd 0)) (hS : va_S A H0 H locs) (hx : ∀ (H : Heap) (locs : List Loc) ls, va_P D vwCl (wd n) H → va_D A (wd n) → va_S A H0 H locs → lv_has ls nL (lv n) → W p l e R s m args below meth c H locs cells slots Q (F0 m head ls []))
    (hs : ∀ i, i < n → (∀ (H : Heap) (locs : List Loc) ls, va_P D vwCl (wd (i + 1)) H → va_D A (wd (i + 1)) → va_S A H0 H locs → lv_has ls nL (lv (i + 1)) → W p l e R s m args below meth c H locs cells slots Q (F0 m head ls [])) → ∀ (H : Heap) (locs : List Loc) ls, va_P D vwCl (wd i) H → va_D A (wd i) → va_S A H0 H locs → lv_has ls nL (lv i) → W p l e R s m args below meth c H locs cells slots Q (F0 m head ls [])) : W p l e R s m args below meth c H locs cells slots Q (F0 m head ls0 []) := by
  have key : ∀ d i, i + d = n → ∀ (H : Heap) (locs : List Loc) ls, va_P D vwCl (wd i) H → va_D A (wd i) → va_S A H0 H locs → lv_has ls nL (lv i) → W p l e R s m args below meth c H locs cells slots Q (F0 m head ls []) := by
    intro d
    induction d with
    | zero => intro i hi H locs ls h1 h2 h3 h; have : i = n := by omega
              subst this; exact hx H locs ls h1 h2 h3 h
    | succ d ih => intro i hi H locs ls h1 h2 h3 h; exact hs i (by omega) (ih (i + 1) (by omega)) H locs ls h1 h2 h3 h
  exact key n 0 (by omega) H locs ls0 hP hD hS hl
end ZC
theorem lv_re {ls : Array Slot} {nL : Nat} {l l' : List (Nat × Value)} (h : lv_has ls nL l) (e : l' = l) : lv_has ls nL l' := e ▸ h
theorem zP_re {D : va_G} {ws ws' : va_W} {H : Heap} (h : va_P D vwCl ws H) (e : ws' = ws) : va_P D vwCl ws' H := e ▸ h
theorem zD_re {A : Nat → Prop} {ws ws' : va_W} (h : va_D A ws) (e : ws' = ws) : va_D A ws' := e ▸ h
theorem zinc (a : Nat) : nI a + Int32.ofInt 1 = nI (a + 1) := nI_1 a
theorem zle_refl (x : Int32) : x ≤ x := Int32.le_refl x
-- ===== the class's world =====
def gU (g : Nat → Nat → Int32) (r i : Nat) (x : Int32) : Nat → Nat → Int32 := fun r' i' => if r' = r ∧ i' = i then x else g r' i'
def cwE (g : Nat → Nat → Int32) (i : Nat) : va_E := .inr (0, [.int (g 4 i), .int (g 7 i), .int (g 8 i), .int (g 3 i), .int (g 5 i), .int (g 6 i), .int (g 9 i), .int (g 10 i)])
def cwP (g : Nat → Nat → Int32) (j : Nat) : va_E := .inr (1, [.int (g 12 j), .int (g 13 j), .int (g 14 j), .int (g 11 j), .int (g 15 j)])
def zbk (ad : Nat → Nat) (n : Nat) : Nat → Option Nat := fun i => if i < n then some (ad (11 + i)) else none
def zcl (ad : Nat → Nat) (k : Nat) : Nat → Option Nat := fun j => if j < k then some (ad (19 + j)) else none
def cwF (cI cL cE cP : ClassId) (ad : Nat → Nat) (g : Nat → Nat → Int32) (n k : Nat) (us wb tr : Nat → Int32) (pr le : Nat → Int64) (tk gf : Int32) : va_W :=
  [(ad 0, .inr (3, [.ref (ad 1), .ref (ad 2), .ref (ad 3), .ref (ad 4), .ref (ad 5), .int (nI n), .int (nI k), .int (g 2 0), .int (g 2 1)])), (ad 1, .inl (cI, 4, .inl (g 0))), (ad 2, .inl (cI, 4, .inl (g 1))), (ad 3, .inl (cE, 8, .inr (.inr (.inr (.inr (zbk ad n)))))), (ad 4, .inl (cP, 5, .inr (.inr (.inr (.inr (zcl ad k)))))),
   (ad 5, .inr (2, [.ref (ad 6), .ref (ad 7), .ref (ad 8), .ref (ad 9), .ref (ad 10), .int tk, .int gf])), (ad 6, .inl (cI, 8, .inl us)), (ad 7, .inl (cI, 256, .inl wb)), (ad 8, .inl (cI, 8, .inl tr)), (ad 9, .inl (cL, 32, .inr (.inl pr))), (ad 10, .inl (cL, 32, .inr (.inl le)))]
def cwO (ad : Nat → Nat) (g : Nat → Nat → Int32) (n k : Nat) : va_W := (List.range n).map (fun i => (ad (11 + i), cwE g i)) ++ (List.range k).map (fun j => (ad (19 + j), cwP g j))
def cws (cI cL cE cP : ClassId) (ad : Nat → Nat) (g : Nat → Nat → Int32) (n k : Nat) (us wb tr : Nat → Int32) (pr le : Nat → Int64) (tk gf : Int32) : va_W := cwF cI cL cE cP ad g n k us wb tr pr le tk gf ++ cwO ad g n k
section ZW
variable {cI cL cE cP : ClassId} {ad : Nat → Nat} {g : Nat → Nat → Int32} {n k : Nat} {us wb tr : Nat → Int32} {pr le : Nat → Int64} {tk gf : Int32}
theorem cws_0 : (cws cI cL cE cP ad g n k us wb tr pr le tk gf)[0]? = some (ad 0, .inr (3, [.ref (ad 1), .ref (ad 2), .ref (ad 3), .ref (ad 4), .ref (ad 5), .int (nI n), .int (nI k), .int (g 2 0), .int (g 2 1)])) := rfl
theorem cws_1 : (cws cI cL cE cP ad g n k us wb tr pr le tk gf)[1]? = some (ad 1, .inl (cI, 4, .inl (g 0))) := rfl
theorem cws_2 : (cws cI cL cE cP ad g n k us wb tr pr le tk gf)[2]? = some (ad 2, .inl (cI, 4, .inl (g 1))) := rfl
theorem cws_3 : (cws cI cL cE cP ad g n k us wb tr pr le tk gf)[3]? = some (ad 3, .inl (cE, 8, .inr (.inr (.inr (.inr (zbk ad n)))))) := rfl
theorem cws_4 : (cws cI cL cE cP ad g n k us wb tr pr le tk gf)[4]? = some (ad 4, .inl (cP, 5, .inr (.inr (.inr (.inr (zcl ad k)))))) := rfl
theorem cws_5 : (cws cI cL cE cP ad g n k us wb tr pr le tk gf)[5]? = some (ad 5, .inr (2, [.ref (ad 6), .ref (ad 7), .ref (ad 8), .ref (ad 9), .ref (ad 10), .int tk, .int gf])) := rfl
theorem cws_6 : (cws cI cL cE cP ad g n k us wb tr pr le tk gf)[6]? = some (ad 6, .inl (cI, 8, .inl us)) := rfl
theorem cws_7 : (cws cI cL cE cP ad g n k us wb tr pr le tk gf)[7]? = some (ad 7, .inl (cI, 256, .inl wb)) := rfl
theorem cws_8 : (cws cI cL cE cP ad g n k us wb tr pr le tk gf)[8]? = some (ad 8, .inl (cI, 8, .inl tr)) := rfl
theorem cws_9 : (cws cI cL cE cP ad g n k us wb tr pr le tk gf)[9]? = some (ad 9, .inl (cL, 32, .inr (.inl pr))) := rfl
theorem cws_10 : (cws cI cL cE cP ad g n k us wb tr pr le tk gf)[10]? = some (ad 10, .inl (cL, 32, .inr (.inl le))) := rfl
theorem cws_E {i : Nat} (hi : i < n) : (cws cI cL cE cP ad g n k us wb tr pr le tk gf)[11 + i]? = some (ad (11 + i), cwE g i) := by
  unfold cws
  rw [List.getElem?_append_right (by show 11 ≤ _; omega)]
  show (cwO ad g n k)[11 + i - 11]? = _
  rw [show 11 + i - 11 = i by omega]
  unfold cwO
  rw [List.getElem?_append_left (by simpa using hi)]
  simp [hi]
theorem cws_P {j : Nat} (hj : j < k) : (cws cI cL cE cP ad g n k us wb tr pr le tk gf)[11 + n + j]? = some (ad (19 + j), cwP g j) := by
  unfold cws
  rw [List.getElem?_append_right (by show 11 ≤ _; omega)]
  show (cwO ad g n k)[11 + n + j - 11]? = _
  rw [show 11 + n + j - 11 = n + j by omega]
  unfold cwO
  rw [List.getElem?_append_right (by simp)]
  simp [hj]
theorem cws_s5a {x : Int32} : (cws cI cL cE cP ad g n k us wb tr pr le tk gf).set 5 (ad 5, .inr (2, [.ref (ad 6), .ref (ad 7), .ref (ad 8), .ref (ad 9), .ref (ad 10), .int x, .int gf])) = cws cI cL cE cP ad g n k us wb tr pr le x gf := rfl
theorem cws_s5b {x : Int32} : (cws cI cL cE cP ad g n k us wb tr pr le tk gf).set 5 (ad 5, .inr (2, [.ref (ad 6), .ref (ad 7), .ref (ad 8), .ref (ad 9), .ref (ad 10), .int tk, .int x])) = cws cI cL cE cP ad g n k us wb tr pr le tk x := rfl
theorem cws_s6 {f : Nat → Int32} : (cws cI cL cE cP ad g n k us wb tr pr le tk gf).set 6 (ad 6, .inl (cI, 8, .inl f)) = cws cI cL cE cP ad g n k f wb tr pr le tk gf := rfl
theorem cws_s7 {f : Nat → Int32} : (cws cI cL cE cP ad g n k us wb tr pr le tk gf).set 7 (ad 7, .inl (cI, 256, .inl f)) = cws cI cL cE cP ad g n k us f tr pr le tk gf := rfl
theorem cws_s8 {f : Nat → Int32} : (cws cI cL cE cP ad g n k us wb tr pr le tk gf).set 8 (ad 8, .inl (cI, 8, .inl f)) = cws cI cL cE cP ad g n k us wb f pr le tk gf := rfl
theorem cws_s9 {f : Nat → Int64} : (cws cI cL cE cP ad g n k us wb tr pr le tk gf).set 9 (ad 9, .inl (cL, 32, .inr (.inl f))) = cws cI cL cE cP ad g n k us wb tr f le tk gf := rfl
theorem cws_s10 {f : Nat → Int64} : (cws cI cL cE cP ad g n k us wb tr pr le tk gf).set 10 (ad 10, .inl (cL, 32, .inr (.inl f))) = cws cI cL cE cP ad g n k us wb tr pr f tk gf := rfl
end ZW

def zb (b : Bool) : Int32 := if b = true then 1 else 0
theorem znb (b : Bool) : narrow .boolean (.int (zb b)) = .int (zb b) := by cases b <;> rfl
theorem zb_eq {b : Bool} (h : zb b = 0) : b = false := by cases b <;> first | rfl | exact absurd h (by decide)
theorem zb_ne {b : Bool} (h : ¬ zb b = 0) : b = true := by cases b <;> first | rfl | exact absurd rfl h
theorem zb_t : zb true = 1 := rfl
theorem zb_f : zb false = 0 := rfl
section ZD
variable {p : Program} {l : Launch} {e : Env} {R : Room} {s : State} {m : MethodId} {args : Array Value} {below : List Frame} {meth : Method} {c : Code} {H : Heap} {locs : List Loc} {cells slots : Nat} {Q : State → Prop}
variable {cc : ByteArray} {pc : Nat} {ls : Array Slot} {rest : List Value} {D : va_G} {cl : List vw_C} {A : Nat → Prop} {a : Nat} {tys : List (ClassId × FieldType)} {ws : va_W} {H0 : Heap}
theorem ziald (hexec : p.tables.exec = Jvm.exec) (hb : c.code = cc) (hK : va_K D cl tys s) (hP : va_P D cl ws H) (q0 t0 : Nat) {cA : ClassId} {n : Nat} {f : Nat → Int32} (ha : ws[q0]? = some (a, .inl (cA, n, .inl f))) (ht : tys[t0]? = some (cA, .int)) {i : Int32} (hin : vp_in i n) {v : Int32} (hv : f i.toNatClampNeg = v) (hdg : decode cc pc = .ok (.iaload, 1))
    (kk : W p l e R s m args below meth c H locs cells slots Q (F0 m (pc + 1) ls (.int v :: rest))) : W p l e R s m args below meth c H locs cells slots Q (F0 m pc ls (.int i :: .ref a :: rest)) := by
  subst hv; exact va_iald hexec hb hK hP q0 t0 ha ht hin hdg kk
theorem zlald (hexec : p.tables.exec = Jvm.exec) (hb : c.code = cc) (hK : va_K D cl tys s) (hP : va_P D cl ws H) (q0 t0 : Nat) {cA : ClassId} {n : Nat} {f : Nat → Int64} (ha : ws[q0]? = some (a, .inl (cA, n, .inr (.inl f)))) (ht : tys[t0]? = some (cA, .long)) {i : Int32} (hin : vp_in i n) {v : Int64} (hv : f i.toNatClampNeg = v) (hdg : decode cc pc = .ok (.laload, 1))
    (kk : W p l e R s m args below meth c H locs cells slots Q (F0 m (pc + 1) ls (.long v :: rest))) : W p l e R s m args below meth c H locs cells slots Q (F0 m pc ls (.int i :: .ref a :: rest)) := by
  subst hv; exact va_lald hexec hb hK hP q0 t0 ha ht hin hdg kk
theorem ziast (hexec : p.tables.exec = Jvm.exec) (hb : c.code = cc) (hK : va_K D cl tys s) (hP : va_P D cl ws H) (hD : va_D A ws) (hS : va_S A H0 H locs) (q0 t0 : Nat) {cA : ClassId} {n : Nat} {f : Nat → Int32} (ha : ws[q0]? = some (a, .inl (cA, n, .inl f))) (ht : tys[t0]? = some (cA, .int)) {i : Int32} {x : Int32} (hin : vp_in i n) {f2 : Nat → Int32} (hv : upd f i.toNatClampNeg x = f2) (hdg : decode cc pc = .ok (.iastore, 1))
    (kk : ∀ (H1 : Heap) (locs1 : List Loc), va_P D cl (ws.set q0 (a, .inl (cA, n, .inl f2))) H1 → va_D A (ws.set q0 (a, .inl (cA, n, .inl f2))) → va_S A H0 H1 locs1 → W p l e R s m args below meth c H1 locs1 cells slots Q (F0 m (pc + 1) ls rest)) : W p l e R s m args below meth c H locs cells slots Q (F0 m pc ls (.int x :: .int i :: .ref a :: rest)) := by
  subst hv; exact va_iast hexec hb hK hP hD hS q0 t0 ha ht hin hdg kk
theorem zlast (hexec : p.tables.exec = Jvm.exec) (hb : c.code = cc) (hK : va_K D cl tys s) (hP : va_P D cl ws H) (hD : va_D A ws) (hS : va_S A H0 H locs) (q0 t0 : Nat) {cA : ClassId} {n : Nat} {f : Nat → Int64} (ha : ws[q0]? = some (a, .inl (cA, n, .inr (.inl f)))) (ht : tys[t0]? = some (cA, .long)) {i : Int32} {x : Int64} (hin : vp_in i n) {f2 : Nat → Int64} (hv : vp_updL f i.toNatClampNeg x = f2) (hdg : decode cc pc = .ok (.lastore, 1))
    (kk : ∀ (H1 : Heap) (locs1 : List Loc), va_P D cl (ws.set q0 (a, .inl (cA, n, .inr (.inl f2)))) H1 → va_D A (ws.set q0 (a, .inl (cA, n, .inr (.inl f2)))) → va_S A H0 H1 locs1 → W p l e R s m args below meth c H1 locs1 cells slots Q (F0 m (pc + 1) ls rest)) : W p l e R s m args below meth c H locs cells slots Q (F0 m pc ls (.long x :: .int i :: .ref a :: rest)) := by
  subst hv; exact va_last hexec hb hK hP hD hS q0 t0 ha ht hin hdg kk
theorem zvret {W0 W1 : va_W} (hx : p.tables.exec = Jvm.exec) (hb : c.code = cc) (hr : meth.sig.returnType = none) (hAe : A = va_A W0 s.heap.size) (hP : va_P D vwCl W1 H) (hD : va_D A W1) (hS : va_S A s.heap H locs) (hdg : decode cc pc = .ok (.return_, 1)) (hlocks : meth.locks = false := by assumption) :
    W p l e R s m args below meth c H locs cells slots (MQ below (zQv D W0 s.heap.size W1) args s cells slots (va_A W0 s.heap.size)) (F0 m pc ls []) := by
  subst hAe
  exact W.vret hx hb hr (fun t ht hW => ⟨⟨(), rfl, trivial, by rw [ht]; exact hP, hD⟩, hS.F ht⟩) hS.2.2 hdg
theorem ziret {W0 W1 : va_W} {v : Int32} {post : Int32 → Prop} (hx : p.tables.exec = Jvm.exec) (hb : c.code = cc) (hr : meth.sig.returnType = some .int) (hAe : A = va_A W0 s.heap.size) (hv : post v) (hP : va_P D vwCl W1 H) (hD : va_D A W1) (hS : va_S A s.heap H locs) (hdg : decode cc pc = .ok (.ireturn, 1)) (hlocks : meth.locks = false := by assumption) :
    W p l e R s m args below meth c H locs cells slots (MQ below (zQi D W0 s.heap.size post W1) args s cells slots (va_A W0 s.heap.size)) (F0 m pc ls [.int v]) := by
  subst hAe
  exact W.iret hx hb hr (fun t ht hW => ⟨⟨v, (), rfl, hv, by rw [ht]; exact hP, hD⟩, hS.F ht⟩) hS.2.2 hdg
end ZD
/-- the room that the numbers have in a state -/
def zOk (g : Nat → Nat → Int32) (n k : Nat) : Prop := n ≤ 8 ∧ k ≤ 5
  ∧ (∀ c, c < 4 → (0 ≤ (g 0 c).toInt ∧ (g 0 c).toInt ≤ 400) ∧ (0 ≤ (g 1 c).toInt ∧ (g 1 c).toInt ≤ 400))
  ∧ (0 ≤ (g 2 0).toInt ∧ (g 2 0).toInt ≤ 100) ∧ (0 ≤ (g 2 1).toInt ∧ (g 2 1).toInt ≤ 1000000000)
  ∧ (∀ i, i < n → vp_in (g 3 i) 4 ∧ vp_in (g 4 i) 4 ∧ (0 ≤ (g 5 i).toInt ∧ (g 5 i).toInt ≤ 10000000) ∧ (0 ≤ (g 6 i).toInt ∧ (g 6 i).toInt ≤ 10000000) ∧ vp_in (g 7 i) 3 ∧ (1 ≤ (g 8 i).toInt ∧ (g 8 i).toInt ≤ 3650) ∧ vp_in (g 9 i) 4 ∧ (0 ≤ (g 10 i).toInt ∧ (g 10 i).toInt ≤ 10000000))
  ∧ (∀ j, j < k → (1 ≤ (g 11 j).toInt ∧ (g 11 j).toInt ≤ 10000000) ∧ (0 ≤ (g 12 j).toInt ∧ (g 12 j).toInt ≤ 100) ∧ vp_in (g 13 j) 3 ∧ (1 ≤ (g 14 j).toInt ∧ (g 14 j).toInt ≤ 3650) ∧ (0 ≤ (g 15 j).toInt ∧ (g 15 j).toInt ≤ 255))
theorem zOk.n {g : Nat → Nat → Int32} {n k : Nat} (h : zOk g n k) : n ≤ 8 := h.1
theorem zOk.k {g : Nat → Nat → Int32} {n k : Nat} (h : zOk g n k) : k ≤ 5 := h.2.1
def zexP (ad : Nat → Nat) (n : Nat) (x : Int32) (r : Option Nat) : Prop := (∃ i, i < n ∧ x = nI i ∧ r = some (ad (11 + i))) ∨ (r = none ∧ ∀ i, i < n → x ≠ nI i)
def zpiP (ad : Nat → Nat) (k : Nat) (x : Int32) (r : Option Nat) : Prop := (∃ i, i < k ∧ x = nI i ∧ r = some (ad (19 + i))) ∨ (r = none ∧ ∀ i, i < k → x ≠ nI i)
theorem zex_known {ad : Nat → Nat} {g : Nat → Nat → Int32} {n k i : Nat} {r : Option Nat} (h : zexP ad n (nI i) r) (hi : i < n) (hok : zOk g n k) : r = some (ad (11 + i)) := by
  have h8 := hok.n
  rcases h with ⟨j, hj, e, h⟩ | ⟨-, h⟩
  · rw [h, (nI_eq (by omega) (by omega)).mp e]
  · exact absurd rfl (h i hi)
theorem zpi_known {ad : Nat → Nat} {g : Nat → Nat → Int32} {n k i : Nat} {r : Option Nat} (h : zpiP ad k (nI i) r) (hi : i < k) (hok : zOk g n k) : r = some (ad (19 + i)) := by
  have h8 := hok.k
  rcases h with ⟨j, hj, e, h⟩ | ⟨-, h⟩
  · rw [h, (nI_eq (by omega) (by omega)).mp e]
  · exact absurd rfl (h i hi)
