/-! what a throw needs of a state -/
def nIO : String := "java/lang/IndexOutOfBoundsException"
def nIA : String := "java/lang/IllegalArgumentException"
def nIS : String := "java/lang/IllegalStateException"
def zXw : List Cond := [.declares ⟨"java/lang/RuntimeException", "<init>", "(Ljava/lang/String;)V"⟩, .declares ⟨"java/lang/Exception", "<init>", "(Ljava/lang/String;)V"⟩, .declares ⟨"java/lang/Throwable", "<init>", "(Ljava/lang/String;)V"⟩, .castable "java/lang/IndexOutOfBoundsException" "java/lang/IndexOutOfBoundsException", .castable "java/lang/IllegalArgumentException" "java/lang/IllegalArgumentException", .castable "java/lang/IllegalStateException" "java/lang/IllegalStateException"]
def zStr : List (Nat × String) := [(54, "no such class"), (65, "weight or plain is out of range"), (76, "percent is out of range"), (79, "sum is out of range"), (84, "no such class or party"), (95, "drawn, promised, currency or days is out of range"), (99, "there are 8 exposures"), (109, "no such exposure"), (119, "a part would be below 0 or above 10000000"), (121, "no such exposure or class"), (142, "an argument is out of range"), (144, "there are 5 pieces"), (153, "no such piece"), (155, "amount or uses is out of range"), (163, "no such piece or exposure"), (213, "no such party")]
theorem zcast_warm {a b : String} {s U : State} (hW : s.WarmedH U.vm) (h : va_Nw (.castable a b) s) : va_Nw (.castable a b) U :=
  va_tabs rfl (rfl : (s.setVm U.vm).vm = U.vm) (by rw [Cond.castable_setVm hW.alike]; exact h)
theorem zXw_warm {s U : State} (hW : s.WarmedH U.vm) : ∀ w ∈ zXw, va_Nw w s → va_Nw w U := by
  intro w hw h
  simp only [zXw, List.mem_cons, List.not_mem_nil, or_false] at hw
  rcases hw with rfl | rfl | rfl | rfl | rfl | rfl <;> first | exact va_Nw.warmD hW h | exact zcast_warm hW h
theorem zXw_tabs : ∀ w ∈ zXw, w.onTables = true := by
  intro w hw
  simp only [zXw, List.mem_cons, List.not_mem_nil, or_false] at hw
  rcases hw with rfl | rfl | rfl | rfl | rfl | rfl <;> rfl
def zX (U : State) : Prop := (∀ w ∈ zXw, va_Nw w U) ∧ ∀ q ∈ zStr, ∃ sa, vk_R RX3 q.1 q.2 sa U
theorem zX.warm {s U : State} (hW : s.WarmedH U.vm) (h : zX s) : zX U := ⟨fun w hw => zXw_warm hW w hw (h.1 w hw), fun q hq => by obtain ⟨sa, h1⟩ := h.2 q hq; exact ⟨sa, vk_R.warm hW h1⟩⟩
theorem zX.calling {U : State} (g : JFrame) (mk : MethodId) (a : Array Value) (h : zX U) : zX (U.calling g mk a) := ⟨fun w hw => va_Nw.same (u := U) (U := U.calling g mk a) (zXw_tabs w hw) rfl (h.1 w hw), fun q hq => by obtain ⟨sa, h1⟩ := h.2 q hq; exact ⟨sa, vk_R.same (u := U) (U := U.calling g mk a) rfl h1⟩⟩
theorem zX.use {args : Array Value} {s : State} (h : zX s) : ∀ w ∈ zXw, w.before args s = true := fun w hw => va_Nw.use (zXw_tabs w hw) (h.1 w hw)
def zU (A : Nat → Prop) (U : State) (H : Heap) : Prop := vx_Zq Bundle.tN "UNASSIGNED_STACK" Bundle.steD A U H ∧ vx_Zq Bundle.tN "SUPPRESSED_SENTINEL" Bundle.listD A U H
theorem zU.kept {A : Nat → Prop} {U : State} {H H1 : Heap} (h : zU A U H) (hq : ∀ a : Nat, a < H.size → ¬ A a → H1[a]? = H[a]?) : zU A U H1 := ⟨h.1.kept hq, h.2.kept hq⟩
theorem zU.narrow {A B : Nat → Prop} {U : State} {H : Heap} (h : zU A U H) (hAB : ∀ q, B q → A q) : zU B U H := ⟨h.1.narrow hAB, h.2.narrow hAB⟩
theorem zU.warm {A : Nat → Prop} {s U : State} {H : Heap} (hW : s.WarmedH U.vm) (h : zU A s H) : zU A U H := ⟨vx_Zq.moved hW.alike h.1, vx_Zq.moved hW.alike h.2⟩
theorem zU.calling {A : Nat → Prop} {U : State} {H : Heap} (g : JFrame) (mk : MethodId) (a : Array Value) (h : zU A U H) : zU A (U.calling g mk a) H := ⟨vx_Zq.moved (Vm.Alike.refl U.vm) h.1, vx_Zq.moved (Vm.Alike.refl U.vm) h.2⟩
/-- the start of a method that may throw -/
def zPx (D : va_G) (cI cL cE cP : ClassId) (ws : va_W) (sz : Nat) (as : List Value) : Array Value → State → Prop := va_Pc as (fun U => U.heap.size = sz ∧ zE D cI cL cE cP U ∧ va_P D vwCl ws U.heap ∧ va_D (fun _ => True) ws ∧ zX U ∧ zU (va_A ws sz) U U.heap)
theorem zPx_blind {D : va_G} {cI cL cE cP : ClassId} {ws : va_W} {sz : Nat} {as : List Value} : FrameBlind (zPx D cI cL cE cP ws sz as) := fun a U g mk q => ⟨q.1, q.2.1, q.2.2.1.calling g mk a, q.2.2.2.1, q.2.2.2.2.1, q.2.2.2.2.2.1.calling g mk a, q.2.2.2.2.2.2.calling g mk a⟩
theorem zPx_mk {D : va_G} {cI cL cE cP : ClassId} {ws : va_W} {as : List Value} {s : State} {H : Heap} {A : Nat → Prop} (hE : zE D cI cL cE cP s) (hP : va_P D vwCl ws H) (hD : va_D A ws) (hX : zX s) (hU : zU (va_A ws H.size) s H) : ∀ U : State, U.heap = H → s.WarmedH U.vm → zPx D cI cL cE cP ws H.size as as.toArray U := fun U hU2 hW => ⟨rfl, by rw [hU2], hE.warm hW, by rw [hU2]; exact hP, hD.weaken (fun _ _ _ _ => trivial), hX.warm hW, by rw [hU2]; exact hU.warm hW⟩
/-- what stands where it has thrown: which class, the world as it was -/
abbrev zXC (D : va_G) (ws : va_W) (sz : Nat) (xp : String → Prop) : String → State → State → Prop := vx_X (fun _ : Unit => True) (fun E _ t => xp E ∧ zB D ws sz ws t) (va_A ws sz)
theorem zthrow {p : Program} {l : Launch} {e : Env} {R : Room} {s : State} {m : MethodId} {args : Array Value} {below : List Frame} {meth : Method} {c : Code} {H : Heap} {locs : List Loc} {cells slots : Nat} {ls : Array Slot} {D : va_G} {W0 : va_W} {A : Nat → Prop} {Qc : Array Value → State → Outcome → State → Prop} {xp : String → Prop} {cc : ByteArray} {pc mc ms nL : Nat} {cls text : String} {ik is ic : Nat}
    (hx : p.tables.exec = Jvm.exec) (hb : c.code = cc) (hl : l.stackTraces = false) (hown : s.vm.findClass RX3 = some m.cls) (hlocks : meth.locks = false) (htab : ∀ x ∈ c.exceptionTable.toList, False) (hml : c.maxLocals = nL) (hsz : ls.size = nL)
    (hcls : Bundle.fit cls = true) (hnames : ∀ n ∈ ["java/lang/RuntimeException", "java/lang/Exception"], Bundle.fit n = true) (hk : (Cond.classLink RX3 ik cls).before args s = true) (hini : (Cond.initialized cls).before args s = true)
    (h1 : ∀ w ∈ (vx_atS RX3 ic cls ["java/lang/RuntimeException", "java/lang/Exception"]).filter goodWord, w.before args s = true) (h2 : ∀ w ∈ (vx_atS RX3 ic cls ["java/lang/RuntimeException", "java/lang/Exception"]).filter (fun w => !goodWord w), w ∈ zXw)
    (hgood : ∀ w ∈ Cond.classLink RX3 ik cls :: Cond.initialized cls :: vx_atS RX3 ic cls ["java/lang/RuntimeException", "java/lang/Exception"], vx_ot w = true)
    (hstr : (is, text) ∈ zStr) (hX : zX s) (hAe : A = va_A W0 s.heap.size) (hU : zU A s s.heap) (hP : va_P D vwCl W0 H) (hD : va_D A W0) (hS : va_S A s.heap H locs)
    (d0 : decode cc pc = .ok (.new ik, 3)) (d3 : decode cc (pc + 3) = .ok (.dup, 1)) (d4 : decode cc (pc + 4) = .ok (.ldc is, 2)) (d6 : decode cc (pc + 6) = .ok (.invokespecial ic, 3)) (d9 : decode cc (pc + 9) = .ok (.athrow, 1))
    (hRf : 5 < R.frames) (hRl : 82 ≤ R.locals) (hRc : cells + 1 ≤ R.cells) (hRs : slots + 6 ≤ R.slots) (hc : cells + 1 ≤ mc) (hs : slots + 6 ≤ ms) (hxp : xp cls) :
    W p l e R s m args below meth c H locs cells slots (vx_MQ below Qc (zXC D W0 s.heap.size xp) args s mc ms (va_A W0 s.heap.size)) (F0 m pc ls []) := by
  obtain ⟨sa, hsa⟩ := hX.2 _ hstr
  refine vx_throwS (A := A) (names := ["java/lang/RuntimeException", "java/lang/Exception"]) hx hb hl hown hcls hnames hk hini hsa (vx_hat h1 h2 hX.use) hgood hU.1 hU.2 hS (hsz.trans hml.symm) d0 d3 d4 d6 d9 (fun x h => (htab x h).elim) hRf hRl hRc hRs hlocks (fun t hA hz hk => ?_) (by rw [← hAe]; exact hS.2.2) hc hs
  have hkp : va_P D vwCl W0 t.heap := hP.kept (fun k q hq => hk q.1 ((hP k q hq).lt))
  refine ⟨(), trivial, ⟨hxp, hkp, by rw [← hAe]; exact hD⟩, Nat.le_trans hS.1 hz, fun q h1 h2 => ?_⟩
  rw [hk q (Nat.lt_of_lt_of_le h1 hS.1)]
  exact hS.2.1 q h1 (by rw [hAe]; exact h2)
theorem zset_range {α : Type} (n i : Nat) (f : Nat → α) (x : α) : ((List.range n).map f).set i x = (List.range n).map (fun j => if j = i then x else f j) := by
  apply List.ext_getElem?
  intro q
  by_cases hq : q = i
  · subst hq
    by_cases h : q < n
    · rw [List.getElem?_set_self (by simpa using h)]; simp [h]
    · rw [List.getElem?_eq_none (by simpa using h), List.getElem?_eq_none (by simpa using h)]
  · rw [List.getElem?_set_ne (fun e => hq e.symm)]
    by_cases h : q < n
    · simp [h, hq]
    · rw [List.getElem?_eq_none (by simpa using h), List.getElem?_eq_none (by simpa using h)]
section ZS
variable {cI cL cE cP : ClassId} {ad : Nat → Nat} {g : Nat → Nat → Int32} {n k : Nat} {us wb tr : Nat → Int32} {pr le : Nat → Int64} {tk gf : Int32}
theorem cws_s1 {f : Nat → Int32} : (cws cI cL cE cP ad g n k us wb tr pr le tk gf).set 1 (ad 1, .inl (cI, 4, .inl f)) = cws cI cL cE cP ad (gR g 0 f) n k us wb tr pr le tk gf := rfl
theorem cws_s2 {f : Nat → Int32} : (cws cI cL cE cP ad g n k us wb tr pr le tk gf).set 2 (ad 2, .inl (cI, 4, .inl f)) = cws cI cL cE cP ad (gR g 1 f) n k us wb tr pr le tk gf := rfl
theorem cws_s0f {x : Int32} : (cws cI cL cE cP ad g n k us wb tr pr le tk gf).set 0 (ad 0, .inr (3, [.ref (ad 1), .ref (ad 2), .ref (ad 3), .ref (ad 4), .ref (ad 5), .int (nI n), .int (nI k), .int x, .int (g 2 1)])) = cws cI cL cE cP ad (gR g 2 (upd (g 2) 0 x)) n k us wb tr pr le tk gf := rfl
theorem cws_s0c {x : Int32} : (cws cI cL cE cP ad g n k us wb tr pr le tk gf).set 0 (ad 0, .inr (3, [.ref (ad 1), .ref (ad 2), .ref (ad 3), .ref (ad 4), .ref (ad 5), .int (nI n), .int (nI k), .int (g 2 0), .int x])) = cws cI cL cE cP ad (gR g 2 (upd (g 2) 1 x)) n k us wb tr pr le tk gf := rfl
theorem cws_sE {i : Nat} {g' : Nat → Nat → Int32} (hi : i < n) (hF : cwF cI cL cE cP ad g' n k us wb tr pr le tk gf = cwF cI cL cE cP ad g n k us wb tr pr le tk gf) (hE : ∀ j, j ≠ i → cwE g' j = cwE g j) (hP : ∀ j, cwP g' j = cwP g j) : (cws cI cL cE cP ad g n k us wb tr pr le tk gf).set (11 + i) (ad (11 + i), cwE g' i) = cws cI cL cE cP ad g' n k us wb tr pr le tk gf := by
  unfold cws
  rw [List.set_append, if_neg (by show ¬ 11 + i < 11; omega), hF]
  congr 1
  show (cwO ad g n k).set (11 + i - 11) _ = _
  rw [show 11 + i - 11 = i by omega]
  unfold cwO
  rw [List.set_append, if_pos (by simpa using hi), zset_range]
  congr 1
  · apply List.map_congr_left
    intro j hj
    by_cases h : j = i
    · subst h; simp
    · rw [if_neg h, hE j h]
  · apply List.map_congr_left
    intro j hj
    rw [hP]
theorem cws_sP {i : Nat} {g' : Nat → Nat → Int32} (hi : i < k) (hF : cwF cI cL cE cP ad g' n k us wb tr pr le tk gf = cwF cI cL cE cP ad g n k us wb tr pr le tk gf) (hP : ∀ j, j ≠ i → cwP g' j = cwP g j) (hE : ∀ j, cwE g' j = cwE g j) : (cws cI cL cE cP ad g n k us wb tr pr le tk gf).set (11 + n + i) (ad (19 + i), cwP g' i) = cws cI cL cE cP ad g' n k us wb tr pr le tk gf := by
  unfold cws
  rw [List.set_append, if_neg (by show ¬ 11 + n + i < 11; omega), hF]
  congr 1
  show (cwO ad g n k).set (11 + n + i - 11) _ = _
  rw [show 11 + n + i - 11 = n + i by omega]
  unfold cwO
  rw [List.set_append, if_neg (by simp), show n + i - ((List.range n).map fun i => (ad (11 + i), cwE g i)).length = i by simp, zset_range]
  congr 1
  · apply List.map_congr_left
    intro j hj
    rw [hE]
  · apply List.map_congr_left
    intro j hj
    by_cases h : j = i
    · subst h; simp
    · rw [if_neg h, hP j h]
theorem upd_ne {f : Nat → Int32} {i j : Nat} {x : Int32} (h : j ≠ i) : upd f i x j = f j := if_neg h
theorem cws_sE3 {i : Nat} {x : Int32} (hi : i < n) : (cws cI cL cE cP ad g n k us wb tr pr le tk gf).set (11 + i) (ad (11 + i), .inr (0, [.int (g 4 i), .int (g 7 i), .int (g 8 i), .int x, .int (g 5 i), .int (g 6 i), .int (g 9 i), .int (g 10 i)])) = cws cI cL cE cP ad (gR g 3 (upd (g 3) i x)) n k us wb tr pr le tk gf := by
  have h := cws_sE (cI := cI) (cL := cL) (cE := cE) (cP := cP) (ad := ad) (g := g) (n := n) (k := k) (us := us) (wb := wb) (tr := tr) (pr := pr) (le := le) (tk := tk) (gf := gf) (g' := gR g 3 (upd (g 3) i x)) hi rfl (fun j hj => by simp [cwE, gR, upd_ne hj]) (fun j => by simp [cwP, gR])
  rw [← h]; congr 2; simp [cwE, gR, upd]
theorem cws_sE5 {i : Nat} {x : Int32} (hi : i < n) : (cws cI cL cE cP ad g n k us wb tr pr le tk gf).set (11 + i) (ad (11 + i), .inr (0, [.int (g 4 i), .int (g 7 i), .int (g 8 i), .int (g 3 i), .int x, .int (g 6 i), .int (g 9 i), .int (g 10 i)])) = cws cI cL cE cP ad (gR g 5 (upd (g 5) i x)) n k us wb tr pr le tk gf := by
  have h := cws_sE (cI := cI) (cL := cL) (cE := cE) (cP := cP) (ad := ad) (g := g) (n := n) (k := k) (us := us) (wb := wb) (tr := tr) (pr := pr) (le := le) (tk := tk) (gf := gf) (g' := gR g 5 (upd (g 5) i x)) hi rfl (fun j hj => by simp [cwE, gR, upd_ne hj]) (fun j => by simp [cwP, gR])
  rw [← h]; congr 2; simp [cwE, gR, upd]
theorem cws_sE6 {i : Nat} {x : Int32} (hi : i < n) : (cws cI cL cE cP ad g n k us wb tr pr le tk gf).set (11 + i) (ad (11 + i), .inr (0, [.int (g 4 i), .int (g 7 i), .int (g 8 i), .int (g 3 i), .int (g 5 i), .int x, .int (g 9 i), .int (g 10 i)])) = cws cI cL cE cP ad (gR g 6 (upd (g 6) i x)) n k us wb tr pr le tk gf := by
  have h := cws_sE (cI := cI) (cL := cL) (cE := cE) (cP := cP) (ad := ad) (g := g) (n := n) (k := k) (us := us) (wb := wb) (tr := tr) (pr := pr) (le := le) (tk := tk) (gf := gf) (g' := gR g 6 (upd (g 6) i x)) hi rfl (fun j hj => by simp [cwE, gR, upd_ne hj]) (fun j => by simp [cwP, gR])
  rw [← h]; congr 2; simp [cwE, gR, upd]
theorem cws_sE9 {i : Nat} {x : Int32} (hi : i < n) : (cws cI cL cE cP ad g n k us wb tr pr le tk gf).set (11 + i) (ad (11 + i), .inr (0, [.int (g 4 i), .int (g 7 i), .int (g 8 i), .int (g 3 i), .int (g 5 i), .int (g 6 i), .int x, .int (g 10 i)])) = cws cI cL cE cP ad (gR g 9 (upd (g 9) i x)) n k us wb tr pr le tk gf := by
  have h := cws_sE (cI := cI) (cL := cL) (cE := cE) (cP := cP) (ad := ad) (g := g) (n := n) (k := k) (us := us) (wb := wb) (tr := tr) (pr := pr) (le := le) (tk := tk) (gf := gf) (g' := gR g 9 (upd (g 9) i x)) hi rfl (fun j hj => by simp [cwE, gR, upd_ne hj]) (fun j => by simp [cwP, gR])
  rw [← h]; congr 2; simp [cwE, gR, upd]
theorem cws_sE10 {i : Nat} {x : Int32} (hi : i < n) : (cws cI cL cE cP ad g n k us wb tr pr le tk gf).set (11 + i) (ad (11 + i), .inr (0, [.int (g 4 i), .int (g 7 i), .int (g 8 i), .int (g 3 i), .int (g 5 i), .int (g 6 i), .int (g 9 i), .int x])) = cws cI cL cE cP ad (gR g 10 (upd (g 10) i x)) n k us wb tr pr le tk gf := by
  have h := cws_sE (cI := cI) (cL := cL) (cE := cE) (cP := cP) (ad := ad) (g := g) (n := n) (k := k) (us := us) (wb := wb) (tr := tr) (pr := pr) (le := le) (tk := tk) (gf := gf) (g' := gR g 10 (upd (g 10) i x)) hi rfl (fun j hj => by simp [cwE, gR, upd_ne hj]) (fun j => by simp [cwP, gR])
  rw [← h]; congr 2; simp [cwE, gR, upd]
theorem cws_sP11 {i : Nat} {x : Int32} (hi : i < k) : (cws cI cL cE cP ad g n k us wb tr pr le tk gf).set (11 + n + i) (ad (19 + i), .inr (1, [.int (g 12 i), .int (g 13 i), .int (g 14 i), .int x, .int (g 15 i)])) = cws cI cL cE cP ad (gR g 11 (upd (g 11) i x)) n k us wb tr pr le tk gf := by
  have h := cws_sP (cI := cI) (cL := cL) (cE := cE) (cP := cP) (ad := ad) (g := g) (n := n) (k := k) (us := us) (wb := wb) (tr := tr) (pr := pr) (le := le) (tk := tk) (gf := gf) (g' := gR g 11 (upd (g 11) i x)) hi rfl (fun j hj => by simp [cwP, gR, upd_ne hj]) (fun j => by simp [cwE, gR])
  rw [← h]; congr 2; simp [cwP, gR, upd]
theorem cws_sP15 {i : Nat} {x : Int32} (hi : i < k) : (cws cI cL cE cP ad g n k us wb tr pr le tk gf).set (11 + n + i) (ad (19 + i), .inr (1, [.int (g 12 i), .int (g 13 i), .int (g 14 i), .int (g 11 i), .int x])) = cws cI cL cE cP ad (gR g 15 (upd (g 15) i x)) n k us wb tr pr le tk gf := by
  have h := cws_sP (cI := cI) (cL := cL) (cE := cE) (cP := cP) (ad := ad) (g := g) (n := n) (k := k) (us := us) (wb := wb) (tr := tr) (pr := pr) (le := le) (tk := tk) (gf := gf) (g' := gR g 15 (upd (g 15) i x)) hi rfl (fun j hj => by simp [cwP, gR, upd_ne hj]) (fun j => by simp [cwE, gR])
  rw [← h]; congr 2; simp [cwP, gR, upd]
end ZS

set_option maxHeartbeats 4000000 in
set_option maxRecDepth 100000 in
theorem zX3_setWeights (l : Launch) (hfl : l.stackTraces = false) (D : va_G) (cI cL cE cP : ClassId) (ad : Nat → Nat) (g : Nat → Nat → Int32) (n k : Nat) (us wb tr : Nat → Int32) (pr le : Nat → Int64) (tk gf : Int32) (hok : zOk g n k) (x w0 p0 : Int32) (sz : Nat) : vx_Met l yX3_setWeights wsX3_setWeights ({ frames := 6, cells := 1, slots := 6, locals := 90 }) (zPx D cI cL cE cP (cws cI cL cE cP ad g n k us wb tr pr le tk gf) sz [.ref (ad 0), .int x, .int w0, .int p0]) (zQi D (cws cI cL cE cP ad g n k us wb tr pr le tk gf) sz (fun r : Int32 => (T_setWeights x w0 p0 = 0 ∧ r = g 0 x.toNatClampNeg)) (cws cI cL cE cP ad (gR (gR g 0 (upd (g 0) x.toNatClampNeg w0)) 1 (upd (g 1) x.toNatClampNeg p0)) n k us wb tr pr le tk gf)) (zXC D (cws cI cL cE cP ad g n k us wb tr pr le tk gf) sz (fun E => (E = "java/lang/IndexOutOfBoundsException" ∧ T_setWeights x w0 p0 = 1) ∨ (E = "java/lang/IllegalArgumentException" ∧ T_setWeights x w0 p0 = 2))) 1 6 (va_A (cws cI cL cE cP ad g n k us wb tr pr le tk gf) sz) := by
  refine vx_ofW (cc := cX3_setWeights) (maxL := 5) (ret := (some .int)) (by decide) rfl ?_
  intro p e s m args below meth c s₁ B hml htab hv
  obtain ⟨rfl, hsz, hE, hP, hD0, hX, hU0⟩ := hv
  subst hsz
  obtain ⟨A, hAe⟩ : ∃ A, A = va_A (cws cI cL cE cP ad g n k us wb tr pr le tk gf) s.heap.size := ⟨_, rfl⟩
  have hD : va_D A (cws cI cL cE cP ad g n k us wb tr pr le tk gf) := by rw [hAe]; exact hD0.self
  have hA : ∀ q : Nat, s.heap.size ≤ q → A q := fun q h => by rw [hAe]; exact Or.inr h
  have hS : va_S A s.heap s.heap [] := va_S.rf
  have hU : zU A s s.heap := by rw [hAe]; exact hU0
  have hx := B.exec
  have hb := B.bytes
  have hr := B.returns
  have hts := atoms_spec (ws := wsX3_setWeights) B.pre
  have hown : s.vm.findClass RX3 = some m.cls := findClass_of_methodNamed B.named
  have hlocks := B.notSynchronized
  have hK := hE.1
  have iX3 : ∀ w ∈ wsX30, w ∈ wsX3_setWeights := by decide +kernel
  have hl := lv_entry ([.ref (ad 0), .int x, .int w0, .int p0]) (n := 5) (Nat.le_of_ble_eq_true rfl)
  rw [lg_entry_eq]
  generalize (lg_sl ([.ref (ad 0), .int x, .int w0, .int p0]) ++ List.replicate (5 - (lg_sl ([.ref (ad 0), .int x, .int w0, .int p0])).length) Slot.unset).toArray = ls at hl ⊢
  have hl : lv_has ls 5 [(0, .ref (ad 0)), (1, .int x), (2, .int w0), (3, .int p0)] := hl
  refine lv_iload_n hx hb dX3_setWeights_0 rfl (lv_at hl 1 rfl) ?_
  refine vp_callSi (va_Run.run (va_runS (As := [.int x]) (rest := []) ⟨hx, hb, hml, hown, hts⟩ (zX3_isClass l D cI cL cE cP (cws cI cL cE cP ad g n k us wb tr pr le tk gf) x) (va_cwS 1 hts gX3_setWeights_X3_isClass rfl rfl rfl (by decide +kernel) ⟨Nat.le_of_ble_eq_true rfl, Nat.le_of_ble_eq_true rfl⟩) ⟨zPr_blind, zPr_mk hE hP⟩ rfl rfl hl.1 rfl (lv_room (Nat.le_of_ble_eq_true rfl)) dX3_setWeights_1 ⟨Nat.le_of_ble_eq_true rfl, Nat.le_of_ble_eq_true rfl⟩)) (fun r_1 e_2 => ?_)
  obtain rfl := e_2
  refine lv_if_ne (tgt := 17) hx hb dX3_setWeights_4 (by decide) (fun c_3 => ?_) (fun c_3 => ?_)
  · have c_3 := zb_ne c_3
    refine lv_iload_n hx hb dX3_setWeights_17 rfl (lv_at hl 2 rfl) ?_
    refine lv_iconst (v := 0) hx hb dX3_setWeights_18 (by decide) ?_
    refine lv_sipush (v := 400) hx hb dX3_setWeights_19 (by decide) ?_
    refine vp_callSi (va_Run.run (va_runS (As := [.int w0, .int 0, .int 400]) (rest := []) ⟨hx, hb, hml, hown, hts⟩ (zX3_isWithin l D cI cL cE cP (cws cI cL cE cP ad g n k us wb tr pr le tk gf) w0 0 400) (va_cwS 3 hts gX3_setWeights_X3_isWithin rfl rfl rfl (by decide +kernel) ⟨Nat.le_of_ble_eq_true rfl, Nat.le_of_ble_eq_true rfl⟩) ⟨zPr_blind, zPr_mk hE hP⟩ rfl rfl hl.1 rfl (lv_room (Nat.le_of_ble_eq_true rfl)) dX3_setWeights_22 ⟨Nat.le_of_ble_eq_true rfl, Nat.le_of_ble_eq_true rfl⟩)) (fun r_4 e_5 => ?_)
    obtain rfl := e_5
    refine lv_if_eq (tgt := 39) hx hb dX3_setWeights_25 (by decide) (fun c_6 => ?_) (fun c_6 => ?_)
    · have c_6 := zb_eq c_6
      have hT : T_setWeights x w0 p0 = 2 := by simp [T_setWeights, c_3, c_6]
      exact zthrow (pc := 39) (cls := "java/lang/IllegalArgumentException") (text := "weight or plain is out of range") (is := 65) (ic := 67) (ik := 63) hx hb hfl hown hlocks htab hml hl.1 (by decide +kernel) (by decide +kernel) (hts (.classLink RX3 63 "java/lang/IllegalArgumentException") (by decide +kernel)) (hts (.initialized "java/lang/IllegalArgumentException") (by decide +kernel)) (fun w h => hts w (List.mem_cons_of_mem _ (List.mem_append_right _ h))) (by decide +kernel) (by decide +kernel) (by decide +kernel) hX hAe hU hP hD hS dX3_setWeights_39 dX3_setWeights_42 dX3_setWeights_43 dX3_setWeights_45 dX3_setWeights_48 (Nat.le_of_ble_eq_true rfl) (Nat.le_of_ble_eq_true rfl) (Nat.le_of_ble_eq_true rfl) (Nat.le_of_ble_eq_true rfl) (Nat.le_of_ble_eq_true rfl) (Nat.le_of_ble_eq_true rfl) (Or.inr (⟨rfl, hT⟩))
    · have c_6 := zb_ne c_6
      refine lv_iload_n hx hb dX3_setWeights_28 rfl (lv_at hl 3 rfl) ?_
      refine lv_iconst (v := 0) hx hb dX3_setWeights_29 (by decide) ?_
      refine lv_sipush (v := 400) hx hb dX3_setWeights_30 (by decide) ?_
      refine vp_callSi (va_Run.run (va_runS (As := [.int p0, .int 0, .int 400]) (rest := []) ⟨hx, hb, hml, hown, hts⟩ (zX3_isWithin l D cI cL cE cP (cws cI cL cE cP ad g n k us wb tr pr le tk gf) p0 0 400) (va_cwS 3 hts gX3_setWeights_X3_isWithin rfl rfl rfl (by decide +kernel) ⟨Nat.le_of_ble_eq_true rfl, Nat.le_of_ble_eq_true rfl⟩) ⟨zPr_blind, zPr_mk hE hP⟩ rfl rfl hl.1 rfl (lv_room (Nat.le_of_ble_eq_true rfl)) dX3_setWeights_33 ⟨Nat.le_of_ble_eq_true rfl, Nat.le_of_ble_eq_true rfl⟩)) (fun r_7 e_8 => ?_)
      obtain rfl := e_8
      refine lv_if_ne (tgt := 49) hx hb dX3_setWeights_36 (by decide) (fun c_9 => ?_) (fun c_9 => ?_)
      · have c_9 := zb_ne c_9
        refine lv_aload_n hx hb dX3_setWeights_49 rfl (lv_at hl 0 rfl) ?_
        refine va_get (D := D) (ci := 3) (v := .ref (ad 1)) (C := RX3) (T := TX3) (N := 9) hx hb hts iX3 hown hK hP 0 cws_0 rfl 0 (by decide) (hts (.fieldLink RX3 7 "CapitalReckoner" "weights" "[I") (by decide +kernel)) (fun _ h9 => h9) rfl dX3_setWeights_50 ?_
        refine lv_iload_n hx hb dX3_setWeights_53 rfl (lv_at hl 1 rfl) ?_
        refine vp_callSi (va_Run.run (va_runS (As := [.ref (ad 1), .int x]) (rest := []) ⟨hx, hb, hml, hown, hts⟩ (zX3_at l D cI cL cE cP (cws cI cL cE cP ad g n k us wb tr pr le tk gf) 1 (ad 1) 4 (g 0) (by decide) cws_1 (x)) (va_cwS 2 hts gX3_setWeights_X3_at rfl rfl rfl (by decide +kernel) ⟨Nat.le_of_ble_eq_true rfl, Nat.le_of_ble_eq_true rfl⟩) ⟨zPr_blind, zPr_mk hE hP⟩ rfl rfl hl.1 rfl (lv_room (Nat.le_of_ble_eq_true rfl)) dX3_setWeights_54 ⟨Nat.le_of_ble_eq_true rfl, Nat.le_of_ble_eq_true rfl⟩)) (fun r_10 e_11 => ?_)
        obtain rfl := e_11
        refine lv_istore (lv' := [(4, .int (zat 4 (g 0) x)), (0, .ref (ad 0)), (1, .int x), (2, .int w0), (3, .int p0)]) hx hb dX3_setWeights_57 hl (by decide) rfl (fun ls hl => ?_)
        refine lv_aload_n hx hb dX3_setWeights_59 rfl (lv_at hl 1 rfl) ?_
        refine va_get (D := D) (ci := 3) (v := .ref (ad 1)) (C := RX3) (T := TX3) (N := 9) hx hb hts iX3 hown hK hP 0 cws_0 rfl 0 (by decide) (hts (.fieldLink RX3 7 "CapitalReckoner" "weights" "[I") (by decide +kernel)) (fun _ h9 => h9) rfl dX3_setWeights_60 ?_
        refine lv_iload_n hx hb dX3_setWeights_63 rfl (lv_at hl 2 rfl) ?_
        refine lv_iload_n hx hb dX3_setWeights_64 rfl (lv_at hl 3 rfl) ?_
        refine zcallv (va_runS (As := [.ref (ad 1), .int x, .int w0]) (rest := []) ⟨hx, hb, hml, hown, hts⟩ (zX3_put l D cI cL cE cP (cws cI cL cE cP ad g n k us wb tr pr le tk gf) 1 (ad 1) 4 (g 0) (by decide) cws_1 (x) (w0) s.heap.size) (va_cwS 3 hts gX3_setWeights_X3_put rfl rfl rfl (by decide +kernel) ⟨Nat.le_of_ble_eq_true rfl, Nat.le_of_ble_eq_true rfl⟩) ⟨zPw_blind, zPw_mk hE hP hD⟩ rfl rfl hl.1 rfl (lv_room (Nat.le_of_ble_eq_true rfl)) dX3_setWeights_65 ⟨Nat.le_of_ble_eq_true rfl, Nat.le_of_ble_eq_true rfl⟩) hD hS hA (fun H locs hP hD hS => ?_)
        have hP : va_P D vwCl (cws cI cL cE cP ad (gR g 0 (zput 4 (g 0) x w0)) n k us wb tr pr le tk gf) H := zP_re hP (cws_s1).symm
        have hD : va_D A (cws cI cL cE cP ad (gR g 0 (zput 4 (g 0) x w0)) n k us wb tr pr le tk gf) := zD_re hD (cws_s1).symm
        refine lv_aload_n hx hb dX3_setWeights_68 rfl (lv_at hl 1 rfl) ?_
        refine va_get (D := D) (ci := 3) (v := .ref (ad 2)) (C := RX3) (T := TX3) (N := 9) hx hb hts iX3 hown hK hP 0 cws_0 rfl 1 (by decide) (hts (.fieldLink RX3 13 "CapitalReckoner" "plainWeights" "[I") (by decide +kernel)) (fun _ h9 => h9) rfl dX3_setWeights_69 ?_
        refine lv_iload_n hx hb dX3_setWeights_72 rfl (lv_at hl 2 rfl) ?_
        refine lv_iload_n hx hb dX3_setWeights_73 rfl (lv_at hl 4 rfl) ?_
        refine zcallv (va_runS (As := [.ref (ad 2), .int x, .int p0]) (rest := []) ⟨hx, hb, hml, hown, hts⟩ (zX3_put l D cI cL cE cP (cws cI cL cE cP ad (gR g 0 (zput 4 (g 0) x w0)) n k us wb tr pr le tk gf) 2 (ad 2) 4 ((gR g 0 (zput 4 (g 0) x w0)) 1) (by decide) cws_2 (x) (p0) H.size) (va_cwS 3 hts gX3_setWeights_X3_put rfl rfl rfl (by decide +kernel) ⟨Nat.le_of_ble_eq_true rfl, Nat.le_of_ble_eq_true rfl⟩) ⟨zPw_blind, zPw_mk hE hP hD⟩ rfl rfl hl.1 rfl (lv_room (Nat.le_of_ble_eq_true rfl)) dX3_setWeights_74 ⟨Nat.le_of_ble_eq_true rfl, Nat.le_of_ble_eq_true rfl⟩) hD hS hA (fun H locs hP hD hS => ?_)
        have hP : va_P D vwCl (cws cI cL cE cP ad (gR (gR g 0 (zput 4 (g 0) x w0)) 1 (zput 4 ((gR g 0 (zput 4 (g 0) x w0)) 1) x p0)) n k us wb tr pr le tk gf) H := zP_re hP (cws_s2).symm
        have hD : va_D A (cws cI cL cE cP ad (gR (gR g 0 (zput 4 (g 0) x w0)) 1 (zput 4 ((gR g 0 (zput 4 (g 0) x w0)) 1) x p0)) n k us wb tr pr le tk gf) := zD_re hD (cws_s2).symm
        refine lv_iload hx hb dX3_setWeights_77 (lv_at hl 0 rfl) ?_
        have hT : T_setWeights x w0 p0 = 0 := by simp [T_setWeights, c_3, c_6, c_9]
        refine W.widen (k := 1) (n := 6) (Nat.le_of_ble_eq_true rfl) (Nat.le_of_ble_eq_true rfl) ?_
        exact vx_ret (ziret (v := zat 4 (g 0) x) hx hb hr hAe ⟨hT, zat_in (by decide) (zwi_in 4 (by decide) c_3)⟩ (zP_re hP (by rw [zput_in (by decide) (zwi_in 4 (by decide) c_3), zput_in (by decide) (zwi_in 4 (by decide) c_3)]; rfl)) (zD_re hD (by rw [zput_in (by decide) (zwi_in 4 (by decide) c_3), zput_in (by decide) (zwi_in 4 (by decide) c_3)]; rfl)) hS dX3_setWeights_79)
      · have c_9 := zb_eq c_9
        have hT : T_setWeights x w0 p0 = 2 := by simp [T_setWeights, c_3, c_6, c_9]
        exact zthrow (pc := 39) (cls := "java/lang/IllegalArgumentException") (text := "weight or plain is out of range") (is := 65) (ic := 67) (ik := 63) hx hb hfl hown hlocks htab hml hl.1 (by decide +kernel) (by decide +kernel) (hts (.classLink RX3 63 "java/lang/IllegalArgumentException") (by decide +kernel)) (hts (.initialized "java/lang/IllegalArgumentException") (by decide +kernel)) (fun w h => hts w (List.mem_cons_of_mem _ (List.mem_append_right _ h))) (by decide +kernel) (by decide +kernel) (by decide +kernel) hX hAe hU hP hD hS dX3_setWeights_39 dX3_setWeights_42 dX3_setWeights_43 dX3_setWeights_45 dX3_setWeights_48 (Nat.le_of_ble_eq_true rfl) (Nat.le_of_ble_eq_true rfl) (Nat.le_of_ble_eq_true rfl) (Nat.le_of_ble_eq_true rfl) (Nat.le_of_ble_eq_true rfl) (Nat.le_of_ble_eq_true rfl) (Or.inr (⟨rfl, hT⟩))
  · have c_3 := zb_eq c_3
    have hT : T_setWeights x w0 p0 = 1 := by simp [T_setWeights, c_3]
    exact zthrow (pc := 7) (cls := "java/lang/IndexOutOfBoundsException") (text := "no such class") (is := 54) (ic := 56) (ik := 52) hx hb hfl hown hlocks htab hml hl.1 (by decide +kernel) (by decide +kernel) (hts (.classLink RX3 52 "java/lang/IndexOutOfBoundsException") (by decide +kernel)) (hts (.initialized "java/lang/IndexOutOfBoundsException") (by decide +kernel)) (fun w h => hts w (List.mem_cons_of_mem _ (List.mem_append_left _ (List.mem_append_right _ h)))) (by decide +kernel) (by decide +kernel) (by decide +kernel) hX hAe hU hP hD hS dX3_setWeights_7 dX3_setWeights_10 dX3_setWeights_11 dX3_setWeights_13 dX3_setWeights_16 (Nat.le_of_ble_eq_true rfl) (Nat.le_of_ble_eq_true rfl) (Nat.le_of_ble_eq_true rfl) (Nat.le_of_ble_eq_true rfl) (Nat.le_of_ble_eq_true rfl) (Nat.le_of_ble_eq_true rfl) (Or.inl ⟨rfl, hT⟩)
set_option maxHeartbeats 4000000 in
set_option maxRecDepth 100000 in
theorem zX3_setFloor (l : Launch) (hfl : l.stackTraces = false) (D : va_G) (cI cL cE cP : ClassId) (ad : Nat → Nat) (g : Nat → Nat → Int32) (n k : Nat) (us wb tr : Nat → Int32) (pr le : Nat → Int64) (tk gf : Int32) (hok : zOk g n k) (x : Int32) (sz : Nat) : vx_Met l yX3_setFloor wsX3_setFloor ({ frames := 6, cells := 1, slots := 6, locals := 90 }) (zPx D cI cL cE cP (cws cI cL cE cP ad g n k us wb tr pr le tk gf) sz [.ref (ad 0), .int x]) (zQi D (cws cI cL cE cP ad g n k us wb tr pr le tk gf) sz (fun r : Int32 => (T_setFloor x = 0 ∧ r = g 2 0)) (cws cI cL cE cP ad (gR g 2 (upd (g 2) 0 x)) n k us wb tr pr le tk gf)) (zXC D (cws cI cL cE cP ad g n k us wb tr pr le tk gf) sz (fun E => (E = "java/lang/IllegalArgumentException" ∧ T_setFloor x = 1))) 1 6 (va_A (cws cI cL cE cP ad g n k us wb tr pr le tk gf) sz) := by
  refine vx_ofW (cc := cX3_setFloor) (maxL := 3) (ret := (some .int)) (by decide) rfl ?_
  intro p e s m args below meth c s₁ B hml htab hv
  obtain ⟨rfl, hsz, hE, hP, hD0, hX, hU0⟩ := hv
  subst hsz
  obtain ⟨A, hAe⟩ : ∃ A, A = va_A (cws cI cL cE cP ad g n k us wb tr pr le tk gf) s.heap.size := ⟨_, rfl⟩
  have hD : va_D A (cws cI cL cE cP ad g n k us wb tr pr le tk gf) := by rw [hAe]; exact hD0.self
  have hA : ∀ q : Nat, s.heap.size ≤ q → A q := fun q h => by rw [hAe]; exact Or.inr h
  have hS : va_S A s.heap s.heap [] := va_S.rf
  have hU : zU A s s.heap := by rw [hAe]; exact hU0
  have hx := B.exec
  have hb := B.bytes
  have hr := B.returns
  have hts := atoms_spec (ws := wsX3_setFloor) B.pre
  have hown : s.vm.findClass RX3 = some m.cls := findClass_of_methodNamed B.named
  have hlocks := B.notSynchronized
  have hK := hE.1
  have iX3 : ∀ w ∈ wsX30, w ∈ wsX3_setFloor := by decide +kernel
  have hl := lv_entry ([.ref (ad 0), .int x]) (n := 3) (Nat.le_of_ble_eq_true rfl)
  rw [lg_entry_eq]
  generalize (lg_sl ([.ref (ad 0), .int x]) ++ List.replicate (3 - (lg_sl ([.ref (ad 0), .int x])).length) Slot.unset).toArray = ls at hl ⊢
  have hl : lv_has ls 3 [(0, .ref (ad 0)), (1, .int x)] := hl
  refine lv_iload_n hx hb dX3_setFloor_0 rfl (lv_at hl 1 rfl) ?_
  refine lv_iconst (v := 0) hx hb dX3_setFloor_1 (by decide) ?_
  refine lv_bipush (v := 100) hx hb dX3_setFloor_2 (by decide) ?_
  refine vp_callSi (va_Run.run (va_runS (As := [.int x, .int 0, .int 100]) (rest := []) ⟨hx, hb, hml, hown, hts⟩ (zX3_isWithin l D cI cL cE cP (cws cI cL cE cP ad g n k us wb tr pr le tk gf) x 0 100) (va_cwS 3 hts gX3_setFloor_X3_isWithin rfl rfl rfl (by decide +kernel) ⟨Nat.le_of_ble_eq_true rfl, Nat.le_of_ble_eq_true rfl⟩) ⟨zPr_blind, zPr_mk hE hP⟩ rfl rfl hl.1 rfl (lv_room (Nat.le_of_ble_eq_true rfl)) dX3_setFloor_4 ⟨Nat.le_of_ble_eq_true rfl, Nat.le_of_ble_eq_true rfl⟩)) (fun r_1 e_2 => ?_)
  obtain rfl := e_2
  refine lv_if_ne (tgt := 20) hx hb dX3_setFloor_7 (by decide) (fun c_3 => ?_) (fun c_3 => ?_)
  · have c_3 := zb_ne c_3
    refine lv_aload_n hx hb dX3_setFloor_20 rfl (lv_at hl 0 rfl) ?_
    refine va_get (D := D) (ci := 3) (v := .int (g 2 0)) (C := RX3) (T := TX3) (N := 9) hx hb hts iX3 hown hK hP 0 cws_0 rfl 7 (by decide) (hts (.fieldLink RX3 42 "CapitalReckoner" "floor" "I") (by decide +kernel)) (fun _ h9 => h9) rfl dX3_setFloor_21 ?_
    refine lv_istore_n (lv' := [(2, .int (g 2 0)), (0, .ref (ad 0)), (1, .int x)]) hx hb dX3_setFloor_24 rfl hl (by decide) rfl (fun ls hl => ?_)
    refine lv_aload_n hx hb dX3_setFloor_25 rfl (lv_at hl 1 rfl) ?_
    refine lv_iload_n hx hb dX3_setFloor_26 rfl (lv_at hl 2 rfl) ?_
    refine va_put (D := D) (ci := 3) (v := .int x) (ty := .int) (C := RX3) (T := TX3) (N := 9) hx hb hts iX3 tyX3 tyX3_ok nmX3 hown hK hP hD hS 0 cws_0 rfl 7 (by decide) (hts (.fieldLink RX3 42 "CapitalReckoner" "floor" "I") (by decide +kernel)) (fun _ h9 => h9) rfl (by decide +kernel) rfl rfl (Nat.le_of_ble_eq_true rfl) dX3_setFloor_27 (fun H locs hP hD hS => ?_)
    have hP : va_P D vwCl (cws cI cL cE cP ad (gR g 2 (upd (g 2) 0 x)) n k us wb tr pr le tk gf) H := zP_re hP (cws_s0f).symm
    have hD : va_D A (cws cI cL cE cP ad (gR g 2 (upd (g 2) 0 x)) n k us wb tr pr le tk gf) := zD_re hD (cws_s0f).symm
    refine lv_iload_n hx hb dX3_setFloor_30 rfl (lv_at hl 0 rfl) ?_
    have hT : T_setFloor x = 0 := by simp [T_setFloor, c_3]
    refine W.widen (k := 1) (n := 6) (Nat.le_of_ble_eq_true rfl) (Nat.le_of_ble_eq_true rfl) ?_
    exact vx_ret (ziret (v := g 2 0) hx hb hr hAe ⟨hT, rfl⟩ (zP_re hP (rfl)) (zD_re hD (rfl)) hS dX3_setFloor_31)
  · have c_3 := zb_eq c_3
    have hT : T_setFloor x = 1 := by simp [T_setFloor, c_3]
    exact zthrow (pc := 10) (cls := "java/lang/IllegalArgumentException") (text := "percent is out of range") (is := 76) (ic := 67) (ik := 63) hx hb hfl hown hlocks htab hml hl.1 (by decide +kernel) (by decide +kernel) (hts (.classLink RX3 63 "java/lang/IllegalArgumentException") (by decide +kernel)) (hts (.initialized "java/lang/IllegalArgumentException") (by decide +kernel)) (fun w h => hts w (List.mem_cons_of_mem _ (List.mem_append_right _ h))) (by decide +kernel) (by decide +kernel) (by decide +kernel) hX hAe hU hP hD hS dX3_setFloor_10 dX3_setFloor_13 dX3_setFloor_14 dX3_setFloor_16 dX3_setFloor_19 (Nat.le_of_ble_eq_true rfl) (Nat.le_of_ble_eq_true rfl) (Nat.le_of_ble_eq_true rfl) (Nat.le_of_ble_eq_true rfl) (Nat.le_of_ble_eq_true rfl) (Nat.le_of_ble_eq_true rfl) (⟨rfl, hT⟩)
set_option maxHeartbeats 4000000 in
set_option maxRecDepth 100000 in
theorem zX3_setCapital (l : Launch) (hfl : l.stackTraces = false) (D : va_G) (cI cL cE cP : ClassId) (ad : Nat → Nat) (g : Nat → Nat → Int32) (n k : Nat) (us wb tr : Nat → Int32) (pr le : Nat → Int64) (tk gf : Int32) (hok : zOk g n k) (x : Int32) (sz : Nat) : vx_Met l yX3_setCapital wsX3_setCapital ({ frames := 6, cells := 1, slots := 6, locals := 90 }) (zPx D cI cL cE cP (cws cI cL cE cP ad g n k us wb tr pr le tk gf) sz [.ref (ad 0), .int x]) (zQi D (cws cI cL cE cP ad g n k us wb tr pr le tk gf) sz (fun r : Int32 => (T_setCapital x = 0 ∧ r = g 2 1)) (cws cI cL cE cP ad (gR g 2 (upd (g 2) 1 x)) n k us wb tr pr le tk gf)) (zXC D (cws cI cL cE cP ad g n k us wb tr pr le tk gf) sz (fun E => (E = "java/lang/IllegalArgumentException" ∧ T_setCapital x = 1))) 1 6 (va_A (cws cI cL cE cP ad g n k us wb tr pr le tk gf) sz) := by
  refine vx_ofW (cc := cX3_setCapital) (maxL := 3) (ret := (some .int)) (by decide) rfl ?_
  intro p e s m args below meth c s₁ B hml htab hv
  obtain ⟨rfl, hsz, hE, hP, hD0, hX, hU0⟩ := hv
  subst hsz
  obtain ⟨A, hAe⟩ : ∃ A, A = va_A (cws cI cL cE cP ad g n k us wb tr pr le tk gf) s.heap.size := ⟨_, rfl⟩
  have hD : va_D A (cws cI cL cE cP ad g n k us wb tr pr le tk gf) := by rw [hAe]; exact hD0.self
  have hA : ∀ q : Nat, s.heap.size ≤ q → A q := fun q h => by rw [hAe]; exact Or.inr h
  have hS : va_S A s.heap s.heap [] := va_S.rf
  have hU : zU A s s.heap := by rw [hAe]; exact hU0
  have hx := B.exec
  have hb := B.bytes
  have hr := B.returns
  have hts := atoms_spec (ws := wsX3_setCapital) B.pre
  have hown : s.vm.findClass RX3 = some m.cls := findClass_of_methodNamed B.named
  have hlocks := B.notSynchronized
  have hK := hE.1
  have iX3 : ∀ w ∈ wsX30, w ∈ wsX3_setCapital := by decide +kernel
  have hl := lv_entry ([.ref (ad 0), .int x]) (n := 3) (Nat.le_of_ble_eq_true rfl)
  rw [lg_entry_eq]
  generalize (lg_sl ([.ref (ad 0), .int x]) ++ List.replicate (3 - (lg_sl ([.ref (ad 0), .int x])).length) Slot.unset).toArray = ls at hl ⊢
  have hl : lv_has ls 3 [(0, .ref (ad 0)), (1, .int x)] := hl
  refine lv_iload_n hx hb dX3_setCapital_0 rfl (lv_at hl 1 rfl) ?_
  refine lv_iconst (v := 0) hx hb dX3_setCapital_1 (by decide) ?_
  refine lv_ldc (v := 1000000000) hx hb hown (hts (.constant RX3 78 (1000000000)) (by decide +kernel)) dX3_setCapital_2 ?_
  refine vp_callSi (va_Run.run (va_runS (As := [.int x, .int 0, .int 1000000000]) (rest := []) ⟨hx, hb, hml, hown, hts⟩ (zX3_isWithin l D cI cL cE cP (cws cI cL cE cP ad g n k us wb tr pr le tk gf) x 0 1000000000) (va_cwS 3 hts gX3_setCapital_X3_isWithin rfl rfl rfl (by decide +kernel) ⟨Nat.le_of_ble_eq_true rfl, Nat.le_of_ble_eq_true rfl⟩) ⟨zPr_blind, zPr_mk hE hP⟩ rfl rfl hl.1 rfl (lv_room (Nat.le_of_ble_eq_true rfl)) dX3_setCapital_4 ⟨Nat.le_of_ble_eq_true rfl, Nat.le_of_ble_eq_true rfl⟩)) (fun r_1 e_2 => ?_)
  obtain rfl := e_2
  refine lv_if_ne (tgt := 20) hx hb dX3_setCapital_7 (by decide) (fun c_3 => ?_) (fun c_3 => ?_)
  · have c_3 := zb_ne c_3
    refine lv_aload_n hx hb dX3_setCapital_20 rfl (lv_at hl 0 rfl) ?_
    refine va_get (D := D) (ci := 3) (v := .int (g 2 1)) (C := RX3) (T := TX3) (N := 9) hx hb hts iX3 hown hK hP 0 cws_0 rfl 8 (by decide) (hts (.fieldLink RX3 45 "CapitalReckoner" "capital" "I") (by decide +kernel)) (fun _ h9 => h9) rfl dX3_setCapital_21 ?_
    refine lv_istore_n (lv' := [(2, .int (g 2 1)), (0, .ref (ad 0)), (1, .int x)]) hx hb dX3_setCapital_24 rfl hl (by decide) rfl (fun ls hl => ?_)
    refine lv_aload_n hx hb dX3_setCapital_25 rfl (lv_at hl 1 rfl) ?_
    refine lv_iload_n hx hb dX3_setCapital_26 rfl (lv_at hl 2 rfl) ?_
    refine va_put (D := D) (ci := 3) (v := .int x) (ty := .int) (C := RX3) (T := TX3) (N := 9) hx hb hts iX3 tyX3 tyX3_ok nmX3 hown hK hP hD hS 0 cws_0 rfl 8 (by decide) (hts (.fieldLink RX3 45 "CapitalReckoner" "capital" "I") (by decide +kernel)) (fun _ h9 => h9) rfl (by decide +kernel) rfl rfl (Nat.le_of_ble_eq_true rfl) dX3_setCapital_27 (fun H locs hP hD hS => ?_)
    have hP : va_P D vwCl (cws cI cL cE cP ad (gR g 2 (upd (g 2) 1 x)) n k us wb tr pr le tk gf) H := zP_re hP (cws_s0c).symm
    have hD : va_D A (cws cI cL cE cP ad (gR g 2 (upd (g 2) 1 x)) n k us wb tr pr le tk gf) := zD_re hD (cws_s0c).symm
    refine lv_iload_n hx hb dX3_setCapital_30 rfl (lv_at hl 0 rfl) ?_
    have hT : T_setCapital x = 0 := by simp [T_setCapital, c_3]
    refine W.widen (k := 1) (n := 6) (Nat.le_of_ble_eq_true rfl) (Nat.le_of_ble_eq_true rfl) ?_
    exact vx_ret (ziret (v := g 2 1) hx hb hr hAe ⟨hT, rfl⟩ (zP_re hP (rfl)) (zD_re hD (rfl)) hS dX3_setCapital_31)
  · have c_3 := zb_eq c_3
    have hT : T_setCapital x = 1 := by simp [T_setCapital, c_3]
    exact zthrow (pc := 10) (cls := "java/lang/IllegalArgumentException") (text := "sum is out of range") (is := 79) (ic := 67) (ik := 63) hx hb hfl hown hlocks htab hml hl.1 (by decide +kernel) (by decide +kernel) (hts (.classLink RX3 63 "java/lang/IllegalArgumentException") (by decide +kernel)) (hts (.initialized "java/lang/IllegalArgumentException") (by decide +kernel)) (fun w h => hts w (List.mem_cons_of_mem _ (List.mem_append_right _ h))) (by decide +kernel) (by decide +kernel) (by decide +kernel) hX hAe hU hP hD hS dX3_setCapital_10 dX3_setCapital_13 dX3_setCapital_14 dX3_setCapital_16 dX3_setCapital_19 (Nat.le_of_ble_eq_true rfl) (Nat.le_of_ble_eq_true rfl) (Nat.le_of_ble_eq_true rfl) (Nat.le_of_ble_eq_true rfl) (Nat.le_of_ble_eq_true rfl) (Nat.le_of_ble_eq_true rfl) (⟨rfl, hT⟩)
set_option maxHeartbeats 4000000 in
set_option maxRecDepth 100000 in
theorem zX3_draw (l : Launch) (hfl : l.stackTraces = false) (D : va_G) (cI cL cE cP : ClassId) (ad : Nat → Nat) (g : Nat → Nat → Int32) (n k : Nat) (us wb tr : Nat → Int32) (pr le : Nat → Int64) (tk gf : Int32) (hok : zOk g n k) (x d0 : Int32) (sz : Nat) : vx_Met l yX3_draw wsX3_draw ({ frames := 6, cells := 1, slots := 6, locals := 90 }) (zPx D cI cL cE cP (cws cI cL cE cP ad g n k us wb tr pr le tk gf) sz [.ref (ad 0), .int x, .int d0]) (zQi D (cws cI cL cE cP ad g n k us wb tr pr le tk gf) sz (fun r : Int32 => (T_draw g n x d0 = 0 ∧ r = g 5 x.toNatClampNeg + d0)) (cws cI cL cE cP ad (gR (gR g 5 (upd (g 5) x.toNatClampNeg (g 5 x.toNatClampNeg + d0))) 6 (upd (g 6) x.toNatClampNeg (g 6 x.toNatClampNeg - d0))) n k us wb tr pr le tk gf)) (zXC D (cws cI cL cE cP ad g n k us wb tr pr le tk gf) sz (fun E => (E = "java/lang/IndexOutOfBoundsException" ∧ T_draw g n x d0 = 1) ∨ (E = "java/lang/IllegalArgumentException" ∧ T_draw g n x d0 = 2) ∨ (E = "java/lang/IllegalStateException" ∧ T_draw g n x d0 = 3))) 1 6 (va_A (cws cI cL cE cP ad g n k us wb tr pr le tk gf) sz) := by
  refine vx_ofW (cc := cX3_draw) (maxL := 6) (ret := (some .int)) (by decide) rfl ?_
  intro p e s m args below meth c s₁ B hml htab hv
  obtain ⟨rfl, hsz, hE, hP, hD0, hX, hU0⟩ := hv
  subst hsz
  obtain ⟨A, hAe⟩ : ∃ A, A = va_A (cws cI cL cE cP ad g n k us wb tr pr le tk gf) s.heap.size := ⟨_, rfl⟩
  have hD : va_D A (cws cI cL cE cP ad g n k us wb tr pr le tk gf) := by rw [hAe]; exact hD0.self
  have hA : ∀ q : Nat, s.heap.size ≤ q → A q := fun q h => by rw [hAe]; exact Or.inr h
  have hS : va_S A s.heap s.heap [] := va_S.rf
  have hU : zU A s s.heap := by rw [hAe]; exact hU0
  have hx := B.exec
  have hb := B.bytes
  have hr := B.returns
  have hts := atoms_spec (ws := wsX3_draw) B.pre
  have hown : s.vm.findClass RX3 = some m.cls := findClass_of_methodNamed B.named
  have hlocks := B.notSynchronized
  have hK := hE.1
  have iX0 : ∀ w ∈ wsX00, w ∈ wsX3_draw := by decide +kernel
  have hl := lv_entry ([.ref (ad 0), .int x, .int d0]) (n := 6) (Nat.le_of_ble_eq_true rfl)
  rw [lg_entry_eq]
  generalize (lg_sl ([.ref (ad 0), .int x, .int d0]) ++ List.replicate (6 - (lg_sl ([.ref (ad 0), .int x, .int d0])).length) Slot.unset).toArray = ls at hl ⊢
  have hl : lv_has ls 6 [(0, .ref (ad 0)), (1, .int x), (2, .int d0)] := hl
  refine lv_aload_n hx hb dX3_draw_0 rfl (lv_at hl 0 rfl) ?_
  refine lv_iload_n hx hb dX3_draw_1 rfl (lv_at hl 1 rfl) ?_
  refine va_csq (va_Run.run (va_runV (As := [.int x]) (rest := []) ⟨hx, hb, hml, hown, hts⟩ (zX3_exposureAt l D cI cL cE cP ad g n k us wb tr pr le tk gf hok (x)) (cwV 1 hts gX3_draw_X3_exposureAt rfl rfl rfl (by decide +kernel) ⟨Nat.le_of_ble_eq_true rfl, Nat.le_of_ble_eq_true rfl⟩) ⟨zPr_blind, va_recv hK hP (ci := 3) (q0 := 0) rfl cws_0, zPr_mk hE hP⟩ rfl rfl hl.1 rfl (lv_room (Nat.le_of_ble_eq_true rfl)) dX3_draw_2 ⟨Nat.le_of_ble_eq_true rfl, Nat.le_of_ble_eq_true rfl⟩)) (fun r_1 e_2 => ?_)
  rcases e_2 with ⟨i, hi, e_2, rfl⟩ | ⟨rfl, e_2⟩
  · have cX : zex n x = true := zex_t hok.n hi e_2
    have hxi : x.toNatClampNeg = i := by rw [e_2, nI_clamp (by have := hok.n; omega)]
    refine lv_astore_n (lv' := [(3, .ref (ad (11 + i))), (0, .ref (ad 0)), (1, .int x), (2, .int d0)]) hx hb dX3_draw_5 rfl hl (by decide) rfl (fun ls hl => ?_)
    refine lv_aload_n hx hb dX3_draw_6 rfl (lv_at hl 0 rfl) ?_
    refine lv_ifnonnull (tgt := 20) hx hb dX3_draw_7 (by decide) ?_
    refine lv_iload_n hx hb dX3_draw_20 rfl (lv_at hl 3 rfl) ?_
    refine lv_ldc (v := -10000000) hx hb hown (hts (.constant RX3 111 (-10000000)) (by decide +kernel)) dX3_draw_21 ?_
    refine lv_ldc (v := 10000000) hx hb hown (hts (.constant RX3 112 (10000000)) (by decide +kernel)) dX3_draw_23 ?_
    refine vp_callSi (va_Run.run (va_runS (As := [.int d0, .int (-10000000), .int 10000000]) (rest := []) ⟨hx, hb, hml, hown, hts⟩ (zX3_isWithin l D cI cL cE cP (cws cI cL cE cP ad g n k us wb tr pr le tk gf) d0 (-10000000) 10000000) (va_cwS 3 hts gX3_draw_X3_isWithin rfl rfl rfl (by decide +kernel) ⟨Nat.le_of_ble_eq_true rfl, Nat.le_of_ble_eq_true rfl⟩) ⟨zPr_blind, zPr_mk hE hP⟩ rfl rfl hl.1 rfl (lv_room (Nat.le_of_ble_eq_true rfl)) dX3_draw_25 ⟨Nat.le_of_ble_eq_true rfl, Nat.le_of_ble_eq_true rfl⟩)) (fun r_3 e_4 => ?_)
    obtain rfl := e_4
    refine lv_if_ne (tgt := 41) hx hb dX3_draw_28 (by decide) (fun c_5 => ?_) (fun c_5 => ?_)
    · have c_5 := zb_ne c_5
      refine lv_aload_n hx hb dX3_draw_41 rfl (lv_at hl 0 rfl) ?_
      refine va_getN (D := D) (ci := 0) (v := .int (g 5 i)) (C := RX0) (T := TX0) (N := 8) hx hb hts iX0 hown hK hP (11 + i) (cws_E hi) rfl 4 (by decide) (va_Nw.use rfl (hE.2 (.fieldLinkNest RX3 113 "CapitalReckoner$Exposure" "drawn" "I" RX3) (List.mem_of_getElem? (i := 23) rfl))) (fun _ h9 => h9) rfl dX3_draw_42 ?_
      refine lv_iload_n hx hb dX3_draw_45 rfl (lv_at hl 3 rfl) ?_
      refine lv_iadd hx hb dX3_draw_46 ?_
      refine lv_istore (lv' := [(4, .int ((g 5 i) + d0)), (3, .ref (ad (11 + i))), (0, .ref (ad 0)), (1, .int x), (2, .int d0)]) hx hb dX3_draw_47 hl (by decide) rfl (fun ls hl => ?_)
      refine lv_aload_n hx hb dX3_draw_49 rfl (lv_at hl 1 rfl) ?_
      refine va_getN (D := D) (ci := 0) (v := .int (g 6 i)) (C := RX0) (T := TX0) (N := 8) hx hb hts iX0 hown hK hP (11 + i) (cws_E hi) rfl 5 (by decide) (va_Nw.use rfl (hE.2 (.fieldLinkNest RX3 116 "CapitalReckoner$Exposure" "promised" "I" RX3) (List.mem_of_getElem? (i := 24) rfl))) (fun _ h9 => h9) rfl dX3_draw_50 ?_
      refine lv_iload_n hx hb dX3_draw_53 rfl (lv_at hl 4 rfl) ?_
      refine lv_isub hx hb dX3_draw_54 ?_
      refine lv_istore (lv' := [(5, .int ((g 6 i) - d0)), (4, .int ((g 5 i) + d0)), (3, .ref (ad (11 + i))), (0, .ref (ad 0)), (1, .int x), (2, .int d0)]) hx hb dX3_draw_55 hl (by decide) rfl (fun ls hl => ?_)
      refine lv_iload hx hb dX3_draw_57 (lv_at hl 1 rfl) ?_
      refine vp_callSi (va_Run.run (va_runS (As := [.int ((g 5 i) + d0)]) (rest := []) ⟨hx, hb, hml, hown, hts⟩ (zX3_isPart l D cI cL cE cP (cws cI cL cE cP ad g n k us wb tr pr le tk gf) ((g 5 i) + d0)) (va_cwS 1 hts gX3_draw_X3_isPart rfl rfl rfl (by decide +kernel) ⟨Nat.le_of_ble_eq_true rfl, Nat.le_of_ble_eq_true rfl⟩) ⟨zPr_blind, zPr_mk hE hP⟩ rfl rfl hl.1 rfl (lv_room (Nat.le_of_ble_eq_true rfl)) dX3_draw_59 ⟨Nat.le_of_ble_eq_true rfl, Nat.le_of_ble_eq_true rfl⟩)) (fun r_6 e_7 => ?_)
      obtain rfl := e_7
      refine lv_if_eq (tgt := 73) hx hb dX3_draw_62 (by decide) (fun c_8 => ?_) (fun c_8 => ?_)
      · have c_8 := zb_eq c_8
        have hT : T_draw g n x d0 = 3 := by simp [T_draw, cX, hxi, c_5, c_8]
        exact zthrow (pc := 73) (cls := "java/lang/IllegalStateException") (text := "a part would be below 0 or above 10000000") (is := 119) (ic := 101) (ik := 97) hx hb hfl hown hlocks htab hml hl.1 (by decide +kernel) (by decide +kernel) (hts (.classLink RX3 97 "java/lang/IllegalStateException") (by decide +kernel)) (hts (.initialized "java/lang/IllegalStateException") (by decide +kernel)) (fun w h => hts w (List.mem_cons_of_mem _ (List.mem_append_right _ h))) (by decide +kernel) (by decide +kernel) (by decide +kernel) hX hAe hU hP hD hS dX3_draw_73 dX3_draw_76 dX3_draw_77 dX3_draw_79 dX3_draw_82 (Nat.le_of_ble_eq_true rfl) (Nat.le_of_ble_eq_true rfl) (Nat.le_of_ble_eq_true rfl) (Nat.le_of_ble_eq_true rfl) (Nat.le_of_ble_eq_true rfl) (Nat.le_of_ble_eq_true rfl) (Or.inr (Or.inr (⟨rfl, hT⟩)))
      · have c_8 := zb_ne c_8
        refine lv_iload hx hb dX3_draw_65 (lv_at hl 0 rfl) ?_
        refine vp_callSi (va_Run.run (va_runS (As := [.int ((g 6 i) - d0)]) (rest := []) ⟨hx, hb, hml, hown, hts⟩ (zX3_isPart l D cI cL cE cP (cws cI cL cE cP ad g n k us wb tr pr le tk gf) ((g 6 i) - d0)) (va_cwS 1 hts gX3_draw_X3_isPart rfl rfl rfl (by decide +kernel) ⟨Nat.le_of_ble_eq_true rfl, Nat.le_of_ble_eq_true rfl⟩) ⟨zPr_blind, zPr_mk hE hP⟩ rfl rfl hl.1 rfl (lv_room (Nat.le_of_ble_eq_true rfl)) dX3_draw_67 ⟨Nat.le_of_ble_eq_true rfl, Nat.le_of_ble_eq_true rfl⟩)) (fun r_9 e_10 => ?_)
        obtain rfl := e_10
        refine lv_if_ne (tgt := 83) hx hb dX3_draw_70 (by decide) (fun c_11 => ?_) (fun c_11 => ?_)
        · have c_11 := zb_ne c_11
          refine lv_aload_n hx hb dX3_draw_83 rfl (lv_at hl 2 rfl) ?_
          refine lv_iload hx hb dX3_draw_84 (lv_at hl 1 rfl) ?_
          refine va_putN (D := D) (ci := 0) (v := .int ((g 5 i) + d0)) (ty := .int) (C := RX0) (T := TX0) (N := 8) hx hb hts iX0 tyX0 tyX0_ok nmX0 hown hK hP hD hS (11 + i) (cws_E hi) rfl 4 (by decide) (va_Nw.use rfl (hE.2 (.fieldLinkNest RX3 113 "CapitalReckoner$Exposure" "drawn" "I" RX3) (List.mem_of_getElem? (i := 23) rfl))) (fun _ h9 => h9) rfl (by decide +kernel) rfl rfl (Nat.le_of_ble_eq_true rfl) dX3_draw_86 (fun H locs hP hD hS => ?_)
          have hP : va_P D vwCl (cws cI cL cE cP ad (gR g 5 (upd (g 5) i ((g 5 i) + d0))) n k us wb tr pr le tk gf) H := zP_re hP ((cws_sE5 hi)).symm
          have hD : va_D A (cws cI cL cE cP ad (gR g 5 (upd (g 5) i ((g 5 i) + d0))) n k us wb tr pr le tk gf) := zD_re hD ((cws_sE5 hi)).symm
          refine lv_aload_n hx hb dX3_draw_89 rfl (lv_at hl 2 rfl) ?_
          refine lv_iload hx hb dX3_draw_90 (lv_at hl 0 rfl) ?_
          refine va_putN (D := D) (ci := 0) (v := .int ((g 6 i) - d0)) (ty := .int) (C := RX0) (T := TX0) (N := 8) hx hb hts iX0 tyX0 tyX0_ok nmX0 hown hK hP hD hS (11 + i) (cws_E hi) rfl 5 (by decide) (va_Nw.use rfl (hE.2 (.fieldLinkNest RX3 116 "CapitalReckoner$Exposure" "promised" "I" RX3) (List.mem_of_getElem? (i := 24) rfl))) (fun _ h9 => h9) rfl (by decide +kernel) rfl rfl (Nat.le_of_ble_eq_true rfl) dX3_draw_92 (fun H locs hP hD hS => ?_)
          have hP : va_P D vwCl (cws cI cL cE cP ad (gR (gR g 5 (upd (g 5) i ((g 5 i) + d0))) 6 (upd ((gR g 5 (upd (g 5) i ((g 5 i) + d0))) 6) i ((g 6 i) - d0))) n k us wb tr pr le tk gf) H := zP_re hP ((cws_sE6 hi)).symm
          have hD : va_D A (cws cI cL cE cP ad (gR (gR g 5 (upd (g 5) i ((g 5 i) + d0))) 6 (upd ((gR g 5 (upd (g 5) i ((g 5 i) + d0))) 6) i ((g 6 i) - d0))) n k us wb tr pr le tk gf) := zD_re hD ((cws_sE6 hi)).symm
          refine lv_iload hx hb dX3_draw_95 (lv_at hl 1 rfl) ?_
          have hT : T_draw g n x d0 = 0 := by simp [T_draw, cX, hxi, c_5, c_8, c_11]
          refine W.widen (k := 1) (n := 6) (Nat.le_of_ble_eq_true rfl) (Nat.le_of_ble_eq_true rfl) ?_
          exact vx_ret (ziret (v := (g 5 i) + d0) hx hb hr hAe ⟨hT, by rw [hxi]⟩ (zP_re hP (by rw [hxi]; first | done | rfl)) (zD_re hD (by rw [hxi]; first | done | rfl)) hS dX3_draw_97)
        · have c_11 := zb_eq c_11
          have hT : T_draw g n x d0 = 3 := by simp [T_draw, cX, hxi, c_5, c_8, c_11]
          exact zthrow (pc := 73) (cls := "java/lang/IllegalStateException") (text := "a part would be below 0 or above 10000000") (is := 119) (ic := 101) (ik := 97) hx hb hfl hown hlocks htab hml hl.1 (by decide +kernel) (by decide +kernel) (hts (.classLink RX3 97 "java/lang/IllegalStateException") (by decide +kernel)) (hts (.initialized "java/lang/IllegalStateException") (by decide +kernel)) (fun w h => hts w (List.mem_cons_of_mem _ (List.mem_append_right _ h))) (by decide +kernel) (by decide +kernel) (by decide +kernel) hX hAe hU hP hD hS dX3_draw_73 dX3_draw_76 dX3_draw_77 dX3_draw_79 dX3_draw_82 (Nat.le_of_ble_eq_true rfl) (Nat.le_of_ble_eq_true rfl) (Nat.le_of_ble_eq_true rfl) (Nat.le_of_ble_eq_true rfl) (Nat.le_of_ble_eq_true rfl) (Nat.le_of_ble_eq_true rfl) (Or.inr (Or.inr (⟨rfl, hT⟩)))
    · have c_5 := zb_eq c_5
      have hT : T_draw g n x d0 = 2 := by simp [T_draw, cX, hxi, c_5]
      exact zthrow (pc := 31) (cls := "java/lang/IllegalArgumentException") (text := "sum is out of range") (is := 79) (ic := 67) (ik := 63) hx hb hfl hown hlocks htab hml hl.1 (by decide +kernel) (by decide +kernel) (hts (.classLink RX3 63 "java/lang/IllegalArgumentException") (by decide +kernel)) (hts (.initialized "java/lang/IllegalArgumentException") (by decide +kernel)) (fun w h => hts w (List.mem_cons_of_mem _ (List.mem_append_left _ (List.mem_append_right _ h)))) (by decide +kernel) (by decide +kernel) (by decide +kernel) hX hAe hU hP hD hS dX3_draw_31 dX3_draw_34 dX3_draw_35 dX3_draw_37 dX3_draw_40 (Nat.le_of_ble_eq_true rfl) (Nat.le_of_ble_eq_true rfl) (Nat.le_of_ble_eq_true rfl) (Nat.le_of_ble_eq_true rfl) (Nat.le_of_ble_eq_true rfl) (Nat.le_of_ble_eq_true rfl) (Or.inr (Or.inl ⟨rfl, hT⟩))
  · have cX : zex n x = false := zex_f hok.n e_2
    refine lv_astore_nN (lv' := [(3, .null), (0, .ref (ad 0)), (1, .int x), (2, .int d0)]) hx hb dX3_draw_5 rfl hl (by decide) rfl (fun ls hl => ?_)
    refine lv_aload_nN hx hb dX3_draw_6 rfl (lv_at hl 0 rfl) ?_
    refine lv_ifnonnullN hx hb dX3_draw_7 ?_
    have hT : T_draw g n x d0 = 1 := by simp [T_draw, cX]
    exact zthrow (pc := 10) (cls := "java/lang/IndexOutOfBoundsException") (text := "no such exposure") (is := 109) (ic := 56) (ik := 52) hx hb hfl hown hlocks htab hml hl.1 (by decide +kernel) (by decide +kernel) (hts (.classLink RX3 52 "java/lang/IndexOutOfBoundsException") (by decide +kernel)) (hts (.initialized "java/lang/IndexOutOfBoundsException") (by decide +kernel)) (fun w h => hts w (List.mem_cons_of_mem _ (List.mem_append_left _ (List.mem_append_left _ (List.mem_append_right _ h))))) (by decide +kernel) (by decide +kernel) (by decide +kernel) hX hAe hU hP hD hS dX3_draw_10 dX3_draw_13 dX3_draw_14 dX3_draw_16 dX3_draw_19 (Nat.le_of_ble_eq_true rfl) (Nat.le_of_ble_eq_true rfl) (Nat.le_of_ble_eq_true rfl) (Nat.le_of_ble_eq_true rfl) (Nat.le_of_ble_eq_true rfl) (Nat.le_of_ble_eq_true rfl) (Or.inl ⟨rfl, hT⟩)
set_option maxHeartbeats 4000000 in
set_option maxRecDepth 100000 in
theorem zX3_setClass (l : Launch) (hfl : l.stackTraces = false) (D : va_G) (cI cL cE cP : ClassId) (ad : Nat → Nat) (g : Nat → Nat → Int32) (n k : Nat) (us wb tr : Nat → Int32) (pr le : Nat → Int64) (tk gf : Int32) (hok : zOk g n k) (x k0 : Int32) (sz : Nat) : vx_Met l yX3_setClass wsX3_setClass ({ frames := 6, cells := 1, slots := 6, locals := 90 }) (zPx D cI cL cE cP (cws cI cL cE cP ad g n k us wb tr pr le tk gf) sz [.ref (ad 0), .int x, .int k0]) (zQi D (cws cI cL cE cP ad g n k us wb tr pr le tk gf) sz (fun r : Int32 => (T_setClass n x k0 = 0 ∧ r = g 3 x.toNatClampNeg)) (cws cI cL cE cP ad (gR g 3 (upd (g 3) x.toNatClampNeg k0)) n k us wb tr pr le tk gf)) (zXC D (cws cI cL cE cP ad g n k us wb tr pr le tk gf) sz (fun E => (E = "java/lang/IndexOutOfBoundsException" ∧ T_setClass n x k0 = 1))) 1 6 (va_A (cws cI cL cE cP ad g n k us wb tr pr le tk gf) sz) := by
  refine vx_ofW (cc := cX3_setClass) (maxL := 5) (ret := (some .int)) (by decide) rfl ?_
  intro p e s m args below meth c s₁ B hml htab hv
  obtain ⟨rfl, hsz, hE, hP, hD0, hX, hU0⟩ := hv
  subst hsz
  obtain ⟨A, hAe⟩ : ∃ A, A = va_A (cws cI cL cE cP ad g n k us wb tr pr le tk gf) s.heap.size := ⟨_, rfl⟩
  have hD : va_D A (cws cI cL cE cP ad g n k us wb tr pr le tk gf) := by rw [hAe]; exact hD0.self
  have hA : ∀ q : Nat, s.heap.size ≤ q → A q := fun q h => by rw [hAe]; exact Or.inr h
  have hS : va_S A s.heap s.heap [] := va_S.rf
  have hU : zU A s s.heap := by rw [hAe]; exact hU0
  have hx := B.exec
  have hb := B.bytes
  have hr := B.returns
  have hts := atoms_spec (ws := wsX3_setClass) B.pre
  have hown : s.vm.findClass RX3 = some m.cls := findClass_of_methodNamed B.named
  have hlocks := B.notSynchronized
  have hK := hE.1
  have iX0 : ∀ w ∈ wsX00, w ∈ wsX3_setClass := by decide +kernel
  have hl := lv_entry ([.ref (ad 0), .int x, .int k0]) (n := 5) (Nat.le_of_ble_eq_true rfl)
  rw [lg_entry_eq]
  generalize (lg_sl ([.ref (ad 0), .int x, .int k0]) ++ List.replicate (5 - (lg_sl ([.ref (ad 0), .int x, .int k0])).length) Slot.unset).toArray = ls at hl ⊢
  have hl : lv_has ls 5 [(0, .ref (ad 0)), (1, .int x), (2, .int k0)] := hl
  refine lv_aload_n hx hb dX3_setClass_0 rfl (lv_at hl 0 rfl) ?_
  refine lv_iload_n hx hb dX3_setClass_1 rfl (lv_at hl 1 rfl) ?_
  refine va_csq (va_Run.run (va_runV (As := [.int x]) (rest := []) ⟨hx, hb, hml, hown, hts⟩ (zX3_exposureAt l D cI cL cE cP ad g n k us wb tr pr le tk gf hok (x)) (cwV 1 hts gX3_setClass_X3_exposureAt rfl rfl rfl (by decide +kernel) ⟨Nat.le_of_ble_eq_true rfl, Nat.le_of_ble_eq_true rfl⟩) ⟨zPr_blind, va_recv hK hP (ci := 3) (q0 := 0) rfl cws_0, zPr_mk hE hP⟩ rfl rfl hl.1 rfl (lv_room (Nat.le_of_ble_eq_true rfl)) dX3_setClass_2 ⟨Nat.le_of_ble_eq_true rfl, Nat.le_of_ble_eq_true rfl⟩)) (fun r_1 e_2 => ?_)
  rcases e_2 with ⟨i, hi, e_2, rfl⟩ | ⟨rfl, e_2⟩
  · have cX : zex n x = true := zex_t hok.n hi e_2
    have hxi : x.toNatClampNeg = i := by rw [e_2, nI_clamp (by have := hok.n; omega)]
    refine lv_astore_n (lv' := [(3, .ref (ad (11 + i))), (0, .ref (ad 0)), (1, .int x), (2, .int k0)]) hx hb dX3_setClass_5 rfl hl (by decide) rfl (fun ls hl => ?_)
    refine lv_aload_n hx hb dX3_setClass_6 rfl (lv_at hl 0 rfl) ?_
    refine lv_ifnull hx hb dX3_setClass_7 ?_
    refine lv_iload_n hx hb dX3_setClass_10 rfl (lv_at hl 3 rfl) ?_
    refine vp_callSi (va_Run.run (va_runS (As := [.int k0]) (rest := []) ⟨hx, hb, hml, hown, hts⟩ (zX3_isClass l D cI cL cE cP (cws cI cL cE cP ad g n k us wb tr pr le tk gf) k0) (va_cwS 1 hts gX3_setClass_X3_isClass rfl rfl rfl (by decide +kernel) ⟨Nat.le_of_ble_eq_true rfl, Nat.le_of_ble_eq_true rfl⟩) ⟨zPr_blind, zPr_mk hE hP⟩ rfl rfl hl.1 rfl (lv_room (Nat.le_of_ble_eq_true rfl)) dX3_setClass_11 ⟨Nat.le_of_ble_eq_true rfl, Nat.le_of_ble_eq_true rfl⟩)) (fun r_3 e_4 => ?_)
    obtain rfl := e_4
    refine lv_if_ne (tgt := 27) hx hb dX3_setClass_14 (by decide) (fun c_5 => ?_) (fun c_5 => ?_)
    · have c_5 := zb_ne c_5
      refine lv_aload_n hx hb dX3_setClass_27 rfl (lv_at hl 0 rfl) ?_
      refine va_getN (D := D) (ci := 0) (v := .int (g 3 i)) (C := RX0) (T := TX0) (N := 8) hx hb hts iX0 hown hK hP (11 + i) (cws_E hi) rfl 3 (by decide) (va_Nw.use rfl (hE.2 (.fieldLinkNest RX3 123 "CapitalReckoner$Exposure" "kind" "I" RX3) (List.mem_of_getElem? (i := 22) rfl))) (fun _ h9 => h9) rfl dX3_setClass_28 ?_
      refine lv_istore (lv' := [(4, .int (g 3 i)), (3, .ref (ad (11 + i))), (0, .ref (ad 0)), (1, .int x), (2, .int k0)]) hx hb dX3_setClass_31 hl (by decide) rfl (fun ls hl => ?_)
      refine lv_aload_n hx hb dX3_setClass_33 rfl (lv_at hl 1 rfl) ?_
      refine lv_iload_n hx hb dX3_setClass_34 rfl (lv_at hl 4 rfl) ?_
      refine va_putN (D := D) (ci := 0) (v := .int k0) (ty := .int) (C := RX0) (T := TX0) (N := 8) hx hb hts iX0 tyX0 tyX0_ok nmX0 hown hK hP hD hS (11 + i) (cws_E hi) rfl 3 (by decide) (va_Nw.use rfl (hE.2 (.fieldLinkNest RX3 123 "CapitalReckoner$Exposure" "kind" "I" RX3) (List.mem_of_getElem? (i := 22) rfl))) (fun _ h9 => h9) rfl (by decide +kernel) rfl rfl (Nat.le_of_ble_eq_true rfl) dX3_setClass_35 (fun H locs hP hD hS => ?_)
      have hP : va_P D vwCl (cws cI cL cE cP ad (gR g 3 (upd (g 3) i k0)) n k us wb tr pr le tk gf) H := zP_re hP ((cws_sE3 hi)).symm
      have hD : va_D A (cws cI cL cE cP ad (gR g 3 (upd (g 3) i k0)) n k us wb tr pr le tk gf) := zD_re hD ((cws_sE3 hi)).symm
      refine lv_iload hx hb dX3_setClass_38 (lv_at hl 0 rfl) ?_
      have hT : T_setClass n x k0 = 0 := by simp [T_setClass, cX, hxi, c_5]
      refine W.widen (k := 1) (n := 6) (Nat.le_of_ble_eq_true rfl) (Nat.le_of_ble_eq_true rfl) ?_
      exact vx_ret (ziret (v := g 3 i) hx hb hr hAe ⟨hT, by rw [hxi]⟩ (zP_re hP (by rw [hxi]; first | done | rfl)) (zD_re hD (by rw [hxi]; first | done | rfl)) hS dX3_setClass_40)
    · have c_5 := zb_eq c_5
      have hT : T_setClass n x k0 = 1 := by simp [T_setClass, cX, hxi, c_5]
      exact zthrow (pc := 17) (cls := "java/lang/IndexOutOfBoundsException") (text := "no such exposure or class") (is := 121) (ic := 56) (ik := 52) hx hb hfl hown hlocks htab hml hl.1 (by decide +kernel) (by decide +kernel) (hts (.classLink RX3 52 "java/lang/IndexOutOfBoundsException") (by decide +kernel)) (hts (.initialized "java/lang/IndexOutOfBoundsException") (by decide +kernel)) (fun w h => hts w (List.mem_cons_of_mem _ (List.mem_append_right _ h))) (by decide +kernel) (by decide +kernel) (by decide +kernel) hX hAe hU hP hD hS dX3_setClass_17 dX3_setClass_20 dX3_setClass_21 dX3_setClass_23 dX3_setClass_26 (Nat.le_of_ble_eq_true rfl) (Nat.le_of_ble_eq_true rfl) (Nat.le_of_ble_eq_true rfl) (Nat.le_of_ble_eq_true rfl) (Nat.le_of_ble_eq_true rfl) (Nat.le_of_ble_eq_true rfl) (⟨rfl, hT⟩)
  · have cX : zex n x = false := zex_f hok.n e_2
    refine lv_astore_nN (lv' := [(3, .null), (0, .ref (ad 0)), (1, .int x), (2, .int k0)]) hx hb dX3_setClass_5 rfl hl (by decide) rfl (fun ls hl => ?_)
    refine lv_aload_nN hx hb dX3_setClass_6 rfl (lv_at hl 0 rfl) ?_
    refine lv_ifnullN (tgt := 17) hx hb dX3_setClass_7 (by decide) ?_
    have hT : T_setClass n x k0 = 1 := by simp [T_setClass, cX]
    exact zthrow (pc := 17) (cls := "java/lang/IndexOutOfBoundsException") (text := "no such exposure or class") (is := 121) (ic := 56) (ik := 52) hx hb hfl hown hlocks htab hml hl.1 (by decide +kernel) (by decide +kernel) (hts (.classLink RX3 52 "java/lang/IndexOutOfBoundsException") (by decide +kernel)) (hts (.initialized "java/lang/IndexOutOfBoundsException") (by decide +kernel)) (fun w h => hts w (List.mem_cons_of_mem _ (List.mem_append_right _ h))) (by decide +kernel) (by decide +kernel) (by decide +kernel) hX hAe hU hP hD hS dX3_setClass_17 dX3_setClass_20 dX3_setClass_21 dX3_setClass_23 dX3_setClass_26 (Nat.le_of_ble_eq_true rfl) (Nat.le_of_ble_eq_true rfl) (Nat.le_of_ble_eq_true rfl) (Nat.le_of_ble_eq_true rfl) (Nat.le_of_ble_eq_true rfl) (Nat.le_of_ble_eq_true rfl) (⟨rfl, hT⟩)
set_option maxHeartbeats 4000000 in
set_option maxRecDepth 100000 in
theorem zX3_guarantee (l : Launch) (hfl : l.stackTraces = false) (D : va_G) (cI cL cE cP : ClassId) (ad : Nat → Nat) (g : Nat → Nat → Int32) (n k : Nat) (us wb tr : Nat → Int32) (pr le : Nat → Int64) (tk gf : Int32) (hok : zOk g n k) (x k0 s0 : Int32) (sz : Nat) : vx_Met l yX3_guarantee wsX3_guarantee ({ frames := 6, cells := 1, slots := 6, locals := 90 }) (zPx D cI cL cE cP (cws cI cL cE cP ad g n k us wb tr pr le tk gf) sz [.ref (ad 0), .int x, .int k0, .int s0]) (zQi D (cws cI cL cE cP ad g n k us wb tr pr le tk gf) sz (fun r : Int32 => (T_guarantee n x k0 s0 = 0 ∧ r = g 10 x.toNatClampNeg)) (cws cI cL cE cP ad (gR (gR g 9 (upd (g 9) x.toNatClampNeg k0)) 10 (upd (g 10) x.toNatClampNeg s0)) n k us wb tr pr le tk gf)) (zXC D (cws cI cL cE cP ad g n k us wb tr pr le tk gf) sz (fun E => (E = "java/lang/IndexOutOfBoundsException" ∧ T_guarantee n x k0 s0 = 1) ∨ (E = "java/lang/IllegalArgumentException" ∧ T_guarantee n x k0 s0 = 2))) 1 6 (va_A (cws cI cL cE cP ad g n k us wb tr pr le tk gf) sz) := by
  refine vx_ofW (cc := cX3_guarantee) (maxL := 6) (ret := (some .int)) (by decide) rfl ?_
  intro p e s m args below meth c s₁ B hml htab hv
  obtain ⟨rfl, hsz, hE, hP, hD0, hX, hU0⟩ := hv
  subst hsz
  obtain ⟨A, hAe⟩ : ∃ A, A = va_A (cws cI cL cE cP ad g n k us wb tr pr le tk gf) s.heap.size := ⟨_, rfl⟩
  have hD : va_D A (cws cI cL cE cP ad g n k us wb tr pr le tk gf) := by rw [hAe]; exact hD0.self
  have hA : ∀ q : Nat, s.heap.size ≤ q → A q := fun q h => by rw [hAe]; exact Or.inr h
  have hS : va_S A s.heap s.heap [] := va_S.rf
  have hU : zU A s s.heap := by rw [hAe]; exact hU0
  have hx := B.exec
  have hb := B.bytes
  have hr := B.returns
  have hts := atoms_spec (ws := wsX3_guarantee) B.pre
  have hown : s.vm.findClass RX3 = some m.cls := findClass_of_methodNamed B.named
  have hlocks := B.notSynchronized
  have hK := hE.1
  have iX0 : ∀ w ∈ wsX00, w ∈ wsX3_guarantee := by decide +kernel
  have hl := lv_entry ([.ref (ad 0), .int x, .int k0, .int s0]) (n := 6) (Nat.le_of_ble_eq_true rfl)
  rw [lg_entry_eq]
  generalize (lg_sl ([.ref (ad 0), .int x, .int k0, .int s0]) ++ List.replicate (6 - (lg_sl ([.ref (ad 0), .int x, .int k0, .int s0])).length) Slot.unset).toArray = ls at hl ⊢
  have hl : lv_has ls 6 [(0, .ref (ad 0)), (1, .int x), (2, .int k0), (3, .int s0)] := hl
  refine lv_aload_n hx hb dX3_guarantee_0 rfl (lv_at hl 0 rfl) ?_
  refine lv_iload_n hx hb dX3_guarantee_1 rfl (lv_at hl 1 rfl) ?_
  refine va_csq (va_Run.run (va_runV (As := [.int x]) (rest := []) ⟨hx, hb, hml, hown, hts⟩ (zX3_exposureAt l D cI cL cE cP ad g n k us wb tr pr le tk gf hok (x)) (cwV 1 hts gX3_guarantee_X3_exposureAt rfl rfl rfl (by decide +kernel) ⟨Nat.le_of_ble_eq_true rfl, Nat.le_of_ble_eq_true rfl⟩) ⟨zPr_blind, va_recv hK hP (ci := 3) (q0 := 0) rfl cws_0, zPr_mk hE hP⟩ rfl rfl hl.1 rfl (lv_room (Nat.le_of_ble_eq_true rfl)) dX3_guarantee_2 ⟨Nat.le_of_ble_eq_true rfl, Nat.le_of_ble_eq_true rfl⟩)) (fun r_1 e_2 => ?_)
  rcases e_2 with ⟨i, hi, e_2, rfl⟩ | ⟨rfl, e_2⟩
  · have cX : zex n x = true := zex_t hok.n hi e_2
    have hxi : x.toNatClampNeg = i := by rw [e_2, nI_clamp (by have := hok.n; omega)]
    refine lv_astore (lv' := [(4, .ref (ad (11 + i))), (0, .ref (ad 0)), (1, .int x), (2, .int k0), (3, .int s0)]) hx hb dX3_guarantee_5 hl (by decide) rfl (fun ls hl => ?_)
    refine lv_aload hx hb dX3_guarantee_7 (lv_at hl 0 rfl) ?_
    refine lv_ifnull hx hb dX3_guarantee_9 ?_
    refine lv_iload_n hx hb dX3_guarantee_12 rfl (lv_at hl 3 rfl) ?_
    refine vp_callSi (va_Run.run (va_runS (As := [.int k0]) (rest := []) ⟨hx, hb, hml, hown, hts⟩ (zX3_isClass l D cI cL cE cP (cws cI cL cE cP ad g n k us wb tr pr le tk gf) k0) (va_cwS 1 hts gX3_guarantee_X3_isClass rfl rfl rfl (by decide +kernel) ⟨Nat.le_of_ble_eq_true rfl, Nat.le_of_ble_eq_true rfl⟩) ⟨zPr_blind, zPr_mk hE hP⟩ rfl rfl hl.1 rfl (lv_room (Nat.le_of_ble_eq_true rfl)) dX3_guarantee_13 ⟨Nat.le_of_ble_eq_true rfl, Nat.le_of_ble_eq_true rfl⟩)) (fun r_3 e_4 => ?_)
    obtain rfl := e_4
    refine lv_if_ne (tgt := 29) hx hb dX3_guarantee_16 (by decide) (fun c_5 => ?_) (fun c_5 => ?_)
    · have c_5 := zb_ne c_5
      refine lv_iload_n hx hb dX3_guarantee_29 rfl (lv_at hl 4 rfl) ?_
      refine vp_callSi (va_Run.run (va_runS (As := [.int s0]) (rest := []) ⟨hx, hb, hml, hown, hts⟩ (zX3_isPart l D cI cL cE cP (cws cI cL cE cP ad g n k us wb tr pr le tk gf) s0) (va_cwS 1 hts gX3_guarantee_X3_isPart rfl rfl rfl (by decide +kernel) ⟨Nat.le_of_ble_eq_true rfl, Nat.le_of_ble_eq_true rfl⟩) ⟨zPr_blind, zPr_mk hE hP⟩ rfl rfl hl.1 rfl (lv_room (Nat.le_of_ble_eq_true rfl)) dX3_guarantee_30 ⟨Nat.le_of_ble_eq_true rfl, Nat.le_of_ble_eq_true rfl⟩)) (fun r_6 e_7 => ?_)
      obtain rfl := e_7
      refine lv_if_ne (tgt := 46) hx hb dX3_guarantee_33 (by decide) (fun c_8 => ?_) (fun c_8 => ?_)
      · have c_8 := zb_ne c_8
        refine lv_aload hx hb dX3_guarantee_46 (lv_at hl 0 rfl) ?_
        refine va_getN (D := D) (ci := 0) (v := .int (g 10 i)) (C := RX0) (T := TX0) (N := 8) hx hb hts iX0 hown hK hP (11 + i) (cws_E hi) rfl 7 (by decide) (va_Nw.use rfl (hE.2 (.fieldLinkNest RX3 126 "CapitalReckoner$Exposure" "guaranteeSum" "I" RX3) (List.mem_of_getElem? (i := 26) rfl))) (fun _ h9 => h9) rfl dX3_guarantee_48 ?_
        refine lv_istore (lv' := [(5, .int (g 10 i)), (4, .ref (ad (11 + i))), (0, .ref (ad 0)), (1, .int x), (2, .int k0), (3, .int s0)]) hx hb dX3_guarantee_51 hl (by decide) rfl (fun ls hl => ?_)
        refine lv_aload hx hb dX3_guarantee_53 (lv_at hl 1 rfl) ?_
        refine lv_iload_n hx hb dX3_guarantee_55 rfl (lv_at hl 4 rfl) ?_
        refine va_putN (D := D) (ci := 0) (v := .int k0) (ty := .int) (C := RX0) (T := TX0) (N := 8) hx hb hts iX0 tyX0 tyX0_ok nmX0 hown hK hP hD hS (11 + i) (cws_E hi) rfl 6 (by decide) (va_Nw.use rfl (hE.2 (.fieldLinkNest RX3 129 "CapitalReckoner$Exposure" "guaranteeKind" "I" RX3) (List.mem_of_getElem? (i := 25) rfl))) (fun _ h9 => h9) rfl (by decide +kernel) rfl rfl (Nat.le_of_ble_eq_true rfl) dX3_guarantee_56 (fun H locs hP hD hS => ?_)
        have hP : va_P D vwCl (cws cI cL cE cP ad (gR g 9 (upd (g 9) i k0)) n k us wb tr pr le tk gf) H := zP_re hP ((cws_sE9 hi)).symm
        have hD : va_D A (cws cI cL cE cP ad (gR g 9 (upd (g 9) i k0)) n k us wb tr pr le tk gf) := zD_re hD ((cws_sE9 hi)).symm
        refine lv_aload hx hb dX3_guarantee_59 (lv_at hl 1 rfl) ?_
        refine lv_iload_n hx hb dX3_guarantee_61 rfl (lv_at hl 5 rfl) ?_
        refine va_putN (D := D) (ci := 0) (v := .int s0) (ty := .int) (C := RX0) (T := TX0) (N := 8) hx hb hts iX0 tyX0 tyX0_ok nmX0 hown hK hP hD hS (11 + i) (cws_E hi) rfl 7 (by decide) (va_Nw.use rfl (hE.2 (.fieldLinkNest RX3 126 "CapitalReckoner$Exposure" "guaranteeSum" "I" RX3) (List.mem_of_getElem? (i := 26) rfl))) (fun _ h9 => h9) rfl (by decide +kernel) rfl rfl (Nat.le_of_ble_eq_true rfl) dX3_guarantee_62 (fun H locs hP hD hS => ?_)
        have hP : va_P D vwCl (cws cI cL cE cP ad (gR (gR g 9 (upd (g 9) i k0)) 10 (upd ((gR g 9 (upd (g 9) i k0)) 10) i s0)) n k us wb tr pr le tk gf) H := zP_re hP ((cws_sE10 hi)).symm
        have hD : va_D A (cws cI cL cE cP ad (gR (gR g 9 (upd (g 9) i k0)) 10 (upd ((gR g 9 (upd (g 9) i k0)) 10) i s0)) n k us wb tr pr le tk gf) := zD_re hD ((cws_sE10 hi)).symm
        refine lv_iload hx hb dX3_guarantee_65 (lv_at hl 0 rfl) ?_
        have hT : T_guarantee n x k0 s0 = 0 := by simp [T_guarantee, cX, hxi, c_5, c_8]
        refine W.widen (k := 1) (n := 6) (Nat.le_of_ble_eq_true rfl) (Nat.le_of_ble_eq_true rfl) ?_
        exact vx_ret (ziret (v := g 10 i) hx hb hr hAe ⟨hT, by rw [hxi]⟩ (zP_re hP (by rw [hxi]; first | done | rfl)) (zD_re hD (by rw [hxi]; first | done | rfl)) hS dX3_guarantee_67)
      · have c_8 := zb_eq c_8
        have hT : T_guarantee n x k0 s0 = 2 := by simp [T_guarantee, cX, hxi, c_5, c_8]
        exact zthrow (pc := 36) (cls := "java/lang/IllegalArgumentException") (text := "sum is out of range") (is := 79) (ic := 67) (ik := 63) hx hb hfl hown hlocks htab hml hl.1 (by decide +kernel) (by decide +kernel) (hts (.classLink RX3 63 "java/lang/IllegalArgumentException") (by decide +kernel)) (hts (.initialized "java/lang/IllegalArgumentException") (by decide +kernel)) (fun w h => hts w (List.mem_cons_of_mem _ (List.mem_append_right _ h))) (by decide +kernel) (by decide +kernel) (by decide +kernel) hX hAe hU hP hD hS dX3_guarantee_36 dX3_guarantee_39 dX3_guarantee_40 dX3_guarantee_42 dX3_guarantee_45 (Nat.le_of_ble_eq_true rfl) (Nat.le_of_ble_eq_true rfl) (Nat.le_of_ble_eq_true rfl) (Nat.le_of_ble_eq_true rfl) (Nat.le_of_ble_eq_true rfl) (Nat.le_of_ble_eq_true rfl) (Or.inr (⟨rfl, hT⟩))
    · have c_5 := zb_eq c_5
      have hT : T_guarantee n x k0 s0 = 1 := by simp [T_guarantee, cX, hxi, c_5]
      exact zthrow (pc := 19) (cls := "java/lang/IndexOutOfBoundsException") (text := "no such exposure or class") (is := 121) (ic := 56) (ik := 52) hx hb hfl hown hlocks htab hml hl.1 (by decide +kernel) (by decide +kernel) (hts (.classLink RX3 52 "java/lang/IndexOutOfBoundsException") (by decide +kernel)) (hts (.initialized "java/lang/IndexOutOfBoundsException") (by decide +kernel)) (fun w h => hts w (List.mem_cons_of_mem _ (List.mem_append_left _ (List.mem_append_right _ h)))) (by decide +kernel) (by decide +kernel) (by decide +kernel) hX hAe hU hP hD hS dX3_guarantee_19 dX3_guarantee_22 dX3_guarantee_23 dX3_guarantee_25 dX3_guarantee_28 (Nat.le_of_ble_eq_true rfl) (Nat.le_of_ble_eq_true rfl) (Nat.le_of_ble_eq_true rfl) (Nat.le_of_ble_eq_true rfl) (Nat.le_of_ble_eq_true rfl) (Nat.le_of_ble_eq_true rfl) (Or.inl ⟨rfl, hT⟩)
  · have cX : zex n x = false := zex_f hok.n e_2
    refine lv_astoreN (lv' := [(4, .null), (0, .ref (ad 0)), (1, .int x), (2, .int k0), (3, .int s0)]) hx hb dX3_guarantee_5 hl (by decide) rfl (fun ls hl => ?_)
    refine lv_aloadN hx hb dX3_guarantee_7 (lv_at hl 0 rfl) ?_
    refine lv_ifnullN (tgt := 19) hx hb dX3_guarantee_9 (by decide) ?_
    have hT : T_guarantee n x k0 s0 = 1 := by simp [T_guarantee, cX]
    exact zthrow (pc := 19) (cls := "java/lang/IndexOutOfBoundsException") (text := "no such exposure or class") (is := 121) (ic := 56) (ik := 52) hx hb hfl hown hlocks htab hml hl.1 (by decide +kernel) (by decide +kernel) (hts (.classLink RX3 52 "java/lang/IndexOutOfBoundsException") (by decide +kernel)) (hts (.initialized "java/lang/IndexOutOfBoundsException") (by decide +kernel)) (fun w h => hts w (List.mem_cons_of_mem _ (List.mem_append_left _ (List.mem_append_right _ h)))) (by decide +kernel) (by decide +kernel) (by decide +kernel) hX hAe hU hP hD hS dX3_guarantee_19 dX3_guarantee_22 dX3_guarantee_23 dX3_guarantee_25 dX3_guarantee_28 (Nat.le_of_ble_eq_true rfl) (Nat.le_of_ble_eq_true rfl) (Nat.le_of_ble_eq_true rfl) (Nat.le_of_ble_eq_true rfl) (Nat.le_of_ble_eq_true rfl) (Nat.le_of_ble_eq_true rfl) (Or.inl ⟨rfl, hT⟩)
set_option maxHeartbeats 4000000 in
set_option maxRecDepth 100000 in
theorem zX3_amount (l : Launch) (hfl : l.stackTraces = false) (D : va_G) (cI cL cE cP : ClassId) (ad : Nat → Nat) (g : Nat → Nat → Int32) (n k : Nat) (us wb tr : Nat → Int32) (pr le : Nat → Int64) (tk gf : Int32) (hok : zOk g n k) (x : Int32) (sz : Nat) : vx_Met l yX3_amount wsX3_amount ({ frames := 6, cells := 1, slots := 6, locals := 90 }) (zPx D cI cL cE cP (cws cI cL cE cP ad g n k us wb tr pr le tk gf) sz [.ref (ad 0), .int x]) (zQi D (cws cI cL cE cP ad g n k us wb tr pr le tk gf) sz (fun r : Int32 => (T_amount n x = 0 ∧ r = amt g x.toNatClampNeg)) (cws cI cL cE cP ad g n k us wb tr pr le tk gf)) (zXC D (cws cI cL cE cP ad g n k us wb tr pr le tk gf) sz (fun E => (E = "java/lang/IndexOutOfBoundsException" ∧ T_amount n x = 1))) 1 6 (va_A (cws cI cL cE cP ad g n k us wb tr pr le tk gf) sz) := by
  refine vx_ofW (cc := cX3_amount) (maxL := 3) (ret := (some .int)) (by decide) rfl ?_
  intro p e s m args below meth c s₁ B hml htab hv
  obtain ⟨rfl, hsz, hE, hP, hD0, hX, hU0⟩ := hv
  subst hsz
  obtain ⟨A, hAe⟩ : ∃ A, A = va_A (cws cI cL cE cP ad g n k us wb tr pr le tk gf) s.heap.size := ⟨_, rfl⟩
  have hD : va_D A (cws cI cL cE cP ad g n k us wb tr pr le tk gf) := by rw [hAe]; exact hD0.self
  have hA : ∀ q : Nat, s.heap.size ≤ q → A q := fun q h => by rw [hAe]; exact Or.inr h
  have hS : va_S A s.heap s.heap [] := va_S.rf
  have hU : zU A s s.heap := by rw [hAe]; exact hU0
  have hx := B.exec
  have hb := B.bytes
  have hr := B.returns
  have hts := atoms_spec (ws := wsX3_amount) B.pre
  have hown : s.vm.findClass RX3 = some m.cls := findClass_of_methodNamed B.named
  have hlocks := B.notSynchronized
  have hK := hE.1
  have hl := lv_entry ([.ref (ad 0), .int x]) (n := 3) (Nat.le_of_ble_eq_true rfl)
  rw [lg_entry_eq]
  generalize (lg_sl ([.ref (ad 0), .int x]) ++ List.replicate (3 - (lg_sl ([.ref (ad 0), .int x])).length) Slot.unset).toArray = ls at hl ⊢
  have hl : lv_has ls 3 [(0, .ref (ad 0)), (1, .int x)] := hl
  refine lv_aload_n hx hb dX3_amount_0 rfl (lv_at hl 0 rfl) ?_
  refine lv_iload_n hx hb dX3_amount_1 rfl (lv_at hl 1 rfl) ?_
  refine va_csq (va_Run.run (va_runV (As := [.int x]) (rest := []) ⟨hx, hb, hml, hown, hts⟩ (zX3_exposureAt l D cI cL cE cP ad g n k us wb tr pr le tk gf hok (x)) (cwV 1 hts gX3_amount_X3_exposureAt rfl rfl rfl (by decide +kernel) ⟨Nat.le_of_ble_eq_true rfl, Nat.le_of_ble_eq_true rfl⟩) ⟨zPr_blind, va_recv hK hP (ci := 3) (q0 := 0) rfl cws_0, zPr_mk hE hP⟩ rfl rfl hl.1 rfl (lv_room (Nat.le_of_ble_eq_true rfl)) dX3_amount_2 ⟨Nat.le_of_ble_eq_true rfl, Nat.le_of_ble_eq_true rfl⟩)) (fun r_1 e_2 => ?_)
  rcases e_2 with ⟨i, hi, e_2, rfl⟩ | ⟨rfl, e_2⟩
  · have cX : zex n x = true := zex_t hok.n hi e_2
    have hxi : x.toNatClampNeg = i := by rw [e_2, nI_clamp (by have := hok.n; omega)]
    refine lv_astore_n (lv' := [(2, .ref (ad (11 + i))), (0, .ref (ad 0)), (1, .int x)]) hx hb dX3_amount_5 rfl hl (by decide) rfl (fun ls hl => ?_)
    refine lv_aload_n hx hb dX3_amount_6 rfl (lv_at hl 0 rfl) ?_
    refine lv_ifnonnull (tgt := 20) hx hb dX3_amount_7 (by decide) ?_
    refine lv_aload_n hx hb dX3_amount_20 rfl (lv_at hl 0 rfl) ?_
    refine vp_callSi (va_Run.run (va_runVN (As := []) (rest := []) ⟨hx, hb, hml, hown, hts⟩ (zX0_amountNow l D cI cL cE cP ad g n k us wb tr pr le tk gf hok i hi) ⟨va_cnB 0 hts gX3_amount_X0_amountNow_n132 rfl rfl rfl (hE.2 (.methodLinkNest RX3 132 yX0_amountNow RX3) (List.mem_of_getElem? (i := 4) rfl)) (hts (.initialized RX0) (by decide +kernel)) (by decide +kernel) ⟨Nat.le_of_ble_eq_true rfl, Nat.le_of_ble_eq_true rfl⟩, (hts (.instanceMethod yX0_amountNow) (by decide +kernel)), (hts (.selects RX0 yX0_amountNow yX0_amountNow) (by decide +kernel))⟩ ⟨zPr_blind, va_recv hK hP (ci := 0) (q0 := (11 + i)) rfl (cws_E hi), zPr_mk hE hP⟩ rfl rfl hl.1 rfl (lv_room (Nat.le_of_ble_eq_true rfl)) dX3_amount_21 ⟨Nat.le_of_ble_eq_true rfl, Nat.le_of_ble_eq_true rfl⟩)) (fun r_3 e_4 => ?_)
    obtain rfl := e_4
    have hT : T_amount n x = 0 := by simp [T_amount, cX, hxi]
    refine W.widen (k := 1) (n := 6) (Nat.le_of_ble_eq_true rfl) (Nat.le_of_ble_eq_true rfl) ?_
    exact vx_ret (ziret (v := amt g i) hx hb hr hAe ⟨hT, by rw [hxi]⟩ (zP_re hP (rfl)) (zD_re hD (rfl)) hS dX3_amount_24)
  · have cX : zex n x = false := zex_f hok.n e_2
    refine lv_astore_nN (lv' := [(2, .null), (0, .ref (ad 0)), (1, .int x)]) hx hb dX3_amount_5 rfl hl (by decide) rfl (fun ls hl => ?_)
    refine lv_aload_nN hx hb dX3_amount_6 rfl (lv_at hl 0 rfl) ?_
    refine lv_ifnonnullN hx hb dX3_amount_7 ?_
    have hT : T_amount n x = 1 := by simp [T_amount, cX]
    exact zthrow (pc := 10) (cls := "java/lang/IndexOutOfBoundsException") (text := "no such exposure") (is := 109) (ic := 56) (ik := 52) hx hb hfl hown hlocks htab hml hl.1 (by decide +kernel) (by decide +kernel) (hts (.classLink RX3 52 "java/lang/IndexOutOfBoundsException") (by decide +kernel)) (hts (.initialized "java/lang/IndexOutOfBoundsException") (by decide +kernel)) (fun w h => hts w (List.mem_cons_of_mem _ (List.mem_append_right _ h))) (by decide +kernel) (by decide +kernel) (by decide +kernel) hX hAe hU hP hD hS dX3_amount_10 dX3_amount_13 dX3_amount_14 dX3_amount_16 dX3_amount_19 (Nat.le_of_ble_eq_true rfl) (Nat.le_of_ble_eq_true rfl) (Nat.le_of_ble_eq_true rfl) (Nat.le_of_ble_eq_true rfl) (Nat.le_of_ble_eq_true rfl) (Nat.le_of_ble_eq_true rfl) (⟨rfl, hT⟩)
set_option maxHeartbeats 4000000 in
set_option maxRecDepth 100000 in
theorem zX3_setPiece (l : Launch) (hfl : l.stackTraces = false) (D : va_G) (cI cL cE cP : ClassId) (ad : Nat → Nat) (g : Nat → Nat → Int32) (n k : Nat) (us wb tr : Nat → Int32) (pr le : Nat → Int64) (tk gf : Int32) (hok : zOk g n k) (y m0 u0 : Int32) (sz : Nat) : vx_Met l yX3_setPiece wsX3_setPiece ({ frames := 6, cells := 1, slots := 6, locals := 90 }) (zPx D cI cL cE cP (cws cI cL cE cP ad g n k us wb tr pr le tk gf) sz [.ref (ad 0), .int y, .int m0, .int u0]) (zQi D (cws cI cL cE cP ad g n k us wb tr pr le tk gf) sz (fun r : Int32 => (T_setPiece k y m0 u0 = 0 ∧ r = g 11 y.toNatClampNeg)) (cws cI cL cE cP ad (gR (gR g 11 (upd (g 11) y.toNatClampNeg m0)) 15 (upd (g 15) y.toNatClampNeg u0)) n k us wb tr pr le tk gf)) (zXC D (cws cI cL cE cP ad g n k us wb tr pr le tk gf) sz (fun E => (E = "java/lang/IndexOutOfBoundsException" ∧ T_setPiece k y m0 u0 = 1) ∨ (E = "java/lang/IllegalArgumentException" ∧ T_setPiece k y m0 u0 = 2))) 1 6 (va_A (cws cI cL cE cP ad g n k us wb tr pr le tk gf) sz) := by
  refine vx_ofW (cc := cX3_setPiece) (maxL := 6) (ret := (some .int)) (by decide) rfl ?_
  intro p e s m args below meth c s₁ B hml htab hv
  obtain ⟨rfl, hsz, hE, hP, hD0, hX, hU0⟩ := hv
  subst hsz
  obtain ⟨A, hAe⟩ : ∃ A, A = va_A (cws cI cL cE cP ad g n k us wb tr pr le tk gf) s.heap.size := ⟨_, rfl⟩
  have hD : va_D A (cws cI cL cE cP ad g n k us wb tr pr le tk gf) := by rw [hAe]; exact hD0.self
  have hA : ∀ q : Nat, s.heap.size ≤ q → A q := fun q h => by rw [hAe]; exact Or.inr h
  have hS : va_S A s.heap s.heap [] := va_S.rf
  have hU : zU A s s.heap := by rw [hAe]; exact hU0
  have hx := B.exec
  have hb := B.bytes
  have hr := B.returns
  have hts := atoms_spec (ws := wsX3_setPiece) B.pre
  have hown : s.vm.findClass RX3 = some m.cls := findClass_of_methodNamed B.named
  have hlocks := B.notSynchronized
  have hK := hE.1
  have iX1 : ∀ w ∈ wsX10, w ∈ wsX3_setPiece := by decide +kernel
  have hl := lv_entry ([.ref (ad 0), .int y, .int m0, .int u0]) (n := 6) (Nat.le_of_ble_eq_true rfl)
  rw [lg_entry_eq]
  generalize (lg_sl ([.ref (ad 0), .int y, .int m0, .int u0]) ++ List.replicate (6 - (lg_sl ([.ref (ad 0), .int y, .int m0, .int u0])).length) Slot.unset).toArray = ls at hl ⊢
  have hl : lv_has ls 6 [(0, .ref (ad 0)), (1, .int y), (2, .int m0), (3, .int u0)] := hl
  refine lv_aload_n hx hb dX3_setPiece_0 rfl (lv_at hl 0 rfl) ?_
  refine lv_iload_n hx hb dX3_setPiece_1 rfl (lv_at hl 1 rfl) ?_
  refine va_csq (va_Run.run (va_runV (As := [.int y]) (rest := []) ⟨hx, hb, hml, hown, hts⟩ (zX3_pieceAt l D cI cL cE cP ad g n k us wb tr pr le tk gf hok (y)) (cwV 1 hts gX3_setPiece_X3_pieceAt rfl rfl rfl (by decide +kernel) ⟨Nat.le_of_ble_eq_true rfl, Nat.le_of_ble_eq_true rfl⟩) ⟨zPr_blind, va_recv hK hP (ci := 3) (q0 := 0) rfl cws_0, zPr_mk hE hP⟩ rfl rfl hl.1 rfl (lv_room (Nat.le_of_ble_eq_true rfl)) dX3_setPiece_2 ⟨Nat.le_of_ble_eq_true rfl, Nat.le_of_ble_eq_true rfl⟩)) (fun r_1 e_2 => ?_)
  rcases e_2 with ⟨j, hj, e_2, rfl⟩ | ⟨rfl, e_2⟩
  · have cY : zex k y = true := zex_t hok.k8 hj e_2
    have hyj : y.toNatClampNeg = j := by rw [e_2, nI_clamp (by have := hok.k; omega)]
    refine lv_astore (lv' := [(4, .ref (ad (19 + j))), (0, .ref (ad 0)), (1, .int y), (2, .int m0), (3, .int u0)]) hx hb dX3_setPiece_5 hl (by decide) rfl (fun ls hl => ?_)
    refine lv_aload hx hb dX3_setPiece_7 (lv_at hl 0 rfl) ?_
    refine lv_ifnonnull (tgt := 22) hx hb dX3_setPiece_9 (by decide) ?_
    refine lv_iload_n hx hb dX3_setPiece_22 rfl (lv_at hl 3 rfl) ?_
    refine vp_callSi (va_Run.run (va_runS (As := [.int m0]) (rest := []) ⟨hx, hb, hml, hown, hts⟩ (zX3_isPieceSum l D cI cL cE cP (cws cI cL cE cP ad g n k us wb tr pr le tk gf) m0) (va_cwS 1 hts gX3_setPiece_X3_isPieceSum rfl rfl rfl (by decide +kernel) ⟨Nat.le_of_ble_eq_true rfl, Nat.le_of_ble_eq_true rfl⟩) ⟨zPr_blind, zPr_mk hE hP⟩ rfl rfl hl.1 rfl (lv_room (Nat.le_of_ble_eq_true rfl)) dX3_setPiece_23 ⟨Nat.le_of_ble_eq_true rfl, Nat.le_of_ble_eq_true rfl⟩)) (fun r_3 e_4 => ?_)
    obtain rfl := e_4
    refine lv_if_eq (tgt := 36) hx hb dX3_setPiece_26 (by decide) (fun c_5 => ?_) (fun c_5 => ?_)
    · have c_5 := zb_eq c_5
      have hT : T_setPiece k y m0 u0 = 2 := by simp [T_setPiece, cY, hyj, c_5]
      exact zthrow (pc := 36) (cls := "java/lang/IllegalArgumentException") (text := "amount or uses is out of range") (is := 155) (ic := 67) (ik := 63) hx hb hfl hown hlocks htab hml hl.1 (by decide +kernel) (by decide +kernel) (hts (.classLink RX3 63 "java/lang/IllegalArgumentException") (by decide +kernel)) (hts (.initialized "java/lang/IllegalArgumentException") (by decide +kernel)) (fun w h => hts w (List.mem_cons_of_mem _ (List.mem_append_right _ h))) (by decide +kernel) (by decide +kernel) (by decide +kernel) hX hAe hU hP hD hS dX3_setPiece_36 dX3_setPiece_39 dX3_setPiece_40 dX3_setPiece_42 dX3_setPiece_45 (Nat.le_of_ble_eq_true rfl) (Nat.le_of_ble_eq_true rfl) (Nat.le_of_ble_eq_true rfl) (Nat.le_of_ble_eq_true rfl) (Nat.le_of_ble_eq_true rfl) (Nat.le_of_ble_eq_true rfl) (Or.inr (⟨rfl, hT⟩))
    · have c_5 := zb_ne c_5
      refine lv_iload_n hx hb dX3_setPiece_29 rfl (lv_at hl 4 rfl) ?_
      refine vp_callSi (va_Run.run (va_runS (As := [.int u0]) (rest := []) ⟨hx, hb, hml, hown, hts⟩ (zX3_isUses l D cI cL cE cP (cws cI cL cE cP ad g n k us wb tr pr le tk gf) u0) (va_cwS 1 hts gX3_setPiece_X3_isUses rfl rfl rfl (by decide +kernel) ⟨Nat.le_of_ble_eq_true rfl, Nat.le_of_ble_eq_true rfl⟩) ⟨zPr_blind, zPr_mk hE hP⟩ rfl rfl hl.1 rfl (lv_room (Nat.le_of_ble_eq_true rfl)) dX3_setPiece_30 ⟨Nat.le_of_ble_eq_true rfl, Nat.le_of_ble_eq_true rfl⟩)) (fun r_6 e_7 => ?_)
      obtain rfl := e_7
      refine lv_if_ne (tgt := 46) hx hb dX3_setPiece_33 (by decide) (fun c_8 => ?_) (fun c_8 => ?_)
      · have c_8 := zb_ne c_8
        refine lv_aload hx hb dX3_setPiece_46 (lv_at hl 0 rfl) ?_
        refine va_getN (D := D) (ci := 1) (v := .int (g 11 j)) (C := RX1) (T := TX1) (N := 5) hx hb hts iX1 hown hK hP (11 + n + j) (cws_P hj) rfl 3 (by decide) (va_Nw.use rfl (hE.2 (.fieldLinkNest RX3 157 "CapitalReckoner$Piece" "amount" "I" RX3) (List.mem_of_getElem? (i := 27) rfl))) (fun _ h9 => h9) rfl dX3_setPiece_48 ?_
        refine lv_istore (lv' := [(5, .int (g 11 j)), (4, .ref (ad (19 + j))), (0, .ref (ad 0)), (1, .int y), (2, .int m0), (3, .int u0)]) hx hb dX3_setPiece_51 hl (by decide) rfl (fun ls hl => ?_)
        refine lv_aload hx hb dX3_setPiece_53 (lv_at hl 1 rfl) ?_
        refine lv_iload_n hx hb dX3_setPiece_55 rfl (lv_at hl 4 rfl) ?_
        refine va_putN (D := D) (ci := 1) (v := .int m0) (ty := .int) (C := RX1) (T := TX1) (N := 5) hx hb hts iX1 tyX1 tyX1_ok nmX1 hown hK hP hD hS (11 + n + j) (cws_P hj) rfl 3 (by decide) (va_Nw.use rfl (hE.2 (.fieldLinkNest RX3 157 "CapitalReckoner$Piece" "amount" "I" RX3) (List.mem_of_getElem? (i := 27) rfl))) (fun _ h9 => h9) rfl (by decide +kernel) rfl rfl (Nat.le_of_ble_eq_true rfl) dX3_setPiece_56 (fun H locs hP hD hS => ?_)
        have hP : va_P D vwCl (cws cI cL cE cP ad (gR g 11 (upd (g 11) j m0)) n k us wb tr pr le tk gf) H := zP_re hP ((cws_sP11 hj)).symm
        have hD : va_D A (cws cI cL cE cP ad (gR g 11 (upd (g 11) j m0)) n k us wb tr pr le tk gf) := zD_re hD ((cws_sP11 hj)).symm
        refine lv_aload hx hb dX3_setPiece_59 (lv_at hl 1 rfl) ?_
        refine lv_iload_n hx hb dX3_setPiece_61 rfl (lv_at hl 5 rfl) ?_
        refine va_putN (D := D) (ci := 1) (v := .int u0) (ty := .int) (C := RX1) (T := TX1) (N := 5) hx hb hts iX1 tyX1 tyX1_ok nmX1 hown hK hP hD hS (11 + n + j) (cws_P hj) rfl 4 (by decide) (va_Nw.use rfl (hE.2 (.fieldLinkNest RX3 160 "CapitalReckoner$Piece" "uses" "I" RX3) (List.mem_of_getElem? (i := 28) rfl))) (fun _ h9 => h9) rfl (by decide +kernel) rfl rfl (Nat.le_of_ble_eq_true rfl) dX3_setPiece_62 (fun H locs hP hD hS => ?_)
        have hP : va_P D vwCl (cws cI cL cE cP ad (gR (gR g 11 (upd (g 11) j m0)) 15 (upd ((gR g 11 (upd (g 11) j m0)) 15) j u0)) n k us wb tr pr le tk gf) H := zP_re hP ((cws_sP15 hj)).symm
        have hD : va_D A (cws cI cL cE cP ad (gR (gR g 11 (upd (g 11) j m0)) 15 (upd ((gR g 11 (upd (g 11) j m0)) 15) j u0)) n k us wb tr pr le tk gf) := zD_re hD ((cws_sP15 hj)).symm
        refine lv_iload hx hb dX3_setPiece_65 (lv_at hl 0 rfl) ?_
        have hT : T_setPiece k y m0 u0 = 0 := by simp [T_setPiece, cY, hyj, c_5, c_8]
        refine W.widen (k := 1) (n := 6) (Nat.le_of_ble_eq_true rfl) (Nat.le_of_ble_eq_true rfl) ?_
        exact vx_ret (ziret (v := g 11 j) hx hb hr hAe ⟨hT, by rw [hyj]⟩ (zP_re hP (by rw [hyj]; rfl)) (zD_re hD (by rw [hyj]; rfl)) hS dX3_setPiece_67)
      · have c_8 := zb_eq c_8
        have hT : T_setPiece k y m0 u0 = 2 := by simp [T_setPiece, cY, hyj, c_5, c_8]
        exact zthrow (pc := 36) (cls := "java/lang/IllegalArgumentException") (text := "amount or uses is out of range") (is := 155) (ic := 67) (ik := 63) hx hb hfl hown hlocks htab hml hl.1 (by decide +kernel) (by decide +kernel) (hts (.classLink RX3 63 "java/lang/IllegalArgumentException") (by decide +kernel)) (hts (.initialized "java/lang/IllegalArgumentException") (by decide +kernel)) (fun w h => hts w (List.mem_cons_of_mem _ (List.mem_append_right _ h))) (by decide +kernel) (by decide +kernel) (by decide +kernel) hX hAe hU hP hD hS dX3_setPiece_36 dX3_setPiece_39 dX3_setPiece_40 dX3_setPiece_42 dX3_setPiece_45 (Nat.le_of_ble_eq_true rfl) (Nat.le_of_ble_eq_true rfl) (Nat.le_of_ble_eq_true rfl) (Nat.le_of_ble_eq_true rfl) (Nat.le_of_ble_eq_true rfl) (Nat.le_of_ble_eq_true rfl) (Or.inr (⟨rfl, hT⟩))
  · have cY : zex k y = false := zex_f hok.k8 e_2
    refine lv_astoreN (lv' := [(4, .null), (0, .ref (ad 0)), (1, .int y), (2, .int m0), (3, .int u0)]) hx hb dX3_setPiece_5 hl (by decide) rfl (fun ls hl => ?_)
    refine lv_aloadN hx hb dX3_setPiece_7 (lv_at hl 0 rfl) ?_
    refine lv_ifnonnullN hx hb dX3_setPiece_9 ?_
    have hT : T_setPiece k y m0 u0 = 1 := by simp [T_setPiece, cY]
    exact zthrow (pc := 12) (cls := "java/lang/IndexOutOfBoundsException") (text := "no such piece") (is := 153) (ic := 56) (ik := 52) hx hb hfl hown hlocks htab hml hl.1 (by decide +kernel) (by decide +kernel) (hts (.classLink RX3 52 "java/lang/IndexOutOfBoundsException") (by decide +kernel)) (hts (.initialized "java/lang/IndexOutOfBoundsException") (by decide +kernel)) (fun w h => hts w (List.mem_cons_of_mem _ (List.mem_append_left _ (List.mem_append_right _ h)))) (by decide +kernel) (by decide +kernel) (by decide +kernel) hX hAe hU hP hD hS dX3_setPiece_12 dX3_setPiece_15 dX3_setPiece_16 dX3_setPiece_18 dX3_setPiece_21 (Nat.le_of_ble_eq_true rfl) (Nat.le_of_ble_eq_true rfl) (Nat.le_of_ble_eq_true rfl) (Nat.le_of_ble_eq_true rfl) (Nat.le_of_ble_eq_true rfl) (Nat.le_of_ble_eq_true rfl) (Or.inl ⟨rfl, hT⟩)
set_option maxHeartbeats 4000000 in
set_option maxRecDepth 100000 in
theorem zX3_value (l : Launch) (hfl : l.stackTraces = false) (D : va_G) (cI cL cE cP : ClassId) (ad : Nat → Nat) (g : Nat → Nat → Int32) (n k : Nat) (us wb tr : Nat → Int32) (pr le : Nat → Int64) (tk gf : Int32) (hok : zOk g n k) (y x : Int32) (sz : Nat) : vx_Met l yX3_value wsX3_value ({ frames := 6, cells := 1, slots := 6, locals := 90 }) (zPx D cI cL cE cP (cws cI cL cE cP ad g n k us wb tr pr le tk gf) sz [.ref (ad 0), .int y, .int x]) (zQi D (cws cI cL cE cP ad g n k us wb tr pr le tk gf) sz (fun r : Int32 => (T_value n k y x = 0 ∧ r = vl g y.toNatClampNeg x.toNatClampNeg)) (cws cI cL cE cP ad g n k us wb tr pr le tk gf)) (zXC D (cws cI cL cE cP ad g n k us wb tr pr le tk gf) sz (fun E => (E = "java/lang/IndexOutOfBoundsException" ∧ T_value n k y x = 1))) 1 6 (va_A (cws cI cL cE cP ad g n k us wb tr pr le tk gf) sz) := by
  refine vx_ofW (cc := cX3_value) (maxL := 5) (ret := (some .int)) (by decide) rfl ?_
  intro p e s m args below meth c s₁ B hml htab hv
  obtain ⟨rfl, hsz, hE, hP, hD0, hX, hU0⟩ := hv
  subst hsz
  obtain ⟨A, hAe⟩ : ∃ A, A = va_A (cws cI cL cE cP ad g n k us wb tr pr le tk gf) s.heap.size := ⟨_, rfl⟩
  have hD : va_D A (cws cI cL cE cP ad g n k us wb tr pr le tk gf) := by rw [hAe]; exact hD0.self
  have hA : ∀ q : Nat, s.heap.size ≤ q → A q := fun q h => by rw [hAe]; exact Or.inr h
  have hS : va_S A s.heap s.heap [] := va_S.rf
  have hU : zU A s s.heap := by rw [hAe]; exact hU0
  have hx := B.exec
  have hb := B.bytes
  have hr := B.returns
  have hts := atoms_spec (ws := wsX3_value) B.pre
  have hown : s.vm.findClass RX3 = some m.cls := findClass_of_methodNamed B.named
  have hlocks := B.notSynchronized
  have hK := hE.1
  have hl := lv_entry ([.ref (ad 0), .int y, .int x]) (n := 5) (Nat.le_of_ble_eq_true rfl)
  rw [lg_entry_eq]
  generalize (lg_sl ([.ref (ad 0), .int y, .int x]) ++ List.replicate (5 - (lg_sl ([.ref (ad 0), .int y, .int x])).length) Slot.unset).toArray = ls at hl ⊢
  have hl : lv_has ls 5 [(0, .ref (ad 0)), (1, .int y), (2, .int x)] := hl
  refine lv_aload_n hx hb dX3_value_0 rfl (lv_at hl 0 rfl) ?_
  refine lv_iload_n hx hb dX3_value_1 rfl (lv_at hl 1 rfl) ?_
  refine va_csq (va_Run.run (va_runV (As := [.int y]) (rest := []) ⟨hx, hb, hml, hown, hts⟩ (zX3_pieceAt l D cI cL cE cP ad g n k us wb tr pr le tk gf hok (y)) (cwV 1 hts gX3_value_X3_pieceAt rfl rfl rfl (by decide +kernel) ⟨Nat.le_of_ble_eq_true rfl, Nat.le_of_ble_eq_true rfl⟩) ⟨zPr_blind, va_recv hK hP (ci := 3) (q0 := 0) rfl cws_0, zPr_mk hE hP⟩ rfl rfl hl.1 rfl (lv_room (Nat.le_of_ble_eq_true rfl)) dX3_value_2 ⟨Nat.le_of_ble_eq_true rfl, Nat.le_of_ble_eq_true rfl⟩)) (fun r_1 e_2 => ?_)
  rcases e_2 with ⟨j, hj, e_2, rfl⟩ | ⟨rfl, e_2⟩
  · have cY : zex k y = true := zex_t hok.k8 hj e_2
    have hyj : y.toNatClampNeg = j := by rw [e_2, nI_clamp (by have := hok.k; omega)]
    refine lv_astore_n (lv' := [(3, .ref (ad (19 + j))), (0, .ref (ad 0)), (1, .int y), (2, .int x)]) hx hb dX3_value_5 rfl hl (by decide) rfl (fun ls hl => ?_)
    refine lv_aload_n hx hb dX3_value_6 rfl (lv_at hl 1 rfl) ?_
    refine lv_iload_n hx hb dX3_value_7 rfl (lv_at hl 3 rfl) ?_
    refine va_csq (va_Run.run (va_runV (As := [.int x]) (rest := []) ⟨hx, hb, hml, hown, hts⟩ (zX3_exposureAt l D cI cL cE cP ad g n k us wb tr pr le tk gf hok (x)) (cwV 1 hts gX3_value_X3_exposureAt rfl rfl rfl (by decide +kernel) ⟨Nat.le_of_ble_eq_true rfl, Nat.le_of_ble_eq_true rfl⟩) ⟨zPr_blind, va_recv hK hP (ci := 3) (q0 := 0) rfl cws_0, zPr_mk hE hP⟩ rfl rfl hl.1 rfl (lv_room (Nat.le_of_ble_eq_true rfl)) dX3_value_8 ⟨Nat.le_of_ble_eq_true rfl, Nat.le_of_ble_eq_true rfl⟩)) (fun r_3 e_4 => ?_)
    rcases e_4 with ⟨i, hi, e_4, rfl⟩ | ⟨rfl, e_4⟩
    · have cX : zex n x = true := zex_t hok.n hi e_4
      have hxi : x.toNatClampNeg = i := by rw [e_4, nI_clamp (by have := hok.n; omega)]
      refine lv_astore (lv' := [(4, .ref (ad (11 + i))), (3, .ref (ad (19 + j))), (0, .ref (ad 0)), (1, .int y), (2, .int x)]) hx hb dX3_value_11 hl (by decide) rfl (fun ls hl => ?_)
      refine lv_aload_n hx hb dX3_value_13 rfl (lv_at hl 1 rfl) ?_
      refine lv_ifnull hx hb dX3_value_14 ?_
      refine lv_aload hx hb dX3_value_17 (lv_at hl 0 rfl) ?_
      refine lv_ifnonnull (tgt := 32) hx hb dX3_value_19 (by decide) ?_
      refine lv_aload_n hx hb dX3_value_32 rfl (lv_at hl 1 rfl) ?_
      refine lv_aload hx hb dX3_value_33 (lv_at hl 0 rfl) ?_
      refine vp_callSi (va_Run.run (va_runVN (As := [.ref (ad (11 + i))]) (rest := []) ⟨hx, hb, hml, hown, hts⟩ (zX1_valueFor l D cI cL cE cP ad g n k us wb tr pr le tk gf hok j hj i hi) ⟨va_cnB 1 hts gX3_value_X1_valueFor_n165 rfl rfl rfl (hE.2 (.methodLinkNest RX3 165 yX1_valueFor RX3) (List.mem_of_getElem? (i := 6) rfl)) (hts (.initialized RX1) (by decide +kernel)) (by decide +kernel) ⟨Nat.le_of_ble_eq_true rfl, Nat.le_of_ble_eq_true rfl⟩, (hts (.instanceMethod yX1_valueFor) (by decide +kernel)), (hts (.selects RX1 yX1_valueFor yX1_valueFor) (by decide +kernel))⟩ ⟨zPr_blind, va_recv hK hP (ci := 1) (q0 := (11 + n + j)) rfl (cws_P hj), zPr_mk hE hP⟩ rfl rfl hl.1 rfl (lv_room (Nat.le_of_ble_eq_true rfl)) dX3_value_35 ⟨Nat.le_of_ble_eq_true rfl, Nat.le_of_ble_eq_true rfl⟩)) (fun r_5 e_6 => ?_)
      obtain rfl := e_6
      have hT : T_value n k y x = 0 := by simp [T_value, cY, hyj, cX, hxi]
      refine W.widen (k := 1) (n := 6) (Nat.le_of_ble_eq_true rfl) (Nat.le_of_ble_eq_true rfl) ?_
      exact vx_ret (ziret (v := vl g j i) hx hb hr hAe ⟨hT, by rw [hxi, hyj]⟩ (zP_re hP (rfl)) (zD_re hD (rfl)) hS dX3_value_38)
    · have cX : zex n x = false := zex_f hok.n e_4
      refine lv_astoreN (lv' := [(4, .null), (3, .ref (ad (19 + j))), (0, .ref (ad 0)), (1, .int y), (2, .int x)]) hx hb dX3_value_11 hl (by decide) rfl (fun ls hl => ?_)
      refine lv_aload_n hx hb dX3_value_13 rfl (lv_at hl 1 rfl) ?_
      refine lv_ifnull hx hb dX3_value_14 ?_
      refine lv_aloadN hx hb dX3_value_17 (lv_at hl 0 rfl) ?_
      refine lv_ifnonnullN hx hb dX3_value_19 ?_
      have hT : T_value n k y x = 1 := by simp [T_value, cY, hyj, cX]
      exact zthrow (pc := 22) (cls := "java/lang/IndexOutOfBoundsException") (text := "no such piece or exposure") (is := 163) (ic := 56) (ik := 52) hx hb hfl hown hlocks htab hml hl.1 (by decide +kernel) (by decide +kernel) (hts (.classLink RX3 52 "java/lang/IndexOutOfBoundsException") (by decide +kernel)) (hts (.initialized "java/lang/IndexOutOfBoundsException") (by decide +kernel)) (fun w h => hts w (List.mem_cons_of_mem _ (List.mem_append_right _ h))) (by decide +kernel) (by decide +kernel) (by decide +kernel) hX hAe hU hP hD hS dX3_value_22 dX3_value_25 dX3_value_26 dX3_value_28 dX3_value_31 (Nat.le_of_ble_eq_true rfl) (Nat.le_of_ble_eq_true rfl) (Nat.le_of_ble_eq_true rfl) (Nat.le_of_ble_eq_true rfl) (Nat.le_of_ble_eq_true rfl) (Nat.le_of_ble_eq_true rfl) (⟨rfl, hT⟩)
  · have cY : zex k y = false := zex_f hok.k8 e_2
    refine lv_astore_nN (lv' := [(3, .null), (0, .ref (ad 0)), (1, .int y), (2, .int x)]) hx hb dX3_value_5 rfl hl (by decide) rfl (fun ls hl => ?_)
    refine lv_aload_n hx hb dX3_value_6 rfl (lv_at hl 1 rfl) ?_
    refine lv_iload_n hx hb dX3_value_7 rfl (lv_at hl 3 rfl) ?_
    refine va_csq (va_Run.run (va_runV (As := [.int x]) (rest := []) ⟨hx, hb, hml, hown, hts⟩ (zX3_exposureAt l D cI cL cE cP ad g n k us wb tr pr le tk gf hok (x)) (cwV 1 hts gX3_value_X3_exposureAt rfl rfl rfl (by decide +kernel) ⟨Nat.le_of_ble_eq_true rfl, Nat.le_of_ble_eq_true rfl⟩) ⟨zPr_blind, va_recv hK hP (ci := 3) (q0 := 0) rfl cws_0, zPr_mk hE hP⟩ rfl rfl hl.1 rfl (lv_room (Nat.le_of_ble_eq_true rfl)) dX3_value_8 ⟨Nat.le_of_ble_eq_true rfl, Nat.le_of_ble_eq_true rfl⟩)) (fun r_7 e_8 => ?_)
    rcases e_8 with ⟨i, hi, e_8, rfl⟩ | ⟨rfl, e_8⟩
    · have cX : zex n x = true := zex_t hok.n hi e_8
      have hxi : x.toNatClampNeg = i := by rw [e_8, nI_clamp (by have := hok.n; omega)]
      refine lv_astore (lv' := [(4, .ref (ad (11 + i))), (3, .null), (0, .ref (ad 0)), (1, .int y), (2, .int x)]) hx hb dX3_value_11 hl (by decide) rfl (fun ls hl => ?_)
      refine lv_aload_nN hx hb dX3_value_13 rfl (lv_at hl 1 rfl) ?_
      refine lv_ifnullN (tgt := 22) hx hb dX3_value_14 (by decide) ?_
      have hT : T_value n k y x = 1 := by simp [T_value, cY, cX, hxi]
      exact zthrow (pc := 22) (cls := "java/lang/IndexOutOfBoundsException") (text := "no such piece or exposure") (is := 163) (ic := 56) (ik := 52) hx hb hfl hown hlocks htab hml hl.1 (by decide +kernel) (by decide +kernel) (hts (.classLink RX3 52 "java/lang/IndexOutOfBoundsException") (by decide +kernel)) (hts (.initialized "java/lang/IndexOutOfBoundsException") (by decide +kernel)) (fun w h => hts w (List.mem_cons_of_mem _ (List.mem_append_right _ h))) (by decide +kernel) (by decide +kernel) (by decide +kernel) hX hAe hU hP hD hS dX3_value_22 dX3_value_25 dX3_value_26 dX3_value_28 dX3_value_31 (Nat.le_of_ble_eq_true rfl) (Nat.le_of_ble_eq_true rfl) (Nat.le_of_ble_eq_true rfl) (Nat.le_of_ble_eq_true rfl) (Nat.le_of_ble_eq_true rfl) (Nat.le_of_ble_eq_true rfl) (⟨rfl, hT⟩)
    · have cX : zex n x = false := zex_f hok.n e_8
      refine lv_astoreN (lv' := [(4, .null), (3, .null), (0, .ref (ad 0)), (1, .int y), (2, .int x)]) hx hb dX3_value_11 hl (by decide) rfl (fun ls hl => ?_)
      refine lv_aload_nN hx hb dX3_value_13 rfl (lv_at hl 1 rfl) ?_
      refine lv_ifnullN (tgt := 22) hx hb dX3_value_14 (by decide) ?_
      have hT : T_value n k y x = 1 := by simp [T_value, cY, cX]
      exact zthrow (pc := 22) (cls := "java/lang/IndexOutOfBoundsException") (text := "no such piece or exposure") (is := 163) (ic := 56) (ik := 52) hx hb hfl hown hlocks htab hml hl.1 (by decide +kernel) (by decide +kernel) (hts (.classLink RX3 52 "java/lang/IndexOutOfBoundsException") (by decide +kernel)) (hts (.initialized "java/lang/IndexOutOfBoundsException") (by decide +kernel)) (fun w h => hts w (List.mem_cons_of_mem _ (List.mem_append_right _ h))) (by decide +kernel) (by decide +kernel) (by decide +kernel) hX hAe hU hP hD hS dX3_value_22 dX3_value_25 dX3_value_26 dX3_value_28 dX3_value_31 (Nat.le_of_ble_eq_true rfl) (Nat.le_of_ble_eq_true rfl) (Nat.le_of_ble_eq_true rfl) (Nat.le_of_ble_eq_true rfl) (Nat.le_of_ble_eq_true rfl) (Nat.le_of_ble_eq_true rfl) (⟨rfl, hT⟩)
set_option maxHeartbeats 4000000 in
set_option maxRecDepth 100000 in
theorem zX3_givenTo (l : Launch) (hfl : l.stackTraces = false) (D : va_G) (cI cL cE cP : ClassId) (ad : Nat → Nat) (g : Nat → Nat → Int32) (n k : Nat) (us wb tr : Nat → Int32) (pr le : Nat → Int64) (tk gf : Int32) (hok : zOk g n k) (y : Int32) (sz : Nat) : vx_Met l yX3_givenTo wsX3_givenTo ({ frames := 6, cells := 1, slots := 6, locals := 111 }) (zPx D cI cL cE cP (cws cI cL cE cP ad g n k us wb tr pr le tk gf) sz [.ref (ad 0), .int y]) (zQi D (cws cI cL cE cP ad g n k us wb tr pr le tk gf) sz (fun r : Int32 => (T_amount k y = 0 ∧ r = tkE (LEO (zfl (US g k) us n) (zfl (WB g k) wb (32 * n)) pr le n) k y)) (cws cI cL cE cP ad g n k (zfl (US g k) us n) (zfl (WB g k) wb (32 * n)) tr (PRO (zfl (WB g k) wb (32 * n)) pr n) (LEO (zfl (US g k) us n) (zfl (WB g k) wb (32 * n)) pr le n) (nI n) (nI k))) (zXC D (cws cI cL cE cP ad g n k us wb tr pr le tk gf) sz (fun E => (E = "java/lang/IndexOutOfBoundsException" ∧ T_amount k y = 1))) 1 6 (va_A (cws cI cL cE cP ad g n k us wb tr pr le tk gf) sz) := by
  refine vx_ofW (cc := cX3_givenTo) (maxL := 2) (ret := (some .int)) (by decide) rfl ?_
  intro p e s m args below meth c s₁ B hml htab hv
  obtain ⟨rfl, hsz, hE, hP, hD0, hX, hU0⟩ := hv
  subst hsz
  obtain ⟨A, hAe⟩ : ∃ A, A = va_A (cws cI cL cE cP ad g n k us wb tr pr le tk gf) s.heap.size := ⟨_, rfl⟩
  have hD : va_D A (cws cI cL cE cP ad g n k us wb tr pr le tk gf) := by rw [hAe]; exact hD0.self
  have hA : ∀ q : Nat, s.heap.size ≤ q → A q := fun q h => by rw [hAe]; exact Or.inr h
  have hS : va_S A s.heap s.heap [] := va_S.rf
  have hU : zU A s s.heap := by rw [hAe]; exact hU0
  have hx := B.exec
  have hb := B.bytes
  have hr := B.returns
  have hts := atoms_spec (ws := wsX3_givenTo) B.pre
  have hown : s.vm.findClass RX3 = some m.cls := findClass_of_methodNamed B.named
  have hlocks := B.notSynchronized
  have hK := hE.1
  have iX3 : ∀ w ∈ wsX30, w ∈ wsX3_givenTo := by decide +kernel
  have hl := lv_entry ([.ref (ad 0), .int y]) (n := 2) (Nat.le_of_ble_eq_true rfl)
  rw [lg_entry_eq]
  generalize (lg_sl ([.ref (ad 0), .int y]) ++ List.replicate (2 - (lg_sl ([.ref (ad 0), .int y])).length) Slot.unset).toArray = ls at hl ⊢
  have hl : lv_has ls 2 [(0, .ref (ad 0)), (1, .int y)] := hl
  refine lv_aload_n hx hb dX3_givenTo_0 rfl (lv_at hl 0 rfl) ?_
  refine lv_iload_n hx hb dX3_givenTo_1 rfl (lv_at hl 1 rfl) ?_
  refine va_csq (va_Run.run (va_runV (As := [.int y]) (rest := []) ⟨hx, hb, hml, hown, hts⟩ (zX3_pieceAt l D cI cL cE cP ad g n k us wb tr pr le tk gf hok (y)) (cwV 1 hts gX3_givenTo_X3_pieceAt rfl rfl rfl (by decide +kernel) ⟨Nat.le_of_ble_eq_true rfl, Nat.le_of_ble_eq_true rfl⟩) ⟨zPr_blind, va_recv hK hP (ci := 3) (q0 := 0) rfl cws_0, zPr_mk hE hP⟩ rfl rfl hl.1 rfl (lv_room (Nat.le_of_ble_eq_true rfl)) dX3_givenTo_2 ⟨Nat.le_of_ble_eq_true rfl, Nat.le_of_ble_eq_true rfl⟩)) (fun r_1 e_2 => ?_)
  rcases e_2 with ⟨j, hj, e_2, rfl⟩ | ⟨rfl, e_2⟩
  · have cY : zex k y = true := zex_t hok.k8 hj e_2
    have hyj : y.toNatClampNeg = j := by rw [e_2, nI_clamp (by have := hok.k; omega)]
    refine lv_ifnonnull (tgt := 18) hx hb dX3_givenTo_5 (by decide) ?_
    refine lv_aload_n hx hb dX3_givenTo_18 rfl (lv_at hl 0 rfl) ?_
    refine zcallv (va_runV (As := []) (rest := []) ⟨hx, hb, hml, hown, hts⟩ (zX3_findBest l D cI cL cE cP ad g n k us wb tr pr le tk gf hok s.heap.size) (cwV 0 hts gX3_givenTo_X3_findBest rfl rfl rfl (by decide +kernel) ⟨Nat.le_of_ble_eq_true rfl, Nat.le_of_ble_eq_true rfl⟩) ⟨zPw_blind, va_recv hK hP (ci := 3) (q0 := 0) rfl cws_0, zPw_mk hE hP hD⟩ rfl rfl hl.1 rfl (lv_room (Nat.le_of_ble_eq_true rfl)) dX3_givenTo_19 ⟨Nat.le_of_ble_eq_true rfl, Nat.le_of_ble_eq_true rfl⟩) hD hS hA (fun H locs hP hD hS => ?_)
    have hP : va_P D vwCl (cws cI cL cE cP ad g n k (zfl (US g k) us n) (zfl (WB g k) wb (32 * n)) tr (PRO (zfl (WB g k) wb (32 * n)) pr n) (LEO (zfl (US g k) us n) (zfl (WB g k) wb (32 * n)) pr le n) (nI n) (nI k)) H := hP
    have hD : va_D A (cws cI cL cE cP ad g n k (zfl (US g k) us n) (zfl (WB g k) wb (32 * n)) tr (PRO (zfl (WB g k) wb (32 * n)) pr n) (LEO (zfl (US g k) us n) (zfl (WB g k) wb (32 * n)) pr le n) (nI n) (nI k)) := hD
    refine lv_aload_n hx hb dX3_givenTo_22 rfl (lv_at hl 0 rfl) ?_
    refine va_get (D := D) (ci := 3) (v := .ref (ad 5)) (C := RX3) (T := TX3) (N := 9) hx hb hts iX3 hown hK hP 0 cws_0 rfl 4 (by decide) (hts (.fieldLink RX3 31 "CapitalReckoner" "search" "LCapitalReckoner$Search;") (by decide +kernel)) (fun _ h9 => h9) rfl dX3_givenTo_23 ?_
    refine lv_iload_n hx hb dX3_givenTo_26 rfl (lv_at hl 1 rfl) ?_
    refine vp_callSi (va_Run.run (va_runVN (As := [.int y]) (rest := []) ⟨hx, hb, hml, hown, hts⟩ (zX2_takerOf l D cI cL cE cP ad g n k (zfl (US g k) us n) (zfl (WB g k) wb (32 * n)) tr (PRO (zfl (WB g k) wb (32 * n)) pr n) (LEO (zfl (US g k) us n) (zfl (WB g k) wb (32 * n)) pr le n) hok (y)) ⟨va_cnB 1 hts gX3_givenTo_X2_takerOf_n172 rfl rfl rfl (hE.2 (.methodLinkNest RX3 172 yX2_takerOf RX3) (List.mem_of_getElem? (i := 17) rfl)) (hts (.initialized RX2) (by decide +kernel)) (by decide +kernel) ⟨Nat.le_of_ble_eq_true rfl, Nat.le_of_ble_eq_true rfl⟩, (hts (.instanceMethod yX2_takerOf) (by decide +kernel)), (hts (.selects RX2 yX2_takerOf yX2_takerOf) (by decide +kernel))⟩ ⟨zPr_blind, va_recv hK hP (ci := 2) (q0 := 5) rfl cws_5, zPr_mk hE hP⟩ rfl rfl hl.1 rfl (lv_room (Nat.le_of_ble_eq_true rfl)) dX3_givenTo_27 ⟨Nat.le_of_ble_eq_true rfl, Nat.le_of_ble_eq_true rfl⟩)) (fun r_5 e_6 => ?_)
    obtain rfl := e_6
    have hT : T_amount k y = 0 := by simp [T_amount, cY, hyj]
    refine W.widen (k := 1) (n := 6) (Nat.le_of_ble_eq_true rfl) (Nat.le_of_ble_eq_true rfl) ?_
    exact vx_ret (ziret (v := tkE (LEO (zfl (US g k) us n) (zfl (WB g k) wb (32 * n)) pr le n) k y) hx hb hr hAe ⟨hT, rfl⟩ (zP_re hP (rfl)) (zD_re hD (rfl)) hS dX3_givenTo_30)
  · have cY : zex k y = false := zex_f hok.k8 e_2
    refine lv_ifnonnullN hx hb dX3_givenTo_5 ?_
    have hT : T_amount k y = 1 := by simp [T_amount, cY]
    exact zthrow (pc := 8) (cls := "java/lang/IndexOutOfBoundsException") (text := "no such piece") (is := 153) (ic := 56) (ik := 52) hx hb hfl hown hlocks htab hml hl.1 (by decide +kernel) (by decide +kernel) (hts (.classLink RX3 52 "java/lang/IndexOutOfBoundsException") (by decide +kernel)) (hts (.initialized "java/lang/IndexOutOfBoundsException") (by decide +kernel)) (fun w h => hts w (List.mem_cons_of_mem _ (List.mem_append_right _ h))) (by decide +kernel) (by decide +kernel) (by decide +kernel) hX hAe hU hP hD hS dX3_givenTo_8 dX3_givenTo_11 dX3_givenTo_12 dX3_givenTo_14 dX3_givenTo_17 (Nat.le_of_ble_eq_true rfl) (Nat.le_of_ble_eq_true rfl) (Nat.le_of_ble_eq_true rfl) (Nat.le_of_ble_eq_true rfl) (Nat.le_of_ble_eq_true rfl) (Nat.le_of_ble_eq_true rfl) (⟨rfl, hT⟩)
set_option maxHeartbeats 4000000 in
set_option maxRecDepth 100000 in
theorem zX3_bare (l : Launch) (hfl : l.stackTraces = false) (D : va_G) (cI cL cE cP : ClassId) (ad : Nat → Nat) (g : Nat → Nat → Int32) (n k : Nat) (us wb tr : Nat → Int32) (pr le : Nat → Int64) (tk gf : Int32) (hok : zOk g n k) (x : Int32) (sz : Nat) : vx_Met l yX3_bare wsX3_bare ({ frames := 6, cells := 1, slots := 6, locals := 111 }) (zPx D cI cL cE cP (cws cI cL cE cP ad g n k us wb tr pr le tk gf) sz [.ref (ad 0), .int x]) (zQi D (cws cI cL cE cP ad g n k us wb tr pr le tk gf) sz (fun r : Int32 => (T_amount n x = 0 ∧ r = bw g k x.toNatClampNeg (gsL (LEO (zfl (US g k) us n) (zfl (WB g k) wb (32 * n)) pr le n) k x k))) (cws cI cL cE cP ad g n k (zfl (US g k) us n) (zfl (WB g k) wb (32 * n)) tr (PRO (zfl (WB g k) wb (32 * n)) pr n) (LEO (zfl (US g k) us n) (zfl (WB g k) wb (32 * n)) pr le n) (nI n) (nI k))) (zXC D (cws cI cL cE cP ad g n k us wb tr pr le tk gf) sz (fun E => (E = "java/lang/IndexOutOfBoundsException" ∧ T_amount n x = 1))) 1 6 (va_A (cws cI cL cE cP ad g n k us wb tr pr le tk gf) sz) := by
  refine vx_ofW (cc := cX3_bare) (maxL := 3) (ret := (some .int)) (by decide) rfl ?_
  intro p e s m args below meth c s₁ B hml htab hv
  obtain ⟨rfl, hsz, hE, hP, hD0, hX, hU0⟩ := hv
  subst hsz
  obtain ⟨A, hAe⟩ : ∃ A, A = va_A (cws cI cL cE cP ad g n k us wb tr pr le tk gf) s.heap.size := ⟨_, rfl⟩
  have hD : va_D A (cws cI cL cE cP ad g n k us wb tr pr le tk gf) := by rw [hAe]; exact hD0.self
  have hA : ∀ q : Nat, s.heap.size ≤ q → A q := fun q h => by rw [hAe]; exact Or.inr h
  have hS : va_S A s.heap s.heap [] := va_S.rf
  have hU : zU A s s.heap := by rw [hAe]; exact hU0
  have hx := B.exec
  have hb := B.bytes
  have hr := B.returns
  have hts := atoms_spec (ws := wsX3_bare) B.pre
  have hown : s.vm.findClass RX3 = some m.cls := findClass_of_methodNamed B.named
  have hlocks := B.notSynchronized
  have hK := hE.1
  have iX3 : ∀ w ∈ wsX30, w ∈ wsX3_bare := by decide +kernel
  have hl := lv_entry ([.ref (ad 0), .int x]) (n := 3) (Nat.le_of_ble_eq_true rfl)
  rw [lg_entry_eq]
  generalize (lg_sl ([.ref (ad 0), .int x]) ++ List.replicate (3 - (lg_sl ([.ref (ad 0), .int x])).length) Slot.unset).toArray = ls at hl ⊢
  have hl : lv_has ls 3 [(0, .ref (ad 0)), (1, .int x)] := hl
  refine lv_aload_n hx hb dX3_bare_0 rfl (lv_at hl 0 rfl) ?_
  refine lv_iload_n hx hb dX3_bare_1 rfl (lv_at hl 1 rfl) ?_
  refine va_csq (va_Run.run (va_runV (As := [.int x]) (rest := []) ⟨hx, hb, hml, hown, hts⟩ (zX3_exposureAt l D cI cL cE cP ad g n k us wb tr pr le tk gf hok (x)) (cwV 1 hts gX3_bare_X3_exposureAt rfl rfl rfl (by decide +kernel) ⟨Nat.le_of_ble_eq_true rfl, Nat.le_of_ble_eq_true rfl⟩) ⟨zPr_blind, va_recv hK hP (ci := 3) (q0 := 0) rfl cws_0, zPr_mk hE hP⟩ rfl rfl hl.1 rfl (lv_room (Nat.le_of_ble_eq_true rfl)) dX3_bare_2 ⟨Nat.le_of_ble_eq_true rfl, Nat.le_of_ble_eq_true rfl⟩)) (fun r_1 e_2 => ?_)
  rcases e_2 with ⟨i, hi, e_2, rfl⟩ | ⟨rfl, e_2⟩
  · have cX : zex n x = true := zex_t hok.n hi e_2
    have hxi : x.toNatClampNeg = i := by rw [e_2, nI_clamp (by have := hok.n; omega)]
    refine lv_astore_n (lv' := [(2, .ref (ad (11 + i))), (0, .ref (ad 0)), (1, .int x)]) hx hb dX3_bare_5 rfl hl (by decide) rfl (fun ls hl => ?_)
    refine lv_aload_n hx hb dX3_bare_6 rfl (lv_at hl 0 rfl) ?_
    refine lv_ifnonnull (tgt := 20) hx hb dX3_bare_7 (by decide) ?_
    refine lv_aload_n hx hb dX3_bare_20 rfl (lv_at hl 1 rfl) ?_
    refine zcallv (va_runV (As := []) (rest := []) ⟨hx, hb, hml, hown, hts⟩ (zX3_findBest l D cI cL cE cP ad g n k us wb tr pr le tk gf hok s.heap.size) (cwV 0 hts gX3_bare_X3_findBest rfl rfl rfl (by decide +kernel) ⟨Nat.le_of_ble_eq_true rfl, Nat.le_of_ble_eq_true rfl⟩) ⟨zPw_blind, va_recv hK hP (ci := 3) (q0 := 0) rfl cws_0, zPw_mk hE hP hD⟩ rfl rfl hl.1 rfl (lv_room (Nat.le_of_ble_eq_true rfl)) dX3_bare_21 ⟨Nat.le_of_ble_eq_true rfl, Nat.le_of_ble_eq_true rfl⟩) hD hS hA (fun H locs hP hD hS => ?_)
    have hP : va_P D vwCl (cws cI cL cE cP ad g n k (zfl (US g k) us n) (zfl (WB g k) wb (32 * n)) tr (PRO (zfl (WB g k) wb (32 * n)) pr n) (LEO (zfl (US g k) us n) (zfl (WB g k) wb (32 * n)) pr le n) (nI n) (nI k)) H := hP
    have hD : va_D A (cws cI cL cE cP ad g n k (zfl (US g k) us n) (zfl (WB g k) wb (32 * n)) tr (PRO (zfl (WB g k) wb (32 * n)) pr n) (LEO (zfl (US g k) us n) (zfl (WB g k) wb (32 * n)) pr le n) (nI n) (nI k)) := hD
    refine lv_aload_n hx hb dX3_bare_24 rfl (lv_at hl 1 rfl) ?_
    refine lv_aload_n hx hb dX3_bare_25 rfl (lv_at hl 0 rfl) ?_
    refine lv_aload_n hx hb dX3_bare_26 rfl (lv_at hl 1 rfl) ?_
    refine va_get (D := D) (ci := 3) (v := .ref (ad 5)) (C := RX3) (T := TX3) (N := 9) hx hb hts iX3 hown hK hP 0 cws_0 rfl 4 (by decide) (hts (.fieldLink RX3 31 "CapitalReckoner" "search" "LCapitalReckoner$Search;") (by decide +kernel)) (fun _ h9 => h9) rfl dX3_bare_27 ?_
    refine lv_iload_n hx hb dX3_bare_30 rfl (lv_at hl 2 rfl) ?_
    refine vp_callSi (va_Run.run (va_runVN (As := [.int x]) (rest := [.ref (ad (11 + i)), .ref (ad 0)]) ⟨hx, hb, hml, hown, hts⟩ (zX2_givenSet l D cI cL cE cP ad g n k (zfl (US g k) us n) (zfl (WB g k) wb (32 * n)) tr (PRO (zfl (WB g k) wb (32 * n)) pr n) (LEO (zfl (US g k) us n) (zfl (WB g k) wb (32 * n)) pr le n) hok (x)) ⟨va_cnB 1 hts gX3_bare_X2_givenSet_n176 rfl rfl rfl (hE.2 (.methodLinkNest RX3 176 yX2_givenSet RX3) (List.mem_of_getElem? (i := 14) rfl)) (hts (.initialized RX2) (by decide +kernel)) (by decide +kernel) ⟨Nat.le_of_ble_eq_true rfl, Nat.le_of_ble_eq_true rfl⟩, (hts (.instanceMethod yX2_givenSet) (by decide +kernel)), (hts (.selects RX2 yX2_givenSet yX2_givenSet) (by decide +kernel))⟩ ⟨zPr_blind, va_recv hK hP (ci := 2) (q0 := 5) rfl cws_5, zPr_mk hE hP⟩ rfl rfl hl.1 rfl (lv_room (Nat.le_of_ble_eq_true rfl)) dX3_bare_31 ⟨Nat.le_of_ble_eq_true rfl, Nat.le_of_ble_eq_true rfl⟩)) (fun r_5 e_6 => ?_)
    obtain rfl := e_6
    refine vp_callSi (va_Run.run (va_runV (As := [.ref (ad (11 + i)), .int (gsL (LEO (zfl (US g k) us n) (zfl (WB g k) wb (32 * n)) pr le n) k x k)]) (rest := []) ⟨hx, hb, hml, hown, hts⟩ (zX3_bareWith l D cI cL cE cP ad g n k (zfl (US g k) us n) (zfl (WB g k) wb (32 * n)) tr (PRO (zfl (WB g k) wb (32 * n)) pr n) (LEO (zfl (US g k) us n) (zfl (WB g k) wb (32 * n)) pr le n) (nI n) (nI k) hok i hi (gsL (LEO (zfl (US g k) us n) (zfl (WB g k) wb (32 * n)) pr le n) k x k)) (cwV 2 hts gX3_bare_X3_bareWith rfl rfl rfl (by decide +kernel) ⟨Nat.le_of_ble_eq_true rfl, Nat.le_of_ble_eq_true rfl⟩) ⟨zPr_blind, va_recv hK hP (ci := 3) (q0 := 0) rfl cws_0, zPr_mk hE hP⟩ rfl rfl hl.1 rfl (lv_room (Nat.le_of_ble_eq_true rfl)) dX3_bare_34 ⟨Nat.le_of_ble_eq_true rfl, Nat.le_of_ble_eq_true rfl⟩)) (fun r_7 e_8 => ?_)
    obtain rfl := e_8
    have hT : T_amount n x = 0 := by simp [T_amount, cX, hxi]
    refine W.widen (k := 1) (n := 6) (Nat.le_of_ble_eq_true rfl) (Nat.le_of_ble_eq_true rfl) ?_
    exact vx_ret (ziret (v := bw g k i (gsL (LEO (zfl (US g k) us n) (zfl (WB g k) wb (32 * n)) pr le n) k x k)) hx hb hr hAe ⟨hT, by rw [hxi]⟩ (zP_re hP (rfl)) (zD_re hD (rfl)) hS dX3_bare_37)
  · have cX : zex n x = false := zex_f hok.n e_2
    refine lv_astore_nN (lv' := [(2, .null), (0, .ref (ad 0)), (1, .int x)]) hx hb dX3_bare_5 rfl hl (by decide) rfl (fun ls hl => ?_)
    refine lv_aload_nN hx hb dX3_bare_6 rfl (lv_at hl 0 rfl) ?_
    refine lv_ifnonnullN hx hb dX3_bare_7 ?_
    have hT : T_amount n x = 1 := by simp [T_amount, cX]
    exact zthrow (pc := 10) (cls := "java/lang/IndexOutOfBoundsException") (text := "no such exposure") (is := 109) (ic := 56) (ik := 52) hx hb hfl hown hlocks htab hml hl.1 (by decide +kernel) (by decide +kernel) (hts (.classLink RX3 52 "java/lang/IndexOutOfBoundsException") (by decide +kernel)) (hts (.initialized "java/lang/IndexOutOfBoundsException") (by decide +kernel)) (fun w h => hts w (List.mem_cons_of_mem _ (List.mem_append_right _ h))) (by decide +kernel) (by decide +kernel) (by decide +kernel) hX hAe hU hP hD hS dX3_bare_10 dX3_bare_13 dX3_bare_14 dX3_bare_16 dX3_bare_19 (Nat.le_of_ble_eq_true rfl) (Nat.le_of_ble_eq_true rfl) (Nat.le_of_ble_eq_true rfl) (Nat.le_of_ble_eq_true rfl) (Nat.le_of_ble_eq_true rfl) (Nat.le_of_ble_eq_true rfl) (⟨rfl, hT⟩)
set_option maxHeartbeats 4000000 in
set_option maxRecDepth 100000 in
theorem zX3_weighted (l : Launch) (hfl : l.stackTraces = false) (D : va_G) (cI cL cE cP : ClassId) (ad : Nat → Nat) (g : Nat → Nat → Int32) (n k : Nat) (us wb tr : Nat → Int32) (pr le : Nat → Int64) (tk gf : Int32) (hok : zOk g n k) (x : Int32) (sz : Nat) : vx_Met l yX3_weighted wsX3_weighted ({ frames := 6, cells := 1, slots := 6, locals := 111 }) (zPx D cI cL cE cP (cws cI cL cE cP ad g n k us wb tr pr le tk gf) sz [.ref (ad 0), .int x]) (zQi D (cws cI cL cE cP ad g n k us wb tr pr le tk gf) sz (fun r : Int32 => (T_amount n x = 0 ∧ r = wo g x.toNatClampNeg (bw g k x.toNatClampNeg (gsL (LEO (zfl (US g k) us n) (zfl (WB g k) wb (32 * n)) pr le n) k x k)))) (cws cI cL cE cP ad g n k (zfl (US g k) us n) (zfl (WB g k) wb (32 * n)) tr (PRO (zfl (WB g k) wb (32 * n)) pr n) (LEO (zfl (US g k) us n) (zfl (WB g k) wb (32 * n)) pr le n) (nI n) (nI k))) (zXC D (cws cI cL cE cP ad g n k us wb tr pr le tk gf) sz (fun E => (E = "java/lang/IndexOutOfBoundsException" ∧ T_amount n x = 1))) 1 6 (va_A (cws cI cL cE cP ad g n k us wb tr pr le tk gf) sz) := by
  refine vx_ofW (cc := cX3_weighted) (maxL := 3) (ret := (some .int)) (by decide) rfl ?_
  intro p e s m args below meth c s₁ B hml htab hv
  obtain ⟨rfl, hsz, hE, hP, hD0, hX, hU0⟩ := hv
  subst hsz
  obtain ⟨A, hAe⟩ : ∃ A, A = va_A (cws cI cL cE cP ad g n k us wb tr pr le tk gf) s.heap.size := ⟨_, rfl⟩
  have hD : va_D A (cws cI cL cE cP ad g n k us wb tr pr le tk gf) := by rw [hAe]; exact hD0.self
  have hA : ∀ q : Nat, s.heap.size ≤ q → A q := fun q h => by rw [hAe]; exact Or.inr h
  have hS : va_S A s.heap s.heap [] := va_S.rf
  have hU : zU A s s.heap := by rw [hAe]; exact hU0
  have hx := B.exec
  have hb := B.bytes
  have hr := B.returns
  have hts := atoms_spec (ws := wsX3_weighted) B.pre
  have hown : s.vm.findClass RX3 = some m.cls := findClass_of_methodNamed B.named
  have hlocks := B.notSynchronized
  have hK := hE.1
  have iX3 : ∀ w ∈ wsX30, w ∈ wsX3_weighted := by decide +kernel
  have hl := lv_entry ([.ref (ad 0), .int x]) (n := 3) (Nat.le_of_ble_eq_true rfl)
  rw [lg_entry_eq]
  generalize (lg_sl ([.ref (ad 0), .int x]) ++ List.replicate (3 - (lg_sl ([.ref (ad 0), .int x])).length) Slot.unset).toArray = ls at hl ⊢
  have hl : lv_has ls 3 [(0, .ref (ad 0)), (1, .int x)] := hl
  refine lv_aload_n hx hb dX3_weighted_0 rfl (lv_at hl 0 rfl) ?_
  refine lv_iload_n hx hb dX3_weighted_1 rfl (lv_at hl 1 rfl) ?_
  refine va_csq (va_Run.run (va_runV (As := [.int x]) (rest := []) ⟨hx, hb, hml, hown, hts⟩ (zX3_exposureAt l D cI cL cE cP ad g n k us wb tr pr le tk gf hok (x)) (cwV 1 hts gX3_weighted_X3_exposureAt rfl rfl rfl (by decide +kernel) ⟨Nat.le_of_ble_eq_true rfl, Nat.le_of_ble_eq_true rfl⟩) ⟨zPr_blind, va_recv hK hP (ci := 3) (q0 := 0) rfl cws_0, zPr_mk hE hP⟩ rfl rfl hl.1 rfl (lv_room (Nat.le_of_ble_eq_true rfl)) dX3_weighted_2 ⟨Nat.le_of_ble_eq_true rfl, Nat.le_of_ble_eq_true rfl⟩)) (fun r_1 e_2 => ?_)
  rcases e_2 with ⟨i, hi, e_2, rfl⟩ | ⟨rfl, e_2⟩
  · have cX : zex n x = true := zex_t hok.n hi e_2
    have hxi : x.toNatClampNeg = i := by rw [e_2, nI_clamp (by have := hok.n; omega)]
    refine lv_astore_n (lv' := [(2, .ref (ad (11 + i))), (0, .ref (ad 0)), (1, .int x)]) hx hb dX3_weighted_5 rfl hl (by decide) rfl (fun ls hl => ?_)
    refine lv_aload_n hx hb dX3_weighted_6 rfl (lv_at hl 0 rfl) ?_
    refine lv_ifnonnull (tgt := 20) hx hb dX3_weighted_7 (by decide) ?_
    refine lv_aload_n hx hb dX3_weighted_20 rfl (lv_at hl 1 rfl) ?_
    refine zcallv (va_runV (As := []) (rest := []) ⟨hx, hb, hml, hown, hts⟩ (zX3_findBest l D cI cL cE cP ad g n k us wb tr pr le tk gf hok s.heap.size) (cwV 0 hts gX3_weighted_X3_findBest rfl rfl rfl (by decide +kernel) ⟨Nat.le_of_ble_eq_true rfl, Nat.le_of_ble_eq_true rfl⟩) ⟨zPw_blind, va_recv hK hP (ci := 3) (q0 := 0) rfl cws_0, zPw_mk hE hP hD⟩ rfl rfl hl.1 rfl (lv_room (Nat.le_of_ble_eq_true rfl)) dX3_weighted_21 ⟨Nat.le_of_ble_eq_true rfl, Nat.le_of_ble_eq_true rfl⟩) hD hS hA (fun H locs hP hD hS => ?_)
    have hP : va_P D vwCl (cws cI cL cE cP ad g n k (zfl (US g k) us n) (zfl (WB g k) wb (32 * n)) tr (PRO (zfl (WB g k) wb (32 * n)) pr n) (LEO (zfl (US g k) us n) (zfl (WB g k) wb (32 * n)) pr le n) (nI n) (nI k)) H := hP
    have hD : va_D A (cws cI cL cE cP ad g n k (zfl (US g k) us n) (zfl (WB g k) wb (32 * n)) tr (PRO (zfl (WB g k) wb (32 * n)) pr n) (LEO (zfl (US g k) us n) (zfl (WB g k) wb (32 * n)) pr le n) (nI n) (nI k)) := hD
    refine lv_aload_n hx hb dX3_weighted_24 rfl (lv_at hl 1 rfl) ?_
    refine lv_aload_n hx hb dX3_weighted_25 rfl (lv_at hl 0 rfl) ?_
    refine lv_aload_n hx hb dX3_weighted_26 rfl (lv_at hl 1 rfl) ?_
    refine lv_aload_n hx hb dX3_weighted_27 rfl (lv_at hl 0 rfl) ?_
    refine lv_aload_n hx hb dX3_weighted_28 rfl (lv_at hl 1 rfl) ?_
    refine va_get (D := D) (ci := 3) (v := .ref (ad 5)) (C := RX3) (T := TX3) (N := 9) hx hb hts iX3 hown hK hP 0 cws_0 rfl 4 (by decide) (hts (.fieldLink RX3 31 "CapitalReckoner" "search" "LCapitalReckoner$Search;") (by decide +kernel)) (fun _ h9 => h9) rfl dX3_weighted_29 ?_
    refine lv_iload_n hx hb dX3_weighted_32 rfl (lv_at hl 2 rfl) ?_
    refine vp_callSi (va_Run.run (va_runVN (As := [.int x]) (rest := [.ref (ad (11 + i)), .ref (ad 0), .ref (ad (11 + i)), .ref (ad 0)]) ⟨hx, hb, hml, hown, hts⟩ (zX2_givenSet l D cI cL cE cP ad g n k (zfl (US g k) us n) (zfl (WB g k) wb (32 * n)) tr (PRO (zfl (WB g k) wb (32 * n)) pr n) (LEO (zfl (US g k) us n) (zfl (WB g k) wb (32 * n)) pr le n) hok (x)) ⟨va_cnB 1 hts gX3_weighted_X2_givenSet_n176 rfl rfl rfl (hE.2 (.methodLinkNest RX3 176 yX2_givenSet RX3) (List.mem_of_getElem? (i := 14) rfl)) (hts (.initialized RX2) (by decide +kernel)) (by decide +kernel) ⟨Nat.le_of_ble_eq_true rfl, Nat.le_of_ble_eq_true rfl⟩, (hts (.instanceMethod yX2_givenSet) (by decide +kernel)), (hts (.selects RX2 yX2_givenSet yX2_givenSet) (by decide +kernel))⟩ ⟨zPr_blind, va_recv hK hP (ci := 2) (q0 := 5) rfl cws_5, zPr_mk hE hP⟩ rfl rfl hl.1 rfl (lv_room (Nat.le_of_ble_eq_true rfl)) dX3_weighted_33 ⟨Nat.le_of_ble_eq_true rfl, Nat.le_of_ble_eq_true rfl⟩)) (fun r_5 e_6 => ?_)
    obtain rfl := e_6
    refine vp_callSi (va_Run.run (va_runV (As := [.ref (ad (11 + i)), .int (gsL (LEO (zfl (US g k) us n) (zfl (WB g k) wb (32 * n)) pr le n) k x k)]) (rest := [.ref (ad (11 + i)), .ref (ad 0)]) ⟨hx, hb, hml, hown, hts⟩ (zX3_bareWith l D cI cL cE cP ad g n k (zfl (US g k) us n) (zfl (WB g k) wb (32 * n)) tr (PRO (zfl (WB g k) wb (32 * n)) pr n) (LEO (zfl (US g k) us n) (zfl (WB g k) wb (32 * n)) pr le n) (nI n) (nI k) hok i hi (gsL (LEO (zfl (US g k) us n) (zfl (WB g k) wb (32 * n)) pr le n) k x k)) (cwV 2 hts gX3_weighted_X3_bareWith rfl rfl rfl (by decide +kernel) ⟨Nat.le_of_ble_eq_true rfl, Nat.le_of_ble_eq_true rfl⟩) ⟨zPr_blind, va_recv hK hP (ci := 3) (q0 := 0) rfl cws_0, zPr_mk hE hP⟩ rfl rfl hl.1 rfl (lv_room (Nat.le_of_ble_eq_true rfl)) dX3_weighted_36 ⟨Nat.le_of_ble_eq_true rfl, Nat.le_of_ble_eq_true rfl⟩)) (fun r_7 e_8 => ?_)
    obtain rfl := e_8
    refine vp_callSi (va_Run.run (va_runV (As := [.ref (ad (11 + i)), .int (bw g k i (gsL (LEO (zfl (US g k) us n) (zfl (WB g k) wb (32 * n)) pr le n) k x k))]) (rest := []) ⟨hx, hb, hml, hown, hts⟩ (zX3_weightedOf l D cI cL cE cP ad g n k (zfl (US g k) us n) (zfl (WB g k) wb (32 * n)) tr (PRO (zfl (WB g k) wb (32 * n)) pr n) (LEO (zfl (US g k) us n) (zfl (WB g k) wb (32 * n)) pr le n) (nI n) (nI k) hok i hi (bw g k i (gsL (LEO (zfl (US g k) us n) (zfl (WB g k) wb (32 * n)) pr le n) k x k))) (cwV 2 hts gX3_weighted_X3_weightedOf rfl rfl rfl (by decide +kernel) ⟨Nat.le_of_ble_eq_true rfl, Nat.le_of_ble_eq_true rfl⟩) ⟨zPr_blind, va_recv hK hP (ci := 3) (q0 := 0) rfl cws_0, zPr_mk hE hP⟩ rfl rfl hl.1 rfl (lv_room (Nat.le_of_ble_eq_true rfl)) dX3_weighted_39 ⟨Nat.le_of_ble_eq_true rfl, Nat.le_of_ble_eq_true rfl⟩)) (fun r_9 e_10 => ?_)
    obtain rfl := e_10
    have hT : T_amount n x = 0 := by simp [T_amount, cX, hxi]
    refine W.widen (k := 1) (n := 6) (Nat.le_of_ble_eq_true rfl) (Nat.le_of_ble_eq_true rfl) ?_
    exact vx_ret (ziret (v := wo g i (bw g k i (gsL (LEO (zfl (US g k) us n) (zfl (WB g k) wb (32 * n)) pr le n) k x k))) hx hb hr hAe ⟨hT, by rw [hxi]⟩ (zP_re hP (rfl)) (zD_re hD (rfl)) hS dX3_weighted_42)
  · have cX : zex n x = false := zex_f hok.n e_2
    refine lv_astore_nN (lv' := [(2, .null), (0, .ref (ad 0)), (1, .int x)]) hx hb dX3_weighted_5 rfl hl (by decide) rfl (fun ls hl => ?_)
    refine lv_aload_nN hx hb dX3_weighted_6 rfl (lv_at hl 0 rfl) ?_
    refine lv_ifnonnullN hx hb dX3_weighted_7 ?_
    have hT : T_amount n x = 1 := by simp [T_amount, cX]
    exact zthrow (pc := 10) (cls := "java/lang/IndexOutOfBoundsException") (text := "no such exposure") (is := 109) (ic := 56) (ik := 52) hx hb hfl hown hlocks htab hml hl.1 (by decide +kernel) (by decide +kernel) (hts (.classLink RX3 52 "java/lang/IndexOutOfBoundsException") (by decide +kernel)) (hts (.initialized "java/lang/IndexOutOfBoundsException") (by decide +kernel)) (fun w h => hts w (List.mem_cons_of_mem _ (List.mem_append_right _ h))) (by decide +kernel) (by decide +kernel) (by decide +kernel) hX hAe hU hP hD hS dX3_weighted_10 dX3_weighted_13 dX3_weighted_14 dX3_weighted_16 dX3_weighted_19 (Nat.le_of_ble_eq_true rfl) (Nat.le_of_ble_eq_true rfl) (Nat.le_of_ble_eq_true rfl) (Nat.le_of_ble_eq_true rfl) (Nat.le_of_ble_eq_true rfl) (Nat.le_of_ble_eq_true rfl) (⟨rfl, hT⟩)
set_option maxHeartbeats 4000000 in
set_option maxRecDepth 100000 in
theorem zX3_worth (l : Launch) (hfl : l.stackTraces = false) (D : va_G) (cI cL cE cP : ClassId) (ad : Nat → Nat) (g : Nat → Nat → Int32) (n k : Nat) (us wb tr : Nat → Int32) (pr le : Nat → Int64) (tk gf : Int32) (hok : zOk g n k) (y : Int32) (sz : Nat) : vx_Met l yX3_worth wsX3_worth ({ frames := 6, cells := 1, slots := 6, locals := 111 }) (zPx D cI cL cE cP (cws cI cL cE cP ad g n k us wb tr pr le tk gf) sz [.ref (ad 0), .int y]) (zQi D (cws cI cL cE cP ad g n k us wb tr pr le tk gf) sz (fun r : Int32 => (T_amount k y = 0 ∧ r = woE (LEO (zfl (US g k) us n) (zfl (WB g k) wb (32 * n)) pr le n) k y - bwE (LEO (zfl (US g k) us n) (zfl (WB g k) wb (32 * n)) pr le n) k)) (cws cI cL cE cP ad g n k (zfl (US g k) us n) (zfl (WB g k) wb (32 * n)) tr (PRO (zfl (WB g k) wb (32 * n)) pr n) (LEO (zfl (US g k) us n) (zfl (WB g k) wb (32 * n)) pr le n) (nI n) (nI k))) (zXC D (cws cI cL cE cP ad g n k us wb tr pr le tk gf) sz (fun E => (E = "java/lang/IndexOutOfBoundsException" ∧ T_amount k y = 1))) 1 6 (va_A (cws cI cL cE cP ad g n k us wb tr pr le tk gf) sz) := by
  refine vx_ofW (cc := cX3_worth) (maxL := 2) (ret := (some .int)) (by decide) rfl ?_
  intro p e s m args below meth c s₁ B hml htab hv
  obtain ⟨rfl, hsz, hE, hP, hD0, hX, hU0⟩ := hv
  subst hsz
  obtain ⟨A, hAe⟩ : ∃ A, A = va_A (cws cI cL cE cP ad g n k us wb tr pr le tk gf) s.heap.size := ⟨_, rfl⟩
  have hD : va_D A (cws cI cL cE cP ad g n k us wb tr pr le tk gf) := by rw [hAe]; exact hD0.self
  have hA : ∀ q : Nat, s.heap.size ≤ q → A q := fun q h => by rw [hAe]; exact Or.inr h
  have hS : va_S A s.heap s.heap [] := va_S.rf
  have hU : zU A s s.heap := by rw [hAe]; exact hU0
  have hx := B.exec
  have hb := B.bytes
  have hr := B.returns
  have hts := atoms_spec (ws := wsX3_worth) B.pre
  have hown : s.vm.findClass RX3 = some m.cls := findClass_of_methodNamed B.named
  have hlocks := B.notSynchronized
  have hK := hE.1
  have iX3 : ∀ w ∈ wsX30, w ∈ wsX3_worth := by decide +kernel
  have hl := lv_entry ([.ref (ad 0), .int y]) (n := 2) (Nat.le_of_ble_eq_true rfl)
  rw [lg_entry_eq]
  generalize (lg_sl ([.ref (ad 0), .int y]) ++ List.replicate (2 - (lg_sl ([.ref (ad 0), .int y])).length) Slot.unset).toArray = ls at hl ⊢
  have hl : lv_has ls 2 [(0, .ref (ad 0)), (1, .int y)] := hl
  refine lv_aload_n hx hb dX3_worth_0 rfl (lv_at hl 0 rfl) ?_
  refine lv_iload_n hx hb dX3_worth_1 rfl (lv_at hl 1 rfl) ?_
  refine va_csq (va_Run.run (va_runV (As := [.int y]) (rest := []) ⟨hx, hb, hml, hown, hts⟩ (zX3_pieceAt l D cI cL cE cP ad g n k us wb tr pr le tk gf hok (y)) (cwV 1 hts gX3_worth_X3_pieceAt rfl rfl rfl (by decide +kernel) ⟨Nat.le_of_ble_eq_true rfl, Nat.le_of_ble_eq_true rfl⟩) ⟨zPr_blind, va_recv hK hP (ci := 3) (q0 := 0) rfl cws_0, zPr_mk hE hP⟩ rfl rfl hl.1 rfl (lv_room (Nat.le_of_ble_eq_true rfl)) dX3_worth_2 ⟨Nat.le_of_ble_eq_true rfl, Nat.le_of_ble_eq_true rfl⟩)) (fun r_1 e_2 => ?_)
  rcases e_2 with ⟨j, hj, e_2, rfl⟩ | ⟨rfl, e_2⟩
  · have cY : zex k y = true := zex_t hok.k8 hj e_2
    have hyj : y.toNatClampNeg = j := by rw [e_2, nI_clamp (by have := hok.k; omega)]
    refine lv_ifnonnull (tgt := 18) hx hb dX3_worth_5 (by decide) ?_
    refine lv_aload_n hx hb dX3_worth_18 rfl (lv_at hl 0 rfl) ?_
    refine zcallv (va_runV (As := []) (rest := []) ⟨hx, hb, hml, hown, hts⟩ (zX3_findBest l D cI cL cE cP ad g n k us wb tr pr le tk gf hok s.heap.size) (cwV 0 hts gX3_worth_X3_findBest rfl rfl rfl (by decide +kernel) ⟨Nat.le_of_ble_eq_true rfl, Nat.le_of_ble_eq_true rfl⟩) ⟨zPw_blind, va_recv hK hP (ci := 3) (q0 := 0) rfl cws_0, zPw_mk hE hP hD⟩ rfl rfl hl.1 rfl (lv_room (Nat.le_of_ble_eq_true rfl)) dX3_worth_19 ⟨Nat.le_of_ble_eq_true rfl, Nat.le_of_ble_eq_true rfl⟩) hD hS hA (fun H locs hP hD hS => ?_)
    have hP : va_P D vwCl (cws cI cL cE cP ad g n k (zfl (US g k) us n) (zfl (WB g k) wb (32 * n)) tr (PRO (zfl (WB g k) wb (32 * n)) pr n) (LEO (zfl (US g k) us n) (zfl (WB g k) wb (32 * n)) pr le n) (nI n) (nI k)) H := hP
    have hD : va_D A (cws cI cL cE cP ad g n k (zfl (US g k) us n) (zfl (WB g k) wb (32 * n)) tr (PRO (zfl (WB g k) wb (32 * n)) pr n) (LEO (zfl (US g k) us n) (zfl (WB g k) wb (32 * n)) pr le n) (nI n) (nI k)) := hD
    refine lv_aload_n hx hb dX3_worth_22 rfl (lv_at hl 0 rfl) ?_
    refine va_get (D := D) (ci := 3) (v := .ref (ad 5)) (C := RX3) (T := TX3) (N := 9) hx hb hts iX3 hown hK hP 0 cws_0 rfl 4 (by decide) (hts (.fieldLink RX3 31 "CapitalReckoner" "search" "LCapitalReckoner$Search;") (by decide +kernel)) (fun _ h9 => h9) rfl dX3_worth_23 ?_
    refine lv_iload_n hx hb dX3_worth_26 rfl (lv_at hl 1 rfl) ?_
    refine vp_callSi (va_Run.run (va_runVN (As := [.int y]) (rest := []) ⟨hx, hb, hml, hown, hts⟩ (zX2_wholeWithout l D cI cL cE cP ad g n k (zfl (US g k) us n) (zfl (WB g k) wb (32 * n)) tr (PRO (zfl (WB g k) wb (32 * n)) pr n) (LEO (zfl (US g k) us n) (zfl (WB g k) wb (32 * n)) pr le n) hok (y)) ⟨va_cnB 1 hts gX3_worth_X2_wholeWithout_n195 rfl rfl rfl (hE.2 (.methodLinkNest RX3 195 yX2_wholeWithout RX3) (List.mem_of_getElem? (i := 18) rfl)) (hts (.initialized RX2) (by decide +kernel)) (by decide +kernel) ⟨Nat.le_of_ble_eq_true rfl, Nat.le_of_ble_eq_true rfl⟩, (hts (.instanceMethod yX2_wholeWithout) (by decide +kernel)), (hts (.selects RX2 yX2_wholeWithout yX2_wholeWithout) (by decide +kernel))⟩ ⟨zPr_blind, va_recv hK hP (ci := 2) (q0 := 5) rfl cws_5, zPr_mk hE hP⟩ rfl rfl hl.1 rfl (lv_room (Nat.le_of_ble_eq_true rfl)) dX3_worth_27 ⟨Nat.le_of_ble_eq_true rfl, Nat.le_of_ble_eq_true rfl⟩)) (fun r_5 e_6 => ?_)
    obtain rfl := e_6
    refine lv_aload_n hx hb dX3_worth_30 rfl (lv_at hl 0 rfl) ?_
    refine va_get (D := D) (ci := 3) (v := .ref (ad 5)) (C := RX3) (T := TX3) (N := 9) hx hb hts iX3 hown hK hP 0 cws_0 rfl 4 (by decide) (hts (.fieldLink RX3 31 "CapitalReckoner" "search" "LCapitalReckoner$Search;") (by decide +kernel)) (fun _ h9 => h9) rfl dX3_worth_31 ?_
    refine vp_callSi (va_Run.run (va_runVN (As := []) (rest := [.int (woE (LEO (zfl (US g k) us n) (zfl (WB g k) wb (32 * n)) pr le n) k y)]) ⟨hx, hb, hml, hown, hts⟩ (zX2_bestWhole l D cI cL cE cP ad g n k (zfl (US g k) us n) (zfl (WB g k) wb (32 * n)) tr (PRO (zfl (WB g k) wb (32 * n)) pr n) (LEO (zfl (US g k) us n) (zfl (WB g k) wb (32 * n)) pr le n) hok ) ⟨va_cnB 0 hts gX3_worth_X2_bestWhole_n186 rfl rfl rfl (hE.2 (.methodLinkNest RX3 186 yX2_bestWhole RX3) (List.mem_of_getElem? (i := 12) rfl)) (hts (.initialized RX2) (by decide +kernel)) (by decide +kernel) ⟨Nat.le_of_ble_eq_true rfl, Nat.le_of_ble_eq_true rfl⟩, (hts (.instanceMethod yX2_bestWhole) (by decide +kernel)), (hts (.selects RX2 yX2_bestWhole yX2_bestWhole) (by decide +kernel))⟩ ⟨zPr_blind, va_recv hK hP (ci := 2) (q0 := 5) rfl cws_5, zPr_mk hE hP⟩ rfl rfl hl.1 rfl (lv_room (Nat.le_of_ble_eq_true rfl)) dX3_worth_34 ⟨Nat.le_of_ble_eq_true rfl, Nat.le_of_ble_eq_true rfl⟩)) (fun r_7 e_8 => ?_)
    obtain rfl := e_8
    refine lv_isub hx hb dX3_worth_37 ?_
    have hT : T_amount k y = 0 := by simp [T_amount, cY, hyj]
    refine W.widen (k := 1) (n := 6) (Nat.le_of_ble_eq_true rfl) (Nat.le_of_ble_eq_true rfl) ?_
    exact vx_ret (ziret (v := (woE (LEO (zfl (US g k) us n) (zfl (WB g k) wb (32 * n)) pr le n) k y) - (bwE (LEO (zfl (US g k) us n) (zfl (WB g k) wb (32 * n)) pr le n) k)) hx hb hr hAe ⟨hT, rfl⟩ (zP_re hP (rfl)) (zD_re hD (rfl)) hS dX3_worth_38)
  · have cY : zex k y = false := zex_f hok.k8 e_2
    refine lv_ifnonnullN hx hb dX3_worth_5 ?_
    have hT : T_amount k y = 1 := by simp [T_amount, cY]
    exact zthrow (pc := 8) (cls := "java/lang/IndexOutOfBoundsException") (text := "no such piece") (is := 153) (ic := 56) (ik := 52) hx hb hfl hown hlocks htab hml hl.1 (by decide +kernel) (by decide +kernel) (hts (.classLink RX3 52 "java/lang/IndexOutOfBoundsException") (by decide +kernel)) (hts (.initialized "java/lang/IndexOutOfBoundsException") (by decide +kernel)) (fun w h => hts w (List.mem_cons_of_mem _ (List.mem_append_right _ h))) (by decide +kernel) (by decide +kernel) (by decide +kernel) hX hAe hU hP hD hS dX3_worth_8 dX3_worth_11 dX3_worth_12 dX3_worth_14 dX3_worth_17 (Nat.le_of_ble_eq_true rfl) (Nat.le_of_ble_eq_true rfl) (Nat.le_of_ble_eq_true rfl) (Nat.le_of_ble_eq_true rfl) (Nat.le_of_ble_eq_true rfl) (Nat.le_of_ble_eq_true rfl) (⟨rfl, hT⟩)
set_option maxHeartbeats 4000000 in
set_option maxRecDepth 100000 in
theorem zX3_partyBare (l : Launch) (hfl : l.stackTraces = false) (D : va_G) (cI cL cE cP : ClassId) (ad : Nat → Nat) (g : Nat → Nat → Int32) (n k : Nat) (us wb tr : Nat → Int32) (pr le : Nat → Int64) (tk gf : Int32) (hok : zOk g n k) (x : Int32) (sz : Nat) : vx_Met l yX3_partyBare wsX3_partyBare ({ frames := 6, cells := 1, slots := 6, locals := 111 }) (zPx D cI cL cE cP (cws cI cL cE cP ad g n k us wb tr pr le tk gf) sz [.ref (ad 0), .int x]) (zQi D (cws cI cL cE cP ad g n k us wb tr pr le tk gf) sz (fun r : Int32 => (T_party x = 0 ∧ r = bpL g k (LEO (zfl (US g k) us n) (zfl (WB g k) wb (32 * n)) pr le n) x n)) (cws cI cL cE cP ad g n k (zfl (US g k) us n) (zfl (WB g k) wb (32 * n)) tr (PRO (zfl (WB g k) wb (32 * n)) pr n) (LEO (zfl (US g k) us n) (zfl (WB g k) wb (32 * n)) pr le n) (nI n) (nI k))) (zXC D (cws cI cL cE cP ad g n k us wb tr pr le tk gf) sz (fun E => (E = "java/lang/IndexOutOfBoundsException" ∧ T_party x = 1))) 1 6 (va_A (cws cI cL cE cP ad g n k us wb tr pr le tk gf) sz) := by
  refine vx_ofW (cc := cX3_partyBare) (maxL := 2) (ret := (some .int)) (by decide) rfl ?_
  intro p e s m args below meth c s₁ B hml htab hv
  obtain ⟨rfl, hsz, hE, hP, hD0, hX, hU0⟩ := hv
  subst hsz
  obtain ⟨A, hAe⟩ : ∃ A, A = va_A (cws cI cL cE cP ad g n k us wb tr pr le tk gf) s.heap.size := ⟨_, rfl⟩
  have hD : va_D A (cws cI cL cE cP ad g n k us wb tr pr le tk gf) := by rw [hAe]; exact hD0.self
  have hA : ∀ q : Nat, s.heap.size ≤ q → A q := fun q h => by rw [hAe]; exact Or.inr h
  have hS : va_S A s.heap s.heap [] := va_S.rf
  have hU : zU A s s.heap := by rw [hAe]; exact hU0
  have hx := B.exec
  have hb := B.bytes
  have hr := B.returns
  have hts := atoms_spec (ws := wsX3_partyBare) B.pre
  have hown : s.vm.findClass RX3 = some m.cls := findClass_of_methodNamed B.named
  have hlocks := B.notSynchronized
  have hK := hE.1
  have hl := lv_entry ([.ref (ad 0), .int x]) (n := 2) (Nat.le_of_ble_eq_true rfl)
  rw [lg_entry_eq]
  generalize (lg_sl ([.ref (ad 0), .int x]) ++ List.replicate (2 - (lg_sl ([.ref (ad 0), .int x])).length) Slot.unset).toArray = ls at hl ⊢
  have hl : lv_has ls 2 [(0, .ref (ad 0)), (1, .int x)] := hl
  refine lv_iload_n hx hb dX3_partyBare_0 rfl (lv_at hl 1 rfl) ?_
  refine vp_callSi (va_Run.run (va_runS (As := [.int x]) (rest := []) ⟨hx, hb, hml, hown, hts⟩ (zX3_isParty l D cI cL cE cP (cws cI cL cE cP ad g n k us wb tr pr le tk gf) x) (va_cwS 1 hts gX3_partyBare_X3_isParty rfl rfl rfl (by decide +kernel) ⟨Nat.le_of_ble_eq_true rfl, Nat.le_of_ble_eq_true rfl⟩) ⟨zPr_blind, zPr_mk hE hP⟩ rfl rfl hl.1 rfl (lv_room (Nat.le_of_ble_eq_true rfl)) dX3_partyBare_1 ⟨Nat.le_of_ble_eq_true rfl, Nat.le_of_ble_eq_true rfl⟩)) (fun r_1 e_2 => ?_)
  obtain rfl := e_2
  refine lv_if_ne (tgt := 17) hx hb dX3_partyBare_4 (by decide) (fun c_3 => ?_) (fun c_3 => ?_)
  · have c_3 := zb_ne c_3
    refine lv_aload_n hx hb dX3_partyBare_17 rfl (lv_at hl 0 rfl) ?_
    refine zcallv (va_runV (As := []) (rest := []) ⟨hx, hb, hml, hown, hts⟩ (zX3_findBest l D cI cL cE cP ad g n k us wb tr pr le tk gf hok s.heap.size) (cwV 0 hts gX3_partyBare_X3_findBest rfl rfl rfl (by decide +kernel) ⟨Nat.le_of_ble_eq_true rfl, Nat.le_of_ble_eq_true rfl⟩) ⟨zPw_blind, va_recv hK hP (ci := 3) (q0 := 0) rfl cws_0, zPw_mk hE hP hD⟩ rfl rfl hl.1 rfl (lv_room (Nat.le_of_ble_eq_true rfl)) dX3_partyBare_18 ⟨Nat.le_of_ble_eq_true rfl, Nat.le_of_ble_eq_true rfl⟩) hD hS hA (fun H locs hP hD hS => ?_)
    have hP : va_P D vwCl (cws cI cL cE cP ad g n k (zfl (US g k) us n) (zfl (WB g k) wb (32 * n)) tr (PRO (zfl (WB g k) wb (32 * n)) pr n) (LEO (zfl (US g k) us n) (zfl (WB g k) wb (32 * n)) pr le n) (nI n) (nI k)) H := hP
    have hD : va_D A (cws cI cL cE cP ad g n k (zfl (US g k) us n) (zfl (WB g k) wb (32 * n)) tr (PRO (zfl (WB g k) wb (32 * n)) pr n) (LEO (zfl (US g k) us n) (zfl (WB g k) wb (32 * n)) pr le n) (nI n) (nI k)) := hD
    refine lv_aload_n hx hb dX3_partyBare_21 rfl (lv_at hl 0 rfl) ?_
    refine lv_iload_n hx hb dX3_partyBare_22 rfl (lv_at hl 1 rfl) ?_
    refine vp_callSi (va_Run.run (va_runV (As := [.int x]) (rest := []) ⟨hx, hb, hml, hown, hts⟩ (zX3_bareOfParty l D cI cL cE cP ad g n k (zfl (US g k) us n) (zfl (WB g k) wb (32 * n)) tr (PRO (zfl (WB g k) wb (32 * n)) pr n) (LEO (zfl (US g k) us n) (zfl (WB g k) wb (32 * n)) pr le n) hok (x)) (cwV 1 hts gX3_partyBare_X3_bareOfParty rfl rfl rfl (by decide +kernel) ⟨Nat.le_of_ble_eq_true rfl, Nat.le_of_ble_eq_true rfl⟩) ⟨zPr_blind, va_recv hK hP (ci := 3) (q0 := 0) rfl cws_0, zPr_mk hE hP⟩ rfl rfl hl.1 rfl (lv_room (Nat.le_of_ble_eq_true rfl)) dX3_partyBare_23 ⟨Nat.le_of_ble_eq_true rfl, Nat.le_of_ble_eq_true rfl⟩)) (fun r_6 e_7 => ?_)
    obtain rfl := e_7
    have hT : T_party x = 0 := by simp [T_party, c_3]
    refine W.widen (k := 1) (n := 6) (Nat.le_of_ble_eq_true rfl) (Nat.le_of_ble_eq_true rfl) ?_
    exact vx_ret (ziret (v := bpL g k (LEO (zfl (US g k) us n) (zfl (WB g k) wb (32 * n)) pr le n) x n) hx hb hr hAe ⟨hT, rfl⟩ (zP_re hP (rfl)) (zD_re hD (rfl)) hS dX3_partyBare_26)
  · have c_3 := zb_eq c_3
    have hT : T_party x = 1 := by simp [T_party, c_3]
    exact zthrow (pc := 7) (cls := "java/lang/IndexOutOfBoundsException") (text := "no such party") (is := 213) (ic := 56) (ik := 52) hx hb hfl hown hlocks htab hml hl.1 (by decide +kernel) (by decide +kernel) (hts (.classLink RX3 52 "java/lang/IndexOutOfBoundsException") (by decide +kernel)) (hts (.initialized "java/lang/IndexOutOfBoundsException") (by decide +kernel)) (fun w h => hts w (List.mem_cons_of_mem _ (List.mem_append_right _ h))) (by decide +kernel) (by decide +kernel) (by decide +kernel) hX hAe hU hP hD hS dX3_partyBare_7 dX3_partyBare_10 dX3_partyBare_11 dX3_partyBare_13 dX3_partyBare_16 (Nat.le_of_ble_eq_true rfl) (Nat.le_of_ble_eq_true rfl) (Nat.le_of_ble_eq_true rfl) (Nat.le_of_ble_eq_true rfl) (Nat.le_of_ble_eq_true rfl) (Nat.le_of_ble_eq_true rfl) (⟨rfl, hT⟩)
