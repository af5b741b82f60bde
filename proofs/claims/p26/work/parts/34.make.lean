/-! making objects: rows for new arrays of known classes, calls on a part of the world -/
section ZN
variable {p : Program} {l : Launch} {e : Env} {R : Room} {s : State} {m : MethodId} {args : Array Value} {below : List Frame} {meth : Method} {c : Code} {H : Heap} {locs : List Loc} {cells slots : Nat} {Q : State → Prop}
variable {cc : ByteArray} {pc : Nat} {ls : Array Slot} {rest st0 : List Value} {D : va_G} {A : Nat → Prop} {ws : va_W} {H0 : Heap} {cI cL cE cP : ClassId} {a : Array Value}
theorem znewI (hexec : p.tables.exec = Jvm.exec) (hb : c.code = cc) (harr : (Cond.arrayClass .int).before args s = true) (hE : zE D cI cL cE cP s) (hP : va_P D vwCl ws H) (hD : va_D A ws) (hS : va_S A H0 H locs) (hA : ∀ q, H0.size ≤ q → A q)
    {n : Int32} (N : Nat) (hn : ¬ n < 0) (hN : n.toNatClampNeg = N) (hbytes : N * 4 ≤ 536870912) (hcells : cells + 1 ≤ R.cells) (hslots : slots + N ≤ R.slots) (hdg : decode cc pc = .ok (.newarray .int, 2))
    (kk : ∀ (q : Nat) (H1 : Heap), va_P D vwCl (ws ++ [(q, .inl (cI, N, .inl (fun _ => 0)))]) H1 → va_D A (ws ++ [(q, .inl (cI, N, .inl (fun _ => 0)))]) → va_S A H0 H1 locs → W p l e R s m args below meth c H1 locs (cells + 1) (slots + N) Q (F0 m (pc + 2) ls (.ref q :: rest))) : W p l e R s m args below meth c H locs cells slots Q (F0 m pc ls (.int n :: rest)) := by
  refine va_newa (atype := .int) hexec hb harr rfl hE.1 hP hD hS hA (a0 := (N, .inl (fun _ => 0))) (fun _ => rfl) hn hN hbytes hcells hslots hdg (fun q cA H1 hK hP hD hS => ?_)
  have h1 : s.vm.findClass _ = some cA := (hK.2 4 _ rfl).2
  have h2 : s.vm.findClass _ = some cI := (hE.1.2 0 _ rfl).2
  obtain rfl : cA = cI := Option.some.inj (h1.symm.trans h2)
  exact kk q H1 hP hD hS
theorem znewJ (hexec : p.tables.exec = Jvm.exec) (hb : c.code = cc) (harr : (Cond.arrayClass .long).before args s = true) (hE : zE D cI cL cE cP s) (hP : va_P D vwCl ws H) (hD : va_D A ws) (hS : va_S A H0 H locs) (hA : ∀ q, H0.size ≤ q → A q)
    {n : Int32} (N : Nat) (hn : ¬ n < 0) (hN : n.toNatClampNeg = N) (hbytes : N * 8 ≤ 536870912) (hcells : cells + 1 ≤ R.cells) (hslots : slots + N ≤ R.slots) (hdg : decode cc pc = .ok (.newarray .long, 2))
    (kk : ∀ (q : Nat) (H1 : Heap), va_P D vwCl (ws ++ [(q, .inl (cL, N, .inr (.inl (fun _ => 0))))]) H1 → va_D A (ws ++ [(q, .inl (cL, N, .inr (.inl (fun _ => 0))))]) → va_S A H0 H1 locs → W p l e R s m args below meth c H1 locs (cells + 1) (slots + N) Q (F0 m (pc + 2) ls (.ref q :: rest))) : W p l e R s m args below meth c H locs cells slots Q (F0 m pc ls (.int n :: rest)) := by
  refine va_newa (atype := .long) hexec hb harr rfl hE.1 hP hD hS hA (a0 := (N, .inr (.inl (fun _ => 0)))) (fun _ => rfl) hn hN hbytes hcells hslots hdg (fun q cA H1 hK hP hD hS => ?_)
  have h1 : s.vm.findClass _ = some cA := (hK.2 4 _ rfl).2
  have h2 : s.vm.findClass _ = some cL := (hE.1.2 1 _ rfl).2
  obtain rfl : cA = cL := Option.some.inj (h1.symm.trans h2)
  exact kk q H1 hP hD hS
theorem znewE (hexec : p.tables.exec = Jvm.exec) (hb : c.code = cc) {own : String} {index : Nat} (hown : s.vm.findClass own = some m.cls) (hclink : (Cond.classLink own index RX0).before args s = true) (hover : va_AO RX0 s) (hE : zE D cI cL cE cP s) (hP : va_P D vwCl ws H) (hD : va_D A ws) (hS : va_S A H0 H locs) (hA : ∀ q, H0.size ≤ q → A q)
    {n : Int32} (N : Nat) (hn : ¬ n < 0) (hN : n.toNatClampNeg = N) (hbytes : N * 4 ≤ 536870912) (hcells : cells + 1 ≤ R.cells) (hslots : slots + N ≤ R.slots) (hdg : decode cc pc = .ok (.anewarray index, 3))
    (kk : ∀ (q : Nat) (H1 : Heap), va_P D vwCl (ws ++ [(q, .inl (cE, N, .inr (.inr (.inr (.inr (fun _ => none))))))]) H1 → va_D A (ws ++ [(q, .inl (cE, N, .inr (.inr (.inr (.inr (fun _ => none))))))]) → va_S A H0 H1 locs → W p l e R s m args below meth c H1 locs (cells + 1) (slots + N) Q (F0 m (pc + 3) ls (.ref q :: rest))) : W p l e R s m args below meth c H locs cells slots Q (F0 m pc ls (.int n :: rest)) := by
  refine va_newq hexec hb hown hclink hover hE.1 hP hD hS hA hn hN hbytes hcells hslots hdg (fun q cA H1 hK hP hD hS => ?_)
  obtain ⟨_, _, _, _, _, h1⟩ := (hK.2 4 _ rfl).2
  obtain ⟨_, _, _, _, _, h2⟩ := (hE.1.2 2 _ rfl).2
  obtain rfl : cA = cE := Option.some.inj (h1.symm.trans h2)
  exact kk q H1 hP hD hS
theorem znewP (hexec : p.tables.exec = Jvm.exec) (hb : c.code = cc) {own : String} {index : Nat} (hown : s.vm.findClass own = some m.cls) (hclink : (Cond.classLink own index RX1).before args s = true) (hover : va_AO RX1 s) (hE : zE D cI cL cE cP s) (hP : va_P D vwCl ws H) (hD : va_D A ws) (hS : va_S A H0 H locs) (hA : ∀ q, H0.size ≤ q → A q)
    {n : Int32} (N : Nat) (hn : ¬ n < 0) (hN : n.toNatClampNeg = N) (hbytes : N * 4 ≤ 536870912) (hcells : cells + 1 ≤ R.cells) (hslots : slots + N ≤ R.slots) (hdg : decode cc pc = .ok (.anewarray index, 3))
    (kk : ∀ (q : Nat) (H1 : Heap), va_P D vwCl (ws ++ [(q, .inl (cP, N, .inr (.inr (.inr (.inr (fun _ => none))))))]) H1 → va_D A (ws ++ [(q, .inl (cP, N, .inr (.inr (.inr (.inr (fun _ => none))))))]) → va_S A H0 H1 locs → W p l e R s m args below meth c H1 locs (cells + 1) (slots + N) Q (F0 m (pc + 3) ls (.ref q :: rest))) : W p l e R s m args below meth c H locs cells slots Q (F0 m pc ls (.int n :: rest)) := by
  refine va_newq hexec hb hown hclink hover hE.1 hP hD hS hA hn hN hbytes hcells hslots hdg (fun q cA H1 hK hP hD hS => ?_)
  obtain ⟨_, _, _, _, _, h1⟩ := (hK.2 4 _ rfl).2
  obtain ⟨_, _, _, _, _, h2⟩ := (hE.1.2 3 _ rfl).2
  obtain rfl : cA = cP := Option.some.inj (h1.symm.trans h2)
  exact kk q H1 hP hD hS
end ZN
theorem zP_app {D : va_G} {w1 w2 : va_W} {H : Heap} (h : va_P D vwCl (w1 ++ w2) H) : va_P D vwCl w1 H ∧ va_P D vwCl w2 H := by
  refine ⟨fun k q hk => h k q (by rw [List.getElem?_append_left (List.getElem?_eq_some_iff.mp hk).1]; exact hk), fun k q hk => h (w1.length + k) q (by rw [List.getElem?_append_right (by omega), show w1.length + k - w1.length = k by omega]; exact hk)⟩
theorem zD_app {A : Nat → Prop} {w1 w2 : va_W} (h : va_D A (w1 ++ w2)) : va_D A w1 ∧ va_D A w2 ∧ ∀ (i j : Nat) (x y : Nat × va_E), w1[i]? = some x → w2[j]? = some y → x.1 ≠ y.1 := by
  have l1 : ∀ {i : Nat} {x : Nat × va_E}, w1[i]? = some x → (w1 ++ w2)[i]? = some x := fun hk => by rw [List.getElem?_append_left (List.getElem?_eq_some_iff.mp hk).1]; exact hk
  have l2 : ∀ {i : Nat} {x : Nat × va_E}, w2[i]? = some x → (w1 ++ w2)[w1.length + i]? = some x := fun {i} {x} hk => by rw [List.getElem?_append_right (by omega), show w1.length + i - w1.length = i by omega]; exact hk
  refine ⟨⟨fun i j x y hx hy e => h.1 i j x y (l1 hx) (l1 hy) e, fun k q hk => h.2 k q (l1 hk)⟩, ⟨fun i j x y hx hy e => ?_, fun k q hk => h.2 _ q (l2 hk)⟩, fun i j x y hx hy e => ?_⟩
  · have := h.1 _ _ x y (l2 hx) (l2 hy) e; omega
  · have := h.1 _ _ x y (l1 hx) (l2 hy) e
    have hl := (List.getElem?_eq_some_iff.mp hx).1
    omega
theorem zD_mk {A : Nat → Prop} {w1 w2 : va_W} (h1 : va_D A w1) (h2 : va_D A w2) (hx : ∀ (i j : Nat) (x y : Nat × va_E), w1[i]? = some x → w2[j]? = some y → x.1 ≠ y.1) : va_D A (w1 ++ w2) := va_D.app h1 h2 hx
theorem zP_mk {D : va_G} {w1 w2 : va_W} {H : Heap} (h1 : va_P D vwCl w1 H) (h2 : va_P D vwCl w2 H) : va_P D vwCl (w1 ++ w2) H := va_P.app h1 h2
theorem zP_swap {D : va_G} {w1 w2 : va_W} {H : Heap} (h : va_P D vwCl (w1 ++ w2) H) : va_P D vwCl (w2 ++ w1) H := zP_mk (zP_app h).2 (zP_app h).1
theorem zD_swap {A : Nat → Prop} {w1 w2 : va_W} (h : va_D A (w1 ++ w2)) : va_D A (w2 ++ w1) := zD_mk (zD_app h).2.1 (zD_app h).1 (fun i j x y hx hy e => (zD_app h).2.2 j i y x hy hx e.symm)
/-- a part of the world changes, the rest stays: what stands behind a call on that part -/
theorem zjoin {A : Nat → Prop} {D : va_G} {wr wc w1 : va_W} {H H1 : Heap} (hP : va_P D vwCl (wr ++ wc) H) (hD : va_D A (wr ++ wc)) (hA : ∀ q, va_A wc H.size q → A q) (hk : ∀ q : Nat, q < H.size → ¬ va_A wc H.size q → H1[q]? = H[q]?) (hP1 : va_P D vwCl w1 H1) (hD1 : va_D (va_A wc H.size) w1) : va_P D vwCl (wr ++ w1) H1 ∧ va_D A (wr ++ w1) := by
  have hPr := (zP_app hP).1
  obtain ⟨hDr, hDc, hap⟩ := zD_app hD
  have key : ∀ (k : Nat) (q : Nat × va_E), wr[k]? = some q → q.1 < H.size ∧ ¬ va_A wc H.size q.1 := by
    intro k q hq
    have hl := (hPr k q hq).lt
    refine ⟨hl, fun h => ?_⟩
    rcases h with ⟨k2, e, h⟩ | h
    · exact hap k k2 q _ hq h rfl
    · omega
  refine ⟨zP_mk (hPr.kept (fun k q hq => hk q.1 (key k q hq).1 (key k q hq).2)) hP1, zD_mk hDr (hD1.weaken (fun k q hq h => hA q.1 h)) (fun i j x y hx hy e => ?_)⟩
  exact (key i x hx).2 (by rw [e]; exact hD1.2 j y hy)
section ZJ
variable {p : Program} {l : Launch} {e : Env} {R : Room} {s : State} {m : MethodId} {args : Array Value} {below : List Frame} {meth : Method} {c : Code} {H : Heap} {locs : List Loc} {cells slots : Nat} {Q : State → Prop} {pc : Nat} {ls : Array Slot} {rest st0 : List Value} {a : Array Value} {A : Nat → Prop} {H0 : Heap} {D : va_G}
theorem va_A_in2 {wr wc : va_W} (hD : va_D A (wr ++ wc)) (hS : va_S A H0 H locs) (hA : ∀ q, H0.size ≤ q → A q) : ∀ q, va_A wc H.size q → A q := va_A_in (zD_app hD).2.1 hS hA
/-- a call that ends with a world that it names (u), on a part wc of the world -/
theorem zcallvJ {S : Type} {post : S → Prop} {wr wc : va_W} {w1 : S → va_W} {mc ms : Nat} (hr : va_Run p l e R s m args below meth c H locs cells slots mc ms (F0 m pc ls st0) rest (va_Qv post (fun u t => zB D wc H.size (w1 u) t) (va_A wc H.size) a) (va_A wc H.size)) (hP : va_P D vwCl (wr ++ wc) H) (hD : va_D A (wr ++ wc)) (hS : va_S A H0 H locs) (hA : ∀ q, H0.size ≤ q → A q)
    (kk : ∀ (u : S) (H1 : Heap) (locs1 : List Loc), post u → va_P D vwCl (wr ++ w1 u) H1 → va_D A (wr ++ w1 u) → va_S A H0 H1 locs1 → W p l e R s m args below meth c H1 locs1 (cells + mc) (slots + ms) Q (F0 m (pc + 3) ls rest)) : W p l e R s m args below meth c H locs cells slots Q (F0 m pc ls st0) :=
  va_callv hr hS (fun q _ h => va_A_in2 hD hS hA q h) (va_A_in2 hD hS hA) (fun u t H1 locs1 ht hvm hp hB hz hk hS1 => by
    obtain ⟨h1, h2⟩ := zjoin hP hD (va_A_in2 hD hS hA) hk (by rw [← ht]; exact hB.1) hB.2
    exact kk u H1 locs1 hp h1 h2 hS1)
theorem zcalliJ {S : Type} {post : Int32 → S → Prop} {wr wc : va_W} {w1 : S → va_W} {mc ms : Nat} (hr : va_Run p l e R s m args below meth c H locs cells slots mc ms (F0 m pc ls st0) rest (va_Qi post (fun u t => zB D wc H.size (w1 u) t) (va_A wc H.size) a) (va_A wc H.size)) (hP : va_P D vwCl (wr ++ wc) H) (hD : va_D A (wr ++ wc)) (hS : va_S A H0 H locs) (hA : ∀ q, H0.size ≤ q → A q)
    (kk : ∀ (r : Int32) (u : S) (H1 : Heap) (locs1 : List Loc), post r u → va_P D vwCl (wr ++ w1 u) H1 → va_D A (wr ++ w1 u) → va_S A H0 H1 locs1 → W p l e R s m args below meth c H1 locs1 (cells + mc) (slots + ms) Q (F0 m (pc + 3) ls (.int r :: rest))) : W p l e R s m args below meth c H locs cells slots Q (F0 m pc ls st0) :=
  va_calli hr hS (fun q _ h => va_A_in2 hD hS hA q h) (va_A_in2 hD hS hA) (fun r u t H1 locs1 ht hvm hp hB hz hk hS1 => by
    obtain ⟨h1, h2⟩ := zjoin hP hD (va_A_in2 hD hS hA) hk (by rw [← ht]; exact hB.1) hB.2
    exact kk r u H1 locs1 hp h1 h2 hS1)
/-- a constructor's or a procedure's end, with the world that it names -/
theorem zvretU {S : Type} {post : S → Prop} {cc : ByteArray} {W0 : va_W} {W1 : S → va_W} (u : S) (hx : p.tables.exec = Jvm.exec) (hb : c.code = cc) (hr : meth.sig.returnType = none) (hAe : A = va_A W0 s.heap.size) (hu : post u) (hP : va_P D vwCl (W1 u) H) (hD : va_D A (W1 u)) (hS : va_S A s.heap H locs) (hdg : decode cc pc = .ok (.return_, 1)) (hlocks : meth.locks = false := by assumption) :
    W p l e R s m args below meth c H locs cells slots (MQ below (va_Qv post (fun u t => zB D W0 s.heap.size (W1 u) t) (va_A W0 s.heap.size)) args s cells slots (va_A W0 s.heap.size)) (F0 m pc ls []) := by
  subst hAe
  exact W.vret hx hb hr (fun t ht hW => ⟨⟨u, rfl, hu, by rw [ht]; exact hP, hD⟩, hS.F ht⟩) hS.2.2 hdg
theorem ziretU {S : Type} {post : Int32 → S → Prop} {cc : ByteArray} {W0 : va_W} {W1 : S → va_W} {v : Int32} (u : S) (hx : p.tables.exec = Jvm.exec) (hb : c.code = cc) (hr : meth.sig.returnType = some .int) (hAe : A = va_A W0 s.heap.size) (hu : post v u) (hP : va_P D vwCl (W1 u) H) (hD : va_D A (W1 u)) (hS : va_S A s.heap H locs) (hdg : decode cc pc = .ok (.ireturn, 1)) (hlocks : meth.locks = false := by assumption) :
    W p l e R s m args below meth c H locs cells slots (MQ below (va_Qi post (fun u t => zB D W0 s.heap.size (W1 u) t) (va_A W0 s.heap.size)) args s cells slots (va_A W0 s.heap.size)) (F0 m pc ls [.int v]) := by
  subst hAe
  exact W.iret hx hb hr (fun t ht hW => ⟨⟨v, u, rfl, hu, by rw [ht]; exact hP, hD⟩, hS.F ht⟩) hS.2.2 hdg
end ZJ
/-- the numbers of a new object -/
def g0 : Nat → Nat → Int32 := fun r => if r = 0 then upd (upd (upd (upd (fun _ => 0) 0 0) 1 20) 2 50) 3 100 else if r = 1 then upd (upd (upd (upd (fun _ => 0) 0 0) 1 50) 2 100) 3 100 else if r = 2 then fun i => if i = 0 then 70 else 0 else fun _ => 0
theorem zupd00 : upd (fun _ => (0 : Int32)) 0 0 = fun _ => 0 := by funext j; simp [upd]
def zPo (D : va_G) (cI cL cE cP : ClassId) (ws : va_W) (sz : Nat) (as : List Value) : Array Value → State → Prop := va_Pc as (fun U => U.heap.size = sz ∧ zE D cI cL cE cP U ∧ va_P D vwCl ws U.heap ∧ va_D (fun _ => True) ws ∧ va_AO RX0 U ∧ va_AO RX1 U)
theorem zPo_blind {D : va_G} {cI cL cE cP : ClassId} {ws : va_W} {sz : Nat} {as : List Value} : FrameBlind (zPo D cI cL cE cP ws sz as) := fun a U g mk q => ⟨q.1, q.2.1, q.2.2.1.calling g mk a, q.2.2.2.1, q.2.2.2.2.1, va_AO.moved (u := U) (Vm.Alike.refl U.vm) q.2.2.2.2.2.1, va_AO.moved (u := U) (Vm.Alike.refl U.vm) q.2.2.2.2.2.2⟩
theorem zPo_mk {D : va_G} {cI cL cE cP : ClassId} {ws : va_W} {as : List Value} {s : State} {H : Heap} {A : Nat → Prop} (hE : zE D cI cL cE cP s) (hP : va_P D vwCl ws H) (hD : va_D A ws) (h0 : va_AO RX0 s) (h1 : va_AO RX1 s) : ∀ U : State, U.heap = H → s.WarmedH U.vm → zPo D cI cL cE cP ws H.size as as.toArray U := fun U hU hW => ⟨rfl, by rw [hU], hE.warm hW, by rw [hU]; exact hP, hD.weaken (fun _ _ _ _ => trivial), h0.moved hW.alike, h1.moved hW.alike⟩

set_option maxHeartbeats 4000000 in
set_option maxRecDepth 100000 in
theorem zX0_init (l : Launch) (D : va_G) (cI cL cE cP : ClassId) (a0 : Nat) (k0 p0 d0 o0 c0 t0 : Int32) (sz : Nat) : Met l yX0_init wsX0_init ({ frames := 1, cells := 0, slots := 0, locals := 24 }) (zPw D cI cL cE cP ([(a0, .inr (0, [.int 0, .int 0, .int 0, .int 0, .int 0, .int 0, .int 0, .int 0]))]) sz [.ref a0, .int k0, .int p0, .int d0, .int o0, .int c0, .int t0]) (va_Qv (fun (u : Unit) => True) (fun u t => zB D ([(a0, .inr (0, [.int 0, .int 0, .int 0, .int 0, .int 0, .int 0, .int 0, .int 0]))]) sz ([(a0, .inr (0, [.int p0, .int c0, .int t0, .int k0, .int d0, .int o0, .int 0, .int 0]))]) t) (va_A ([(a0, .inr (0, [.int 0, .int 0, .int 0, .int 0, .int 0, .int 0, .int 0, .int 0]))]) sz)) 0 0 (va_A ([(a0, .inr (0, [.int 0, .int 0, .int 0, .int 0, .int 0, .int 0, .int 0, .int 0]))]) sz) := by
  refine Met.ofW (cc := cX0_init) (maxL := 7) (ret := none) (by decide) rfl ?_
  intro p e s m args below meth c s₁ B hml hv
  obtain ⟨rfl, hsz, hE, hP, hD0⟩ := hv
  subst hsz
  obtain ⟨A, hAe⟩ : ∃ A, A = va_A ([(a0, .inr (0, [.int 0, .int 0, .int 0, .int 0, .int 0, .int 0, .int 0, .int 0]))]) s.heap.size := ⟨_, rfl⟩
  have hD : va_D A ([(a0, .inr (0, [.int 0, .int 0, .int 0, .int 0, .int 0, .int 0, .int 0, .int 0]))]) := by rw [hAe]; exact hD0.self
  have hA : ∀ q : Nat, s.heap.size ≤ q → A q := fun q h => by rw [hAe]; exact Or.inr h
  have hS : va_S A s.heap s.heap [] := va_S.rf
  have hx := B.exec
  have hb := B.bytes
  have hr := B.returns
  have hts := atoms_spec (ws := wsX0_init) B.pre
  have hown : s.vm.findClass RX0 = some m.cls := findClass_of_methodNamed B.named
  have hlocks := B.notSynchronized
  have hK := hE.1
  have hin : meth.name = "<init>" := (name_of_methodNamed B.named B.method).1
  have iX0 : ∀ w ∈ wsX00, w ∈ wsX0_init := by decide +kernel
  have hl := lv_entry ([.ref a0, .int k0, .int p0, .int d0, .int o0, .int c0, .int t0]) (n := 7) (Nat.le_of_ble_eq_true rfl)
  rw [lg_entry_eq]
  generalize (lg_sl ([.ref a0, .int k0, .int p0, .int d0, .int o0, .int c0, .int t0]) ++ List.replicate (7 - (lg_sl ([.ref a0, .int k0, .int p0, .int d0, .int o0, .int c0, .int t0])).length) Slot.unset).toArray = ls at hl ⊢
  have hl : lv_has ls 7 [(0, .ref a0), (1, .int k0), (2, .int p0), (3, .int d0), (4, .int o0), (5, .int c0), (6, .int t0)] := hl
  refine lv_aload_n hx hb dX0_init_0 rfl (lv_at hl 0 rfl) ?_
  refine W.objInit hx hb hown (hts (.methodLink RX0 3 objectInit) (by decide +kernel)) (hts (.instanceMethod objectInit) (by decide +kernel)) (hts (.code objectInit ⟨#[0xb1]⟩ 1 none) (by decide +kernel)) rfl (by rw [hml]; exact hl.1) rfl dX0_init_1 (Nat.le_of_ble_eq_true rfl) (Nat.le_of_ble_eq_true rfl) ?_
  refine W.eq (g2 := F0 m 4 ls []) rfl ?_
  refine lv_aload_n hx hb dX0_init_4 rfl (lv_at hl 0 rfl) ?_
  refine lv_iload_n hx hb dX0_init_5 rfl (lv_at hl 1 rfl) ?_
  refine va_put (D := D) (ci := 0) (v := .int k0) (ty := .int) (C := RX0) (T := TX0) (N := 8) hx hb hts iX0 tyX0 tyX0_ok nmX0 hown hK hP hD hS 0 rfl rfl 3 (by decide) (hts (.fieldLink RX0 9 "CapitalReckoner$Exposure" "kind" "I") (by decide +kernel)) (fun _ h9 => h9) rfl (by decide +kernel) rfl rfl (Nat.le_of_ble_eq_true rfl) dX0_init_6 (fun H locs hP hD hS => ?_)
  have hP : va_P D vwCl ([(a0, .inr (0, [.int 0, .int 0, .int 0, .int k0, .int 0, .int 0, .int 0, .int 0]))]) H := hP
  have hD : va_D A ([(a0, .inr (0, [.int 0, .int 0, .int 0, .int k0, .int 0, .int 0, .int 0, .int 0]))]) := hD
  refine lv_aload_n hx hb dX0_init_9 rfl (lv_at hl 0 rfl) ?_
  refine lv_iload_n hx hb dX0_init_10 rfl (lv_at hl 2 rfl) ?_
  refine va_putF (D := D) (ci := 0) (v := .int p0) (ty := .int) (C := RX0) (T := TX0) (N := 8) hx hb hts iX0 tyX0 tyX0_ok nmX0 hown hK hP hD hS 0 rfl rfl 0 (by decide) (hts (.fieldLink RX0 15 "CapitalReckoner$Exposure" "party" "I") (by decide +kernel)) (fun _ h9 => h9) rfl hin rfl (by decide +kernel) rfl rfl (Nat.le_of_ble_eq_true rfl) dX0_init_11 (fun H locs hP hD hS => ?_)
  have hP : va_P D vwCl ([(a0, .inr (0, [.int p0, .int 0, .int 0, .int k0, .int 0, .int 0, .int 0, .int 0]))]) H := hP
  have hD : va_D A ([(a0, .inr (0, [.int p0, .int 0, .int 0, .int k0, .int 0, .int 0, .int 0, .int 0]))]) := hD
  refine lv_aload_n hx hb dX0_init_14 rfl (lv_at hl 0 rfl) ?_
  refine lv_iload_n hx hb dX0_init_15 rfl (lv_at hl 3 rfl) ?_
  refine va_put (D := D) (ci := 0) (v := .int d0) (ty := .int) (C := RX0) (T := TX0) (N := 8) hx hb hts iX0 tyX0 tyX0_ok nmX0 hown hK hP hD hS 0 rfl rfl 4 (by decide) (hts (.fieldLink RX0 18 "CapitalReckoner$Exposure" "drawn" "I") (by decide +kernel)) (fun _ h9 => h9) rfl (by decide +kernel) rfl rfl (Nat.le_of_ble_eq_true rfl) dX0_init_16 (fun H locs hP hD hS => ?_)
  have hP : va_P D vwCl ([(a0, .inr (0, [.int p0, .int 0, .int 0, .int k0, .int d0, .int 0, .int 0, .int 0]))]) H := hP
  have hD : va_D A ([(a0, .inr (0, [.int p0, .int 0, .int 0, .int k0, .int d0, .int 0, .int 0, .int 0]))]) := hD
  refine lv_aload_n hx hb dX0_init_19 rfl (lv_at hl 0 rfl) ?_
  refine lv_iload hx hb dX0_init_20 (lv_at hl 4 rfl) ?_
  refine va_put (D := D) (ci := 0) (v := .int o0) (ty := .int) (C := RX0) (T := TX0) (N := 8) hx hb hts iX0 tyX0 tyX0_ok nmX0 hown hK hP hD hS 0 rfl rfl 5 (by decide) (hts (.fieldLink RX0 21 "CapitalReckoner$Exposure" "promised" "I") (by decide +kernel)) (fun _ h9 => h9) rfl (by decide +kernel) rfl rfl (Nat.le_of_ble_eq_true rfl) dX0_init_22 (fun H locs hP hD hS => ?_)
  have hP : va_P D vwCl ([(a0, .inr (0, [.int p0, .int 0, .int 0, .int k0, .int d0, .int o0, .int 0, .int 0]))]) H := hP
  have hD : va_D A ([(a0, .inr (0, [.int p0, .int 0, .int 0, .int k0, .int d0, .int o0, .int 0, .int 0]))]) := hD
  refine lv_aload_n hx hb dX0_init_25 rfl (lv_at hl 0 rfl) ?_
  refine lv_iload hx hb dX0_init_26 (lv_at hl 5 rfl) ?_
  refine va_putF (D := D) (ci := 0) (v := .int c0) (ty := .int) (C := RX0) (T := TX0) (N := 8) hx hb hts iX0 tyX0 tyX0_ok nmX0 hown hK hP hD hS 0 rfl rfl 1 (by decide) (hts (.fieldLink RX0 24 "CapitalReckoner$Exposure" "currency" "I") (by decide +kernel)) (fun _ h9 => h9) rfl hin rfl (by decide +kernel) rfl rfl (Nat.le_of_ble_eq_true rfl) dX0_init_28 (fun H locs hP hD hS => ?_)
  have hP : va_P D vwCl ([(a0, .inr (0, [.int p0, .int c0, .int 0, .int k0, .int d0, .int o0, .int 0, .int 0]))]) H := hP
  have hD : va_D A ([(a0, .inr (0, [.int p0, .int c0, .int 0, .int k0, .int d0, .int o0, .int 0, .int 0]))]) := hD
  refine lv_aload_n hx hb dX0_init_31 rfl (lv_at hl 0 rfl) ?_
  refine lv_iload hx hb dX0_init_32 (lv_at hl 6 rfl) ?_
  refine va_putF (D := D) (ci := 0) (v := .int t0) (ty := .int) (C := RX0) (T := TX0) (N := 8) hx hb hts iX0 tyX0 tyX0_ok nmX0 hown hK hP hD hS 0 rfl rfl 2 (by decide) (hts (.fieldLink RX0 27 "CapitalReckoner$Exposure" "days" "I") (by decide +kernel)) (fun _ h9 => h9) rfl hin rfl (by decide +kernel) rfl rfl (Nat.le_of_ble_eq_true rfl) dX0_init_34 (fun H locs hP hD hS => ?_)
  have hP : va_P D vwCl ([(a0, .inr (0, [.int p0, .int c0, .int t0, .int k0, .int d0, .int o0, .int 0, .int 0]))]) H := hP
  have hD : va_D A ([(a0, .inr (0, [.int p0, .int c0, .int t0, .int k0, .int d0, .int o0, .int 0, .int 0]))]) := hD
  refine lv_aload_n hx hb dX0_init_37 rfl (lv_at hl 0 rfl) ?_
  refine lv_iconst (v := 0) hx hb dX0_init_38 (by decide) ?_
  refine va_put (D := D) (ci := 0) (v := .int 0) (ty := .int) (C := RX0) (T := TX0) (N := 8) hx hb hts iX0 tyX0 tyX0_ok nmX0 hown hK hP hD hS 0 rfl rfl 6 (by decide) (hts (.fieldLink RX0 30 "CapitalReckoner$Exposure" "guaranteeKind" "I") (by decide +kernel)) (fun _ h9 => h9) rfl (by decide +kernel) rfl rfl (Nat.le_of_ble_eq_true rfl) dX0_init_39 (fun H locs hP hD hS => ?_)
  have hP : va_P D vwCl ([(a0, .inr (0, [.int p0, .int c0, .int t0, .int k0, .int d0, .int o0, .int 0, .int 0]))]) H := hP
  have hD : va_D A ([(a0, .inr (0, [.int p0, .int c0, .int t0, .int k0, .int d0, .int o0, .int 0, .int 0]))]) := hD
  refine lv_aload_n hx hb dX0_init_42 rfl (lv_at hl 0 rfl) ?_
  refine lv_iconst (v := 0) hx hb dX0_init_43 (by decide) ?_
  refine va_put (D := D) (ci := 0) (v := .int 0) (ty := .int) (C := RX0) (T := TX0) (N := 8) hx hb hts iX0 tyX0 tyX0_ok nmX0 hown hK hP hD hS 0 rfl rfl 7 (by decide) (hts (.fieldLink RX0 33 "CapitalReckoner$Exposure" "guaranteeSum" "I") (by decide +kernel)) (fun _ h9 => h9) rfl (by decide +kernel) rfl rfl (Nat.le_of_ble_eq_true rfl) dX0_init_44 (fun H locs hP hD hS => ?_)
  have hP : va_P D vwCl ([(a0, .inr (0, [.int p0, .int c0, .int t0, .int k0, .int d0, .int o0, .int 0, .int 0]))]) H := hP
  have hD : va_D A ([(a0, .inr (0, [.int p0, .int c0, .int t0, .int k0, .int d0, .int o0, .int 0, .int 0]))]) := hD
  refine W.widen (k := 0) (n := 0) (Nat.le_of_ble_eq_true rfl) (Nat.le_of_ble_eq_true rfl) ?_
  exact zvretU (u := ()) hx hb hr hAe (by first | trivial | rfl) (zP_re hP (rfl)) (zD_re hD (rfl)) hS dX0_init_47
set_option maxHeartbeats 4000000 in
set_option maxRecDepth 100000 in
theorem zX1_init (l : Launch) (D : va_G) (cI cL cE cP : ClassId) (a0 : Nat) (m0 h0 c0 t0 u0 : Int32) (sz : Nat) : Met l yX1_init wsX1_init ({ frames := 1, cells := 0, slots := 0, locals := 24 }) (zPw D cI cL cE cP ([(a0, .inr (1, [.int 0, .int 0, .int 0, .int 0, .int 0]))]) sz [.ref a0, .int m0, .int h0, .int c0, .int t0, .int u0]) (va_Qv (fun (u : Unit) => True) (fun u t => zB D ([(a0, .inr (1, [.int 0, .int 0, .int 0, .int 0, .int 0]))]) sz ([(a0, .inr (1, [.int h0, .int c0, .int t0, .int m0, .int u0]))]) t) (va_A ([(a0, .inr (1, [.int 0, .int 0, .int 0, .int 0, .int 0]))]) sz)) 0 0 (va_A ([(a0, .inr (1, [.int 0, .int 0, .int 0, .int 0, .int 0]))]) sz) := by
  refine Met.ofW (cc := cX1_init) (maxL := 6) (ret := none) (by decide) rfl ?_
  intro p e s m args below meth c s₁ B hml hv
  obtain ⟨rfl, hsz, hE, hP, hD0⟩ := hv
  subst hsz
  obtain ⟨A, hAe⟩ : ∃ A, A = va_A ([(a0, .inr (1, [.int 0, .int 0, .int 0, .int 0, .int 0]))]) s.heap.size := ⟨_, rfl⟩
  have hD : va_D A ([(a0, .inr (1, [.int 0, .int 0, .int 0, .int 0, .int 0]))]) := by rw [hAe]; exact hD0.self
  have hA : ∀ q : Nat, s.heap.size ≤ q → A q := fun q h => by rw [hAe]; exact Or.inr h
  have hS : va_S A s.heap s.heap [] := va_S.rf
  have hx := B.exec
  have hb := B.bytes
  have hr := B.returns
  have hts := atoms_spec (ws := wsX1_init) B.pre
  have hown : s.vm.findClass RX1 = some m.cls := findClass_of_methodNamed B.named
  have hlocks := B.notSynchronized
  have hK := hE.1
  have hin : meth.name = "<init>" := (name_of_methodNamed B.named B.method).1
  have iX1 : ∀ w ∈ wsX10, w ∈ wsX1_init := by decide +kernel
  have hl := lv_entry ([.ref a0, .int m0, .int h0, .int c0, .int t0, .int u0]) (n := 6) (Nat.le_of_ble_eq_true rfl)
  rw [lg_entry_eq]
  generalize (lg_sl ([.ref a0, .int m0, .int h0, .int c0, .int t0, .int u0]) ++ List.replicate (6 - (lg_sl ([.ref a0, .int m0, .int h0, .int c0, .int t0, .int u0])).length) Slot.unset).toArray = ls at hl ⊢
  have hl : lv_has ls 6 [(0, .ref a0), (1, .int m0), (2, .int h0), (3, .int c0), (4, .int t0), (5, .int u0)] := hl
  refine lv_aload_n hx hb dX1_init_0 rfl (lv_at hl 0 rfl) ?_
  refine W.objInit hx hb hown (hts (.methodLink RX1 3 objectInit) (by decide +kernel)) (hts (.instanceMethod objectInit) (by decide +kernel)) (hts (.code objectInit ⟨#[0xb1]⟩ 1 none) (by decide +kernel)) rfl (by rw [hml]; exact hl.1) rfl dX1_init_1 (Nat.le_of_ble_eq_true rfl) (Nat.le_of_ble_eq_true rfl) ?_
  refine W.eq (g2 := F0 m 4 ls []) rfl ?_
  refine lv_aload_n hx hb dX1_init_4 rfl (lv_at hl 0 rfl) ?_
  refine lv_iload_n hx hb dX1_init_5 rfl (lv_at hl 1 rfl) ?_
  refine va_put (D := D) (ci := 1) (v := .int m0) (ty := .int) (C := RX1) (T := TX1) (N := 5) hx hb hts iX1 tyX1 tyX1_ok nmX1 hown hK hP hD hS 0 rfl rfl 3 (by decide) (hts (.fieldLink RX1 9 "CapitalReckoner$Piece" "amount" "I") (by decide +kernel)) (fun _ h9 => h9) rfl (by decide +kernel) rfl rfl (Nat.le_of_ble_eq_true rfl) dX1_init_6 (fun H locs hP hD hS => ?_)
  have hP : va_P D vwCl ([(a0, .inr (1, [.int 0, .int 0, .int 0, .int m0, .int 0]))]) H := hP
  have hD : va_D A ([(a0, .inr (1, [.int 0, .int 0, .int 0, .int m0, .int 0]))]) := hD
  refine lv_aload_n hx hb dX1_init_9 rfl (lv_at hl 0 rfl) ?_
  refine lv_iload_n hx hb dX1_init_10 rfl (lv_at hl 2 rfl) ?_
  refine va_putF (D := D) (ci := 1) (v := .int h0) (ty := .int) (C := RX1) (T := TX1) (N := 5) hx hb hts iX1 tyX1 tyX1_ok nmX1 hown hK hP hD hS 0 rfl rfl 0 (by decide) (hts (.fieldLink RX1 15 "CapitalReckoner$Piece" "haircut" "I") (by decide +kernel)) (fun _ h9 => h9) rfl hin rfl (by decide +kernel) rfl rfl (Nat.le_of_ble_eq_true rfl) dX1_init_11 (fun H locs hP hD hS => ?_)
  have hP : va_P D vwCl ([(a0, .inr (1, [.int h0, .int 0, .int 0, .int m0, .int 0]))]) H := hP
  have hD : va_D A ([(a0, .inr (1, [.int h0, .int 0, .int 0, .int m0, .int 0]))]) := hD
  refine lv_aload_n hx hb dX1_init_14 rfl (lv_at hl 0 rfl) ?_
  refine lv_iload_n hx hb dX1_init_15 rfl (lv_at hl 3 rfl) ?_
  refine va_putF (D := D) (ci := 1) (v := .int c0) (ty := .int) (C := RX1) (T := TX1) (N := 5) hx hb hts iX1 tyX1 tyX1_ok nmX1 hown hK hP hD hS 0 rfl rfl 1 (by decide) (hts (.fieldLink RX1 18 "CapitalReckoner$Piece" "currency" "I") (by decide +kernel)) (fun _ h9 => h9) rfl hin rfl (by decide +kernel) rfl rfl (Nat.le_of_ble_eq_true rfl) dX1_init_16 (fun H locs hP hD hS => ?_)
  have hP : va_P D vwCl ([(a0, .inr (1, [.int h0, .int c0, .int 0, .int m0, .int 0]))]) H := hP
  have hD : va_D A ([(a0, .inr (1, [.int h0, .int c0, .int 0, .int m0, .int 0]))]) := hD
  refine lv_aload_n hx hb dX1_init_19 rfl (lv_at hl 0 rfl) ?_
  refine lv_iload hx hb dX1_init_20 (lv_at hl 4 rfl) ?_
  refine va_putF (D := D) (ci := 1) (v := .int t0) (ty := .int) (C := RX1) (T := TX1) (N := 5) hx hb hts iX1 tyX1 tyX1_ok nmX1 hown hK hP hD hS 0 rfl rfl 2 (by decide) (hts (.fieldLink RX1 21 "CapitalReckoner$Piece" "days" "I") (by decide +kernel)) (fun _ h9 => h9) rfl hin rfl (by decide +kernel) rfl rfl (Nat.le_of_ble_eq_true rfl) dX1_init_22 (fun H locs hP hD hS => ?_)
  have hP : va_P D vwCl ([(a0, .inr (1, [.int h0, .int c0, .int t0, .int m0, .int 0]))]) H := hP
  have hD : va_D A ([(a0, .inr (1, [.int h0, .int c0, .int t0, .int m0, .int 0]))]) := hD
  refine lv_aload_n hx hb dX1_init_25 rfl (lv_at hl 0 rfl) ?_
  refine lv_iload hx hb dX1_init_26 (lv_at hl 5 rfl) ?_
  refine va_put (D := D) (ci := 1) (v := .int u0) (ty := .int) (C := RX1) (T := TX1) (N := 5) hx hb hts iX1 tyX1 tyX1_ok nmX1 hown hK hP hD hS 0 rfl rfl 4 (by decide) (hts (.fieldLink RX1 24 "CapitalReckoner$Piece" "uses" "I") (by decide +kernel)) (fun _ h9 => h9) rfl (by decide +kernel) rfl rfl (Nat.le_of_ble_eq_true rfl) dX1_init_28 (fun H locs hP hD hS => ?_)
  have hP : va_P D vwCl ([(a0, .inr (1, [.int h0, .int c0, .int t0, .int m0, .int u0]))]) H := hP
  have hD : va_D A ([(a0, .inr (1, [.int h0, .int c0, .int t0, .int m0, .int u0]))]) := hD
  refine W.widen (k := 0) (n := 0) (Nat.le_of_ble_eq_true rfl) (Nat.le_of_ble_eq_true rfl) ?_
  exact zvretU (u := ()) hx hb hr hAe (by first | trivial | rfl) (zP_re hP (rfl)) (zD_re hD (rfl)) hS dX1_init_31
set_option maxHeartbeats 4000000 in
set_option maxRecDepth 100000 in
theorem zX2_init (l : Launch) (D : va_G) (cI cL cE cP : ClassId) (a0 : Nat) (sz : Nat) : Met l yX2_init wsX2_init ({ frames := 1, cells := 5, slots := 336, locals := 24 }) (zPw D cI cL cE cP ([(a0, .inr (2, [.null, .null, .null, .null, .null, .int 0, .int 0]))]) sz [.ref a0]) (va_Qv (fun (u : Nat → Nat) => True) (fun u t => zB D ([(a0, .inr (2, [.null, .null, .null, .null, .null, .int 0, .int 0]))]) sz ([(a0, .inr (2, [.ref (u 6), .ref (u 7), .ref (u 8), .ref (u 9), .ref (u 10), .int 0, .int 0])), (u 6, .inl (cI, 8, .inl (fun _ => 0))), (u 7, .inl (cI, 256, .inl (fun _ => 0))), (u 8, .inl (cI, 8, .inl (fun _ => 0))), (u 9, .inl (cL, 32, .inr (.inl (fun _ => 0)))), (u 10, .inl (cL, 32, .inr (.inl (fun _ => 0))))]) t) (va_A ([(a0, .inr (2, [.null, .null, .null, .null, .null, .int 0, .int 0]))]) sz)) 5 336 (va_A ([(a0, .inr (2, [.null, .null, .null, .null, .null, .int 0, .int 0]))]) sz) := by
  refine Met.ofW (cc := cX2_init) (maxL := 1) (ret := none) (by decide) rfl ?_
  intro p e s m args below meth c s₁ B hml hv
  obtain ⟨rfl, hsz, hE, hP, hD0⟩ := hv
  subst hsz
  obtain ⟨A, hAe⟩ : ∃ A, A = va_A ([(a0, .inr (2, [.null, .null, .null, .null, .null, .int 0, .int 0]))]) s.heap.size := ⟨_, rfl⟩
  have hD : va_D A ([(a0, .inr (2, [.null, .null, .null, .null, .null, .int 0, .int 0]))]) := by rw [hAe]; exact hD0.self
  have hA : ∀ q : Nat, s.heap.size ≤ q → A q := fun q h => by rw [hAe]; exact Or.inr h
  have hS : va_S A s.heap s.heap [] := va_S.rf
  have hx := B.exec
  have hb := B.bytes
  have hr := B.returns
  have hts := atoms_spec (ws := wsX2_init) B.pre
  have hown : s.vm.findClass RX2 = some m.cls := findClass_of_methodNamed B.named
  have hlocks := B.notSynchronized
  have hK := hE.1
  have hin : meth.name = "<init>" := (name_of_methodNamed B.named B.method).1
  have iX2 : ∀ w ∈ wsX20, w ∈ wsX2_init := by decide +kernel
  have hl := lv_entry ([.ref a0]) (n := 1) (Nat.le_of_ble_eq_true rfl)
  rw [lg_entry_eq]
  generalize (lg_sl ([.ref a0]) ++ List.replicate (1 - (lg_sl ([.ref a0])).length) Slot.unset).toArray = ls at hl ⊢
  have hl : lv_has ls 1 [(0, .ref a0)] := hl
  refine lv_aload_n hx hb dX2_init_0 rfl (lv_at hl 0 rfl) ?_
  refine W.objInit hx hb hown (hts (.methodLink RX2 5 objectInit) (by decide +kernel)) (hts (.instanceMethod objectInit) (by decide +kernel)) (hts (.code objectInit ⟨#[0xb1]⟩ 1 none) (by decide +kernel)) rfl (by rw [hml]; exact hl.1) rfl dX2_init_1 (Nat.le_of_ble_eq_true rfl) (Nat.le_of_ble_eq_true rfl) ?_
  refine W.eq (g2 := F0 m 4 ls []) rfl ?_
  refine lv_aload_n hx hb dX2_init_4 rfl (lv_at hl 0 rfl) ?_
  refine lv_bipush (v := 8) hx hb dX2_init_5 (by decide) ?_
  refine znewI hx hb (hts (.arrayClass .int) (by decide +kernel)) hE hP hD hS hA 8 (by decide) (by decide) (by decide) (Nat.le_of_ble_eq_true rfl) (Nat.le_of_ble_eq_true rfl) dX2_init_7 (fun q_1 H hP hD hS => ?_)
  have hP : va_P D vwCl ([(a0, .inr (2, [.null, .null, .null, .null, .null, .int 0, .int 0])), (q_1, .inl (cI, 8, .inl (fun _ => 0)))]) H := hP
  have hD : va_D A ([(a0, .inr (2, [.null, .null, .null, .null, .null, .int 0, .int 0])), (q_1, .inl (cI, 8, .inl (fun _ => 0)))]) := hD
  refine va_putF (D := D) (ci := 2) (v := .ref q_1) (ty := .array .int) (C := RX2) (T := TX2) (N := 7) hx hb hts iX2 tyX2 tyX2_ok nmX2 hown hK hP hD hS 0 rfl rfl 0 (by decide) (hts (.fieldLink RX2 11 "CapitalReckoner$Search" "usable" "[I") (by decide +kernel)) (fun _ h9 => h9) rfl hin rfl (by decide +kernel) rfl rfl (Nat.le_of_ble_eq_true rfl) dX2_init_9 (fun H locs hP hD hS => ?_)
  have hP : va_P D vwCl ([(a0, .inr (2, [.ref q_1, .null, .null, .null, .null, .int 0, .int 0])), (q_1, .inl (cI, 8, .inl (fun _ => 0)))]) H := hP
  have hD : va_D A ([(a0, .inr (2, [.ref q_1, .null, .null, .null, .null, .int 0, .int 0])), (q_1, .inl (cI, 8, .inl (fun _ => 0)))]) := hD
  refine lv_aload_n hx hb dX2_init_12 rfl (lv_at hl 0 rfl) ?_
  refine lv_sipush (v := 256) hx hb dX2_init_13 (by decide) ?_
  refine znewI hx hb (hts (.arrayClass .int) (by decide +kernel)) hE hP hD hS hA 256 (by decide) (by decide) (by decide) (Nat.le_of_ble_eq_true rfl) (Nat.le_of_ble_eq_true rfl) dX2_init_16 (fun q_2 H hP hD hS => ?_)
  have hP : va_P D vwCl ([(a0, .inr (2, [.ref q_1, .null, .null, .null, .null, .int 0, .int 0])), (q_1, .inl (cI, 8, .inl (fun _ => 0))), (q_2, .inl (cI, 256, .inl (fun _ => 0)))]) H := hP
  have hD : va_D A ([(a0, .inr (2, [.ref q_1, .null, .null, .null, .null, .int 0, .int 0])), (q_1, .inl (cI, 8, .inl (fun _ => 0))), (q_2, .inl (cI, 256, .inl (fun _ => 0)))]) := hD
  refine va_putF (D := D) (ci := 2) (v := .ref q_2) (ty := .array .int) (C := RX2) (T := TX2) (N := 7) hx hb hts iX2 tyX2 tyX2_ok nmX2 hown hK hP hD hS 0 rfl rfl 1 (by decide) (hts (.fieldLink RX2 15 "CapitalReckoner$Search" "weightedBySet" "[I") (by decide +kernel)) (fun _ h9 => h9) rfl hin rfl (by decide +kernel) rfl rfl (Nat.le_of_ble_eq_true rfl) dX2_init_18 (fun H locs hP hD hS => ?_)
  have hP : va_P D vwCl ([(a0, .inr (2, [.ref q_1, .ref q_2, .null, .null, .null, .int 0, .int 0])), (q_1, .inl (cI, 8, .inl (fun _ => 0))), (q_2, .inl (cI, 256, .inl (fun _ => 0)))]) H := hP
  have hD : va_D A ([(a0, .inr (2, [.ref q_1, .ref q_2, .null, .null, .null, .int 0, .int 0])), (q_1, .inl (cI, 8, .inl (fun _ => 0))), (q_2, .inl (cI, 256, .inl (fun _ => 0)))]) := hD
  refine lv_aload_n hx hb dX2_init_21 rfl (lv_at hl 0 rfl) ?_
  refine lv_bipush (v := 8) hx hb dX2_init_22 (by decide) ?_
  refine znewI hx hb (hts (.arrayClass .int) (by decide +kernel)) hE hP hD hS hA 8 (by decide) (by decide) (by decide) (Nat.le_of_ble_eq_true rfl) (Nat.le_of_ble_eq_true rfl) dX2_init_24 (fun q_3 H hP hD hS => ?_)
  have hP : va_P D vwCl ([(a0, .inr (2, [.ref q_1, .ref q_2, .null, .null, .null, .int 0, .int 0])), (q_1, .inl (cI, 8, .inl (fun _ => 0))), (q_2, .inl (cI, 256, .inl (fun _ => 0))), (q_3, .inl (cI, 8, .inl (fun _ => 0)))]) H := hP
  have hD : va_D A ([(a0, .inr (2, [.ref q_1, .ref q_2, .null, .null, .null, .int 0, .int 0])), (q_1, .inl (cI, 8, .inl (fun _ => 0))), (q_2, .inl (cI, 256, .inl (fun _ => 0))), (q_3, .inl (cI, 8, .inl (fun _ => 0)))]) := hD
  refine va_putF (D := D) (ci := 2) (v := .ref q_3) (ty := .array .int) (C := RX2) (T := TX2) (N := 7) hx hb hts iX2 tyX2 tyX2_ok nmX2 hown hK hP hD hS 0 rfl rfl 2 (by decide) (hts (.fieldLink RX2 18 "CapitalReckoner$Search" "tried" "[I") (by decide +kernel)) (fun _ h9 => h9) rfl hin rfl (by decide +kernel) rfl rfl (Nat.le_of_ble_eq_true rfl) dX2_init_26 (fun H locs hP hD hS => ?_)
  have hP : va_P D vwCl ([(a0, .inr (2, [.ref q_1, .ref q_2, .ref q_3, .null, .null, .int 0, .int 0])), (q_1, .inl (cI, 8, .inl (fun _ => 0))), (q_2, .inl (cI, 256, .inl (fun _ => 0))), (q_3, .inl (cI, 8, .inl (fun _ => 0)))]) H := hP
  have hD : va_D A ([(a0, .inr (2, [.ref q_1, .ref q_2, .ref q_3, .null, .null, .int 0, .int 0])), (q_1, .inl (cI, 8, .inl (fun _ => 0))), (q_2, .inl (cI, 256, .inl (fun _ => 0))), (q_3, .inl (cI, 8, .inl (fun _ => 0)))]) := hD
  refine lv_aload_n hx hb dX2_init_29 rfl (lv_at hl 0 rfl) ?_
  refine lv_bipush (v := 32) hx hb dX2_init_30 (by decide) ?_
  refine znewJ hx hb (hts (.arrayClass .long) (by decide +kernel)) hE hP hD hS hA 32 (by decide) (by decide) (by decide) (Nat.le_of_ble_eq_true rfl) (Nat.le_of_ble_eq_true rfl) dX2_init_32 (fun q_4 H hP hD hS => ?_)
  have hP : va_P D vwCl ([(a0, .inr (2, [.ref q_1, .ref q_2, .ref q_3, .null, .null, .int 0, .int 0])), (q_1, .inl (cI, 8, .inl (fun _ => 0))), (q_2, .inl (cI, 256, .inl (fun _ => 0))), (q_3, .inl (cI, 8, .inl (fun _ => 0))), (q_4, .inl (cL, 32, .inr (.inl (fun _ => 0))))]) H := hP
  have hD : va_D A ([(a0, .inr (2, [.ref q_1, .ref q_2, .ref q_3, .null, .null, .int 0, .int 0])), (q_1, .inl (cI, 8, .inl (fun _ => 0))), (q_2, .inl (cI, 256, .inl (fun _ => 0))), (q_3, .inl (cI, 8, .inl (fun _ => 0))), (q_4, .inl (cL, 32, .inr (.inl (fun _ => 0))))]) := hD
  refine va_putF (D := D) (ci := 2) (v := .ref q_4) (ty := .array .long) (C := RX2) (T := TX2) (N := 7) hx hb hts iX2 tyX2 tyX2_ok nmX2 hown hK hP hD hS 0 rfl rfl 3 (by decide) (hts (.fieldLink RX2 21 "CapitalReckoner$Search" "prices" "[J") (by decide +kernel)) (fun _ h9 => h9) rfl hin rfl (by decide +kernel) rfl rfl (Nat.le_of_ble_eq_true rfl) dX2_init_34 (fun H locs hP hD hS => ?_)
  have hP : va_P D vwCl ([(a0, .inr (2, [.ref q_1, .ref q_2, .ref q_3, .ref q_4, .null, .int 0, .int 0])), (q_1, .inl (cI, 8, .inl (fun _ => 0))), (q_2, .inl (cI, 256, .inl (fun _ => 0))), (q_3, .inl (cI, 8, .inl (fun _ => 0))), (q_4, .inl (cL, 32, .inr (.inl (fun _ => 0))))]) H := hP
  have hD : va_D A ([(a0, .inr (2, [.ref q_1, .ref q_2, .ref q_3, .ref q_4, .null, .int 0, .int 0])), (q_1, .inl (cI, 8, .inl (fun _ => 0))), (q_2, .inl (cI, 256, .inl (fun _ => 0))), (q_3, .inl (cI, 8, .inl (fun _ => 0))), (q_4, .inl (cL, 32, .inr (.inl (fun _ => 0))))]) := hD
  refine lv_aload_n hx hb dX2_init_37 rfl (lv_at hl 0 rfl) ?_
  refine lv_bipush (v := 32) hx hb dX2_init_38 (by decide) ?_
  refine znewJ hx hb (hts (.arrayClass .long) (by decide +kernel)) hE hP hD hS hA 32 (by decide) (by decide) (by decide) (Nat.le_of_ble_eq_true rfl) (Nat.le_of_ble_eq_true rfl) dX2_init_40 (fun q_5 H hP hD hS => ?_)
  have hP : va_P D vwCl ([(a0, .inr (2, [.ref q_1, .ref q_2, .ref q_3, .ref q_4, .null, .int 0, .int 0])), (q_1, .inl (cI, 8, .inl (fun _ => 0))), (q_2, .inl (cI, 256, .inl (fun _ => 0))), (q_3, .inl (cI, 8, .inl (fun _ => 0))), (q_4, .inl (cL, 32, .inr (.inl (fun _ => 0)))), (q_5, .inl (cL, 32, .inr (.inl (fun _ => 0))))]) H := hP
  have hD : va_D A ([(a0, .inr (2, [.ref q_1, .ref q_2, .ref q_3, .ref q_4, .null, .int 0, .int 0])), (q_1, .inl (cI, 8, .inl (fun _ => 0))), (q_2, .inl (cI, 256, .inl (fun _ => 0))), (q_3, .inl (cI, 8, .inl (fun _ => 0))), (q_4, .inl (cL, 32, .inr (.inl (fun _ => 0)))), (q_5, .inl (cL, 32, .inr (.inl (fun _ => 0))))]) := hD
  refine va_putF (D := D) (ci := 2) (v := .ref q_5) (ty := .array .long) (C := RX2) (T := TX2) (N := 7) hx hb hts iX2 tyX2 tyX2_ok nmX2 hown hK hP hD hS 0 rfl rfl 4 (by decide) (hts (.fieldLink RX2 25 "CapitalReckoner$Search" "least" "[J") (by decide +kernel)) (fun _ h9 => h9) rfl hin rfl (by decide +kernel) rfl rfl (Nat.le_of_ble_eq_true rfl) dX2_init_42 (fun H locs hP hD hS => ?_)
  have hP : va_P D vwCl ([(a0, .inr (2, [.ref q_1, .ref q_2, .ref q_3, .ref q_4, .ref q_5, .int 0, .int 0])), (q_1, .inl (cI, 8, .inl (fun _ => 0))), (q_2, .inl (cI, 256, .inl (fun _ => 0))), (q_3, .inl (cI, 8, .inl (fun _ => 0))), (q_4, .inl (cL, 32, .inr (.inl (fun _ => 0)))), (q_5, .inl (cL, 32, .inr (.inl (fun _ => 0))))]) H := hP
  have hD : va_D A ([(a0, .inr (2, [.ref q_1, .ref q_2, .ref q_3, .ref q_4, .ref q_5, .int 0, .int 0])), (q_1, .inl (cI, 8, .inl (fun _ => 0))), (q_2, .inl (cI, 256, .inl (fun _ => 0))), (q_3, .inl (cI, 8, .inl (fun _ => 0))), (q_4, .inl (cL, 32, .inr (.inl (fun _ => 0)))), (q_5, .inl (cL, 32, .inr (.inl (fun _ => 0))))]) := hD
  refine W.widen (k := 5) (n := 336) (Nat.le_of_ble_eq_true rfl) (Nat.le_of_ble_eq_true rfl) ?_
  exact zvretU (u := (fun i => if i = 6 then q_1 else if i = 7 then q_2 else if i = 8 then q_3 else if i = 9 then q_4 else if i = 10 then q_5 else 0 : Nat → Nat)) hx hb hr hAe (by first | trivial | rfl) (zP_re hP (rfl)) (zD_re hD (rfl)) hS dX2_init_45
set_option maxHeartbeats 4000000 in
set_option maxRecDepth 100000 in
theorem zX3_init (l : Launch) (D : va_G) (cI cL cE cP : ClassId) (a0 : Nat) (sz : Nat) : Met l yX3_init wsX3_init ({ frames := 2, cells := 10, slots := 364, locals := 44 }) (zPo D cI cL cE cP ([(a0, .inr (3, [.null, .null, .null, .null, .null, .int 0, .int 0, .int 0, .int 0]))]) sz [.ref a0]) (va_Qv (fun (u : Nat → Nat) => u 0 = a0) (fun u t => zB D ([(a0, .inr (3, [.null, .null, .null, .null, .null, .int 0, .int 0, .int 0, .int 0]))]) sz (cws cI cL cE cP u g0 0 0 (fun _ => 0) (fun _ => 0) (fun _ => 0) (fun _ => 0) (fun _ => 0) 0 0) t) (va_A ([(a0, .inr (3, [.null, .null, .null, .null, .null, .int 0, .int 0, .int 0, .int 0]))]) sz)) 10 364 (va_A ([(a0, .inr (3, [.null, .null, .null, .null, .null, .int 0, .int 0, .int 0, .int 0]))]) sz) := by
  refine Met.ofW (cc := cX3_init) (maxL := 1) (ret := none) (by decide) rfl ?_
  intro p e s m args below meth c s₁ B hml hv
  obtain ⟨rfl, hsz, hE, hP, hD0, hO0, hO1⟩ := hv
  subst hsz
  obtain ⟨A, hAe⟩ : ∃ A, A = va_A ([(a0, .inr (3, [.null, .null, .null, .null, .null, .int 0, .int 0, .int 0, .int 0]))]) s.heap.size := ⟨_, rfl⟩
  have hD : va_D A ([(a0, .inr (3, [.null, .null, .null, .null, .null, .int 0, .int 0, .int 0, .int 0]))]) := by rw [hAe]; exact hD0.self
  have hA : ∀ q : Nat, s.heap.size ≤ q → A q := fun q h => by rw [hAe]; exact Or.inr h
  have hS : va_S A s.heap s.heap [] := va_S.rf
  have hx := B.exec
  have hb := B.bytes
  have hr := B.returns
  have hts := atoms_spec (ws := wsX3_init) B.pre
  have hown : s.vm.findClass RX3 = some m.cls := findClass_of_methodNamed B.named
  have hlocks := B.notSynchronized
  have hK := hE.1
  have hin : meth.name = "<init>" := (name_of_methodNamed B.named B.method).1
  have iX2 : ∀ w ∈ wsX20, w ∈ wsX3_init := by decide +kernel
  have iX3 : ∀ w ∈ wsX30, w ∈ wsX3_init := by decide +kernel
  have hl := lv_entry ([.ref a0]) (n := 1) (Nat.le_of_ble_eq_true rfl)
  rw [lg_entry_eq]
  generalize (lg_sl ([.ref a0]) ++ List.replicate (1 - (lg_sl ([.ref a0])).length) Slot.unset).toArray = ls at hl ⊢
  have hl : lv_has ls 1 [(0, .ref a0)] := hl
  refine lv_aload_n hx hb dX3_init_0 rfl (lv_at hl 0 rfl) ?_
  refine W.objInit hx hb hown (hts (.methodLink RX3 1 objectInit) (by decide +kernel)) (hts (.instanceMethod objectInit) (by decide +kernel)) (hts (.code objectInit ⟨#[0xb1]⟩ 1 none) (by decide +kernel)) rfl (by rw [hml]; exact hl.1) rfl dX3_init_1 (Nat.le_of_ble_eq_true rfl) (Nat.le_of_ble_eq_true rfl) ?_
  refine W.eq (g2 := F0 m 4 ls []) rfl ?_
  refine lv_aload_n hx hb dX3_init_4 rfl (lv_at hl 0 rfl) ?_
  refine lv_iconst (v := 4) hx hb dX3_init_5 (by decide) ?_
  refine znewI hx hb (hts (.arrayClass .int) (by decide +kernel)) hE hP hD hS hA 4 (by decide) (by decide) (by decide) (Nat.le_of_ble_eq_true rfl) (Nat.le_of_ble_eq_true rfl) dX3_init_6 (fun q_1 H hP hD hS => ?_)
  have hP : va_P D vwCl ([(a0, .inr (3, [.null, .null, .null, .null, .null, .int 0, .int 0, .int 0, .int 0])), (q_1, .inl (cI, 4, .inl (fun _ => 0)))]) H := hP
  have hD : va_D A ([(a0, .inr (3, [.null, .null, .null, .null, .null, .int 0, .int 0, .int 0, .int 0])), (q_1, .inl (cI, 4, .inl (fun _ => 0)))]) := hD
  refine lv_dup hx hb dX3_init_8 rfl ?_
  refine lv_iconst (v := 0) hx hb dX3_init_9 (by decide) ?_
  refine lv_iconst (v := 0) hx hb dX3_init_10 (by decide) ?_
  refine ziast (f2 := upd (fun _ => 0) 0 0) hx hb hK hP hD hS 1 0 rfl rfl (by unfold vp_in; decide) (by rfl) dX3_init_11 (fun H locs hP hD hS => ?_)
  have hP : va_P D vwCl ([(a0, .inr (3, [.null, .null, .null, .null, .null, .int 0, .int 0, .int 0, .int 0])), (q_1, .inl (cI, 4, .inl (upd (fun _ => 0) 0 0)))]) H := hP
  have hD : va_D A ([(a0, .inr (3, [.null, .null, .null, .null, .null, .int 0, .int 0, .int 0, .int 0])), (q_1, .inl (cI, 4, .inl (upd (fun _ => 0) 0 0)))]) := hD
  refine lv_dup hx hb dX3_init_12 rfl ?_
  refine lv_iconst (v := 1) hx hb dX3_init_13 (by decide) ?_
  refine lv_bipush (v := 20) hx hb dX3_init_14 (by decide) ?_
  refine ziast (f2 := upd (upd (fun _ => 0) 0 0) 1 20) hx hb hK hP hD hS 1 0 rfl rfl (by unfold vp_in; decide) (by rfl) dX3_init_16 (fun H locs hP hD hS => ?_)
  have hP : va_P D vwCl ([(a0, .inr (3, [.null, .null, .null, .null, .null, .int 0, .int 0, .int 0, .int 0])), (q_1, .inl (cI, 4, .inl (upd (upd (fun _ => 0) 0 0) 1 20)))]) H := hP
  have hD : va_D A ([(a0, .inr (3, [.null, .null, .null, .null, .null, .int 0, .int 0, .int 0, .int 0])), (q_1, .inl (cI, 4, .inl (upd (upd (fun _ => 0) 0 0) 1 20)))]) := hD
  refine lv_dup hx hb dX3_init_17 rfl ?_
  refine lv_iconst (v := 2) hx hb dX3_init_18 (by decide) ?_
  refine lv_bipush (v := 50) hx hb dX3_init_19 (by decide) ?_
  refine ziast (f2 := upd (upd (upd (fun _ => 0) 0 0) 1 20) 2 50) hx hb hK hP hD hS 1 0 rfl rfl (by unfold vp_in; decide) (by rfl) dX3_init_21 (fun H locs hP hD hS => ?_)
  have hP : va_P D vwCl ([(a0, .inr (3, [.null, .null, .null, .null, .null, .int 0, .int 0, .int 0, .int 0])), (q_1, .inl (cI, 4, .inl (upd (upd (upd (fun _ => 0) 0 0) 1 20) 2 50)))]) H := hP
  have hD : va_D A ([(a0, .inr (3, [.null, .null, .null, .null, .null, .int 0, .int 0, .int 0, .int 0])), (q_1, .inl (cI, 4, .inl (upd (upd (upd (fun _ => 0) 0 0) 1 20) 2 50)))]) := hD
  refine lv_dup hx hb dX3_init_22 rfl ?_
  refine lv_iconst (v := 3) hx hb dX3_init_23 (by decide) ?_
  refine lv_bipush (v := 100) hx hb dX3_init_24 (by decide) ?_
  refine ziast (f2 := upd (upd (upd (upd (fun _ => 0) 0 0) 1 20) 2 50) 3 100) hx hb hK hP hD hS 1 0 rfl rfl (by unfold vp_in; decide) (by rfl) dX3_init_26 (fun H locs hP hD hS => ?_)
  have hP : va_P D vwCl ([(a0, .inr (3, [.null, .null, .null, .null, .null, .int 0, .int 0, .int 0, .int 0])), (q_1, .inl (cI, 4, .inl (upd (upd (upd (upd (fun _ => 0) 0 0) 1 20) 2 50) 3 100)))]) H := hP
  have hD : va_D A ([(a0, .inr (3, [.null, .null, .null, .null, .null, .int 0, .int 0, .int 0, .int 0])), (q_1, .inl (cI, 4, .inl (upd (upd (upd (upd (fun _ => 0) 0 0) 1 20) 2 50) 3 100)))]) := hD
  refine va_putF (D := D) (ci := 3) (v := .ref q_1) (ty := .array .int) (C := RX3) (T := TX3) (N := 9) hx hb hts iX3 tyX3 tyX3_ok nmX3 hown hK hP hD hS 0 rfl rfl 0 (by decide) (hts (.fieldLink RX3 7 "CapitalReckoner" "weights" "[I") (by decide +kernel)) (fun _ h9 => h9) rfl hin rfl (by decide +kernel) rfl rfl (Nat.le_of_ble_eq_true rfl) dX3_init_27 (fun H locs hP hD hS => ?_)
  have hP : va_P D vwCl ([(a0, .inr (3, [.ref q_1, .null, .null, .null, .null, .int 0, .int 0, .int 0, .int 0])), (q_1, .inl (cI, 4, .inl (upd (upd (upd (upd (fun _ => 0) 0 0) 1 20) 2 50) 3 100)))]) H := hP
  have hD : va_D A ([(a0, .inr (3, [.ref q_1, .null, .null, .null, .null, .int 0, .int 0, .int 0, .int 0])), (q_1, .inl (cI, 4, .inl (upd (upd (upd (upd (fun _ => 0) 0 0) 1 20) 2 50) 3 100)))]) := hD
  refine lv_aload_n hx hb dX3_init_30 rfl (lv_at hl 0 rfl) ?_
  refine lv_iconst (v := 4) hx hb dX3_init_31 (by decide) ?_
  refine znewI hx hb (hts (.arrayClass .int) (by decide +kernel)) hE hP hD hS hA 4 (by decide) (by decide) (by decide) (Nat.le_of_ble_eq_true rfl) (Nat.le_of_ble_eq_true rfl) dX3_init_32 (fun q_2 H hP hD hS => ?_)
  have hP : va_P D vwCl ([(a0, .inr (3, [.ref q_1, .null, .null, .null, .null, .int 0, .int 0, .int 0, .int 0])), (q_1, .inl (cI, 4, .inl (upd (upd (upd (upd (fun _ => 0) 0 0) 1 20) 2 50) 3 100))), (q_2, .inl (cI, 4, .inl (fun _ => 0)))]) H := hP
  have hD : va_D A ([(a0, .inr (3, [.ref q_1, .null, .null, .null, .null, .int 0, .int 0, .int 0, .int 0])), (q_1, .inl (cI, 4, .inl (upd (upd (upd (upd (fun _ => 0) 0 0) 1 20) 2 50) 3 100))), (q_2, .inl (cI, 4, .inl (fun _ => 0)))]) := hD
  refine lv_dup hx hb dX3_init_34 rfl ?_
  refine lv_iconst (v := 0) hx hb dX3_init_35 (by decide) ?_
  refine lv_iconst (v := 0) hx hb dX3_init_36 (by decide) ?_
  refine ziast (f2 := upd (fun _ => 0) 0 0) hx hb hK hP hD hS 2 0 rfl rfl (by unfold vp_in; decide) (by rfl) dX3_init_37 (fun H locs hP hD hS => ?_)
  have hP : va_P D vwCl ([(a0, .inr (3, [.ref q_1, .null, .null, .null, .null, .int 0, .int 0, .int 0, .int 0])), (q_1, .inl (cI, 4, .inl (upd (upd (upd (upd (fun _ => 0) 0 0) 1 20) 2 50) 3 100))), (q_2, .inl (cI, 4, .inl (upd (fun _ => 0) 0 0)))]) H := hP
  have hD : va_D A ([(a0, .inr (3, [.ref q_1, .null, .null, .null, .null, .int 0, .int 0, .int 0, .int 0])), (q_1, .inl (cI, 4, .inl (upd (upd (upd (upd (fun _ => 0) 0 0) 1 20) 2 50) 3 100))), (q_2, .inl (cI, 4, .inl (upd (fun _ => 0) 0 0)))]) := hD
  refine lv_dup hx hb dX3_init_38 rfl ?_
  refine lv_iconst (v := 1) hx hb dX3_init_39 (by decide) ?_
  refine lv_bipush (v := 50) hx hb dX3_init_40 (by decide) ?_
  refine ziast (f2 := upd (upd (fun _ => 0) 0 0) 1 50) hx hb hK hP hD hS 2 0 rfl rfl (by unfold vp_in; decide) (by rfl) dX3_init_42 (fun H locs hP hD hS => ?_)
  have hP : va_P D vwCl ([(a0, .inr (3, [.ref q_1, .null, .null, .null, .null, .int 0, .int 0, .int 0, .int 0])), (q_1, .inl (cI, 4, .inl (upd (upd (upd (upd (fun _ => 0) 0 0) 1 20) 2 50) 3 100))), (q_2, .inl (cI, 4, .inl (upd (upd (fun _ => 0) 0 0) 1 50)))]) H := hP
  have hD : va_D A ([(a0, .inr (3, [.ref q_1, .null, .null, .null, .null, .int 0, .int 0, .int 0, .int 0])), (q_1, .inl (cI, 4, .inl (upd (upd (upd (upd (fun _ => 0) 0 0) 1 20) 2 50) 3 100))), (q_2, .inl (cI, 4, .inl (upd (upd (fun _ => 0) 0 0) 1 50)))]) := hD
  refine lv_dup hx hb dX3_init_43 rfl ?_
  refine lv_iconst (v := 2) hx hb dX3_init_44 (by decide) ?_
  refine lv_bipush (v := 100) hx hb dX3_init_45 (by decide) ?_
  refine ziast (f2 := upd (upd (upd (fun _ => 0) 0 0) 1 50) 2 100) hx hb hK hP hD hS 2 0 rfl rfl (by unfold vp_in; decide) (by rfl) dX3_init_47 (fun H locs hP hD hS => ?_)
  have hP : va_P D vwCl ([(a0, .inr (3, [.ref q_1, .null, .null, .null, .null, .int 0, .int 0, .int 0, .int 0])), (q_1, .inl (cI, 4, .inl (upd (upd (upd (upd (fun _ => 0) 0 0) 1 20) 2 50) 3 100))), (q_2, .inl (cI, 4, .inl (upd (upd (upd (fun _ => 0) 0 0) 1 50) 2 100)))]) H := hP
  have hD : va_D A ([(a0, .inr (3, [.ref q_1, .null, .null, .null, .null, .int 0, .int 0, .int 0, .int 0])), (q_1, .inl (cI, 4, .inl (upd (upd (upd (upd (fun _ => 0) 0 0) 1 20) 2 50) 3 100))), (q_2, .inl (cI, 4, .inl (upd (upd (upd (fun _ => 0) 0 0) 1 50) 2 100)))]) := hD
  refine lv_dup hx hb dX3_init_48 rfl ?_
  refine lv_iconst (v := 3) hx hb dX3_init_49 (by decide) ?_
  refine lv_bipush (v := 100) hx hb dX3_init_50 (by decide) ?_
  refine ziast (f2 := upd (upd (upd (upd (fun _ => 0) 0 0) 1 50) 2 100) 3 100) hx hb hK hP hD hS 2 0 rfl rfl (by unfold vp_in; decide) (by rfl) dX3_init_52 (fun H locs hP hD hS => ?_)
  have hP : va_P D vwCl ([(a0, .inr (3, [.ref q_1, .null, .null, .null, .null, .int 0, .int 0, .int 0, .int 0])), (q_1, .inl (cI, 4, .inl (upd (upd (upd (upd (fun _ => 0) 0 0) 1 20) 2 50) 3 100))), (q_2, .inl (cI, 4, .inl (upd (upd (upd (upd (fun _ => 0) 0 0) 1 50) 2 100) 3 100)))]) H := hP
  have hD : va_D A ([(a0, .inr (3, [.ref q_1, .null, .null, .null, .null, .int 0, .int 0, .int 0, .int 0])), (q_1, .inl (cI, 4, .inl (upd (upd (upd (upd (fun _ => 0) 0 0) 1 20) 2 50) 3 100))), (q_2, .inl (cI, 4, .inl (upd (upd (upd (upd (fun _ => 0) 0 0) 1 50) 2 100) 3 100)))]) := hD
  refine va_putF (D := D) (ci := 3) (v := .ref q_2) (ty := .array .int) (C := RX3) (T := TX3) (N := 9) hx hb hts iX3 tyX3 tyX3_ok nmX3 hown hK hP hD hS 0 rfl rfl 1 (by decide) (hts (.fieldLink RX3 13 "CapitalReckoner" "plainWeights" "[I") (by decide +kernel)) (fun _ h9 => h9) rfl hin rfl (by decide +kernel) rfl rfl (Nat.le_of_ble_eq_true rfl) dX3_init_53 (fun H locs hP hD hS => ?_)
  have hP : va_P D vwCl ([(a0, .inr (3, [.ref q_1, .ref q_2, .null, .null, .null, .int 0, .int 0, .int 0, .int 0])), (q_1, .inl (cI, 4, .inl (upd (upd (upd (upd (fun _ => 0) 0 0) 1 20) 2 50) 3 100))), (q_2, .inl (cI, 4, .inl (upd (upd (upd (upd (fun _ => 0) 0 0) 1 50) 2 100) 3 100)))]) H := hP
  have hD : va_D A ([(a0, .inr (3, [.ref q_1, .ref q_2, .null, .null, .null, .int 0, .int 0, .int 0, .int 0])), (q_1, .inl (cI, 4, .inl (upd (upd (upd (upd (fun _ => 0) 0 0) 1 20) 2 50) 3 100))), (q_2, .inl (cI, 4, .inl (upd (upd (upd (upd (fun _ => 0) 0 0) 1 50) 2 100) 3 100)))]) := hD
  refine lv_aload_n hx hb dX3_init_56 rfl (lv_at hl 0 rfl) ?_
  refine lv_bipush (v := 8) hx hb dX3_init_57 (by decide) ?_
  refine znewE hx hb hown (hts (.classLink RX3 16 RX0) (by decide +kernel)) hO0 hE hP hD hS hA 8 (by decide) (by decide) (by decide) (Nat.le_of_ble_eq_true rfl) (Nat.le_of_ble_eq_true rfl) dX3_init_59 (fun q_3 H hP hD hS => ?_)
  have hP : va_P D vwCl ([(a0, .inr (3, [.ref q_1, .ref q_2, .null, .null, .null, .int 0, .int 0, .int 0, .int 0])), (q_1, .inl (cI, 4, .inl (upd (upd (upd (upd (fun _ => 0) 0 0) 1 20) 2 50) 3 100))), (q_2, .inl (cI, 4, .inl (upd (upd (upd (upd (fun _ => 0) 0 0) 1 50) 2 100) 3 100))), (q_3, .inl (cE, 8, .inr (.inr (.inr (.inr (fun _ => none))))))]) H := hP
  have hD : va_D A ([(a0, .inr (3, [.ref q_1, .ref q_2, .null, .null, .null, .int 0, .int 0, .int 0, .int 0])), (q_1, .inl (cI, 4, .inl (upd (upd (upd (upd (fun _ => 0) 0 0) 1 20) 2 50) 3 100))), (q_2, .inl (cI, 4, .inl (upd (upd (upd (upd (fun _ => 0) 0 0) 1 50) 2 100) 3 100))), (q_3, .inl (cE, 8, .inr (.inr (.inr (.inr (fun _ => none))))))]) := hD
  refine va_putF (D := D) (ci := 3) (v := .ref q_3) (ty := .array (.object "CapitalReckoner$Exposure")) (C := RX3) (T := TX3) (N := 9) hx hb hts iX3 tyX3 tyX3_ok nmX3 hown hK hP hD hS 0 rfl rfl 2 (by decide) (hts (.fieldLink RX3 18 "CapitalReckoner" "book" "[LCapitalReckoner$Exposure;") (by decide +kernel)) (fun _ h9 => h9) rfl hin rfl (by decide +kernel) rfl rfl (Nat.le_of_ble_eq_true rfl) dX3_init_62 (fun H locs hP hD hS => ?_)
  have hP : va_P D vwCl ([(a0, .inr (3, [.ref q_1, .ref q_2, .ref q_3, .null, .null, .int 0, .int 0, .int 0, .int 0])), (q_1, .inl (cI, 4, .inl (upd (upd (upd (upd (fun _ => 0) 0 0) 1 20) 2 50) 3 100))), (q_2, .inl (cI, 4, .inl (upd (upd (upd (upd (fun _ => 0) 0 0) 1 50) 2 100) 3 100))), (q_3, .inl (cE, 8, .inr (.inr (.inr (.inr (fun _ => none))))))]) H := hP
  have hD : va_D A ([(a0, .inr (3, [.ref q_1, .ref q_2, .ref q_3, .null, .null, .int 0, .int 0, .int 0, .int 0])), (q_1, .inl (cI, 4, .inl (upd (upd (upd (upd (fun _ => 0) 0 0) 1 20) 2 50) 3 100))), (q_2, .inl (cI, 4, .inl (upd (upd (upd (upd (fun _ => 0) 0 0) 1 50) 2 100) 3 100))), (q_3, .inl (cE, 8, .inr (.inr (.inr (.inr (fun _ => none))))))]) := hD
  refine lv_aload_n hx hb dX3_init_65 rfl (lv_at hl 0 rfl) ?_
  refine lv_iconst (v := 5) hx hb dX3_init_66 (by decide) ?_
  refine znewP hx hb hown (hts (.classLink RX3 22 RX1) (by decide +kernel)) hO1 hE hP hD hS hA 5 (by decide) (by decide) (by decide) (Nat.le_of_ble_eq_true rfl) (Nat.le_of_ble_eq_true rfl) dX3_init_67 (fun q_4 H hP hD hS => ?_)
  have hP : va_P D vwCl ([(a0, .inr (3, [.ref q_1, .ref q_2, .ref q_3, .null, .null, .int 0, .int 0, .int 0, .int 0])), (q_1, .inl (cI, 4, .inl (upd (upd (upd (upd (fun _ => 0) 0 0) 1 20) 2 50) 3 100))), (q_2, .inl (cI, 4, .inl (upd (upd (upd (upd (fun _ => 0) 0 0) 1 50) 2 100) 3 100))), (q_3, .inl (cE, 8, .inr (.inr (.inr (.inr (fun _ => none)))))), (q_4, .inl (cP, 5, .inr (.inr (.inr (.inr (fun _ => none))))))]) H := hP
  have hD : va_D A ([(a0, .inr (3, [.ref q_1, .ref q_2, .ref q_3, .null, .null, .int 0, .int 0, .int 0, .int 0])), (q_1, .inl (cI, 4, .inl (upd (upd (upd (upd (fun _ => 0) 0 0) 1 20) 2 50) 3 100))), (q_2, .inl (cI, 4, .inl (upd (upd (upd (upd (fun _ => 0) 0 0) 1 50) 2 100) 3 100))), (q_3, .inl (cE, 8, .inr (.inr (.inr (.inr (fun _ => none)))))), (q_4, .inl (cP, 5, .inr (.inr (.inr (.inr (fun _ => none))))))]) := hD
  refine va_putF (D := D) (ci := 3) (v := .ref q_4) (ty := .array (.object "CapitalReckoner$Piece")) (C := RX3) (T := TX3) (N := 9) hx hb hts iX3 tyX3 tyX3_ok nmX3 hown hK hP hD hS 0 rfl rfl 3 (by decide) (hts (.fieldLink RX3 24 "CapitalReckoner" "collateral" "[LCapitalReckoner$Piece;") (by decide +kernel)) (fun _ h9 => h9) rfl hin rfl (by decide +kernel) rfl rfl (Nat.le_of_ble_eq_true rfl) dX3_init_70 (fun H locs hP hD hS => ?_)
  have hP : va_P D vwCl ([(a0, .inr (3, [.ref q_1, .ref q_2, .ref q_3, .ref q_4, .null, .int 0, .int 0, .int 0, .int 0])), (q_1, .inl (cI, 4, .inl (upd (upd (upd (upd (fun _ => 0) 0 0) 1 20) 2 50) 3 100))), (q_2, .inl (cI, 4, .inl (upd (upd (upd (upd (fun _ => 0) 0 0) 1 50) 2 100) 3 100))), (q_3, .inl (cE, 8, .inr (.inr (.inr (.inr (fun _ => none)))))), (q_4, .inl (cP, 5, .inr (.inr (.inr (.inr (fun _ => none))))))]) H := hP
  have hD : va_D A ([(a0, .inr (3, [.ref q_1, .ref q_2, .ref q_3, .ref q_4, .null, .int 0, .int 0, .int 0, .int 0])), (q_1, .inl (cI, 4, .inl (upd (upd (upd (upd (fun _ => 0) 0 0) 1 20) 2 50) 3 100))), (q_2, .inl (cI, 4, .inl (upd (upd (upd (upd (fun _ => 0) 0 0) 1 50) 2 100) 3 100))), (q_3, .inl (cE, 8, .inr (.inr (.inr (.inr (fun _ => none)))))), (q_4, .inl (cP, 5, .inr (.inr (.inr (.inr (fun _ => none))))))]) := hD
  refine lv_aload_n hx hb dX3_init_73 rfl (lv_at hl 0 rfl) ?_
  refine va_new (ci := 2) (fs := [.null, .null, .null, .null, .null, .int 0, .int 0]) (C := RX2) (T := TX2) (N := 7) hx hb hts iX2 tyX2 tyX2_ok hown (hts (.classLink RX3 28 RX2) (by decide +kernel)) (hts (.instantiable RX2 7) (by decide +kernel)) (hts (.initialized RX2) (by decide +kernel)) hK hP hD hS hA rfl (fun j hj => by rcases (show j = 0 ∨ j = 1 ∨ j = 2 ∨ j = 3 ∨ j = 4 ∨ j = 5 ∨ j = 6 by omega) with rfl | rfl | rfl | rfl | rfl | rfl | rfl <;> rfl) (Nat.le_of_ble_eq_true rfl) (Nat.le_of_ble_eq_true rfl) dX3_init_74 (fun q_5 H hP hD hS => ?_)
  have hP : va_P D vwCl ([(a0, .inr (3, [.ref q_1, .ref q_2, .ref q_3, .ref q_4, .null, .int 0, .int 0, .int 0, .int 0])), (q_1, .inl (cI, 4, .inl (upd (upd (upd (upd (fun _ => 0) 0 0) 1 20) 2 50) 3 100))), (q_2, .inl (cI, 4, .inl (upd (upd (upd (upd (fun _ => 0) 0 0) 1 50) 2 100) 3 100))), (q_3, .inl (cE, 8, .inr (.inr (.inr (.inr (fun _ => none)))))), (q_4, .inl (cP, 5, .inr (.inr (.inr (.inr (fun _ => none)))))), (q_5, .inr (2, [.null, .null, .null, .null, .null, .int 0, .int 0]))]) H := hP
  have hD : va_D A ([(a0, .inr (3, [.ref q_1, .ref q_2, .ref q_3, .ref q_4, .null, .int 0, .int 0, .int 0, .int 0])), (q_1, .inl (cI, 4, .inl (upd (upd (upd (upd (fun _ => 0) 0 0) 1 20) 2 50) 3 100))), (q_2, .inl (cI, 4, .inl (upd (upd (upd (upd (fun _ => 0) 0 0) 1 50) 2 100) 3 100))), (q_3, .inl (cE, 8, .inr (.inr (.inr (.inr (fun _ => none)))))), (q_4, .inl (cP, 5, .inr (.inr (.inr (.inr (fun _ => none)))))), (q_5, .inr (2, [.null, .null, .null, .null, .null, .int 0, .int 0]))]) := hD
  refine lv_dup hx hb dX3_init_77 rfl ?_
  have hPc := (zP_app (w1 := [(a0, .inr (3, [.ref q_1, .ref q_2, .ref q_3, .ref q_4, .null, .int 0, .int 0, .int 0, .int 0])), (q_1, .inl (cI, 4, .inl (upd (upd (upd (upd (fun _ => 0) 0 0) 1 20) 2 50) 3 100))), (q_2, .inl (cI, 4, .inl (upd (upd (upd (upd (fun _ => 0) 0 0) 1 50) 2 100) 3 100))), (q_3, .inl (cE, 8, .inr (.inr (.inr (.inr (fun _ => none)))))), (q_4, .inl (cP, 5, .inr (.inr (.inr (.inr (fun _ => none))))))]) (w2 := [(q_5, .inr (2, [.null, .null, .null, .null, .null, .int 0, .int 0]))]) hP).2
  have hDc := (zD_app (w1 := [(a0, .inr (3, [.ref q_1, .ref q_2, .ref q_3, .ref q_4, .null, .int 0, .int 0, .int 0, .int 0])), (q_1, .inl (cI, 4, .inl (upd (upd (upd (upd (fun _ => 0) 0 0) 1 20) 2 50) 3 100))), (q_2, .inl (cI, 4, .inl (upd (upd (upd (upd (fun _ => 0) 0 0) 1 50) 2 100) 3 100))), (q_3, .inl (cE, 8, .inr (.inr (.inr (.inr (fun _ => none)))))), (q_4, .inl (cP, 5, .inr (.inr (.inr (.inr (fun _ => none))))))]) (w2 := [(q_5, .inr (2, [.null, .null, .null, .null, .null, .int 0, .int 0]))]) hD).2.1
  refine zcallvJ (wr := [(a0, .inr (3, [.ref q_1, .ref q_2, .ref q_3, .ref q_4, .null, .int 0, .int 0, .int 0, .int 0])), (q_1, .inl (cI, 4, .inl (upd (upd (upd (upd (fun _ => 0) 0 0) 1 20) 2 50) 3 100))), (q_2, .inl (cI, 4, .inl (upd (upd (upd (upd (fun _ => 0) 0 0) 1 50) 2 100) 3 100))), (q_3, .inl (cE, 8, .inr (.inr (.inr (.inr (fun _ => none)))))), (q_4, .inl (cP, 5, .inr (.inr (.inr (.inr (fun _ => none))))))]) (wc := [(q_5, .inr (2, [.null, .null, .null, .null, .null, .int 0, .int 0]))]) (w1 := fun (u : Nat → Nat) => [(q_5, .inr (2, [.ref (u 6), .ref (u 7), .ref (u 8), .ref (u 9), .ref (u 10), .int 0, .int 0])), (u 6, .inl (cI, 8, .inl (fun _ => 0))), (u 7, .inl (cI, 256, .inl (fun _ => 0))), (u 8, .inl (cI, 8, .inl (fun _ => 0))), (u 9, .inl (cL, 32, .inr (.inl (fun _ => 0)))), (u 10, .inl (cL, 32, .inr (.inl (fun _ => 0))))]) (va_runIN (As := []) (rest := [.ref q_5, .ref a0]) ⟨hx, hb, hml, hown, hts⟩ (zX2_init l D cI cL cE cP q_5 H.size) ⟨va_cnB 0 hts gX3_init_X2_init_n30 rfl rfl rfl (hE.2 (.methodLinkNest RX3 30 yX2_init RX3) (List.mem_of_getElem? (i := 0) rfl)) (hts (.initialized RX2) (by decide +kernel)) (by decide +kernel) ⟨Nat.le_of_ble_eq_true rfl, Nat.le_of_ble_eq_true rfl⟩, rfl, (hts (.instanceMethod yX2_init) (by decide +kernel))⟩ ⟨zPw_blind, zPw_mk hE hPc hDc⟩ rfl rfl hl.1 rfl (lv_room (Nat.le_of_ble_eq_true rfl)) dX3_init_78 ⟨Nat.le_of_ble_eq_true rfl, Nat.le_of_ble_eq_true rfl⟩) hP hD hS hA (fun u_6 H locs _ hP hD hS => ?_)
  have hP : va_P D vwCl ([(a0, .inr (3, [.ref q_1, .ref q_2, .ref q_3, .ref q_4, .null, .int 0, .int 0, .int 0, .int 0])), (q_1, .inl (cI, 4, .inl (upd (upd (upd (upd (fun _ => 0) 0 0) 1 20) 2 50) 3 100))), (q_2, .inl (cI, 4, .inl (upd (upd (upd (upd (fun _ => 0) 0 0) 1 50) 2 100) 3 100))), (q_3, .inl (cE, 8, .inr (.inr (.inr (.inr (fun _ => none)))))), (q_4, .inl (cP, 5, .inr (.inr (.inr (.inr (fun _ => none)))))), (q_5, .inr (2, [.ref (u_6 6), .ref (u_6 7), .ref (u_6 8), .ref (u_6 9), .ref (u_6 10), .int 0, .int 0])), (u_6 6, .inl (cI, 8, .inl (fun _ => 0))), (u_6 7, .inl (cI, 256, .inl (fun _ => 0))), (u_6 8, .inl (cI, 8, .inl (fun _ => 0))), (u_6 9, .inl (cL, 32, .inr (.inl (fun _ => 0)))), (u_6 10, .inl (cL, 32, .inr (.inl (fun _ => 0))))]) H := hP
  have hD : va_D A ([(a0, .inr (3, [.ref q_1, .ref q_2, .ref q_3, .ref q_4, .null, .int 0, .int 0, .int 0, .int 0])), (q_1, .inl (cI, 4, .inl (upd (upd (upd (upd (fun _ => 0) 0 0) 1 20) 2 50) 3 100))), (q_2, .inl (cI, 4, .inl (upd (upd (upd (upd (fun _ => 0) 0 0) 1 50) 2 100) 3 100))), (q_3, .inl (cE, 8, .inr (.inr (.inr (.inr (fun _ => none)))))), (q_4, .inl (cP, 5, .inr (.inr (.inr (.inr (fun _ => none)))))), (q_5, .inr (2, [.ref (u_6 6), .ref (u_6 7), .ref (u_6 8), .ref (u_6 9), .ref (u_6 10), .int 0, .int 0])), (u_6 6, .inl (cI, 8, .inl (fun _ => 0))), (u_6 7, .inl (cI, 256, .inl (fun _ => 0))), (u_6 8, .inl (cI, 8, .inl (fun _ => 0))), (u_6 9, .inl (cL, 32, .inr (.inl (fun _ => 0)))), (u_6 10, .inl (cL, 32, .inr (.inl (fun _ => 0))))]) := hD
  refine va_putF (D := D) (ci := 3) (v := .ref q_5) (ty := .object "CapitalReckoner$Search") (C := RX3) (T := TX3) (N := 9) hx hb hts iX3 tyX3 tyX3_ok nmX3 hown hK hP hD hS 0 rfl rfl 4 (by decide) (hts (.fieldLink RX3 31 "CapitalReckoner" "search" "LCapitalReckoner$Search;") (by decide +kernel)) (fun _ h9 => h9) rfl hin rfl (by decide +kernel) rfl rfl (Nat.le_of_ble_eq_true rfl) dX3_init_81 (fun H locs hP hD hS => ?_)
  have hP : va_P D vwCl ([(a0, .inr (3, [.ref q_1, .ref q_2, .ref q_3, .ref q_4, .ref q_5, .int 0, .int 0, .int 0, .int 0])), (q_1, .inl (cI, 4, .inl (upd (upd (upd (upd (fun _ => 0) 0 0) 1 20) 2 50) 3 100))), (q_2, .inl (cI, 4, .inl (upd (upd (upd (upd (fun _ => 0) 0 0) 1 50) 2 100) 3 100))), (q_3, .inl (cE, 8, .inr (.inr (.inr (.inr (fun _ => none)))))), (q_4, .inl (cP, 5, .inr (.inr (.inr (.inr (fun _ => none)))))), (q_5, .inr (2, [.ref (u_6 6), .ref (u_6 7), .ref (u_6 8), .ref (u_6 9), .ref (u_6 10), .int 0, .int 0])), (u_6 6, .inl (cI, 8, .inl (fun _ => 0))), (u_6 7, .inl (cI, 256, .inl (fun _ => 0))), (u_6 8, .inl (cI, 8, .inl (fun _ => 0))), (u_6 9, .inl (cL, 32, .inr (.inl (fun _ => 0)))), (u_6 10, .inl (cL, 32, .inr (.inl (fun _ => 0))))]) H := hP
  have hD : va_D A ([(a0, .inr (3, [.ref q_1, .ref q_2, .ref q_3, .ref q_4, .ref q_5, .int 0, .int 0, .int 0, .int 0])), (q_1, .inl (cI, 4, .inl (upd (upd (upd (upd (fun _ => 0) 0 0) 1 20) 2 50) 3 100))), (q_2, .inl (cI, 4, .inl (upd (upd (upd (upd (fun _ => 0) 0 0) 1 50) 2 100) 3 100))), (q_3, .inl (cE, 8, .inr (.inr (.inr (.inr (fun _ => none)))))), (q_4, .inl (cP, 5, .inr (.inr (.inr (.inr (fun _ => none)))))), (q_5, .inr (2, [.ref (u_6 6), .ref (u_6 7), .ref (u_6 8), .ref (u_6 9), .ref (u_6 10), .int 0, .int 0])), (u_6 6, .inl (cI, 8, .inl (fun _ => 0))), (u_6 7, .inl (cI, 256, .inl (fun _ => 0))), (u_6 8, .inl (cI, 8, .inl (fun _ => 0))), (u_6 9, .inl (cL, 32, .inr (.inl (fun _ => 0)))), (u_6 10, .inl (cL, 32, .inr (.inl (fun _ => 0))))]) := hD
  refine lv_aload_n hx hb dX3_init_84 rfl (lv_at hl 0 rfl) ?_
  refine lv_iconst (v := 0) hx hb dX3_init_85 (by decide) ?_
  refine va_put (D := D) (ci := 3) (v := .int 0) (ty := .int) (C := RX3) (T := TX3) (N := 9) hx hb hts iX3 tyX3 tyX3_ok nmX3 hown hK hP hD hS 0 rfl rfl 5 (by decide) (hts (.fieldLink RX3 35 "CapitalReckoner" "exposureCount" "I") (by decide +kernel)) (fun _ h9 => h9) rfl (by decide +kernel) rfl rfl (Nat.le_of_ble_eq_true rfl) dX3_init_86 (fun H locs hP hD hS => ?_)
  have hP : va_P D vwCl ([(a0, .inr (3, [.ref q_1, .ref q_2, .ref q_3, .ref q_4, .ref q_5, .int 0, .int 0, .int 0, .int 0])), (q_1, .inl (cI, 4, .inl (upd (upd (upd (upd (fun _ => 0) 0 0) 1 20) 2 50) 3 100))), (q_2, .inl (cI, 4, .inl (upd (upd (upd (upd (fun _ => 0) 0 0) 1 50) 2 100) 3 100))), (q_3, .inl (cE, 8, .inr (.inr (.inr (.inr (fun _ => none)))))), (q_4, .inl (cP, 5, .inr (.inr (.inr (.inr (fun _ => none)))))), (q_5, .inr (2, [.ref (u_6 6), .ref (u_6 7), .ref (u_6 8), .ref (u_6 9), .ref (u_6 10), .int 0, .int 0])), (u_6 6, .inl (cI, 8, .inl (fun _ => 0))), (u_6 7, .inl (cI, 256, .inl (fun _ => 0))), (u_6 8, .inl (cI, 8, .inl (fun _ => 0))), (u_6 9, .inl (cL, 32, .inr (.inl (fun _ => 0)))), (u_6 10, .inl (cL, 32, .inr (.inl (fun _ => 0))))]) H := hP
  have hD : va_D A ([(a0, .inr (3, [.ref q_1, .ref q_2, .ref q_3, .ref q_4, .ref q_5, .int 0, .int 0, .int 0, .int 0])), (q_1, .inl (cI, 4, .inl (upd (upd (upd (upd (fun _ => 0) 0 0) 1 20) 2 50) 3 100))), (q_2, .inl (cI, 4, .inl (upd (upd (upd (upd (fun _ => 0) 0 0) 1 50) 2 100) 3 100))), (q_3, .inl (cE, 8, .inr (.inr (.inr (.inr (fun _ => none)))))), (q_4, .inl (cP, 5, .inr (.inr (.inr (.inr (fun _ => none)))))), (q_5, .inr (2, [.ref (u_6 6), .ref (u_6 7), .ref (u_6 8), .ref (u_6 9), .ref (u_6 10), .int 0, .int 0])), (u_6 6, .inl (cI, 8, .inl (fun _ => 0))), (u_6 7, .inl (cI, 256, .inl (fun _ => 0))), (u_6 8, .inl (cI, 8, .inl (fun _ => 0))), (u_6 9, .inl (cL, 32, .inr (.inl (fun _ => 0)))), (u_6 10, .inl (cL, 32, .inr (.inl (fun _ => 0))))]) := hD
  refine lv_aload_n hx hb dX3_init_89 rfl (lv_at hl 0 rfl) ?_
  refine lv_iconst (v := 0) hx hb dX3_init_90 (by decide) ?_
  refine va_put (D := D) (ci := 3) (v := .int 0) (ty := .int) (C := RX3) (T := TX3) (N := 9) hx hb hts iX3 tyX3 tyX3_ok nmX3 hown hK hP hD hS 0 rfl rfl 6 (by decide) (hts (.fieldLink RX3 39 "CapitalReckoner" "pieceCount" "I") (by decide +kernel)) (fun _ h9 => h9) rfl (by decide +kernel) rfl rfl (Nat.le_of_ble_eq_true rfl) dX3_init_91 (fun H locs hP hD hS => ?_)
  have hP : va_P D vwCl ([(a0, .inr (3, [.ref q_1, .ref q_2, .ref q_3, .ref q_4, .ref q_5, .int 0, .int 0, .int 0, .int 0])), (q_1, .inl (cI, 4, .inl (upd (upd (upd (upd (fun _ => 0) 0 0) 1 20) 2 50) 3 100))), (q_2, .inl (cI, 4, .inl (upd (upd (upd (upd (fun _ => 0) 0 0) 1 50) 2 100) 3 100))), (q_3, .inl (cE, 8, .inr (.inr (.inr (.inr (fun _ => none)))))), (q_4, .inl (cP, 5, .inr (.inr (.inr (.inr (fun _ => none)))))), (q_5, .inr (2, [.ref (u_6 6), .ref (u_6 7), .ref (u_6 8), .ref (u_6 9), .ref (u_6 10), .int 0, .int 0])), (u_6 6, .inl (cI, 8, .inl (fun _ => 0))), (u_6 7, .inl (cI, 256, .inl (fun _ => 0))), (u_6 8, .inl (cI, 8, .inl (fun _ => 0))), (u_6 9, .inl (cL, 32, .inr (.inl (fun _ => 0)))), (u_6 10, .inl (cL, 32, .inr (.inl (fun _ => 0))))]) H := hP
  have hD : va_D A ([(a0, .inr (3, [.ref q_1, .ref q_2, .ref q_3, .ref q_4, .ref q_5, .int 0, .int 0, .int 0, .int 0])), (q_1, .inl (cI, 4, .inl (upd (upd (upd (upd (fun _ => 0) 0 0) 1 20) 2 50) 3 100))), (q_2, .inl (cI, 4, .inl (upd (upd (upd (upd (fun _ => 0) 0 0) 1 50) 2 100) 3 100))), (q_3, .inl (cE, 8, .inr (.inr (.inr (.inr (fun _ => none)))))), (q_4, .inl (cP, 5, .inr (.inr (.inr (.inr (fun _ => none)))))), (q_5, .inr (2, [.ref (u_6 6), .ref (u_6 7), .ref (u_6 8), .ref (u_6 9), .ref (u_6 10), .int 0, .int 0])), (u_6 6, .inl (cI, 8, .inl (fun _ => 0))), (u_6 7, .inl (cI, 256, .inl (fun _ => 0))), (u_6 8, .inl (cI, 8, .inl (fun _ => 0))), (u_6 9, .inl (cL, 32, .inr (.inl (fun _ => 0)))), (u_6 10, .inl (cL, 32, .inr (.inl (fun _ => 0))))]) := hD
  refine lv_aload_n hx hb dX3_init_94 rfl (lv_at hl 0 rfl) ?_
  refine lv_bipush (v := 70) hx hb dX3_init_95 (by decide) ?_
  refine va_put (D := D) (ci := 3) (v := .int 70) (ty := .int) (C := RX3) (T := TX3) (N := 9) hx hb hts iX3 tyX3 tyX3_ok nmX3 hown hK hP hD hS 0 rfl rfl 7 (by decide) (hts (.fieldLink RX3 42 "CapitalReckoner" "floor" "I") (by decide +kernel)) (fun _ h9 => h9) rfl (by decide +kernel) rfl rfl (Nat.le_of_ble_eq_true rfl) dX3_init_97 (fun H locs hP hD hS => ?_)
  have hP : va_P D vwCl ([(a0, .inr (3, [.ref q_1, .ref q_2, .ref q_3, .ref q_4, .ref q_5, .int 0, .int 0, .int 70, .int 0])), (q_1, .inl (cI, 4, .inl (upd (upd (upd (upd (fun _ => 0) 0 0) 1 20) 2 50) 3 100))), (q_2, .inl (cI, 4, .inl (upd (upd (upd (upd (fun _ => 0) 0 0) 1 50) 2 100) 3 100))), (q_3, .inl (cE, 8, .inr (.inr (.inr (.inr (fun _ => none)))))), (q_4, .inl (cP, 5, .inr (.inr (.inr (.inr (fun _ => none)))))), (q_5, .inr (2, [.ref (u_6 6), .ref (u_6 7), .ref (u_6 8), .ref (u_6 9), .ref (u_6 10), .int 0, .int 0])), (u_6 6, .inl (cI, 8, .inl (fun _ => 0))), (u_6 7, .inl (cI, 256, .inl (fun _ => 0))), (u_6 8, .inl (cI, 8, .inl (fun _ => 0))), (u_6 9, .inl (cL, 32, .inr (.inl (fun _ => 0)))), (u_6 10, .inl (cL, 32, .inr (.inl (fun _ => 0))))]) H := hP
  have hD : va_D A ([(a0, .inr (3, [.ref q_1, .ref q_2, .ref q_3, .ref q_4, .ref q_5, .int 0, .int 0, .int 70, .int 0])), (q_1, .inl (cI, 4, .inl (upd (upd (upd (upd (fun _ => 0) 0 0) 1 20) 2 50) 3 100))), (q_2, .inl (cI, 4, .inl (upd (upd (upd (upd (fun _ => 0) 0 0) 1 50) 2 100) 3 100))), (q_3, .inl (cE, 8, .inr (.inr (.inr (.inr (fun _ => none)))))), (q_4, .inl (cP, 5, .inr (.inr (.inr (.inr (fun _ => none)))))), (q_5, .inr (2, [.ref (u_6 6), .ref (u_6 7), .ref (u_6 8), .ref (u_6 9), .ref (u_6 10), .int 0, .int 0])), (u_6 6, .inl (cI, 8, .inl (fun _ => 0))), (u_6 7, .inl (cI, 256, .inl (fun _ => 0))), (u_6 8, .inl (cI, 8, .inl (fun _ => 0))), (u_6 9, .inl (cL, 32, .inr (.inl (fun _ => 0)))), (u_6 10, .inl (cL, 32, .inr (.inl (fun _ => 0))))]) := hD
  refine lv_aload_n hx hb dX3_init_100 rfl (lv_at hl 0 rfl) ?_
  refine lv_iconst (v := 0) hx hb dX3_init_101 (by decide) ?_
  refine va_put (D := D) (ci := 3) (v := .int 0) (ty := .int) (C := RX3) (T := TX3) (N := 9) hx hb hts iX3 tyX3 tyX3_ok nmX3 hown hK hP hD hS 0 rfl rfl 8 (by decide) (hts (.fieldLink RX3 45 "CapitalReckoner" "capital" "I") (by decide +kernel)) (fun _ h9 => h9) rfl (by decide +kernel) rfl rfl (Nat.le_of_ble_eq_true rfl) dX3_init_102 (fun H locs hP hD hS => ?_)
  have hP : va_P D vwCl ([(a0, .inr (3, [.ref q_1, .ref q_2, .ref q_3, .ref q_4, .ref q_5, .int 0, .int 0, .int 70, .int 0])), (q_1, .inl (cI, 4, .inl (upd (upd (upd (upd (fun _ => 0) 0 0) 1 20) 2 50) 3 100))), (q_2, .inl (cI, 4, .inl (upd (upd (upd (upd (fun _ => 0) 0 0) 1 50) 2 100) 3 100))), (q_3, .inl (cE, 8, .inr (.inr (.inr (.inr (fun _ => none)))))), (q_4, .inl (cP, 5, .inr (.inr (.inr (.inr (fun _ => none)))))), (q_5, .inr (2, [.ref (u_6 6), .ref (u_6 7), .ref (u_6 8), .ref (u_6 9), .ref (u_6 10), .int 0, .int 0])), (u_6 6, .inl (cI, 8, .inl (fun _ => 0))), (u_6 7, .inl (cI, 256, .inl (fun _ => 0))), (u_6 8, .inl (cI, 8, .inl (fun _ => 0))), (u_6 9, .inl (cL, 32, .inr (.inl (fun _ => 0)))), (u_6 10, .inl (cL, 32, .inr (.inl (fun _ => 0))))]) H := hP
  have hD : va_D A ([(a0, .inr (3, [.ref q_1, .ref q_2, .ref q_3, .ref q_4, .ref q_5, .int 0, .int 0, .int 70, .int 0])), (q_1, .inl (cI, 4, .inl (upd (upd (upd (upd (fun _ => 0) 0 0) 1 20) 2 50) 3 100))), (q_2, .inl (cI, 4, .inl (upd (upd (upd (upd (fun _ => 0) 0 0) 1 50) 2 100) 3 100))), (q_3, .inl (cE, 8, .inr (.inr (.inr (.inr (fun _ => none)))))), (q_4, .inl (cP, 5, .inr (.inr (.inr (.inr (fun _ => none)))))), (q_5, .inr (2, [.ref (u_6 6), .ref (u_6 7), .ref (u_6 8), .ref (u_6 9), .ref (u_6 10), .int 0, .int 0])), (u_6 6, .inl (cI, 8, .inl (fun _ => 0))), (u_6 7, .inl (cI, 256, .inl (fun _ => 0))), (u_6 8, .inl (cI, 8, .inl (fun _ => 0))), (u_6 9, .inl (cL, 32, .inr (.inl (fun _ => 0)))), (u_6 10, .inl (cL, 32, .inr (.inl (fun _ => 0))))]) := hD
  refine W.widen (k := 10) (n := 364) (Nat.le_of_ble_eq_true rfl) (Nat.le_of_ble_eq_true rfl) ?_
  exact zvretU (u := (fun i => if i = 0 then a0 else if i = 1 then q_1 else if i = 2 then q_2 else if i = 3 then q_3 else if i = 4 then q_4 else if i = 5 then q_5 else if i = 6 then u_6 6 else if i = 7 then u_6 7 else if i = 8 then u_6 8 else if i = 9 then u_6 9 else if i = 10 then u_6 10 else 0 : Nat → Nat)) hx hb hr hAe (by first | trivial | rfl) (zP_re hP (by unfold cws cwF cwO; rfl)) (zD_re hD (by unfold cws cwF cwO; rfl)) hS dX3_init_105
