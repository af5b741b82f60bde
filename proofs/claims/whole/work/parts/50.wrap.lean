/-! the law's own methods: a call that may throw, its answer laid into a row or its exception caught -/
def zN (U : State) : Prop := va_Nc "java/lang/IllegalArgumentException" "java/lang/IndexOutOfBoundsException" U ∧ va_Nc "java/lang/IllegalStateException" "java/lang/IndexOutOfBoundsException" U ∧ va_Nc "java/lang/IllegalStateException" "java/lang/IllegalArgumentException" U
theorem zN.moved {u U : State} (hvm : u.vm.Alike U.vm) (h : zN u) : zN U := ⟨va_Nc.moved hvm h.1, va_Nc.moved hvm h.2.1, va_Nc.moved hvm h.2.2⟩
def zPy (D : va_G) (cI cL cE cP : ClassId) (ws : va_W) (sz : Nat) (as : List Value) : Array Value → State → Prop := va_Pc as (fun U => U.heap.size = sz ∧ zE D cI cL cE cP U ∧ va_P D vwCl ws U.heap ∧ va_D (fun _ => True) ws ∧ zX U ∧ zU (va_A ws sz) U U.heap ∧ zN U)
theorem zPy_blind {D : va_G} {cI cL cE cP : ClassId} {ws : va_W} {sz : Nat} {as : List Value} : FrameBlind (zPy D cI cL cE cP ws sz as) := fun a U g mk q => ⟨q.1, q.2.1, q.2.2.1.calling g mk a, q.2.2.2.1, q.2.2.2.2.1, q.2.2.2.2.2.1.calling g mk a, q.2.2.2.2.2.2.1.calling g mk a, zN.moved (u := U) (Vm.Alike.refl U.vm) q.2.2.2.2.2.2.2⟩
theorem zPy_mk {D : va_G} {cI cL cE cP : ClassId} {ws : va_W} {as : List Value} {s : State} {H : Heap} {A : Nat → Prop} (hE : zE D cI cL cE cP s) (hP : va_P D vwCl ws H) (hD : va_D A ws) (hX : zX s) (hU : zU (va_A ws H.size) s H) (hN : zN s) : ∀ U : State, U.heap = H → s.WarmedH U.vm → zPy D cI cL cE cP ws H.size as as.toArray U := fun U hU2 hW => ⟨rfl, by rw [hU2], hE.warm hW, by rw [hU2]; exact hP, hD.weaken (fun _ _ _ _ => trivial), hX.warm hW, by rw [hU2]; exact hU.warm hW, hN.moved hW.alike⟩
theorem va_A_right {wr wc : va_W} {sz : Nat} : ∀ q, va_A wc sz q → va_A (wr ++ wc) sz q := fun q h => by
  rcases h with ⟨k, e, h⟩ | h
  · exact Or.inl ⟨wr.length + k, e, by rw [List.getElem?_append_right (by omega), show wr.length + k - wr.length = k by omega]; exact h⟩
  · exact Or.inr h
section ZL
variable {p : Program} {l : Launch} {e : Env} {R : Room} {s : State} {m : MethodId} {args : Array Value} {below : List Frame} {meth : Method} {c : Code} {H : Heap} {locs : List Loc} {cells slots : Nat} {Q : State → Prop} {pc : Nat} {ls : Array Slot} {rest st0 : List Value} {a : Array Value} {A : Nat → Prop} {H0 : Heap} {D : va_G}
theorem zxcall {S : Type} {post : Int32 → S → Prop} {wr wc : va_W} {w1 : S → va_W} {mc ms : Nat} {xp : String → Prop} (hr : vx_Run p l e R s m args below meth c H locs cells slots mc ms (F0 m pc ls st0) rest (va_Qi post (fun u t => zB D wc H.size (w1 u) t) (va_A wc H.size) a) (zXC D wc H.size xp) (va_A wc H.size)) (hP : va_P D vwCl (wr ++ wc) H) (hD : va_D A (wr ++ wc)) (hS : va_S A H0 H locs) (hA : ∀ q, H0.size ≤ q → A q)
    (kx : ∀ (E : String) (ce : Cell) (q9 : Addr) (H1 : Heap) (locs1 : List Loc), xp E → va_P D vwCl (wr ++ wc) H1 → va_D A (wr ++ wc) → va_S A H0 H1 locs1 → H1[q9]? = some ce → ce.vm = .none → s.vm.findClass E = some ce.cls → vx_W p l e R s m args below meth c H1 locs1 (cells + mc) (slots + ms) Q (F0 m pc ls rest) q9)
    (kk : ∀ (r : Int32) (u : S) (H1 : Heap) (locs1 : List Loc), post r u → va_P D vwCl (wr ++ w1 u) H1 → va_D A (wr ++ w1 u) → va_S A H0 H1 locs1 → W p l e R s m args below meth c H1 locs1 (cells + mc) (slots + ms) Q (F0 m (pc + 3) ls (.int r :: rest))) : W p l e R s m args below meth c H locs cells slots Q (F0 m pc ls st0) :=
  vx_calli hr hS (fun q _ h => va_A_in2 hD hS hA q h) (va_A_in2 hD hS hA) (fun q _ h => va_A_in2 hD hS hA q h)
    (fun E ce q9 u t H1 locs1 ht hvm hp hB hz hk hS1 hq hv hc => by
      obtain ⟨h1, h2⟩ := zjoin hP hD (va_A_in2 hD hS hA) hk (by rw [← ht]; exact hB.2.1) hB.2.2
      exact kx E ce q9 H1 locs1 hB.1 h1 h2 hS1 hq hv hc)
    (fun r u t H1 locs1 ht hvm hp hB hz hk hS1 => by
      obtain ⟨h1, h2⟩ := zjoin hP hD (va_A_in2 hD hS hA) hk (by rw [← ht]; exact hB.1) hB.2
      exact kk r u H1 locs1 hp h1 h2 hS1)
end ZL
abbrev U9 : Type := (Nat → Nat) × (Nat → Int32) × (Nat → Int32) × (Nat → Int32) × (Nat → Int64) × (Nat → Int64) × Int32 × Int32 × (Nat → Int64)
def u_o (u : U9) : Nat → Int64 := u.2.2.2.2.2.2.2.2
def cwu (cI cL cE cP : ClassId) (g : Nat → Nat → Int32) (n k : Nat) (u : U9) : va_W := cws cI cL cE cP u.1 g n k u.2.1 u.2.2.1 u.2.2.2.1 u.2.2.2.2.1 u.2.2.2.2.2.1 u.2.2.2.2.2.2.1 u.2.2.2.2.2.2.2.1
def lwo (cI cL cE cP : ClassId) (o : Nat) (g : Nat → Nat → Int32) (n k : Nat) (u : U9) : va_W := ([(o, .inl (cL, 1, .inr (.inl (u_o u))))] : va_W) ++ cwu cI cL cE cP g n k u
theorem lwo_0 {cI cL cE cP : ClassId} {o : Nat} {g : Nat → Nat → Int32} {n k : Nat} {u : U9} : (lwo cI cL cE cP o g n k u)[0]? = some (o, .inl (cL, 1, .inr (.inl (u_o u)))) := rfl
theorem lwo_1 {cI cL cE cP : ClassId} {o : Nat} {g : Nat → Nat → Int32} {n k : Nat} {u : U9} : (lwo cI cL cE cP o g n k u)[1]? = some (u.1 0, .inr (3, [.ref (u.1 1), .ref (u.1 2), .ref (u.1 3), .ref (u.1 4), .ref (u.1 5), .int (nI n), .int (nI k), .int (g 2 0), .int (g 2 1)])) := rfl

set_option maxHeartbeats 4000000 in
set_option maxRecDepth 100000 in
theorem zL_setWeights (l : Launch) (hfl : l.stackTraces = false) (D : va_G) (cI cL cE cP : ClassId) (o : Nat) (g : Nat → Nat → Int32) (n k : Nat) (u0 : U9) (hok : zOk g n k) (x w0 p0 : Int32) (sz : Nat) : Met l yL_setWeights wsL_setWeights ({ frames := 7, cells := 1, slots := 6, locals := 114 }) (zPy D cI cL cE cP (lwo cI cL cE cP o g n k u0) sz [.ref (u0.1 0), .int x, .int w0, .int p0, .ref o]) (va_Qi (fun (r : Int32) (u : U9) => r = T_setWeights x w0 p0 ∧ (T_setWeights x w0 p0 = 0 → u_o u 0 = (g 0 x.toNatClampNeg : Int32).toInt64) ∧ u.1 0 = u0.1 0) (fun u t => zB D (lwo cI cL cE cP o g n k u0) sz (lwo cI cL cE cP o (if T_setWeights x w0 p0 = 0 then gR (gR g 0 (upd (g 0) x.toNatClampNeg w0)) 1 (upd (g 1) x.toNatClampNeg p0) else g) (n) (k) u) t) (va_A (lwo cI cL cE cP o g n k u0) sz)) 1 6 (va_A (lwo cI cL cE cP o g n k u0) sz) := by
  refine va_MetW (cc := cL_setWeights) (maxL := 6) (ret := (some .int)) (hh := [(0, 12, 15, 13), (0, 12, 19, 15)]) (by decide) rfl ?_
  intro p e s m args below meth c s₁ B hml hv
  obtain ⟨rfl, hsz, hE, hP, hD0, hX, hU0, hN⟩ := hv
  subst hsz
  obtain ⟨A, hAe⟩ : ∃ A, A = va_A (lwo cI cL cE cP o g n k u0) s.heap.size := ⟨_, rfl⟩
  have hD : va_D A (lwo cI cL cE cP o g n k u0) := by rw [hAe]; exact hD0.self
  have hA : ∀ q : Nat, s.heap.size ≤ q → A q := fun q h => by rw [hAe]; exact Or.inr h
  have hS : va_S A s.heap s.heap [] := va_S.rf
  have hx := B.exec
  have hb := B.bytes
  have hr := B.returns
  have hts := atoms_spec (ws := wsL_setWeights) B.pre
  have hown : s.vm.findClass RL = some m.cls := findClass_of_methodNamed B.named
  have hlocks := B.notSynchronized
  have hK := hE.1
  have htb := vx_table (x := yX3_init) B (hts (.codeWith yL_setWeights cL_setWeights 6 (some .int) [(0, 12, 15, 13), (0, 12, 19, 15)]) List.mem_cons_self)
  have hl := lv_entry ([.ref (u0.1 0), .int x, .int w0, .int p0, .ref o]) (n := 6) (Nat.le_of_ble_eq_true rfl)
  rw [lg_entry_eq]
  generalize (lg_sl ([.ref (u0.1 0), .int x, .int w0, .int p0, .ref o]) ++ List.replicate (6 - (lg_sl ([.ref (u0.1 0), .int x, .int w0, .int p0, .ref o])).length) Slot.unset).toArray = ls at hl ⊢
  have hl : lv_has ls 6 [(0, .ref (u0.1 0)), (1, .int x), (2, .int w0), (3, .int p0), (4, .ref o)] := hl
  refine lv_aload hx hb dL_setWeights_0 (lv_at hl 4 rfl) ?_
  refine lv_iconst (v := 0) hx hb dL_setWeights_2 (by decide) ?_
  refine lv_aload_n hx hb dL_setWeights_3 rfl (lv_at hl 0 rfl) ?_
  refine lv_iload_n hx hb dL_setWeights_4 rfl (lv_at hl 1 rfl) ?_
  refine lv_iload_n hx hb dL_setWeights_5 rfl (lv_at hl 2 rfl) ?_
  refine lv_iload_n hx hb dL_setWeights_6 rfl (lv_at hl 3 rfl) ?_
  have hPc := (zP_app (w1 := [(o, .inl (cL, 1, .inr (.inl (u_o u0))))]) (w2 := (cwu cI cL cE cP g n k u0)) hP).2
  have hDc := (zD_app (w1 := [(o, .inl (cL, 1, .inr (.inl (u_o u0))))]) (w2 := (cwu cI cL cE cP g n k u0)) hD).2.1
  have hUc : zU (va_A (cwu cI cL cE cP g n k u0) s.heap.size) s s.heap := hU0.narrow (va_A_right (wr := [(o, .inl (cL, 1, .inr (.inl (u_o u0))))]))
  refine zxcall (wr := [(o, .inl (cL, 1, .inr (.inl (u_o u0))))]) (wc := (cwu cI cL cE cP g n k u0)) (vx_runV (As := [.int x, .int w0, .int p0]) (rest := [.int 0, .ref o]) ⟨hx, hb, hml, hown, hts⟩ (zX3_setWeights l hfl D cI cL cE cP u0.1 g n k u0.2.1 u0.2.2.1 u0.2.2.2.1 u0.2.2.2.2.1 u0.2.2.2.2.2.1 u0.2.2.2.2.2.2.1 u0.2.2.2.2.2.2.2.1 hok x w0 p0 s.heap.size) (cwV 3 hts gL_setWeights_X3_setWeights rfl rfl rfl (by decide +kernel) ⟨Nat.le_of_ble_eq_true rfl, Nat.le_of_ble_eq_true rfl⟩) ⟨zPx_blind, va_recv hK hP (ci := 3) (q0 := 1) rfl lwo_1, zPx_mk hE hPc hDc hX hUc⟩ rfl rfl hl.1 rfl (lv_room (Nat.le_of_ble_eq_true rfl)) dL_setWeights_7 ⟨Nat.le_of_ble_eq_true rfl, Nat.le_of_ble_eq_true rfl⟩) hP hD hS hA (fun E ce q9 H locs hxp hP hD hS hq hqv hqc => ?_) (fun r_1 _ H locs hr1 hP hD hS => ?_)
  · rcases hxp with ⟨rfl, hT⟩ | ⟨rfl, hT⟩
    · refine vx_catch (name := "java/lang/IndexOutOfBoundsException") hown [] (⟨0, 12, 15, 13⟩ : ExceptionTableEntry) [(⟨0, 12, 19, 15⟩ : ExceptionTableEntry)] (by rw [htb]; rfl) (fun z hz => nomatch hz) (by decide) (by decide) (hts (.classLink RL 13 "java/lang/IndexOutOfBoundsException") (by decide +kernel)) (va_Nw.use rfl (hX.1 (.castable "java/lang/IndexOutOfBoundsException" "java/lang/IndexOutOfBoundsException") (by decide +kernel))) hq hqv hqc ?_
      refine lv_astore (lv' := [(5, .ref q9), (0, .ref (u0.1 0)), (1, .int x), (2, .int w0), (3, .int p0), (4, .ref o)]) hx hb dL_setWeights_15 hl (by decide) rfl (fun ls hl => ?_)
      refine lv_iconst (v := 1) hx hb dL_setWeights_17 (by decide) ?_
      exact ziretU (u := u0) hx hb hr hAe ⟨hT.symm, fun h => absurd (hT.symm.trans h) (by decide), rfl⟩ (zP_re hP (by rw [hT]; rfl)) (zD_re hD (by rw [hT]; rfl)) hS dL_setWeights_18
    · refine vx_catch (name := "java/lang/IllegalArgumentException") hown [(⟨0, 12, 15, 13⟩ : ExceptionTableEntry)] (⟨0, 12, 19, 15⟩ : ExceptionTableEntry) [] (by rw [htb]; rfl) (fun z hz => by obtain rfl := List.mem_singleton.mp hz; exact Or.inr ⟨by decide, "java/lang/IndexOutOfBoundsException", hts (.classLink RL 13 "java/lang/IndexOutOfBoundsException") (by decide +kernel), hN.1⟩) (by decide) (by decide) (hts (.classLink RL 15 "java/lang/IllegalArgumentException") (by decide +kernel)) (va_Nw.use rfl (hX.1 (.castable "java/lang/IllegalArgumentException" "java/lang/IllegalArgumentException") (by decide +kernel))) hq hqv hqc ?_
      refine lv_astore (lv' := [(5, .ref q9), (0, .ref (u0.1 0)), (1, .int x), (2, .int w0), (3, .int p0), (4, .ref o)]) hx hb dL_setWeights_19 hl (by decide) rfl (fun ls hl => ?_)
      refine lv_iconst (v := 2) hx hb dL_setWeights_21 (by decide) ?_
      exact ziretU (u := u0) hx hb hr hAe ⟨hT.symm, fun h => absurd (hT.symm.trans h) (by decide), rfl⟩ (zP_re hP (by rw [hT]; rfl)) (zD_re hD (by rw [hT]; rfl)) hS dL_setWeights_22
  · obtain ⟨hT, hR⟩ := hr1
    refine lv_i2l hx hb dL_setWeights_10 rfl ?_
    have hP : va_P D vwCl ([(o, .inl (cL, 1, .inr (.inl (u_o u0))))] ++ cws cI cL cE cP (u0.1) (gR (gR g 0 (upd (g 0) x.toNatClampNeg w0)) 1 (upd (g 1) x.toNatClampNeg p0)) (n) (k) u0.2.1 u0.2.2.1 u0.2.2.2.1 u0.2.2.2.2.1 u0.2.2.2.2.2.1 u0.2.2.2.2.2.2.1 u0.2.2.2.2.2.2.2.1) H := hP
    have hD : va_D A ([(o, .inl (cL, 1, .inr (.inl (u_o u0))))] ++ cws cI cL cE cP (u0.1) (gR (gR g 0 (upd (g 0) x.toNatClampNeg w0)) 1 (upd (g 1) x.toNatClampNeg p0)) (n) (k) u0.2.1 u0.2.2.1 u0.2.2.2.1 u0.2.2.2.2.1 u0.2.2.2.2.2.1 u0.2.2.2.2.2.2.1 u0.2.2.2.2.2.2.2.1) := hD
    refine zlast (f2 := vp_updL (u_o u0) 0 r_1.toInt64) hx hb hK hP hD hS 0 1 rfl rfl (by unfold vp_in; decide) rfl dL_setWeights_11 (fun H locs hP hD hS => ?_)
    refine lv_goto (tgt := 23) hx hb dL_setWeights_12 (by decide) ?_
    refine lv_iconst (v := 0) hx hb dL_setWeights_23 (by decide) ?_
    exact ziretU (u := (u0.1, u0.2.1, u0.2.2.1, u0.2.2.2.1, u0.2.2.2.2.1, u0.2.2.2.2.2.1, u0.2.2.2.2.2.2.1, u0.2.2.2.2.2.2.2.1, vp_updL (u_o u0) 0 r_1.toInt64)) hx hb hr hAe ⟨hT.symm, fun _ => by rw [← hR]; rfl, rfl⟩ (zP_re hP (by rw [hT]; rfl)) (zD_re hD (by rw [hT]; rfl)) hS dL_setWeights_24
set_option maxHeartbeats 4000000 in
set_option maxRecDepth 100000 in
theorem zL_setFloor (l : Launch) (hfl : l.stackTraces = false) (D : va_G) (cI cL cE cP : ClassId) (o : Nat) (g : Nat → Nat → Int32) (n k : Nat) (u0 : U9) (hok : zOk g n k) (x : Int32) (sz : Nat) : Met l yL_setFloor wsL_setFloor ({ frames := 7, cells := 1, slots := 6, locals := 112 }) (zPy D cI cL cE cP (lwo cI cL cE cP o g n k u0) sz [.ref (u0.1 0), .int x, .ref o]) (va_Qi (fun (r : Int32) (u : U9) => r = T_setFloor x ∧ (T_setFloor x = 0 → u_o u 0 = (g 2 0 : Int32).toInt64) ∧ u.1 0 = u0.1 0) (fun u t => zB D (lwo cI cL cE cP o g n k u0) sz (lwo cI cL cE cP o (if T_setFloor x = 0 then gR g 2 (upd (g 2) 0 x) else g) (n) (k) u) t) (va_A (lwo cI cL cE cP o g n k u0) sz)) 1 6 (va_A (lwo cI cL cE cP o g n k u0) sz) := by
  refine va_MetW (cc := cL_setFloor) (maxL := 4) (ret := (some .int)) (hh := [(0, 9, 12, 15)]) (by decide) rfl ?_
  intro p e s m args below meth c s₁ B hml hv
  obtain ⟨rfl, hsz, hE, hP, hD0, hX, hU0, hN⟩ := hv
  subst hsz
  obtain ⟨A, hAe⟩ : ∃ A, A = va_A (lwo cI cL cE cP o g n k u0) s.heap.size := ⟨_, rfl⟩
  have hD : va_D A (lwo cI cL cE cP o g n k u0) := by rw [hAe]; exact hD0.self
  have hA : ∀ q : Nat, s.heap.size ≤ q → A q := fun q h => by rw [hAe]; exact Or.inr h
  have hS : va_S A s.heap s.heap [] := va_S.rf
  have hx := B.exec
  have hb := B.bytes
  have hr := B.returns
  have hts := atoms_spec (ws := wsL_setFloor) B.pre
  have hown : s.vm.findClass RL = some m.cls := findClass_of_methodNamed B.named
  have hlocks := B.notSynchronized
  have hK := hE.1
  have htb := vx_table (x := yX3_init) B (hts (.codeWith yL_setFloor cL_setFloor 4 (some .int) [(0, 9, 12, 15)]) List.mem_cons_self)
  have hl := lv_entry ([.ref (u0.1 0), .int x, .ref o]) (n := 4) (Nat.le_of_ble_eq_true rfl)
  rw [lg_entry_eq]
  generalize (lg_sl ([.ref (u0.1 0), .int x, .ref o]) ++ List.replicate (4 - (lg_sl ([.ref (u0.1 0), .int x, .ref o])).length) Slot.unset).toArray = ls at hl ⊢
  have hl : lv_has ls 4 [(0, .ref (u0.1 0)), (1, .int x), (2, .ref o)] := hl
  refine lv_aload_n hx hb dL_setFloor_0 rfl (lv_at hl 2 rfl) ?_
  refine lv_iconst (v := 0) hx hb dL_setFloor_1 (by decide) ?_
  refine lv_aload_n hx hb dL_setFloor_2 rfl (lv_at hl 0 rfl) ?_
  refine lv_iload_n hx hb dL_setFloor_3 rfl (lv_at hl 1 rfl) ?_
  have hPc := (zP_app (w1 := [(o, .inl (cL, 1, .inr (.inl (u_o u0))))]) (w2 := (cwu cI cL cE cP g n k u0)) hP).2
  have hDc := (zD_app (w1 := [(o, .inl (cL, 1, .inr (.inl (u_o u0))))]) (w2 := (cwu cI cL cE cP g n k u0)) hD).2.1
  have hUc : zU (va_A (cwu cI cL cE cP g n k u0) s.heap.size) s s.heap := hU0.narrow (va_A_right (wr := [(o, .inl (cL, 1, .inr (.inl (u_o u0))))]))
  refine zxcall (wr := [(o, .inl (cL, 1, .inr (.inl (u_o u0))))]) (wc := (cwu cI cL cE cP g n k u0)) (vx_runV (As := [.int x]) (rest := [.int 0, .ref o]) ⟨hx, hb, hml, hown, hts⟩ (zX3_setFloor l hfl D cI cL cE cP u0.1 g n k u0.2.1 u0.2.2.1 u0.2.2.2.1 u0.2.2.2.2.1 u0.2.2.2.2.2.1 u0.2.2.2.2.2.2.1 u0.2.2.2.2.2.2.2.1 hok x s.heap.size) (cwV 1 hts gL_setFloor_X3_setFloor rfl rfl rfl (by decide +kernel) ⟨Nat.le_of_ble_eq_true rfl, Nat.le_of_ble_eq_true rfl⟩) ⟨zPx_blind, va_recv hK hP (ci := 3) (q0 := 1) rfl lwo_1, zPx_mk hE hPc hDc hX hUc⟩ rfl rfl hl.1 rfl (lv_room (Nat.le_of_ble_eq_true rfl)) dL_setFloor_4 ⟨Nat.le_of_ble_eq_true rfl, Nat.le_of_ble_eq_true rfl⟩) hP hD hS hA (fun E ce q9 H locs hxp hP hD hS hq hqv hqc => ?_) (fun r_1 _ H locs hr1 hP hD hS => ?_)
  · obtain ⟨rfl, hT⟩ := hxp
    refine vx_catch (name := "java/lang/IllegalArgumentException") hown [] (⟨0, 9, 12, 15⟩ : ExceptionTableEntry) [] (by rw [htb]; rfl) (fun z hz => nomatch hz) (by decide) (by decide) (hts (.classLink RL 15 "java/lang/IllegalArgumentException") (by decide +kernel)) (va_Nw.use rfl (hX.1 (.castable "java/lang/IllegalArgumentException" "java/lang/IllegalArgumentException") (by decide +kernel))) hq hqv hqc ?_
    refine lv_astore_n (lv' := [(3, .ref q9), (0, .ref (u0.1 0)), (1, .int x), (2, .ref o)]) hx hb dL_setFloor_12 rfl hl (by decide) rfl (fun ls hl => ?_)
    refine lv_iconst (v := 1) hx hb dL_setFloor_13 (by decide) ?_
    exact ziretU (u := u0) hx hb hr hAe ⟨hT.symm, fun h => absurd (hT.symm.trans h) (by decide), rfl⟩ (zP_re hP (by rw [hT]; rfl)) (zD_re hD (by rw [hT]; rfl)) hS dL_setFloor_14
  · obtain ⟨hT, hR⟩ := hr1
    refine lv_i2l hx hb dL_setFloor_7 rfl ?_
    have hP : va_P D vwCl ([(o, .inl (cL, 1, .inr (.inl (u_o u0))))] ++ cws cI cL cE cP (u0.1) (gR g 2 (upd (g 2) 0 x)) (n) (k) u0.2.1 u0.2.2.1 u0.2.2.2.1 u0.2.2.2.2.1 u0.2.2.2.2.2.1 u0.2.2.2.2.2.2.1 u0.2.2.2.2.2.2.2.1) H := hP
    have hD : va_D A ([(o, .inl (cL, 1, .inr (.inl (u_o u0))))] ++ cws cI cL cE cP (u0.1) (gR g 2 (upd (g 2) 0 x)) (n) (k) u0.2.1 u0.2.2.1 u0.2.2.2.1 u0.2.2.2.2.1 u0.2.2.2.2.2.1 u0.2.2.2.2.2.2.1 u0.2.2.2.2.2.2.2.1) := hD
    refine zlast (f2 := vp_updL (u_o u0) 0 r_1.toInt64) hx hb hK hP hD hS 0 1 rfl rfl (by unfold vp_in; decide) rfl dL_setFloor_8 (fun H locs hP hD hS => ?_)
    refine lv_goto (tgt := 15) hx hb dL_setFloor_9 (by decide) ?_
    refine lv_iconst (v := 0) hx hb dL_setFloor_15 (by decide) ?_
    exact ziretU (u := (u0.1, u0.2.1, u0.2.2.1, u0.2.2.2.1, u0.2.2.2.2.1, u0.2.2.2.2.2.1, u0.2.2.2.2.2.2.1, u0.2.2.2.2.2.2.2.1, vp_updL (u_o u0) 0 r_1.toInt64)) hx hb hr hAe ⟨hT.symm, fun _ => by rw [← hR]; rfl, rfl⟩ (zP_re hP (by rw [hT]; rfl)) (zD_re hD (by rw [hT]; rfl)) hS dL_setFloor_16
set_option maxHeartbeats 4000000 in
set_option maxRecDepth 100000 in
theorem zL_setCapital (l : Launch) (hfl : l.stackTraces = false) (D : va_G) (cI cL cE cP : ClassId) (o : Nat) (g : Nat → Nat → Int32) (n k : Nat) (u0 : U9) (hok : zOk g n k) (x : Int32) (sz : Nat) : Met l yL_setCapital wsL_setCapital ({ frames := 7, cells := 1, slots := 6, locals := 112 }) (zPy D cI cL cE cP (lwo cI cL cE cP o g n k u0) sz [.ref (u0.1 0), .int x, .ref o]) (va_Qi (fun (r : Int32) (u : U9) => r = T_setCapital x ∧ (T_setCapital x = 0 → u_o u 0 = (g 2 1 : Int32).toInt64) ∧ u.1 0 = u0.1 0) (fun u t => zB D (lwo cI cL cE cP o g n k u0) sz (lwo cI cL cE cP o (if T_setCapital x = 0 then gR g 2 (upd (g 2) 1 x) else g) (n) (k) u) t) (va_A (lwo cI cL cE cP o g n k u0) sz)) 1 6 (va_A (lwo cI cL cE cP o g n k u0) sz) := by
  refine va_MetW (cc := cL_setCapital) (maxL := 4) (ret := (some .int)) (hh := [(0, 9, 12, 15)]) (by decide) rfl ?_
  intro p e s m args below meth c s₁ B hml hv
  obtain ⟨rfl, hsz, hE, hP, hD0, hX, hU0, hN⟩ := hv
  subst hsz
  obtain ⟨A, hAe⟩ : ∃ A, A = va_A (lwo cI cL cE cP o g n k u0) s.heap.size := ⟨_, rfl⟩
  have hD : va_D A (lwo cI cL cE cP o g n k u0) := by rw [hAe]; exact hD0.self
  have hA : ∀ q : Nat, s.heap.size ≤ q → A q := fun q h => by rw [hAe]; exact Or.inr h
  have hS : va_S A s.heap s.heap [] := va_S.rf
  have hx := B.exec
  have hb := B.bytes
  have hr := B.returns
  have hts := atoms_spec (ws := wsL_setCapital) B.pre
  have hown : s.vm.findClass RL = some m.cls := findClass_of_methodNamed B.named
  have hlocks := B.notSynchronized
  have hK := hE.1
  have htb := vx_table (x := yX3_init) B (hts (.codeWith yL_setCapital cL_setCapital 4 (some .int) [(0, 9, 12, 15)]) List.mem_cons_self)
  have hl := lv_entry ([.ref (u0.1 0), .int x, .ref o]) (n := 4) (Nat.le_of_ble_eq_true rfl)
  rw [lg_entry_eq]
  generalize (lg_sl ([.ref (u0.1 0), .int x, .ref o]) ++ List.replicate (4 - (lg_sl ([.ref (u0.1 0), .int x, .ref o])).length) Slot.unset).toArray = ls at hl ⊢
  have hl : lv_has ls 4 [(0, .ref (u0.1 0)), (1, .int x), (2, .ref o)] := hl
  refine lv_aload_n hx hb dL_setCapital_0 rfl (lv_at hl 2 rfl) ?_
  refine lv_iconst (v := 0) hx hb dL_setCapital_1 (by decide) ?_
  refine lv_aload_n hx hb dL_setCapital_2 rfl (lv_at hl 0 rfl) ?_
  refine lv_iload_n hx hb dL_setCapital_3 rfl (lv_at hl 1 rfl) ?_
  have hPc := (zP_app (w1 := [(o, .inl (cL, 1, .inr (.inl (u_o u0))))]) (w2 := (cwu cI cL cE cP g n k u0)) hP).2
  have hDc := (zD_app (w1 := [(o, .inl (cL, 1, .inr (.inl (u_o u0))))]) (w2 := (cwu cI cL cE cP g n k u0)) hD).2.1
  have hUc : zU (va_A (cwu cI cL cE cP g n k u0) s.heap.size) s s.heap := hU0.narrow (va_A_right (wr := [(o, .inl (cL, 1, .inr (.inl (u_o u0))))]))
  refine zxcall (wr := [(o, .inl (cL, 1, .inr (.inl (u_o u0))))]) (wc := (cwu cI cL cE cP g n k u0)) (vx_runV (As := [.int x]) (rest := [.int 0, .ref o]) ⟨hx, hb, hml, hown, hts⟩ (zX3_setCapital l hfl D cI cL cE cP u0.1 g n k u0.2.1 u0.2.2.1 u0.2.2.2.1 u0.2.2.2.2.1 u0.2.2.2.2.2.1 u0.2.2.2.2.2.2.1 u0.2.2.2.2.2.2.2.1 hok x s.heap.size) (cwV 1 hts gL_setCapital_X3_setCapital rfl rfl rfl (by decide +kernel) ⟨Nat.le_of_ble_eq_true rfl, Nat.le_of_ble_eq_true rfl⟩) ⟨zPx_blind, va_recv hK hP (ci := 3) (q0 := 1) rfl lwo_1, zPx_mk hE hPc hDc hX hUc⟩ rfl rfl hl.1 rfl (lv_room (Nat.le_of_ble_eq_true rfl)) dL_setCapital_4 ⟨Nat.le_of_ble_eq_true rfl, Nat.le_of_ble_eq_true rfl⟩) hP hD hS hA (fun E ce q9 H locs hxp hP hD hS hq hqv hqc => ?_) (fun r_1 _ H locs hr1 hP hD hS => ?_)
  · obtain ⟨rfl, hT⟩ := hxp
    refine vx_catch (name := "java/lang/IllegalArgumentException") hown [] (⟨0, 9, 12, 15⟩ : ExceptionTableEntry) [] (by rw [htb]; rfl) (fun z hz => nomatch hz) (by decide) (by decide) (hts (.classLink RL 15 "java/lang/IllegalArgumentException") (by decide +kernel)) (va_Nw.use rfl (hX.1 (.castable "java/lang/IllegalArgumentException" "java/lang/IllegalArgumentException") (by decide +kernel))) hq hqv hqc ?_
    refine lv_astore_n (lv' := [(3, .ref q9), (0, .ref (u0.1 0)), (1, .int x), (2, .ref o)]) hx hb dL_setCapital_12 rfl hl (by decide) rfl (fun ls hl => ?_)
    refine lv_iconst (v := 1) hx hb dL_setCapital_13 (by decide) ?_
    exact ziretU (u := u0) hx hb hr hAe ⟨hT.symm, fun h => absurd (hT.symm.trans h) (by decide), rfl⟩ (zP_re hP (by rw [hT]; rfl)) (zD_re hD (by rw [hT]; rfl)) hS dL_setCapital_14
  · obtain ⟨hT, hR⟩ := hr1
    refine lv_i2l hx hb dL_setCapital_7 rfl ?_
    have hP : va_P D vwCl ([(o, .inl (cL, 1, .inr (.inl (u_o u0))))] ++ cws cI cL cE cP (u0.1) (gR g 2 (upd (g 2) 1 x)) (n) (k) u0.2.1 u0.2.2.1 u0.2.2.2.1 u0.2.2.2.2.1 u0.2.2.2.2.2.1 u0.2.2.2.2.2.2.1 u0.2.2.2.2.2.2.2.1) H := hP
    have hD : va_D A ([(o, .inl (cL, 1, .inr (.inl (u_o u0))))] ++ cws cI cL cE cP (u0.1) (gR g 2 (upd (g 2) 1 x)) (n) (k) u0.2.1 u0.2.2.1 u0.2.2.2.1 u0.2.2.2.2.1 u0.2.2.2.2.2.1 u0.2.2.2.2.2.2.1 u0.2.2.2.2.2.2.2.1) := hD
    refine zlast (f2 := vp_updL (u_o u0) 0 r_1.toInt64) hx hb hK hP hD hS 0 1 rfl rfl (by unfold vp_in; decide) rfl dL_setCapital_8 (fun H locs hP hD hS => ?_)
    refine lv_goto (tgt := 15) hx hb dL_setCapital_9 (by decide) ?_
    refine lv_iconst (v := 0) hx hb dL_setCapital_15 (by decide) ?_
    exact ziretU (u := (u0.1, u0.2.1, u0.2.2.1, u0.2.2.2.1, u0.2.2.2.2.1, u0.2.2.2.2.2.1, u0.2.2.2.2.2.2.1, u0.2.2.2.2.2.2.2.1, vp_updL (u_o u0) 0 r_1.toInt64)) hx hb hr hAe ⟨hT.symm, fun _ => by rw [← hR]; rfl, rfl⟩ (zP_re hP (by rw [hT]; rfl)) (zD_re hD (by rw [hT]; rfl)) hS dL_setCapital_16
set_option maxHeartbeats 4000000 in
set_option maxRecDepth 100000 in
theorem zL_addExposure (l : Launch) (hfl : l.stackTraces = false) (D : va_G) (cI cL cE cP : ClassId) (o : Nat) (g : Nat → Nat → Int32) (n k : Nat) (u0 : U9) (hok : zOk g n k) (h9 : ∀ i, n ≤ i → g 9 i = 0 ∧ g 10 i = 0) (a0 a1 a2 a3 a4 a5 : Int32) (sz : Nat) : Met l yL_addExposure wsL_addExposure ({ frames := 7, cells := 1, slots := 8, locals := 117 }) (zPy D cI cL cE cP (lwo cI cL cE cP o g n k u0) sz [.ref (u0.1 0), .int a0, .int a1, .int a2, .int a3, .int a4, .int a5, .ref o]) (va_Qi (fun (r : Int32) (u : U9) => r = T_addExposure n a0 a1 a2 a3 a4 a5 ∧ (T_addExposure n a0 a1 a2 a3 a4 a5 = 0 → u_o u 0 = (nI n : Int32).toInt64) ∧ u.1 0 = u0.1 0) (fun u t => zB D (lwo cI cL cE cP o g n k u0) sz (lwo cI cL cE cP o (if T_addExposure n a0 a1 a2 a3 a4 a5 = 0 then gAE g n a0 a1 a2 a3 a4 a5 else g) (if T_addExposure n a0 a1 a2 a3 a4 a5 = 0 then n + 1 else n) (k) u) t) (va_A (lwo cI cL cE cP o g n k u0) sz)) 1 8 (va_A (lwo cI cL cE cP o g n k u0) sz) := by
  refine va_MetW (cc := cL_addExposure) (maxL := 9) (ret := (some .int)) (hh := [(0, 18, 21, 13), (0, 18, 25, 15), (0, 18, 29, 28)]) (by decide) rfl ?_
  intro p e s m args below meth c s₁ B hml hv
  obtain ⟨rfl, hsz, hE, hP, hD0, hX, hU0, hN⟩ := hv
  subst hsz
  obtain ⟨A, hAe⟩ : ∃ A, A = va_A (lwo cI cL cE cP o g n k u0) s.heap.size := ⟨_, rfl⟩
  have hD : va_D A (lwo cI cL cE cP o g n k u0) := by rw [hAe]; exact hD0.self
  have hA : ∀ q : Nat, s.heap.size ≤ q → A q := fun q h => by rw [hAe]; exact Or.inr h
  have hS : va_S A s.heap s.heap [] := va_S.rf
  have hx := B.exec
  have hb := B.bytes
  have hr := B.returns
  have hts := atoms_spec (ws := wsL_addExposure) B.pre
  have hown : s.vm.findClass RL = some m.cls := findClass_of_methodNamed B.named
  have hlocks := B.notSynchronized
  have hK := hE.1
  have htb := vx_table (x := yX3_init) B (hts (.codeWith yL_addExposure cL_addExposure 9 (some .int) [(0, 18, 21, 13), (0, 18, 25, 15), (0, 18, 29, 28)]) List.mem_cons_self)
  have hl := lv_entry ([.ref (u0.1 0), .int a0, .int a1, .int a2, .int a3, .int a4, .int a5, .ref o]) (n := 9) (Nat.le_of_ble_eq_true rfl)
  rw [lg_entry_eq]
  generalize (lg_sl ([.ref (u0.1 0), .int a0, .int a1, .int a2, .int a3, .int a4, .int a5, .ref o]) ++ List.replicate (9 - (lg_sl ([.ref (u0.1 0), .int a0, .int a1, .int a2, .int a3, .int a4, .int a5, .ref o])).length) Slot.unset).toArray = ls at hl ⊢
  have hl : lv_has ls 9 [(0, .ref (u0.1 0)), (1, .int a0), (2, .int a1), (3, .int a2), (4, .int a3), (5, .int a4), (6, .int a5), (7, .ref o)] := hl
  refine lv_aload hx hb dL_addExposure_0 (lv_at hl 7 rfl) ?_
  refine lv_iconst (v := 0) hx hb dL_addExposure_2 (by decide) ?_
  refine lv_aload_n hx hb dL_addExposure_3 rfl (lv_at hl 0 rfl) ?_
  refine lv_iload_n hx hb dL_addExposure_4 rfl (lv_at hl 1 rfl) ?_
  refine lv_iload_n hx hb dL_addExposure_5 rfl (lv_at hl 2 rfl) ?_
  refine lv_iload_n hx hb dL_addExposure_6 rfl (lv_at hl 3 rfl) ?_
  refine lv_iload hx hb dL_addExposure_7 (lv_at hl 4 rfl) ?_
  refine lv_iload hx hb dL_addExposure_9 (lv_at hl 5 rfl) ?_
  refine lv_iload hx hb dL_addExposure_11 (lv_at hl 6 rfl) ?_
  have hPc := (zP_app (w1 := [(o, .inl (cL, 1, .inr (.inl (u_o u0))))]) (w2 := (cwu cI cL cE cP g n k u0)) hP).2
  have hDc := (zD_app (w1 := [(o, .inl (cL, 1, .inr (.inl (u_o u0))))]) (w2 := (cwu cI cL cE cP g n k u0)) hD).2.1
  have hUc : zU (va_A (cwu cI cL cE cP g n k u0) s.heap.size) s s.heap := hU0.narrow (va_A_right (wr := [(o, .inl (cL, 1, .inr (.inl (u_o u0))))]))
  refine zxcall (wr := [(o, .inl (cL, 1, .inr (.inl (u_o u0))))]) (wc := (cwu cI cL cE cP g n k u0)) (vx_runV (As := [.int a0, .int a1, .int a2, .int a3, .int a4, .int a5]) (rest := [.int 0, .ref o]) ⟨hx, hb, hml, hown, hts⟩ (zX3_addExposure l hfl D cI cL cE cP u0.1 g n k u0.2.1 u0.2.2.1 u0.2.2.2.1 u0.2.2.2.2.1 u0.2.2.2.2.2.1 u0.2.2.2.2.2.2.1 u0.2.2.2.2.2.2.2.1 hok h9 a0 a1 a2 a3 a4 a5 s.heap.size) (cwV 6 hts gL_addExposure_X3_addExposure rfl rfl rfl (by decide +kernel) ⟨Nat.le_of_ble_eq_true rfl, Nat.le_of_ble_eq_true rfl⟩) ⟨zPx_blind, va_recv hK hP (ci := 3) (q0 := 1) rfl lwo_1, zPx_mk hE hPc hDc hX hUc⟩ rfl rfl hl.1 rfl (lv_room (Nat.le_of_ble_eq_true rfl)) dL_addExposure_13 ⟨Nat.le_of_ble_eq_true rfl, Nat.le_of_ble_eq_true rfl⟩) hP hD hS hA (fun E ce q9 H locs hxp hP hD hS hq hqv hqc => ?_) (fun r_1 q9 H locs hr1 hP hD hS => ?_)
  · rcases hxp with ⟨rfl, hT⟩ | ⟨rfl, hT⟩ | ⟨rfl, hT⟩
    · refine vx_catch (name := "java/lang/IndexOutOfBoundsException") hown [] (⟨0, 18, 21, 13⟩ : ExceptionTableEntry) [(⟨0, 18, 25, 15⟩ : ExceptionTableEntry), (⟨0, 18, 29, 28⟩ : ExceptionTableEntry)] (by rw [htb]; rfl) (fun z hz => nomatch hz) (by decide) (by decide) (hts (.classLink RL 13 "java/lang/IndexOutOfBoundsException") (by decide +kernel)) (va_Nw.use rfl (hX.1 (.castable "java/lang/IndexOutOfBoundsException" "java/lang/IndexOutOfBoundsException") (by decide +kernel))) hq hqv hqc ?_
      refine lv_astore (lv' := [(8, .ref q9), (0, .ref (u0.1 0)), (1, .int a0), (2, .int a1), (3, .int a2), (4, .int a3), (5, .int a4), (6, .int a5), (7, .ref o)]) hx hb dL_addExposure_21 hl (by decide) rfl (fun ls hl => ?_)
      refine lv_iconst (v := 1) hx hb dL_addExposure_23 (by decide) ?_
      exact ziretU (u := u0) hx hb hr hAe ⟨hT.symm, fun h => absurd (hT.symm.trans h) (by decide), rfl⟩ (zP_re hP (by rw [hT]; rfl)) (zD_re hD (by rw [hT]; rfl)) hS dL_addExposure_24
    · refine vx_catch (name := "java/lang/IllegalArgumentException") hown [(⟨0, 18, 21, 13⟩ : ExceptionTableEntry)] (⟨0, 18, 25, 15⟩ : ExceptionTableEntry) [(⟨0, 18, 29, 28⟩ : ExceptionTableEntry)] (by rw [htb]; rfl) (fun z hz => by obtain rfl := List.mem_singleton.mp hz; exact Or.inr ⟨by decide, "java/lang/IndexOutOfBoundsException", hts (.classLink RL 13 "java/lang/IndexOutOfBoundsException") (by decide +kernel), hN.1⟩) (by decide) (by decide) (hts (.classLink RL 15 "java/lang/IllegalArgumentException") (by decide +kernel)) (va_Nw.use rfl (hX.1 (.castable "java/lang/IllegalArgumentException" "java/lang/IllegalArgumentException") (by decide +kernel))) hq hqv hqc ?_
      refine lv_astore (lv' := [(8, .ref q9), (0, .ref (u0.1 0)), (1, .int a0), (2, .int a1), (3, .int a2), (4, .int a3), (5, .int a4), (6, .int a5), (7, .ref o)]) hx hb dL_addExposure_25 hl (by decide) rfl (fun ls hl => ?_)
      refine lv_iconst (v := 2) hx hb dL_addExposure_27 (by decide) ?_
      exact ziretU (u := u0) hx hb hr hAe ⟨hT.symm, fun h => absurd (hT.symm.trans h) (by decide), rfl⟩ (zP_re hP (by rw [hT]; rfl)) (zD_re hD (by rw [hT]; rfl)) hS dL_addExposure_28
    · refine vx_catch (name := "java/lang/IllegalStateException") hown [(⟨0, 18, 21, 13⟩ : ExceptionTableEntry), (⟨0, 18, 25, 15⟩ : ExceptionTableEntry)] (⟨0, 18, 29, 28⟩ : ExceptionTableEntry) [] (by rw [htb]; rfl) (fun z hz => by rcases List.mem_cons.mp hz with rfl | hz; (exact Or.inr ⟨by decide, "java/lang/IndexOutOfBoundsException", hts (.classLink RL 13 "java/lang/IndexOutOfBoundsException") (by decide +kernel), hN.2.1⟩); (obtain rfl := List.mem_singleton.mp hz; exact Or.inr ⟨by decide, "java/lang/IllegalArgumentException", hts (.classLink RL 15 "java/lang/IllegalArgumentException") (by decide +kernel), hN.2.2⟩)) (by decide) (by decide) (hts (.classLink RL 28 "java/lang/IllegalStateException") (by decide +kernel)) (va_Nw.use rfl (hX.1 (.castable "java/lang/IllegalStateException" "java/lang/IllegalStateException") (by decide +kernel))) hq hqv hqc ?_
      refine lv_astore (lv' := [(8, .ref q9), (0, .ref (u0.1 0)), (1, .int a0), (2, .int a1), (3, .int a2), (4, .int a3), (5, .int a4), (6, .int a5), (7, .ref o)]) hx hb dL_addExposure_29 hl (by decide) rfl (fun ls hl => ?_)
      refine lv_iconst (v := 3) hx hb dL_addExposure_31 (by decide) ?_
      exact ziretU (u := u0) hx hb hr hAe ⟨hT.symm, fun h => absurd (hT.symm.trans h) (by decide), rfl⟩ (zP_re hP (by rw [hT]; rfl)) (zD_re hD (by rw [hT]; rfl)) hS dL_addExposure_32
  · obtain ⟨hT, hR⟩ := hr1
    refine lv_i2l hx hb dL_addExposure_16 rfl ?_
    have hP : va_P D vwCl ([(o, .inl (cL, 1, .inr (.inl (u_o u0))))] ++ cws cI cL cE cP (va_up u0.1 (11 + n) q9) (gAE g n a0 a1 a2 a3 a4 a5) (n + 1) (k) u0.2.1 u0.2.2.1 u0.2.2.2.1 u0.2.2.2.2.1 u0.2.2.2.2.2.1 u0.2.2.2.2.2.2.1 u0.2.2.2.2.2.2.2.1) H := hP
    have hD : va_D A ([(o, .inl (cL, 1, .inr (.inl (u_o u0))))] ++ cws cI cL cE cP (va_up u0.1 (11 + n) q9) (gAE g n a0 a1 a2 a3 a4 a5) (n + 1) (k) u0.2.1 u0.2.2.1 u0.2.2.2.1 u0.2.2.2.2.1 u0.2.2.2.2.2.1 u0.2.2.2.2.2.2.1 u0.2.2.2.2.2.2.2.1) := hD
    refine zlast (f2 := vp_updL (u_o u0) 0 r_1.toInt64) hx hb hK hP hD hS 0 1 rfl rfl (by unfold vp_in; decide) rfl dL_addExposure_17 (fun H locs hP hD hS => ?_)
    refine lv_goto (tgt := 33) hx hb dL_addExposure_18 (by decide) ?_
    refine lv_iconst (v := 0) hx hb dL_addExposure_33 (by decide) ?_
    exact ziretU (u := (va_up u0.1 (11 + n) q9, u0.2.1, u0.2.2.1, u0.2.2.2.1, u0.2.2.2.2.1, u0.2.2.2.2.2.1, u0.2.2.2.2.2.2.1, u0.2.2.2.2.2.2.2.1, vp_updL (u_o u0) 0 r_1.toInt64)) hx hb hr hAe ⟨hT.symm, fun _ => by rw [← hR]; rfl, by unfold va_up; dsimp only; rw [if_neg (by omega)]⟩ (zP_re hP (by rw [hT]; rfl)) (zD_re hD (by rw [hT]; rfl)) hS dL_addExposure_34
set_option maxHeartbeats 4000000 in
set_option maxRecDepth 100000 in
theorem zL_draw (l : Launch) (hfl : l.stackTraces = false) (D : va_G) (cI cL cE cP : ClassId) (o : Nat) (g : Nat → Nat → Int32) (n k : Nat) (u0 : U9) (hok : zOk g n k) (x d0 : Int32) (sz : Nat) : Met l yL_draw wsL_draw ({ frames := 7, cells := 1, slots := 6, locals := 115 }) (zPy D cI cL cE cP (lwo cI cL cE cP o g n k u0) sz [.ref (u0.1 0), .int x, .int d0, .ref o]) (va_Qi (fun (r : Int32) (u : U9) => r = T_draw g n x d0 ∧ (T_draw g n x d0 = 0 → u_o u 0 = (g 5 x.toNatClampNeg + d0 : Int32).toInt64) ∧ u.1 0 = u0.1 0) (fun u t => zB D (lwo cI cL cE cP o g n k u0) sz (lwo cI cL cE cP o (if T_draw g n x d0 = 0 then gR (gR g 5 (upd (g 5) x.toNatClampNeg (g 5 x.toNatClampNeg + d0))) 6 (upd (g 6) x.toNatClampNeg (g 6 x.toNatClampNeg - d0)) else g) (n) (k) u) t) (va_A (lwo cI cL cE cP o g n k u0) sz)) 1 6 (va_A (lwo cI cL cE cP o g n k u0) sz) := by
  refine va_MetW (cc := cL_draw) (maxL := 5) (ret := (some .int)) (hh := [(0, 10, 13, 13), (0, 10, 17, 15), (0, 10, 21, 28)]) (by decide) rfl ?_
  intro p e s m args below meth c s₁ B hml hv
  obtain ⟨rfl, hsz, hE, hP, hD0, hX, hU0, hN⟩ := hv
  subst hsz
  obtain ⟨A, hAe⟩ : ∃ A, A = va_A (lwo cI cL cE cP o g n k u0) s.heap.size := ⟨_, rfl⟩
  have hD : va_D A (lwo cI cL cE cP o g n k u0) := by rw [hAe]; exact hD0.self
  have hA : ∀ q : Nat, s.heap.size ≤ q → A q := fun q h => by rw [hAe]; exact Or.inr h
  have hS : va_S A s.heap s.heap [] := va_S.rf
  have hx := B.exec
  have hb := B.bytes
  have hr := B.returns
  have hts := atoms_spec (ws := wsL_draw) B.pre
  have hown : s.vm.findClass RL = some m.cls := findClass_of_methodNamed B.named
  have hlocks := B.notSynchronized
  have hK := hE.1
  have htb := vx_table (x := yX3_init) B (hts (.codeWith yL_draw cL_draw 5 (some .int) [(0, 10, 13, 13), (0, 10, 17, 15), (0, 10, 21, 28)]) List.mem_cons_self)
  have hl := lv_entry ([.ref (u0.1 0), .int x, .int d0, .ref o]) (n := 5) (Nat.le_of_ble_eq_true rfl)
  rw [lg_entry_eq]
  generalize (lg_sl ([.ref (u0.1 0), .int x, .int d0, .ref o]) ++ List.replicate (5 - (lg_sl ([.ref (u0.1 0), .int x, .int d0, .ref o])).length) Slot.unset).toArray = ls at hl ⊢
  have hl : lv_has ls 5 [(0, .ref (u0.1 0)), (1, .int x), (2, .int d0), (3, .ref o)] := hl
  refine lv_aload_n hx hb dL_draw_0 rfl (lv_at hl 3 rfl) ?_
  refine lv_iconst (v := 0) hx hb dL_draw_1 (by decide) ?_
  refine lv_aload_n hx hb dL_draw_2 rfl (lv_at hl 0 rfl) ?_
  refine lv_iload_n hx hb dL_draw_3 rfl (lv_at hl 1 rfl) ?_
  refine lv_iload_n hx hb dL_draw_4 rfl (lv_at hl 2 rfl) ?_
  have hPc := (zP_app (w1 := [(o, .inl (cL, 1, .inr (.inl (u_o u0))))]) (w2 := (cwu cI cL cE cP g n k u0)) hP).2
  have hDc := (zD_app (w1 := [(o, .inl (cL, 1, .inr (.inl (u_o u0))))]) (w2 := (cwu cI cL cE cP g n k u0)) hD).2.1
  have hUc : zU (va_A (cwu cI cL cE cP g n k u0) s.heap.size) s s.heap := hU0.narrow (va_A_right (wr := [(o, .inl (cL, 1, .inr (.inl (u_o u0))))]))
  refine zxcall (wr := [(o, .inl (cL, 1, .inr (.inl (u_o u0))))]) (wc := (cwu cI cL cE cP g n k u0)) (vx_runV (As := [.int x, .int d0]) (rest := [.int 0, .ref o]) ⟨hx, hb, hml, hown, hts⟩ (zX3_draw l hfl D cI cL cE cP u0.1 g n k u0.2.1 u0.2.2.1 u0.2.2.2.1 u0.2.2.2.2.1 u0.2.2.2.2.2.1 u0.2.2.2.2.2.2.1 u0.2.2.2.2.2.2.2.1 hok x d0 s.heap.size) (cwV 2 hts gL_draw_X3_draw rfl rfl rfl (by decide +kernel) ⟨Nat.le_of_ble_eq_true rfl, Nat.le_of_ble_eq_true rfl⟩) ⟨zPx_blind, va_recv hK hP (ci := 3) (q0 := 1) rfl lwo_1, zPx_mk hE hPc hDc hX hUc⟩ rfl rfl hl.1 rfl (lv_room (Nat.le_of_ble_eq_true rfl)) dL_draw_5 ⟨Nat.le_of_ble_eq_true rfl, Nat.le_of_ble_eq_true rfl⟩) hP hD hS hA (fun E ce q9 H locs hxp hP hD hS hq hqv hqc => ?_) (fun r_1 _ H locs hr1 hP hD hS => ?_)
  · rcases hxp with ⟨rfl, hT⟩ | ⟨rfl, hT⟩ | ⟨rfl, hT⟩
    · refine vx_catch (name := "java/lang/IndexOutOfBoundsException") hown [] (⟨0, 10, 13, 13⟩ : ExceptionTableEntry) [(⟨0, 10, 17, 15⟩ : ExceptionTableEntry), (⟨0, 10, 21, 28⟩ : ExceptionTableEntry)] (by rw [htb]; rfl) (fun z hz => nomatch hz) (by decide) (by decide) (hts (.classLink RL 13 "java/lang/IndexOutOfBoundsException") (by decide +kernel)) (va_Nw.use rfl (hX.1 (.castable "java/lang/IndexOutOfBoundsException" "java/lang/IndexOutOfBoundsException") (by decide +kernel))) hq hqv hqc ?_
      refine lv_astore (lv' := [(4, .ref q9), (0, .ref (u0.1 0)), (1, .int x), (2, .int d0), (3, .ref o)]) hx hb dL_draw_13 hl (by decide) rfl (fun ls hl => ?_)
      refine lv_iconst (v := 1) hx hb dL_draw_15 (by decide) ?_
      exact ziretU (u := u0) hx hb hr hAe ⟨hT.symm, fun h => absurd (hT.symm.trans h) (by decide), rfl⟩ (zP_re hP (by rw [hT]; rfl)) (zD_re hD (by rw [hT]; rfl)) hS dL_draw_16
    · refine vx_catch (name := "java/lang/IllegalArgumentException") hown [(⟨0, 10, 13, 13⟩ : ExceptionTableEntry)] (⟨0, 10, 17, 15⟩ : ExceptionTableEntry) [(⟨0, 10, 21, 28⟩ : ExceptionTableEntry)] (by rw [htb]; rfl) (fun z hz => by obtain rfl := List.mem_singleton.mp hz; exact Or.inr ⟨by decide, "java/lang/IndexOutOfBoundsException", hts (.classLink RL 13 "java/lang/IndexOutOfBoundsException") (by decide +kernel), hN.1⟩) (by decide) (by decide) (hts (.classLink RL 15 "java/lang/IllegalArgumentException") (by decide +kernel)) (va_Nw.use rfl (hX.1 (.castable "java/lang/IllegalArgumentException" "java/lang/IllegalArgumentException") (by decide +kernel))) hq hqv hqc ?_
      refine lv_astore (lv' := [(4, .ref q9), (0, .ref (u0.1 0)), (1, .int x), (2, .int d0), (3, .ref o)]) hx hb dL_draw_17 hl (by decide) rfl (fun ls hl => ?_)
      refine lv_iconst (v := 2) hx hb dL_draw_19 (by decide) ?_
      exact ziretU (u := u0) hx hb hr hAe ⟨hT.symm, fun h => absurd (hT.symm.trans h) (by decide), rfl⟩ (zP_re hP (by rw [hT]; rfl)) (zD_re hD (by rw [hT]; rfl)) hS dL_draw_20
    · refine vx_catch (name := "java/lang/IllegalStateException") hown [(⟨0, 10, 13, 13⟩ : ExceptionTableEntry), (⟨0, 10, 17, 15⟩ : ExceptionTableEntry)] (⟨0, 10, 21, 28⟩ : ExceptionTableEntry) [] (by rw [htb]; rfl) (fun z hz => by rcases List.mem_cons.mp hz with rfl | hz; (exact Or.inr ⟨by decide, "java/lang/IndexOutOfBoundsException", hts (.classLink RL 13 "java/lang/IndexOutOfBoundsException") (by decide +kernel), hN.2.1⟩); (obtain rfl := List.mem_singleton.mp hz; exact Or.inr ⟨by decide, "java/lang/IllegalArgumentException", hts (.classLink RL 15 "java/lang/IllegalArgumentException") (by decide +kernel), hN.2.2⟩)) (by decide) (by decide) (hts (.classLink RL 28 "java/lang/IllegalStateException") (by decide +kernel)) (va_Nw.use rfl (hX.1 (.castable "java/lang/IllegalStateException" "java/lang/IllegalStateException") (by decide +kernel))) hq hqv hqc ?_
      refine lv_astore (lv' := [(4, .ref q9), (0, .ref (u0.1 0)), (1, .int x), (2, .int d0), (3, .ref o)]) hx hb dL_draw_21 hl (by decide) rfl (fun ls hl => ?_)
      refine lv_iconst (v := 3) hx hb dL_draw_23 (by decide) ?_
      exact ziretU (u := u0) hx hb hr hAe ⟨hT.symm, fun h => absurd (hT.symm.trans h) (by decide), rfl⟩ (zP_re hP (by rw [hT]; rfl)) (zD_re hD (by rw [hT]; rfl)) hS dL_draw_24
  · obtain ⟨hT, hR⟩ := hr1
    refine lv_i2l hx hb dL_draw_8 rfl ?_
    have hP : va_P D vwCl ([(o, .inl (cL, 1, .inr (.inl (u_o u0))))] ++ cws cI cL cE cP (u0.1) (gR (gR g 5 (upd (g 5) x.toNatClampNeg (g 5 x.toNatClampNeg + d0))) 6 (upd (g 6) x.toNatClampNeg (g 6 x.toNatClampNeg - d0))) (n) (k) u0.2.1 u0.2.2.1 u0.2.2.2.1 u0.2.2.2.2.1 u0.2.2.2.2.2.1 u0.2.2.2.2.2.2.1 u0.2.2.2.2.2.2.2.1) H := hP
    have hD : va_D A ([(o, .inl (cL, 1, .inr (.inl (u_o u0))))] ++ cws cI cL cE cP (u0.1) (gR (gR g 5 (upd (g 5) x.toNatClampNeg (g 5 x.toNatClampNeg + d0))) 6 (upd (g 6) x.toNatClampNeg (g 6 x.toNatClampNeg - d0))) (n) (k) u0.2.1 u0.2.2.1 u0.2.2.2.1 u0.2.2.2.2.1 u0.2.2.2.2.2.1 u0.2.2.2.2.2.2.1 u0.2.2.2.2.2.2.2.1) := hD
    refine zlast (f2 := vp_updL (u_o u0) 0 r_1.toInt64) hx hb hK hP hD hS 0 1 rfl rfl (by unfold vp_in; decide) rfl dL_draw_9 (fun H locs hP hD hS => ?_)
    refine lv_goto (tgt := 25) hx hb dL_draw_10 (by decide) ?_
    refine lv_iconst (v := 0) hx hb dL_draw_25 (by decide) ?_
    exact ziretU (u := (u0.1, u0.2.1, u0.2.2.1, u0.2.2.2.1, u0.2.2.2.2.1, u0.2.2.2.2.2.1, u0.2.2.2.2.2.2.1, u0.2.2.2.2.2.2.2.1, vp_updL (u_o u0) 0 r_1.toInt64)) hx hb hr hAe ⟨hT.symm, fun _ => by rw [← hR]; rfl, rfl⟩ (zP_re hP (by rw [hT]; rfl)) (zD_re hD (by rw [hT]; rfl)) hS dL_draw_26
set_option maxHeartbeats 4000000 in
set_option maxRecDepth 100000 in
theorem zL_setClass (l : Launch) (hfl : l.stackTraces = false) (D : va_G) (cI cL cE cP : ClassId) (o : Nat) (g : Nat → Nat → Int32) (n k : Nat) (u0 : U9) (hok : zOk g n k) (x k0 : Int32) (sz : Nat) : Met l yL_setClass wsL_setClass ({ frames := 7, cells := 1, slots := 6, locals := 114 }) (zPy D cI cL cE cP (lwo cI cL cE cP o g n k u0) sz [.ref (u0.1 0), .int x, .int k0, .ref o]) (va_Qi (fun (r : Int32) (u : U9) => r = T_setClass n x k0 ∧ (T_setClass n x k0 = 0 → u_o u 0 = (g 3 x.toNatClampNeg : Int32).toInt64) ∧ u.1 0 = u0.1 0) (fun u t => zB D (lwo cI cL cE cP o g n k u0) sz (lwo cI cL cE cP o (if T_setClass n x k0 = 0 then gR g 3 (upd (g 3) x.toNatClampNeg k0) else g) (n) (k) u) t) (va_A (lwo cI cL cE cP o g n k u0) sz)) 1 6 (va_A (lwo cI cL cE cP o g n k u0) sz) := by
  refine va_MetW (cc := cL_setClass) (maxL := 5) (ret := (some .int)) (hh := [(0, 10, 13, 13)]) (by decide) rfl ?_
  intro p e s m args below meth c s₁ B hml hv
  obtain ⟨rfl, hsz, hE, hP, hD0, hX, hU0, hN⟩ := hv
  subst hsz
  obtain ⟨A, hAe⟩ : ∃ A, A = va_A (lwo cI cL cE cP o g n k u0) s.heap.size := ⟨_, rfl⟩
  have hD : va_D A (lwo cI cL cE cP o g n k u0) := by rw [hAe]; exact hD0.self
  have hA : ∀ q : Nat, s.heap.size ≤ q → A q := fun q h => by rw [hAe]; exact Or.inr h
  have hS : va_S A s.heap s.heap [] := va_S.rf
  have hx := B.exec
  have hb := B.bytes
  have hr := B.returns
  have hts := atoms_spec (ws := wsL_setClass) B.pre
  have hown : s.vm.findClass RL = some m.cls := findClass_of_methodNamed B.named
  have hlocks := B.notSynchronized
  have hK := hE.1
  have htb := vx_table (x := yX3_init) B (hts (.codeWith yL_setClass cL_setClass 5 (some .int) [(0, 10, 13, 13)]) List.mem_cons_self)
  have hl := lv_entry ([.ref (u0.1 0), .int x, .int k0, .ref o]) (n := 5) (Nat.le_of_ble_eq_true rfl)
  rw [lg_entry_eq]
  generalize (lg_sl ([.ref (u0.1 0), .int x, .int k0, .ref o]) ++ List.replicate (5 - (lg_sl ([.ref (u0.1 0), .int x, .int k0, .ref o])).length) Slot.unset).toArray = ls at hl ⊢
  have hl : lv_has ls 5 [(0, .ref (u0.1 0)), (1, .int x), (2, .int k0), (3, .ref o)] := hl
  refine lv_aload_n hx hb dL_setClass_0 rfl (lv_at hl 3 rfl) ?_
  refine lv_iconst (v := 0) hx hb dL_setClass_1 (by decide) ?_
  refine lv_aload_n hx hb dL_setClass_2 rfl (lv_at hl 0 rfl) ?_
  refine lv_iload_n hx hb dL_setClass_3 rfl (lv_at hl 1 rfl) ?_
  refine lv_iload_n hx hb dL_setClass_4 rfl (lv_at hl 2 rfl) ?_
  have hPc := (zP_app (w1 := [(o, .inl (cL, 1, .inr (.inl (u_o u0))))]) (w2 := (cwu cI cL cE cP g n k u0)) hP).2
  have hDc := (zD_app (w1 := [(o, .inl (cL, 1, .inr (.inl (u_o u0))))]) (w2 := (cwu cI cL cE cP g n k u0)) hD).2.1
  have hUc : zU (va_A (cwu cI cL cE cP g n k u0) s.heap.size) s s.heap := hU0.narrow (va_A_right (wr := [(o, .inl (cL, 1, .inr (.inl (u_o u0))))]))
  refine zxcall (wr := [(o, .inl (cL, 1, .inr (.inl (u_o u0))))]) (wc := (cwu cI cL cE cP g n k u0)) (vx_runV (As := [.int x, .int k0]) (rest := [.int 0, .ref o]) ⟨hx, hb, hml, hown, hts⟩ (zX3_setClass l hfl D cI cL cE cP u0.1 g n k u0.2.1 u0.2.2.1 u0.2.2.2.1 u0.2.2.2.2.1 u0.2.2.2.2.2.1 u0.2.2.2.2.2.2.1 u0.2.2.2.2.2.2.2.1 hok x k0 s.heap.size) (cwV 2 hts gL_setClass_X3_setClass rfl rfl rfl (by decide +kernel) ⟨Nat.le_of_ble_eq_true rfl, Nat.le_of_ble_eq_true rfl⟩) ⟨zPx_blind, va_recv hK hP (ci := 3) (q0 := 1) rfl lwo_1, zPx_mk hE hPc hDc hX hUc⟩ rfl rfl hl.1 rfl (lv_room (Nat.le_of_ble_eq_true rfl)) dL_setClass_5 ⟨Nat.le_of_ble_eq_true rfl, Nat.le_of_ble_eq_true rfl⟩) hP hD hS hA (fun E ce q9 H locs hxp hP hD hS hq hqv hqc => ?_) (fun r_1 _ H locs hr1 hP hD hS => ?_)
  · obtain ⟨rfl, hT⟩ := hxp
    refine vx_catch (name := "java/lang/IndexOutOfBoundsException") hown [] (⟨0, 10, 13, 13⟩ : ExceptionTableEntry) [] (by rw [htb]; rfl) (fun z hz => nomatch hz) (by decide) (by decide) (hts (.classLink RL 13 "java/lang/IndexOutOfBoundsException") (by decide +kernel)) (va_Nw.use rfl (hX.1 (.castable "java/lang/IndexOutOfBoundsException" "java/lang/IndexOutOfBoundsException") (by decide +kernel))) hq hqv hqc ?_
    refine lv_astore (lv' := [(4, .ref q9), (0, .ref (u0.1 0)), (1, .int x), (2, .int k0), (3, .ref o)]) hx hb dL_setClass_13 hl (by decide) rfl (fun ls hl => ?_)
    refine lv_iconst (v := 1) hx hb dL_setClass_15 (by decide) ?_
    exact ziretU (u := u0) hx hb hr hAe ⟨hT.symm, fun h => absurd (hT.symm.trans h) (by decide), rfl⟩ (zP_re hP (by rw [hT]; rfl)) (zD_re hD (by rw [hT]; rfl)) hS dL_setClass_16
  · obtain ⟨hT, hR⟩ := hr1
    refine lv_i2l hx hb dL_setClass_8 rfl ?_
    have hP : va_P D vwCl ([(o, .inl (cL, 1, .inr (.inl (u_o u0))))] ++ cws cI cL cE cP (u0.1) (gR g 3 (upd (g 3) x.toNatClampNeg k0)) (n) (k) u0.2.1 u0.2.2.1 u0.2.2.2.1 u0.2.2.2.2.1 u0.2.2.2.2.2.1 u0.2.2.2.2.2.2.1 u0.2.2.2.2.2.2.2.1) H := hP
    have hD : va_D A ([(o, .inl (cL, 1, .inr (.inl (u_o u0))))] ++ cws cI cL cE cP (u0.1) (gR g 3 (upd (g 3) x.toNatClampNeg k0)) (n) (k) u0.2.1 u0.2.2.1 u0.2.2.2.1 u0.2.2.2.2.1 u0.2.2.2.2.2.1 u0.2.2.2.2.2.2.1 u0.2.2.2.2.2.2.2.1) := hD
    refine zlast (f2 := vp_updL (u_o u0) 0 r_1.toInt64) hx hb hK hP hD hS 0 1 rfl rfl (by unfold vp_in; decide) rfl dL_setClass_9 (fun H locs hP hD hS => ?_)
    refine lv_goto (tgt := 17) hx hb dL_setClass_10 (by decide) ?_
    refine lv_iconst (v := 0) hx hb dL_setClass_17 (by decide) ?_
    exact ziretU (u := (u0.1, u0.2.1, u0.2.2.1, u0.2.2.2.1, u0.2.2.2.2.1, u0.2.2.2.2.2.1, u0.2.2.2.2.2.2.1, u0.2.2.2.2.2.2.2.1, vp_updL (u_o u0) 0 r_1.toInt64)) hx hb hr hAe ⟨hT.symm, fun _ => by rw [← hR]; rfl, rfl⟩ (zP_re hP (by rw [hT]; rfl)) (zD_re hD (by rw [hT]; rfl)) hS dL_setClass_18
set_option maxHeartbeats 4000000 in
set_option maxRecDepth 100000 in
theorem zL_guarantee (l : Launch) (hfl : l.stackTraces = false) (D : va_G) (cI cL cE cP : ClassId) (o : Nat) (g : Nat → Nat → Int32) (n k : Nat) (u0 : U9) (hok : zOk g n k) (x k0 s0 : Int32) (sz : Nat) : Met l yL_guarantee wsL_guarantee ({ frames := 7, cells := 1, slots := 6, locals := 115 }) (zPy D cI cL cE cP (lwo cI cL cE cP o g n k u0) sz [.ref (u0.1 0), .int x, .int k0, .int s0, .ref o]) (va_Qi (fun (r : Int32) (u : U9) => r = T_guarantee n x k0 s0 ∧ (T_guarantee n x k0 s0 = 0 → u_o u 0 = (g 10 x.toNatClampNeg : Int32).toInt64) ∧ u.1 0 = u0.1 0) (fun u t => zB D (lwo cI cL cE cP o g n k u0) sz (lwo cI cL cE cP o (if T_guarantee n x k0 s0 = 0 then gR (gR g 9 (upd (g 9) x.toNatClampNeg k0)) 10 (upd (g 10) x.toNatClampNeg s0) else g) (n) (k) u) t) (va_A (lwo cI cL cE cP o g n k u0) sz)) 1 6 (va_A (lwo cI cL cE cP o g n k u0) sz) := by
  refine va_MetW (cc := cL_guarantee) (maxL := 6) (ret := (some .int)) (hh := [(0, 12, 15, 13), (0, 12, 19, 15)]) (by decide) rfl ?_
  intro p e s m args below meth c s₁ B hml hv
  obtain ⟨rfl, hsz, hE, hP, hD0, hX, hU0, hN⟩ := hv
  subst hsz
  obtain ⟨A, hAe⟩ : ∃ A, A = va_A (lwo cI cL cE cP o g n k u0) s.heap.size := ⟨_, rfl⟩
  have hD : va_D A (lwo cI cL cE cP o g n k u0) := by rw [hAe]; exact hD0.self
  have hA : ∀ q : Nat, s.heap.size ≤ q → A q := fun q h => by rw [hAe]; exact Or.inr h
  have hS : va_S A s.heap s.heap [] := va_S.rf
  have hx := B.exec
  have hb := B.bytes
  have hr := B.returns
  have hts := atoms_spec (ws := wsL_guarantee) B.pre
  have hown : s.vm.findClass RL = some m.cls := findClass_of_methodNamed B.named
  have hlocks := B.notSynchronized
  have hK := hE.1
  have htb := vx_table (x := yX3_init) B (hts (.codeWith yL_guarantee cL_guarantee 6 (some .int) [(0, 12, 15, 13), (0, 12, 19, 15)]) List.mem_cons_self)
  have hl := lv_entry ([.ref (u0.1 0), .int x, .int k0, .int s0, .ref o]) (n := 6) (Nat.le_of_ble_eq_true rfl)
  rw [lg_entry_eq]
  generalize (lg_sl ([.ref (u0.1 0), .int x, .int k0, .int s0, .ref o]) ++ List.replicate (6 - (lg_sl ([.ref (u0.1 0), .int x, .int k0, .int s0, .ref o])).length) Slot.unset).toArray = ls at hl ⊢
  have hl : lv_has ls 6 [(0, .ref (u0.1 0)), (1, .int x), (2, .int k0), (3, .int s0), (4, .ref o)] := hl
  refine lv_aload hx hb dL_guarantee_0 (lv_at hl 4 rfl) ?_
  refine lv_iconst (v := 0) hx hb dL_guarantee_2 (by decide) ?_
  refine lv_aload_n hx hb dL_guarantee_3 rfl (lv_at hl 0 rfl) ?_
  refine lv_iload_n hx hb dL_guarantee_4 rfl (lv_at hl 1 rfl) ?_
  refine lv_iload_n hx hb dL_guarantee_5 rfl (lv_at hl 2 rfl) ?_
  refine lv_iload_n hx hb dL_guarantee_6 rfl (lv_at hl 3 rfl) ?_
  have hPc := (zP_app (w1 := [(o, .inl (cL, 1, .inr (.inl (u_o u0))))]) (w2 := (cwu cI cL cE cP g n k u0)) hP).2
  have hDc := (zD_app (w1 := [(o, .inl (cL, 1, .inr (.inl (u_o u0))))]) (w2 := (cwu cI cL cE cP g n k u0)) hD).2.1
  have hUc : zU (va_A (cwu cI cL cE cP g n k u0) s.heap.size) s s.heap := hU0.narrow (va_A_right (wr := [(o, .inl (cL, 1, .inr (.inl (u_o u0))))]))
  refine zxcall (wr := [(o, .inl (cL, 1, .inr (.inl (u_o u0))))]) (wc := (cwu cI cL cE cP g n k u0)) (vx_runV (As := [.int x, .int k0, .int s0]) (rest := [.int 0, .ref o]) ⟨hx, hb, hml, hown, hts⟩ (zX3_guarantee l hfl D cI cL cE cP u0.1 g n k u0.2.1 u0.2.2.1 u0.2.2.2.1 u0.2.2.2.2.1 u0.2.2.2.2.2.1 u0.2.2.2.2.2.2.1 u0.2.2.2.2.2.2.2.1 hok x k0 s0 s.heap.size) (cwV 3 hts gL_guarantee_X3_guarantee rfl rfl rfl (by decide +kernel) ⟨Nat.le_of_ble_eq_true rfl, Nat.le_of_ble_eq_true rfl⟩) ⟨zPx_blind, va_recv hK hP (ci := 3) (q0 := 1) rfl lwo_1, zPx_mk hE hPc hDc hX hUc⟩ rfl rfl hl.1 rfl (lv_room (Nat.le_of_ble_eq_true rfl)) dL_guarantee_7 ⟨Nat.le_of_ble_eq_true rfl, Nat.le_of_ble_eq_true rfl⟩) hP hD hS hA (fun E ce q9 H locs hxp hP hD hS hq hqv hqc => ?_) (fun r_1 _ H locs hr1 hP hD hS => ?_)
  · rcases hxp with ⟨rfl, hT⟩ | ⟨rfl, hT⟩
    · refine vx_catch (name := "java/lang/IndexOutOfBoundsException") hown [] (⟨0, 12, 15, 13⟩ : ExceptionTableEntry) [(⟨0, 12, 19, 15⟩ : ExceptionTableEntry)] (by rw [htb]; rfl) (fun z hz => nomatch hz) (by decide) (by decide) (hts (.classLink RL 13 "java/lang/IndexOutOfBoundsException") (by decide +kernel)) (va_Nw.use rfl (hX.1 (.castable "java/lang/IndexOutOfBoundsException" "java/lang/IndexOutOfBoundsException") (by decide +kernel))) hq hqv hqc ?_
      refine lv_astore (lv' := [(5, .ref q9), (0, .ref (u0.1 0)), (1, .int x), (2, .int k0), (3, .int s0), (4, .ref o)]) hx hb dL_guarantee_15 hl (by decide) rfl (fun ls hl => ?_)
      refine lv_iconst (v := 1) hx hb dL_guarantee_17 (by decide) ?_
      exact ziretU (u := u0) hx hb hr hAe ⟨hT.symm, fun h => absurd (hT.symm.trans h) (by decide), rfl⟩ (zP_re hP (by rw [hT]; rfl)) (zD_re hD (by rw [hT]; rfl)) hS dL_guarantee_18
    · refine vx_catch (name := "java/lang/IllegalArgumentException") hown [(⟨0, 12, 15, 13⟩ : ExceptionTableEntry)] (⟨0, 12, 19, 15⟩ : ExceptionTableEntry) [] (by rw [htb]; rfl) (fun z hz => by obtain rfl := List.mem_singleton.mp hz; exact Or.inr ⟨by decide, "java/lang/IndexOutOfBoundsException", hts (.classLink RL 13 "java/lang/IndexOutOfBoundsException") (by decide +kernel), hN.1⟩) (by decide) (by decide) (hts (.classLink RL 15 "java/lang/IllegalArgumentException") (by decide +kernel)) (va_Nw.use rfl (hX.1 (.castable "java/lang/IllegalArgumentException" "java/lang/IllegalArgumentException") (by decide +kernel))) hq hqv hqc ?_
      refine lv_astore (lv' := [(5, .ref q9), (0, .ref (u0.1 0)), (1, .int x), (2, .int k0), (3, .int s0), (4, .ref o)]) hx hb dL_guarantee_19 hl (by decide) rfl (fun ls hl => ?_)
      refine lv_iconst (v := 2) hx hb dL_guarantee_21 (by decide) ?_
      exact ziretU (u := u0) hx hb hr hAe ⟨hT.symm, fun h => absurd (hT.symm.trans h) (by decide), rfl⟩ (zP_re hP (by rw [hT]; rfl)) (zD_re hD (by rw [hT]; rfl)) hS dL_guarantee_22
  · obtain ⟨hT, hR⟩ := hr1
    refine lv_i2l hx hb dL_guarantee_10 rfl ?_
    have hP : va_P D vwCl ([(o, .inl (cL, 1, .inr (.inl (u_o u0))))] ++ cws cI cL cE cP (u0.1) (gR (gR g 9 (upd (g 9) x.toNatClampNeg k0)) 10 (upd (g 10) x.toNatClampNeg s0)) (n) (k) u0.2.1 u0.2.2.1 u0.2.2.2.1 u0.2.2.2.2.1 u0.2.2.2.2.2.1 u0.2.2.2.2.2.2.1 u0.2.2.2.2.2.2.2.1) H := hP
    have hD : va_D A ([(o, .inl (cL, 1, .inr (.inl (u_o u0))))] ++ cws cI cL cE cP (u0.1) (gR (gR g 9 (upd (g 9) x.toNatClampNeg k0)) 10 (upd (g 10) x.toNatClampNeg s0)) (n) (k) u0.2.1 u0.2.2.1 u0.2.2.2.1 u0.2.2.2.2.1 u0.2.2.2.2.2.1 u0.2.2.2.2.2.2.1 u0.2.2.2.2.2.2.2.1) := hD
    refine zlast (f2 := vp_updL (u_o u0) 0 r_1.toInt64) hx hb hK hP hD hS 0 1 rfl rfl (by unfold vp_in; decide) rfl dL_guarantee_11 (fun H locs hP hD hS => ?_)
    refine lv_goto (tgt := 23) hx hb dL_guarantee_12 (by decide) ?_
    refine lv_iconst (v := 0) hx hb dL_guarantee_23 (by decide) ?_
    exact ziretU (u := (u0.1, u0.2.1, u0.2.2.1, u0.2.2.2.1, u0.2.2.2.2.1, u0.2.2.2.2.2.1, u0.2.2.2.2.2.2.1, u0.2.2.2.2.2.2.2.1, vp_updL (u_o u0) 0 r_1.toInt64)) hx hb hr hAe ⟨hT.symm, fun _ => by rw [← hR]; rfl, rfl⟩ (zP_re hP (by rw [hT]; rfl)) (zD_re hD (by rw [hT]; rfl)) hS dL_guarantee_24
set_option maxHeartbeats 4000000 in
set_option maxRecDepth 100000 in
theorem zL_amount (l : Launch) (hfl : l.stackTraces = false) (D : va_G) (cI cL cE cP : ClassId) (o : Nat) (g : Nat → Nat → Int32) (n k : Nat) (u0 : U9) (hok : zOk g n k) (x : Int32) (sz : Nat) : Met l yL_amount wsL_amount ({ frames := 7, cells := 1, slots := 6, locals := 112 }) (zPy D cI cL cE cP (lwo cI cL cE cP o g n k u0) sz [.ref (u0.1 0), .int x, .ref o]) (va_Qi (fun (r : Int32) (u : U9) => r = T_amount n x ∧ (T_amount n x = 0 → u_o u 0 = (amt g x.toNatClampNeg : Int32).toInt64) ∧ u.1 0 = u0.1 0) (fun u t => zB D (lwo cI cL cE cP o g n k u0) sz (lwo cI cL cE cP o (g) (n) (k) u) t) (va_A (lwo cI cL cE cP o g n k u0) sz)) 1 6 (va_A (lwo cI cL cE cP o g n k u0) sz) := by
  refine va_MetW (cc := cL_amount) (maxL := 4) (ret := (some .int)) (hh := [(0, 9, 12, 13)]) (by decide) rfl ?_
  intro p e s m args below meth c s₁ B hml hv
  obtain ⟨rfl, hsz, hE, hP, hD0, hX, hU0, hN⟩ := hv
  subst hsz
  obtain ⟨A, hAe⟩ : ∃ A, A = va_A (lwo cI cL cE cP o g n k u0) s.heap.size := ⟨_, rfl⟩
  have hD : va_D A (lwo cI cL cE cP o g n k u0) := by rw [hAe]; exact hD0.self
  have hA : ∀ q : Nat, s.heap.size ≤ q → A q := fun q h => by rw [hAe]; exact Or.inr h
  have hS : va_S A s.heap s.heap [] := va_S.rf
  have hx := B.exec
  have hb := B.bytes
  have hr := B.returns
  have hts := atoms_spec (ws := wsL_amount) B.pre
  have hown : s.vm.findClass RL = some m.cls := findClass_of_methodNamed B.named
  have hlocks := B.notSynchronized
  have hK := hE.1
  have htb := vx_table (x := yX3_init) B (hts (.codeWith yL_amount cL_amount 4 (some .int) [(0, 9, 12, 13)]) List.mem_cons_self)
  have hl := lv_entry ([.ref (u0.1 0), .int x, .ref o]) (n := 4) (Nat.le_of_ble_eq_true rfl)
  rw [lg_entry_eq]
  generalize (lg_sl ([.ref (u0.1 0), .int x, .ref o]) ++ List.replicate (4 - (lg_sl ([.ref (u0.1 0), .int x, .ref o])).length) Slot.unset).toArray = ls at hl ⊢
  have hl : lv_has ls 4 [(0, .ref (u0.1 0)), (1, .int x), (2, .ref o)] := hl
  refine lv_aload_n hx hb dL_amount_0 rfl (lv_at hl 2 rfl) ?_
  refine lv_iconst (v := 0) hx hb dL_amount_1 (by decide) ?_
  refine lv_aload_n hx hb dL_amount_2 rfl (lv_at hl 0 rfl) ?_
  refine lv_iload_n hx hb dL_amount_3 rfl (lv_at hl 1 rfl) ?_
  have hPc := (zP_app (w1 := [(o, .inl (cL, 1, .inr (.inl (u_o u0))))]) (w2 := (cwu cI cL cE cP g n k u0)) hP).2
  have hDc := (zD_app (w1 := [(o, .inl (cL, 1, .inr (.inl (u_o u0))))]) (w2 := (cwu cI cL cE cP g n k u0)) hD).2.1
  have hUc : zU (va_A (cwu cI cL cE cP g n k u0) s.heap.size) s s.heap := hU0.narrow (va_A_right (wr := [(o, .inl (cL, 1, .inr (.inl (u_o u0))))]))
  refine zxcall (wr := [(o, .inl (cL, 1, .inr (.inl (u_o u0))))]) (wc := (cwu cI cL cE cP g n k u0)) (vx_runV (As := [.int x]) (rest := [.int 0, .ref o]) ⟨hx, hb, hml, hown, hts⟩ (zX3_amount l hfl D cI cL cE cP u0.1 g n k u0.2.1 u0.2.2.1 u0.2.2.2.1 u0.2.2.2.2.1 u0.2.2.2.2.2.1 u0.2.2.2.2.2.2.1 u0.2.2.2.2.2.2.2.1 hok x s.heap.size) (cwV 1 hts gL_amount_X3_amount rfl rfl rfl (by decide +kernel) ⟨Nat.le_of_ble_eq_true rfl, Nat.le_of_ble_eq_true rfl⟩) ⟨zPx_blind, va_recv hK hP (ci := 3) (q0 := 1) rfl lwo_1, zPx_mk hE hPc hDc hX hUc⟩ rfl rfl hl.1 rfl (lv_room (Nat.le_of_ble_eq_true rfl)) dL_amount_4 ⟨Nat.le_of_ble_eq_true rfl, Nat.le_of_ble_eq_true rfl⟩) hP hD hS hA (fun E ce q9 H locs hxp hP hD hS hq hqv hqc => ?_) (fun r_1 _ H locs hr1 hP hD hS => ?_)
  · obtain ⟨rfl, hT⟩ := hxp
    refine vx_catch (name := "java/lang/IndexOutOfBoundsException") hown [] (⟨0, 9, 12, 13⟩ : ExceptionTableEntry) [] (by rw [htb]; rfl) (fun z hz => nomatch hz) (by decide) (by decide) (hts (.classLink RL 13 "java/lang/IndexOutOfBoundsException") (by decide +kernel)) (va_Nw.use rfl (hX.1 (.castable "java/lang/IndexOutOfBoundsException" "java/lang/IndexOutOfBoundsException") (by decide +kernel))) hq hqv hqc ?_
    refine lv_astore_n (lv' := [(3, .ref q9), (0, .ref (u0.1 0)), (1, .int x), (2, .ref o)]) hx hb dL_amount_12 rfl hl (by decide) rfl (fun ls hl => ?_)
    refine lv_iconst (v := 1) hx hb dL_amount_13 (by decide) ?_
    exact ziretU (u := u0) hx hb hr hAe ⟨hT.symm, fun h => absurd (hT.symm.trans h) (by decide), rfl⟩ (zP_re hP (by rfl)) (zD_re hD (by rfl)) hS dL_amount_14
  · obtain ⟨hT, hR⟩ := hr1
    refine lv_i2l hx hb dL_amount_7 rfl ?_
    have hP : va_P D vwCl ([(o, .inl (cL, 1, .inr (.inl (u_o u0))))] ++ cws cI cL cE cP (u0.1) (g) (n) (k) u0.2.1 u0.2.2.1 u0.2.2.2.1 u0.2.2.2.2.1 u0.2.2.2.2.2.1 u0.2.2.2.2.2.2.1 u0.2.2.2.2.2.2.2.1) H := hP
    have hD : va_D A ([(o, .inl (cL, 1, .inr (.inl (u_o u0))))] ++ cws cI cL cE cP (u0.1) (g) (n) (k) u0.2.1 u0.2.2.1 u0.2.2.2.1 u0.2.2.2.2.1 u0.2.2.2.2.2.1 u0.2.2.2.2.2.2.1 u0.2.2.2.2.2.2.2.1) := hD
    refine zlast (f2 := vp_updL (u_o u0) 0 r_1.toInt64) hx hb hK hP hD hS 0 1 rfl rfl (by unfold vp_in; decide) rfl dL_amount_8 (fun H locs hP hD hS => ?_)
    refine lv_goto (tgt := 15) hx hb dL_amount_9 (by decide) ?_
    refine lv_iconst (v := 0) hx hb dL_amount_15 (by decide) ?_
    exact ziretU (u := (u0.1, u0.2.1, u0.2.2.1, u0.2.2.2.1, u0.2.2.2.2.1, u0.2.2.2.2.2.1, u0.2.2.2.2.2.2.1, u0.2.2.2.2.2.2.2.1, vp_updL (u_o u0) 0 r_1.toInt64)) hx hb hr hAe ⟨hT.symm, fun _ => by rw [← hR]; rfl, rfl⟩ (zP_re hP (by rfl)) (zD_re hD (by rfl)) hS dL_amount_16
set_option maxHeartbeats 4000000 in
set_option maxRecDepth 100000 in
theorem zL_addPiece (l : Launch) (hfl : l.stackTraces = false) (D : va_G) (cI cL cE cP : ClassId) (o : Nat) (g : Nat → Nat → Int32) (n k : Nat) (u0 : U9) (hok : zOk g n k) (a0 a1 a2 a3 a4 : Int32) (sz : Nat) : Met l yL_addPiece wsL_addPiece ({ frames := 7, cells := 1, slots := 6, locals := 116 }) (zPy D cI cL cE cP (lwo cI cL cE cP o g n k u0) sz [.ref (u0.1 0), .int a0, .int a1, .int a2, .int a3, .int a4, .ref o]) (va_Qi (fun (r : Int32) (u : U9) => r = T_addPiece k a0 a1 a2 a3 a4 ∧ (T_addPiece k a0 a1 a2 a3 a4 = 0 → u_o u 0 = (nI k : Int32).toInt64) ∧ u.1 0 = u0.1 0) (fun u t => zB D (lwo cI cL cE cP o g n k u0) sz (lwo cI cL cE cP o (if T_addPiece k a0 a1 a2 a3 a4 = 0 then gAP g k a0 a1 a2 a3 a4 else g) (n) (if T_addPiece k a0 a1 a2 a3 a4 = 0 then k + 1 else k) u) t) (va_A (lwo cI cL cE cP o g n k u0) sz)) 1 6 (va_A (lwo cI cL cE cP o g n k u0) sz) := by
  refine va_MetW (cc := cL_addPiece) (maxL := 8) (ret := (some .int)) (hh := [(0, 16, 19, 15), (0, 16, 23, 28)]) (by decide) rfl ?_
  intro p e s m args below meth c s₁ B hml hv
  obtain ⟨rfl, hsz, hE, hP, hD0, hX, hU0, hN⟩ := hv
  subst hsz
  obtain ⟨A, hAe⟩ : ∃ A, A = va_A (lwo cI cL cE cP o g n k u0) s.heap.size := ⟨_, rfl⟩
  have hD : va_D A (lwo cI cL cE cP o g n k u0) := by rw [hAe]; exact hD0.self
  have hA : ∀ q : Nat, s.heap.size ≤ q → A q := fun q h => by rw [hAe]; exact Or.inr h
  have hS : va_S A s.heap s.heap [] := va_S.rf
  have hx := B.exec
  have hb := B.bytes
  have hr := B.returns
  have hts := atoms_spec (ws := wsL_addPiece) B.pre
  have hown : s.vm.findClass RL = some m.cls := findClass_of_methodNamed B.named
  have hlocks := B.notSynchronized
  have hK := hE.1
  have htb := vx_table (x := yX3_init) B (hts (.codeWith yL_addPiece cL_addPiece 8 (some .int) [(0, 16, 19, 15), (0, 16, 23, 28)]) List.mem_cons_self)
  have hl := lv_entry ([.ref (u0.1 0), .int a0, .int a1, .int a2, .int a3, .int a4, .ref o]) (n := 8) (Nat.le_of_ble_eq_true rfl)
  rw [lg_entry_eq]
  generalize (lg_sl ([.ref (u0.1 0), .int a0, .int a1, .int a2, .int a3, .int a4, .ref o]) ++ List.replicate (8 - (lg_sl ([.ref (u0.1 0), .int a0, .int a1, .int a2, .int a3, .int a4, .ref o])).length) Slot.unset).toArray = ls at hl ⊢
  have hl : lv_has ls 8 [(0, .ref (u0.1 0)), (1, .int a0), (2, .int a1), (3, .int a2), (4, .int a3), (5, .int a4), (6, .ref o)] := hl
  refine lv_aload hx hb dL_addPiece_0 (lv_at hl 6 rfl) ?_
  refine lv_iconst (v := 0) hx hb dL_addPiece_2 (by decide) ?_
  refine lv_aload_n hx hb dL_addPiece_3 rfl (lv_at hl 0 rfl) ?_
  refine lv_iload_n hx hb dL_addPiece_4 rfl (lv_at hl 1 rfl) ?_
  refine lv_iload_n hx hb dL_addPiece_5 rfl (lv_at hl 2 rfl) ?_
  refine lv_iload_n hx hb dL_addPiece_6 rfl (lv_at hl 3 rfl) ?_
  refine lv_iload hx hb dL_addPiece_7 (lv_at hl 4 rfl) ?_
  refine lv_iload hx hb dL_addPiece_9 (lv_at hl 5 rfl) ?_
  have hPc := (zP_app (w1 := [(o, .inl (cL, 1, .inr (.inl (u_o u0))))]) (w2 := (cwu cI cL cE cP g n k u0)) hP).2
  have hDc := (zD_app (w1 := [(o, .inl (cL, 1, .inr (.inl (u_o u0))))]) (w2 := (cwu cI cL cE cP g n k u0)) hD).2.1
  have hUc : zU (va_A (cwu cI cL cE cP g n k u0) s.heap.size) s s.heap := hU0.narrow (va_A_right (wr := [(o, .inl (cL, 1, .inr (.inl (u_o u0))))]))
  refine zxcall (wr := [(o, .inl (cL, 1, .inr (.inl (u_o u0))))]) (wc := (cwu cI cL cE cP g n k u0)) (vx_runV (As := [.int a0, .int a1, .int a2, .int a3, .int a4]) (rest := [.int 0, .ref o]) ⟨hx, hb, hml, hown, hts⟩ (zX3_addPiece l hfl D cI cL cE cP u0.1 g n k u0.2.1 u0.2.2.1 u0.2.2.2.1 u0.2.2.2.2.1 u0.2.2.2.2.2.1 u0.2.2.2.2.2.2.1 u0.2.2.2.2.2.2.2.1 hok a0 a1 a2 a3 a4 s.heap.size) (cwV 5 hts gL_addPiece_X3_addPiece rfl rfl rfl (by decide +kernel) ⟨Nat.le_of_ble_eq_true rfl, Nat.le_of_ble_eq_true rfl⟩) ⟨zPx_blind, va_recv hK hP (ci := 3) (q0 := 1) rfl lwo_1, zPx_mk hE hPc hDc hX hUc⟩ rfl rfl hl.1 rfl (lv_room (Nat.le_of_ble_eq_true rfl)) dL_addPiece_11 ⟨Nat.le_of_ble_eq_true rfl, Nat.le_of_ble_eq_true rfl⟩) hP hD hS hA (fun E ce q9 H locs hxp hP hD hS hq hqv hqc => ?_) (fun r_1 q9 H locs hr1 hP hD hS => ?_)
  · rcases hxp with ⟨rfl, hT⟩ | ⟨rfl, hT⟩
    · refine vx_catch (name := "java/lang/IllegalArgumentException") hown [] (⟨0, 16, 19, 15⟩ : ExceptionTableEntry) [(⟨0, 16, 23, 28⟩ : ExceptionTableEntry)] (by rw [htb]; rfl) (fun z hz => nomatch hz) (by decide) (by decide) (hts (.classLink RL 15 "java/lang/IllegalArgumentException") (by decide +kernel)) (va_Nw.use rfl (hX.1 (.castable "java/lang/IllegalArgumentException" "java/lang/IllegalArgumentException") (by decide +kernel))) hq hqv hqc ?_
      refine lv_astore (lv' := [(7, .ref q9), (0, .ref (u0.1 0)), (1, .int a0), (2, .int a1), (3, .int a2), (4, .int a3), (5, .int a4), (6, .ref o)]) hx hb dL_addPiece_19 hl (by decide) rfl (fun ls hl => ?_)
      refine lv_iconst (v := 1) hx hb dL_addPiece_21 (by decide) ?_
      exact ziretU (u := u0) hx hb hr hAe ⟨hT.symm, fun h => absurd (hT.symm.trans h) (by decide), rfl⟩ (zP_re hP (by rw [hT]; rfl)) (zD_re hD (by rw [hT]; rfl)) hS dL_addPiece_22
    · refine vx_catch (name := "java/lang/IllegalStateException") hown [(⟨0, 16, 19, 15⟩ : ExceptionTableEntry)] (⟨0, 16, 23, 28⟩ : ExceptionTableEntry) [] (by rw [htb]; rfl) (fun z hz => by obtain rfl := List.mem_singleton.mp hz; exact Or.inr ⟨by decide, "java/lang/IllegalArgumentException", hts (.classLink RL 15 "java/lang/IllegalArgumentException") (by decide +kernel), hN.2.2⟩) (by decide) (by decide) (hts (.classLink RL 28 "java/lang/IllegalStateException") (by decide +kernel)) (va_Nw.use rfl (hX.1 (.castable "java/lang/IllegalStateException" "java/lang/IllegalStateException") (by decide +kernel))) hq hqv hqc ?_
      refine lv_astore (lv' := [(7, .ref q9), (0, .ref (u0.1 0)), (1, .int a0), (2, .int a1), (3, .int a2), (4, .int a3), (5, .int a4), (6, .ref o)]) hx hb dL_addPiece_23 hl (by decide) rfl (fun ls hl => ?_)
      refine lv_iconst (v := 2) hx hb dL_addPiece_25 (by decide) ?_
      exact ziretU (u := u0) hx hb hr hAe ⟨hT.symm, fun h => absurd (hT.symm.trans h) (by decide), rfl⟩ (zP_re hP (by rw [hT]; rfl)) (zD_re hD (by rw [hT]; rfl)) hS dL_addPiece_26
  · obtain ⟨hT, hR⟩ := hr1
    refine lv_i2l hx hb dL_addPiece_14 rfl ?_
    have hP : va_P D vwCl ([(o, .inl (cL, 1, .inr (.inl (u_o u0))))] ++ cws cI cL cE cP (va_up u0.1 (19 + k) q9) (gAP g k a0 a1 a2 a3 a4) (n) (k + 1) u0.2.1 u0.2.2.1 u0.2.2.2.1 u0.2.2.2.2.1 u0.2.2.2.2.2.1 u0.2.2.2.2.2.2.1 u0.2.2.2.2.2.2.2.1) H := hP
    have hD : va_D A ([(o, .inl (cL, 1, .inr (.inl (u_o u0))))] ++ cws cI cL cE cP (va_up u0.1 (19 + k) q9) (gAP g k a0 a1 a2 a3 a4) (n) (k + 1) u0.2.1 u0.2.2.1 u0.2.2.2.1 u0.2.2.2.2.1 u0.2.2.2.2.2.1 u0.2.2.2.2.2.2.1 u0.2.2.2.2.2.2.2.1) := hD
    refine zlast (f2 := vp_updL (u_o u0) 0 r_1.toInt64) hx hb hK hP hD hS 0 1 rfl rfl (by unfold vp_in; decide) rfl dL_addPiece_15 (fun H locs hP hD hS => ?_)
    refine lv_goto (tgt := 27) hx hb dL_addPiece_16 (by decide) ?_
    refine lv_iconst (v := 0) hx hb dL_addPiece_27 (by decide) ?_
    exact ziretU (u := (va_up u0.1 (19 + k) q9, u0.2.1, u0.2.2.1, u0.2.2.2.1, u0.2.2.2.2.1, u0.2.2.2.2.2.1, u0.2.2.2.2.2.2.1, u0.2.2.2.2.2.2.2.1, vp_updL (u_o u0) 0 r_1.toInt64)) hx hb hr hAe ⟨hT.symm, fun _ => by rw [← hR]; rfl, by unfold va_up; dsimp only; rw [if_neg (by omega)]⟩ (zP_re hP (by rw [hT]; rfl)) (zD_re hD (by rw [hT]; rfl)) hS dL_addPiece_28
set_option maxHeartbeats 4000000 in
set_option maxRecDepth 100000 in
theorem zL_setPiece (l : Launch) (hfl : l.stackTraces = false) (D : va_G) (cI cL cE cP : ClassId) (o : Nat) (g : Nat → Nat → Int32) (n k : Nat) (u0 : U9) (hok : zOk g n k) (y m0 w0 : Int32) (sz : Nat) : Met l yL_setPiece wsL_setPiece ({ frames := 7, cells := 1, slots := 6, locals := 115 }) (zPy D cI cL cE cP (lwo cI cL cE cP o g n k u0) sz [.ref (u0.1 0), .int y, .int m0, .int w0, .ref o]) (va_Qi (fun (r : Int32) (u : U9) => r = T_setPiece k y m0 w0 ∧ (T_setPiece k y m0 w0 = 0 → u_o u 0 = (g 11 y.toNatClampNeg : Int32).toInt64) ∧ u.1 0 = u0.1 0) (fun u t => zB D (lwo cI cL cE cP o g n k u0) sz (lwo cI cL cE cP o (if T_setPiece k y m0 w0 = 0 then gR (gR g 11 (upd (g 11) y.toNatClampNeg m0)) 15 (upd (g 15) y.toNatClampNeg w0) else g) (n) (k) u) t) (va_A (lwo cI cL cE cP o g n k u0) sz)) 1 6 (va_A (lwo cI cL cE cP o g n k u0) sz) := by
  refine va_MetW (cc := cL_setPiece) (maxL := 6) (ret := (some .int)) (hh := [(0, 12, 15, 13), (0, 12, 19, 15)]) (by decide) rfl ?_
  intro p e s m args below meth c s₁ B hml hv
  obtain ⟨rfl, hsz, hE, hP, hD0, hX, hU0, hN⟩ := hv
  subst hsz
  obtain ⟨A, hAe⟩ : ∃ A, A = va_A (lwo cI cL cE cP o g n k u0) s.heap.size := ⟨_, rfl⟩
  have hD : va_D A (lwo cI cL cE cP o g n k u0) := by rw [hAe]; exact hD0.self
  have hA : ∀ q : Nat, s.heap.size ≤ q → A q := fun q h => by rw [hAe]; exact Or.inr h
  have hS : va_S A s.heap s.heap [] := va_S.rf
  have hx := B.exec
  have hb := B.bytes
  have hr := B.returns
  have hts := atoms_spec (ws := wsL_setPiece) B.pre
  have hown : s.vm.findClass RL = some m.cls := findClass_of_methodNamed B.named
  have hlocks := B.notSynchronized
  have hK := hE.1
  have htb := vx_table (x := yX3_init) B (hts (.codeWith yL_setPiece cL_setPiece 6 (some .int) [(0, 12, 15, 13), (0, 12, 19, 15)]) List.mem_cons_self)
  have hl := lv_entry ([.ref (u0.1 0), .int y, .int m0, .int w0, .ref o]) (n := 6) (Nat.le_of_ble_eq_true rfl)
  rw [lg_entry_eq]
  generalize (lg_sl ([.ref (u0.1 0), .int y, .int m0, .int w0, .ref o]) ++ List.replicate (6 - (lg_sl ([.ref (u0.1 0), .int y, .int m0, .int w0, .ref o])).length) Slot.unset).toArray = ls at hl ⊢
  have hl : lv_has ls 6 [(0, .ref (u0.1 0)), (1, .int y), (2, .int m0), (3, .int w0), (4, .ref o)] := hl
  refine lv_aload hx hb dL_setPiece_0 (lv_at hl 4 rfl) ?_
  refine lv_iconst (v := 0) hx hb dL_setPiece_2 (by decide) ?_
  refine lv_aload_n hx hb dL_setPiece_3 rfl (lv_at hl 0 rfl) ?_
  refine lv_iload_n hx hb dL_setPiece_4 rfl (lv_at hl 1 rfl) ?_
  refine lv_iload_n hx hb dL_setPiece_5 rfl (lv_at hl 2 rfl) ?_
  refine lv_iload_n hx hb dL_setPiece_6 rfl (lv_at hl 3 rfl) ?_
  have hPc := (zP_app (w1 := [(o, .inl (cL, 1, .inr (.inl (u_o u0))))]) (w2 := (cwu cI cL cE cP g n k u0)) hP).2
  have hDc := (zD_app (w1 := [(o, .inl (cL, 1, .inr (.inl (u_o u0))))]) (w2 := (cwu cI cL cE cP g n k u0)) hD).2.1
  have hUc : zU (va_A (cwu cI cL cE cP g n k u0) s.heap.size) s s.heap := hU0.narrow (va_A_right (wr := [(o, .inl (cL, 1, .inr (.inl (u_o u0))))]))
  refine zxcall (wr := [(o, .inl (cL, 1, .inr (.inl (u_o u0))))]) (wc := (cwu cI cL cE cP g n k u0)) (vx_runV (As := [.int y, .int m0, .int w0]) (rest := [.int 0, .ref o]) ⟨hx, hb, hml, hown, hts⟩ (zX3_setPiece l hfl D cI cL cE cP u0.1 g n k u0.2.1 u0.2.2.1 u0.2.2.2.1 u0.2.2.2.2.1 u0.2.2.2.2.2.1 u0.2.2.2.2.2.2.1 u0.2.2.2.2.2.2.2.1 hok y m0 w0 s.heap.size) (cwV 3 hts gL_setPiece_X3_setPiece rfl rfl rfl (by decide +kernel) ⟨Nat.le_of_ble_eq_true rfl, Nat.le_of_ble_eq_true rfl⟩) ⟨zPx_blind, va_recv hK hP (ci := 3) (q0 := 1) rfl lwo_1, zPx_mk hE hPc hDc hX hUc⟩ rfl rfl hl.1 rfl (lv_room (Nat.le_of_ble_eq_true rfl)) dL_setPiece_7 ⟨Nat.le_of_ble_eq_true rfl, Nat.le_of_ble_eq_true rfl⟩) hP hD hS hA (fun E ce q9 H locs hxp hP hD hS hq hqv hqc => ?_) (fun r_1 _ H locs hr1 hP hD hS => ?_)
  · rcases hxp with ⟨rfl, hT⟩ | ⟨rfl, hT⟩
    · refine vx_catch (name := "java/lang/IndexOutOfBoundsException") hown [] (⟨0, 12, 15, 13⟩ : ExceptionTableEntry) [(⟨0, 12, 19, 15⟩ : ExceptionTableEntry)] (by rw [htb]; rfl) (fun z hz => nomatch hz) (by decide) (by decide) (hts (.classLink RL 13 "java/lang/IndexOutOfBoundsException") (by decide +kernel)) (va_Nw.use rfl (hX.1 (.castable "java/lang/IndexOutOfBoundsException" "java/lang/IndexOutOfBoundsException") (by decide +kernel))) hq hqv hqc ?_
      refine lv_astore (lv' := [(5, .ref q9), (0, .ref (u0.1 0)), (1, .int y), (2, .int m0), (3, .int w0), (4, .ref o)]) hx hb dL_setPiece_15 hl (by decide) rfl (fun ls hl => ?_)
      refine lv_iconst (v := 1) hx hb dL_setPiece_17 (by decide) ?_
      exact ziretU (u := u0) hx hb hr hAe ⟨hT.symm, fun h => absurd (hT.symm.trans h) (by decide), rfl⟩ (zP_re hP (by rw [hT]; rfl)) (zD_re hD (by rw [hT]; rfl)) hS dL_setPiece_18
    · refine vx_catch (name := "java/lang/IllegalArgumentException") hown [(⟨0, 12, 15, 13⟩ : ExceptionTableEntry)] (⟨0, 12, 19, 15⟩ : ExceptionTableEntry) [] (by rw [htb]; rfl) (fun z hz => by obtain rfl := List.mem_singleton.mp hz; exact Or.inr ⟨by decide, "java/lang/IndexOutOfBoundsException", hts (.classLink RL 13 "java/lang/IndexOutOfBoundsException") (by decide +kernel), hN.1⟩) (by decide) (by decide) (hts (.classLink RL 15 "java/lang/IllegalArgumentException") (by decide +kernel)) (va_Nw.use rfl (hX.1 (.castable "java/lang/IllegalArgumentException" "java/lang/IllegalArgumentException") (by decide +kernel))) hq hqv hqc ?_
      refine lv_astore (lv' := [(5, .ref q9), (0, .ref (u0.1 0)), (1, .int y), (2, .int m0), (3, .int w0), (4, .ref o)]) hx hb dL_setPiece_19 hl (by decide) rfl (fun ls hl => ?_)
      refine lv_iconst (v := 2) hx hb dL_setPiece_21 (by decide) ?_
      exact ziretU (u := u0) hx hb hr hAe ⟨hT.symm, fun h => absurd (hT.symm.trans h) (by decide), rfl⟩ (zP_re hP (by rw [hT]; rfl)) (zD_re hD (by rw [hT]; rfl)) hS dL_setPiece_22
  · obtain ⟨hT, hR⟩ := hr1
    refine lv_i2l hx hb dL_setPiece_10 rfl ?_
    have hP : va_P D vwCl ([(o, .inl (cL, 1, .inr (.inl (u_o u0))))] ++ cws cI cL cE cP (u0.1) (gR (gR g 11 (upd (g 11) y.toNatClampNeg m0)) 15 (upd (g 15) y.toNatClampNeg w0)) (n) (k) u0.2.1 u0.2.2.1 u0.2.2.2.1 u0.2.2.2.2.1 u0.2.2.2.2.2.1 u0.2.2.2.2.2.2.1 u0.2.2.2.2.2.2.2.1) H := hP
    have hD : va_D A ([(o, .inl (cL, 1, .inr (.inl (u_o u0))))] ++ cws cI cL cE cP (u0.1) (gR (gR g 11 (upd (g 11) y.toNatClampNeg m0)) 15 (upd (g 15) y.toNatClampNeg w0)) (n) (k) u0.2.1 u0.2.2.1 u0.2.2.2.1 u0.2.2.2.2.1 u0.2.2.2.2.2.1 u0.2.2.2.2.2.2.1 u0.2.2.2.2.2.2.2.1) := hD
    refine zlast (f2 := vp_updL (u_o u0) 0 r_1.toInt64) hx hb hK hP hD hS 0 1 rfl rfl (by unfold vp_in; decide) rfl dL_setPiece_11 (fun H locs hP hD hS => ?_)
    refine lv_goto (tgt := 23) hx hb dL_setPiece_12 (by decide) ?_
    refine lv_iconst (v := 0) hx hb dL_setPiece_23 (by decide) ?_
    exact ziretU (u := (u0.1, u0.2.1, u0.2.2.1, u0.2.2.2.1, u0.2.2.2.2.1, u0.2.2.2.2.2.1, u0.2.2.2.2.2.2.1, u0.2.2.2.2.2.2.2.1, vp_updL (u_o u0) 0 r_1.toInt64)) hx hb hr hAe ⟨hT.symm, fun _ => by rw [← hR]; rfl, rfl⟩ (zP_re hP (by rw [hT]; rfl)) (zD_re hD (by rw [hT]; rfl)) hS dL_setPiece_24
set_option maxHeartbeats 4000000 in
set_option maxRecDepth 100000 in
theorem zL_value (l : Launch) (hfl : l.stackTraces = false) (D : va_G) (cI cL cE cP : ClassId) (o : Nat) (g : Nat → Nat → Int32) (n k : Nat) (u0 : U9) (hok : zOk g n k) (y x : Int32) (sz : Nat) : Met l yL_value wsL_value ({ frames := 7, cells := 1, slots := 6, locals := 114 }) (zPy D cI cL cE cP (lwo cI cL cE cP o g n k u0) sz [.ref (u0.1 0), .int y, .int x, .ref o]) (va_Qi (fun (r : Int32) (u : U9) => r = T_value n k y x ∧ (T_value n k y x = 0 → u_o u 0 = (vl g y.toNatClampNeg x.toNatClampNeg : Int32).toInt64) ∧ u.1 0 = u0.1 0) (fun u t => zB D (lwo cI cL cE cP o g n k u0) sz (lwo cI cL cE cP o (g) (n) (k) u) t) (va_A (lwo cI cL cE cP o g n k u0) sz)) 1 6 (va_A (lwo cI cL cE cP o g n k u0) sz) := by
  refine va_MetW (cc := cL_value) (maxL := 5) (ret := (some .int)) (hh := [(0, 10, 13, 13)]) (by decide) rfl ?_
  intro p e s m args below meth c s₁ B hml hv
  obtain ⟨rfl, hsz, hE, hP, hD0, hX, hU0, hN⟩ := hv
  subst hsz
  obtain ⟨A, hAe⟩ : ∃ A, A = va_A (lwo cI cL cE cP o g n k u0) s.heap.size := ⟨_, rfl⟩
  have hD : va_D A (lwo cI cL cE cP o g n k u0) := by rw [hAe]; exact hD0.self
  have hA : ∀ q : Nat, s.heap.size ≤ q → A q := fun q h => by rw [hAe]; exact Or.inr h
  have hS : va_S A s.heap s.heap [] := va_S.rf
  have hx := B.exec
  have hb := B.bytes
  have hr := B.returns
  have hts := atoms_spec (ws := wsL_value) B.pre
  have hown : s.vm.findClass RL = some m.cls := findClass_of_methodNamed B.named
  have hlocks := B.notSynchronized
  have hK := hE.1
  have htb := vx_table (x := yX3_init) B (hts (.codeWith yL_value cL_value 5 (some .int) [(0, 10, 13, 13)]) List.mem_cons_self)
  have hl := lv_entry ([.ref (u0.1 0), .int y, .int x, .ref o]) (n := 5) (Nat.le_of_ble_eq_true rfl)
  rw [lg_entry_eq]
  generalize (lg_sl ([.ref (u0.1 0), .int y, .int x, .ref o]) ++ List.replicate (5 - (lg_sl ([.ref (u0.1 0), .int y, .int x, .ref o])).length) Slot.unset).toArray = ls at hl ⊢
  have hl : lv_has ls 5 [(0, .ref (u0.1 0)), (1, .int y), (2, .int x), (3, .ref o)] := hl
  refine lv_aload_n hx hb dL_value_0 rfl (lv_at hl 3 rfl) ?_
  refine lv_iconst (v := 0) hx hb dL_value_1 (by decide) ?_
  refine lv_aload_n hx hb dL_value_2 rfl (lv_at hl 0 rfl) ?_
  refine lv_iload_n hx hb dL_value_3 rfl (lv_at hl 1 rfl) ?_
  refine lv_iload_n hx hb dL_value_4 rfl (lv_at hl 2 rfl) ?_
  have hPc := (zP_app (w1 := [(o, .inl (cL, 1, .inr (.inl (u_o u0))))]) (w2 := (cwu cI cL cE cP g n k u0)) hP).2
  have hDc := (zD_app (w1 := [(o, .inl (cL, 1, .inr (.inl (u_o u0))))]) (w2 := (cwu cI cL cE cP g n k u0)) hD).2.1
  have hUc : zU (va_A (cwu cI cL cE cP g n k u0) s.heap.size) s s.heap := hU0.narrow (va_A_right (wr := [(o, .inl (cL, 1, .inr (.inl (u_o u0))))]))
  refine zxcall (wr := [(o, .inl (cL, 1, .inr (.inl (u_o u0))))]) (wc := (cwu cI cL cE cP g n k u0)) (vx_runV (As := [.int y, .int x]) (rest := [.int 0, .ref o]) ⟨hx, hb, hml, hown, hts⟩ (zX3_value l hfl D cI cL cE cP u0.1 g n k u0.2.1 u0.2.2.1 u0.2.2.2.1 u0.2.2.2.2.1 u0.2.2.2.2.2.1 u0.2.2.2.2.2.2.1 u0.2.2.2.2.2.2.2.1 hok y x s.heap.size) (cwV 2 hts gL_value_X3_value rfl rfl rfl (by decide +kernel) ⟨Nat.le_of_ble_eq_true rfl, Nat.le_of_ble_eq_true rfl⟩) ⟨zPx_blind, va_recv hK hP (ci := 3) (q0 := 1) rfl lwo_1, zPx_mk hE hPc hDc hX hUc⟩ rfl rfl hl.1 rfl (lv_room (Nat.le_of_ble_eq_true rfl)) dL_value_5 ⟨Nat.le_of_ble_eq_true rfl, Nat.le_of_ble_eq_true rfl⟩) hP hD hS hA (fun E ce q9 H locs hxp hP hD hS hq hqv hqc => ?_) (fun r_1 _ H locs hr1 hP hD hS => ?_)
  · obtain ⟨rfl, hT⟩ := hxp
    refine vx_catch (name := "java/lang/IndexOutOfBoundsException") hown [] (⟨0, 10, 13, 13⟩ : ExceptionTableEntry) [] (by rw [htb]; rfl) (fun z hz => nomatch hz) (by decide) (by decide) (hts (.classLink RL 13 "java/lang/IndexOutOfBoundsException") (by decide +kernel)) (va_Nw.use rfl (hX.1 (.castable "java/lang/IndexOutOfBoundsException" "java/lang/IndexOutOfBoundsException") (by decide +kernel))) hq hqv hqc ?_
    refine lv_astore (lv' := [(4, .ref q9), (0, .ref (u0.1 0)), (1, .int y), (2, .int x), (3, .ref o)]) hx hb dL_value_13 hl (by decide) rfl (fun ls hl => ?_)
    refine lv_iconst (v := 1) hx hb dL_value_15 (by decide) ?_
    exact ziretU (u := u0) hx hb hr hAe ⟨hT.symm, fun h => absurd (hT.symm.trans h) (by decide), rfl⟩ (zP_re hP (by rfl)) (zD_re hD (by rfl)) hS dL_value_16
  · obtain ⟨hT, hR⟩ := hr1
    refine lv_i2l hx hb dL_value_8 rfl ?_
    have hP : va_P D vwCl ([(o, .inl (cL, 1, .inr (.inl (u_o u0))))] ++ cws cI cL cE cP (u0.1) (g) (n) (k) u0.2.1 u0.2.2.1 u0.2.2.2.1 u0.2.2.2.2.1 u0.2.2.2.2.2.1 u0.2.2.2.2.2.2.1 u0.2.2.2.2.2.2.2.1) H := hP
    have hD : va_D A ([(o, .inl (cL, 1, .inr (.inl (u_o u0))))] ++ cws cI cL cE cP (u0.1) (g) (n) (k) u0.2.1 u0.2.2.1 u0.2.2.2.1 u0.2.2.2.2.1 u0.2.2.2.2.2.1 u0.2.2.2.2.2.2.1 u0.2.2.2.2.2.2.2.1) := hD
    refine zlast (f2 := vp_updL (u_o u0) 0 r_1.toInt64) hx hb hK hP hD hS 0 1 rfl rfl (by unfold vp_in; decide) rfl dL_value_9 (fun H locs hP hD hS => ?_)
    refine lv_goto (tgt := 17) hx hb dL_value_10 (by decide) ?_
    refine lv_iconst (v := 0) hx hb dL_value_17 (by decide) ?_
    exact ziretU (u := (u0.1, u0.2.1, u0.2.2.1, u0.2.2.2.1, u0.2.2.2.2.1, u0.2.2.2.2.2.1, u0.2.2.2.2.2.2.1, u0.2.2.2.2.2.2.2.1, vp_updL (u_o u0) 0 r_1.toInt64)) hx hb hr hAe ⟨hT.symm, fun _ => by rw [← hR]; rfl, rfl⟩ (zP_re hP (by rfl)) (zD_re hD (by rfl)) hS dL_value_18
set_option maxHeartbeats 4000000 in
set_option maxRecDepth 100000 in
theorem zL_givenTo (l : Launch) (hfl : l.stackTraces = false) (D : va_G) (cI cL cE cP : ClassId) (o : Nat) (g : Nat → Nat → Int32) (n k : Nat) (u0 : U9) (hok : zOk g n k) (y : Int32) (sz : Nat) : Met l yL_givenTo wsL_givenTo ({ frames := 7, cells := 1, slots := 6, locals := 132 }) (zPy D cI cL cE cP (lwo cI cL cE cP o g n k u0) sz [.ref (u0.1 0), .int y, .ref o]) (va_Qi (fun (r : Int32) (u : U9) => r = T_amount k y ∧ (T_amount k y = 0 → u_o u 0 = (tkE (LEO (zfl (US g k) u0.2.1 n) (zfl (WB g k) u0.2.2.1 (32 * n)) u0.2.2.2.2.1 u0.2.2.2.2.2.1 n) k y : Int32).toInt64) ∧ u.1 0 = u0.1 0) (fun u t => zB D (lwo cI cL cE cP o g n k u0) sz (lwo cI cL cE cP o (g) (n) (k) u) t) (va_A (lwo cI cL cE cP o g n k u0) sz)) 1 6 (va_A (lwo cI cL cE cP o g n k u0) sz) := by
  refine va_MetW (cc := cL_givenTo) (maxL := 4) (ret := (some .int)) (hh := [(0, 9, 12, 13)]) (by decide) rfl ?_
  intro p e s m args below meth c s₁ B hml hv
  obtain ⟨rfl, hsz, hE, hP, hD0, hX, hU0, hN⟩ := hv
  subst hsz
  obtain ⟨A, hAe⟩ : ∃ A, A = va_A (lwo cI cL cE cP o g n k u0) s.heap.size := ⟨_, rfl⟩
  have hD : va_D A (lwo cI cL cE cP o g n k u0) := by rw [hAe]; exact hD0.self
  have hA : ∀ q : Nat, s.heap.size ≤ q → A q := fun q h => by rw [hAe]; exact Or.inr h
  have hS : va_S A s.heap s.heap [] := va_S.rf
  have hx := B.exec
  have hb := B.bytes
  have hr := B.returns
  have hts := atoms_spec (ws := wsL_givenTo) B.pre
  have hown : s.vm.findClass RL = some m.cls := findClass_of_methodNamed B.named
  have hlocks := B.notSynchronized
  have hK := hE.1
  have htb := vx_table (x := yX3_init) B (hts (.codeWith yL_givenTo cL_givenTo 4 (some .int) [(0, 9, 12, 13)]) List.mem_cons_self)
  have hl := lv_entry ([.ref (u0.1 0), .int y, .ref o]) (n := 4) (Nat.le_of_ble_eq_true rfl)
  rw [lg_entry_eq]
  generalize (lg_sl ([.ref (u0.1 0), .int y, .ref o]) ++ List.replicate (4 - (lg_sl ([.ref (u0.1 0), .int y, .ref o])).length) Slot.unset).toArray = ls at hl ⊢
  have hl : lv_has ls 4 [(0, .ref (u0.1 0)), (1, .int y), (2, .ref o)] := hl
  refine lv_aload_n hx hb dL_givenTo_0 rfl (lv_at hl 2 rfl) ?_
  refine lv_iconst (v := 0) hx hb dL_givenTo_1 (by decide) ?_
  refine lv_aload_n hx hb dL_givenTo_2 rfl (lv_at hl 0 rfl) ?_
  refine lv_iload_n hx hb dL_givenTo_3 rfl (lv_at hl 1 rfl) ?_
  have hPc := (zP_app (w1 := [(o, .inl (cL, 1, .inr (.inl (u_o u0))))]) (w2 := (cwu cI cL cE cP g n k u0)) hP).2
  have hDc := (zD_app (w1 := [(o, .inl (cL, 1, .inr (.inl (u_o u0))))]) (w2 := (cwu cI cL cE cP g n k u0)) hD).2.1
  have hUc : zU (va_A (cwu cI cL cE cP g n k u0) s.heap.size) s s.heap := hU0.narrow (va_A_right (wr := [(o, .inl (cL, 1, .inr (.inl (u_o u0))))]))
  refine zxcall (wr := [(o, .inl (cL, 1, .inr (.inl (u_o u0))))]) (wc := (cwu cI cL cE cP g n k u0)) (vx_runV (As := [.int y]) (rest := [.int 0, .ref o]) ⟨hx, hb, hml, hown, hts⟩ (zX3_givenTo l hfl D cI cL cE cP u0.1 g n k u0.2.1 u0.2.2.1 u0.2.2.2.1 u0.2.2.2.2.1 u0.2.2.2.2.2.1 u0.2.2.2.2.2.2.1 u0.2.2.2.2.2.2.2.1 hok y s.heap.size) (cwV 1 hts gL_givenTo_X3_givenTo rfl rfl rfl (by decide +kernel) ⟨Nat.le_of_ble_eq_true rfl, Nat.le_of_ble_eq_true rfl⟩) ⟨zPx_blind, va_recv hK hP (ci := 3) (q0 := 1) rfl lwo_1, zPx_mk hE hPc hDc hX hUc⟩ rfl rfl hl.1 rfl (lv_room (Nat.le_of_ble_eq_true rfl)) dL_givenTo_4 ⟨Nat.le_of_ble_eq_true rfl, Nat.le_of_ble_eq_true rfl⟩) hP hD hS hA (fun E ce q9 H locs hxp hP hD hS hq hqv hqc => ?_) (fun r_1 _ H locs hr1 hP hD hS => ?_)
  · obtain ⟨rfl, hT⟩ := hxp
    refine vx_catch (name := "java/lang/IndexOutOfBoundsException") hown [] (⟨0, 9, 12, 13⟩ : ExceptionTableEntry) [] (by rw [htb]; rfl) (fun z hz => nomatch hz) (by decide) (by decide) (hts (.classLink RL 13 "java/lang/IndexOutOfBoundsException") (by decide +kernel)) (va_Nw.use rfl (hX.1 (.castable "java/lang/IndexOutOfBoundsException" "java/lang/IndexOutOfBoundsException") (by decide +kernel))) hq hqv hqc ?_
    refine lv_astore_n (lv' := [(3, .ref q9), (0, .ref (u0.1 0)), (1, .int y), (2, .ref o)]) hx hb dL_givenTo_12 rfl hl (by decide) rfl (fun ls hl => ?_)
    refine lv_iconst (v := 1) hx hb dL_givenTo_13 (by decide) ?_
    exact ziretU (u := u0) hx hb hr hAe ⟨hT.symm, fun h => absurd (hT.symm.trans h) (by decide), rfl⟩ (zP_re hP (by rfl)) (zD_re hD (by rfl)) hS dL_givenTo_14
  · obtain ⟨hT, hR⟩ := hr1
    refine lv_i2l hx hb dL_givenTo_7 rfl ?_
    have hP : va_P D vwCl ([(o, .inl (cL, 1, .inr (.inl (u_o u0))))] ++ cws cI cL cE cP (u0.1) (g) (n) (k) (zfl (US g k) u0.2.1 n) (zfl (WB g k) u0.2.2.1 (32 * n)) u0.2.2.2.1 (PRO (zfl (WB g k) u0.2.2.1 (32 * n)) u0.2.2.2.2.1 n) (LEO (zfl (US g k) u0.2.1 n) (zfl (WB g k) u0.2.2.1 (32 * n)) u0.2.2.2.2.1 u0.2.2.2.2.2.1 n) (nI n) (nI k)) H := hP
    have hD : va_D A ([(o, .inl (cL, 1, .inr (.inl (u_o u0))))] ++ cws cI cL cE cP (u0.1) (g) (n) (k) (zfl (US g k) u0.2.1 n) (zfl (WB g k) u0.2.2.1 (32 * n)) u0.2.2.2.1 (PRO (zfl (WB g k) u0.2.2.1 (32 * n)) u0.2.2.2.2.1 n) (LEO (zfl (US g k) u0.2.1 n) (zfl (WB g k) u0.2.2.1 (32 * n)) u0.2.2.2.2.1 u0.2.2.2.2.2.1 n) (nI n) (nI k)) := hD
    refine zlast (f2 := vp_updL (u_o u0) 0 r_1.toInt64) hx hb hK hP hD hS 0 1 rfl rfl (by unfold vp_in; decide) rfl dL_givenTo_8 (fun H locs hP hD hS => ?_)
    refine lv_goto (tgt := 15) hx hb dL_givenTo_9 (by decide) ?_
    refine lv_iconst (v := 0) hx hb dL_givenTo_15 (by decide) ?_
    exact ziretU (u := (u0.1, zfl (US g k) u0.2.1 n, zfl (WB g k) u0.2.2.1 (32 * n), u0.2.2.2.1, PRO (zfl (WB g k) u0.2.2.1 (32 * n)) u0.2.2.2.2.1 n, LEO (zfl (US g k) u0.2.1 n) (zfl (WB g k) u0.2.2.1 (32 * n)) u0.2.2.2.2.1 u0.2.2.2.2.2.1 n, nI n, nI k, vp_updL (u_o u0) 0 r_1.toInt64)) hx hb hr hAe ⟨hT.symm, fun _ => by rw [← hR]; rfl, rfl⟩ (zP_re hP (by rfl)) (zD_re hD (by rfl)) hS dL_givenTo_16
set_option maxHeartbeats 4000000 in
set_option maxRecDepth 100000 in
theorem zL_bare (l : Launch) (hfl : l.stackTraces = false) (D : va_G) (cI cL cE cP : ClassId) (o : Nat) (g : Nat → Nat → Int32) (n k : Nat) (u0 : U9) (hok : zOk g n k) (x : Int32) (sz : Nat) : Met l yL_bare wsL_bare ({ frames := 7, cells := 1, slots := 6, locals := 133 }) (zPy D cI cL cE cP (lwo cI cL cE cP o g n k u0) sz [.ref (u0.1 0), .int x, .ref o]) (va_Qi (fun (r : Int32) (u : U9) => r = T_amount n x ∧ (T_amount n x = 0 → u_o u 0 = (bw g k x.toNatClampNeg (gsL (LEO (zfl (US g k) u0.2.1 n) (zfl (WB g k) u0.2.2.1 (32 * n)) u0.2.2.2.2.1 u0.2.2.2.2.2.1 n) k x k) : Int32).toInt64) ∧ u.1 0 = u0.1 0) (fun u t => zB D (lwo cI cL cE cP o g n k u0) sz (lwo cI cL cE cP o (g) (n) (k) u) t) (va_A (lwo cI cL cE cP o g n k u0) sz)) 1 6 (va_A (lwo cI cL cE cP o g n k u0) sz) := by
  refine va_MetW (cc := cL_bare) (maxL := 4) (ret := (some .int)) (hh := [(0, 9, 12, 13)]) (by decide) rfl ?_
  intro p e s m args below meth c s₁ B hml hv
  obtain ⟨rfl, hsz, hE, hP, hD0, hX, hU0, hN⟩ := hv
  subst hsz
  obtain ⟨A, hAe⟩ : ∃ A, A = va_A (lwo cI cL cE cP o g n k u0) s.heap.size := ⟨_, rfl⟩
  have hD : va_D A (lwo cI cL cE cP o g n k u0) := by rw [hAe]; exact hD0.self
  have hA : ∀ q : Nat, s.heap.size ≤ q → A q := fun q h => by rw [hAe]; exact Or.inr h
  have hS : va_S A s.heap s.heap [] := va_S.rf
  have hx := B.exec
  have hb := B.bytes
  have hr := B.returns
  have hts := atoms_spec (ws := wsL_bare) B.pre
  have hown : s.vm.findClass RL = some m.cls := findClass_of_methodNamed B.named
  have hlocks := B.notSynchronized
  have hK := hE.1
  have htb := vx_table (x := yX3_init) B (hts (.codeWith yL_bare cL_bare 4 (some .int) [(0, 9, 12, 13)]) List.mem_cons_self)
  have hl := lv_entry ([.ref (u0.1 0), .int x, .ref o]) (n := 4) (Nat.le_of_ble_eq_true rfl)
  rw [lg_entry_eq]
  generalize (lg_sl ([.ref (u0.1 0), .int x, .ref o]) ++ List.replicate (4 - (lg_sl ([.ref (u0.1 0), .int x, .ref o])).length) Slot.unset).toArray = ls at hl ⊢
  have hl : lv_has ls 4 [(0, .ref (u0.1 0)), (1, .int x), (2, .ref o)] := hl
  refine lv_aload_n hx hb dL_bare_0 rfl (lv_at hl 2 rfl) ?_
  refine lv_iconst (v := 0) hx hb dL_bare_1 (by decide) ?_
  refine lv_aload_n hx hb dL_bare_2 rfl (lv_at hl 0 rfl) ?_
  refine lv_iload_n hx hb dL_bare_3 rfl (lv_at hl 1 rfl) ?_
  have hPc := (zP_app (w1 := [(o, .inl (cL, 1, .inr (.inl (u_o u0))))]) (w2 := (cwu cI cL cE cP g n k u0)) hP).2
  have hDc := (zD_app (w1 := [(o, .inl (cL, 1, .inr (.inl (u_o u0))))]) (w2 := (cwu cI cL cE cP g n k u0)) hD).2.1
  have hUc : zU (va_A (cwu cI cL cE cP g n k u0) s.heap.size) s s.heap := hU0.narrow (va_A_right (wr := [(o, .inl (cL, 1, .inr (.inl (u_o u0))))]))
  refine zxcall (wr := [(o, .inl (cL, 1, .inr (.inl (u_o u0))))]) (wc := (cwu cI cL cE cP g n k u0)) (vx_runV (As := [.int x]) (rest := [.int 0, .ref o]) ⟨hx, hb, hml, hown, hts⟩ (zX3_bare l hfl D cI cL cE cP u0.1 g n k u0.2.1 u0.2.2.1 u0.2.2.2.1 u0.2.2.2.2.1 u0.2.2.2.2.2.1 u0.2.2.2.2.2.2.1 u0.2.2.2.2.2.2.2.1 hok x s.heap.size) (cwV 1 hts gL_bare_X3_bare rfl rfl rfl (by decide +kernel) ⟨Nat.le_of_ble_eq_true rfl, Nat.le_of_ble_eq_true rfl⟩) ⟨zPx_blind, va_recv hK hP (ci := 3) (q0 := 1) rfl lwo_1, zPx_mk hE hPc hDc hX hUc⟩ rfl rfl hl.1 rfl (lv_room (Nat.le_of_ble_eq_true rfl)) dL_bare_4 ⟨Nat.le_of_ble_eq_true rfl, Nat.le_of_ble_eq_true rfl⟩) hP hD hS hA (fun E ce q9 H locs hxp hP hD hS hq hqv hqc => ?_) (fun r_1 _ H locs hr1 hP hD hS => ?_)
  · obtain ⟨rfl, hT⟩ := hxp
    refine vx_catch (name := "java/lang/IndexOutOfBoundsException") hown [] (⟨0, 9, 12, 13⟩ : ExceptionTableEntry) [] (by rw [htb]; rfl) (fun z hz => nomatch hz) (by decide) (by decide) (hts (.classLink RL 13 "java/lang/IndexOutOfBoundsException") (by decide +kernel)) (va_Nw.use rfl (hX.1 (.castable "java/lang/IndexOutOfBoundsException" "java/lang/IndexOutOfBoundsException") (by decide +kernel))) hq hqv hqc ?_
    refine lv_astore_n (lv' := [(3, .ref q9), (0, .ref (u0.1 0)), (1, .int x), (2, .ref o)]) hx hb dL_bare_12 rfl hl (by decide) rfl (fun ls hl => ?_)
    refine lv_iconst (v := 1) hx hb dL_bare_13 (by decide) ?_
    exact ziretU (u := u0) hx hb hr hAe ⟨hT.symm, fun h => absurd (hT.symm.trans h) (by decide), rfl⟩ (zP_re hP (by rfl)) (zD_re hD (by rfl)) hS dL_bare_14
  · obtain ⟨hT, hR⟩ := hr1
    refine lv_i2l hx hb dL_bare_7 rfl ?_
    have hP : va_P D vwCl ([(o, .inl (cL, 1, .inr (.inl (u_o u0))))] ++ cws cI cL cE cP (u0.1) (g) (n) (k) (zfl (US g k) u0.2.1 n) (zfl (WB g k) u0.2.2.1 (32 * n)) u0.2.2.2.1 (PRO (zfl (WB g k) u0.2.2.1 (32 * n)) u0.2.2.2.2.1 n) (LEO (zfl (US g k) u0.2.1 n) (zfl (WB g k) u0.2.2.1 (32 * n)) u0.2.2.2.2.1 u0.2.2.2.2.2.1 n) (nI n) (nI k)) H := hP
    have hD : va_D A ([(o, .inl (cL, 1, .inr (.inl (u_o u0))))] ++ cws cI cL cE cP (u0.1) (g) (n) (k) (zfl (US g k) u0.2.1 n) (zfl (WB g k) u0.2.2.1 (32 * n)) u0.2.2.2.1 (PRO (zfl (WB g k) u0.2.2.1 (32 * n)) u0.2.2.2.2.1 n) (LEO (zfl (US g k) u0.2.1 n) (zfl (WB g k) u0.2.2.1 (32 * n)) u0.2.2.2.2.1 u0.2.2.2.2.2.1 n) (nI n) (nI k)) := hD
    refine zlast (f2 := vp_updL (u_o u0) 0 r_1.toInt64) hx hb hK hP hD hS 0 1 rfl rfl (by unfold vp_in; decide) rfl dL_bare_8 (fun H locs hP hD hS => ?_)
    refine lv_goto (tgt := 15) hx hb dL_bare_9 (by decide) ?_
    refine lv_iconst (v := 0) hx hb dL_bare_15 (by decide) ?_
    exact ziretU (u := (u0.1, zfl (US g k) u0.2.1 n, zfl (WB g k) u0.2.2.1 (32 * n), u0.2.2.2.1, PRO (zfl (WB g k) u0.2.2.1 (32 * n)) u0.2.2.2.2.1 n, LEO (zfl (US g k) u0.2.1 n) (zfl (WB g k) u0.2.2.1 (32 * n)) u0.2.2.2.2.1 u0.2.2.2.2.2.1 n, nI n, nI k, vp_updL (u_o u0) 0 r_1.toInt64)) hx hb hr hAe ⟨hT.symm, fun _ => by rw [← hR]; rfl, rfl⟩ (zP_re hP (by rfl)) (zD_re hD (by rfl)) hS dL_bare_16
set_option maxHeartbeats 4000000 in
set_option maxRecDepth 100000 in
theorem zL_weighted (l : Launch) (hfl : l.stackTraces = false) (D : va_G) (cI cL cE cP : ClassId) (o : Nat) (g : Nat → Nat → Int32) (n k : Nat) (u0 : U9) (hok : zOk g n k) (x : Int32) (sz : Nat) : Met l yL_weighted wsL_weighted ({ frames := 7, cells := 1, slots := 6, locals := 133 }) (zPy D cI cL cE cP (lwo cI cL cE cP o g n k u0) sz [.ref (u0.1 0), .int x, .ref o]) (va_Qi (fun (r : Int32) (u : U9) => r = T_amount n x ∧ (T_amount n x = 0 → u_o u 0 = (wo g x.toNatClampNeg (bw g k x.toNatClampNeg (gsL (LEO (zfl (US g k) u0.2.1 n) (zfl (WB g k) u0.2.2.1 (32 * n)) u0.2.2.2.2.1 u0.2.2.2.2.2.1 n) k x k)) : Int32).toInt64) ∧ u.1 0 = u0.1 0) (fun u t => zB D (lwo cI cL cE cP o g n k u0) sz (lwo cI cL cE cP o (g) (n) (k) u) t) (va_A (lwo cI cL cE cP o g n k u0) sz)) 1 6 (va_A (lwo cI cL cE cP o g n k u0) sz) := by
  refine va_MetW (cc := cL_weighted) (maxL := 4) (ret := (some .int)) (hh := [(0, 9, 12, 13)]) (by decide) rfl ?_
  intro p e s m args below meth c s₁ B hml hv
  obtain ⟨rfl, hsz, hE, hP, hD0, hX, hU0, hN⟩ := hv
  subst hsz
  obtain ⟨A, hAe⟩ : ∃ A, A = va_A (lwo cI cL cE cP o g n k u0) s.heap.size := ⟨_, rfl⟩
  have hD : va_D A (lwo cI cL cE cP o g n k u0) := by rw [hAe]; exact hD0.self
  have hA : ∀ q : Nat, s.heap.size ≤ q → A q := fun q h => by rw [hAe]; exact Or.inr h
  have hS : va_S A s.heap s.heap [] := va_S.rf
  have hx := B.exec
  have hb := B.bytes
  have hr := B.returns
  have hts := atoms_spec (ws := wsL_weighted) B.pre
  have hown : s.vm.findClass RL = some m.cls := findClass_of_methodNamed B.named
  have hlocks := B.notSynchronized
  have hK := hE.1
  have htb := vx_table (x := yX3_init) B (hts (.codeWith yL_weighted cL_weighted 4 (some .int) [(0, 9, 12, 13)]) List.mem_cons_self)
  have hl := lv_entry ([.ref (u0.1 0), .int x, .ref o]) (n := 4) (Nat.le_of_ble_eq_true rfl)
  rw [lg_entry_eq]
  generalize (lg_sl ([.ref (u0.1 0), .int x, .ref o]) ++ List.replicate (4 - (lg_sl ([.ref (u0.1 0), .int x, .ref o])).length) Slot.unset).toArray = ls at hl ⊢
  have hl : lv_has ls 4 [(0, .ref (u0.1 0)), (1, .int x), (2, .ref o)] := hl
  refine lv_aload_n hx hb dL_weighted_0 rfl (lv_at hl 2 rfl) ?_
  refine lv_iconst (v := 0) hx hb dL_weighted_1 (by decide) ?_
  refine lv_aload_n hx hb dL_weighted_2 rfl (lv_at hl 0 rfl) ?_
  refine lv_iload_n hx hb dL_weighted_3 rfl (lv_at hl 1 rfl) ?_
  have hPc := (zP_app (w1 := [(o, .inl (cL, 1, .inr (.inl (u_o u0))))]) (w2 := (cwu cI cL cE cP g n k u0)) hP).2
  have hDc := (zD_app (w1 := [(o, .inl (cL, 1, .inr (.inl (u_o u0))))]) (w2 := (cwu cI cL cE cP g n k u0)) hD).2.1
  have hUc : zU (va_A (cwu cI cL cE cP g n k u0) s.heap.size) s s.heap := hU0.narrow (va_A_right (wr := [(o, .inl (cL, 1, .inr (.inl (u_o u0))))]))
  refine zxcall (wr := [(o, .inl (cL, 1, .inr (.inl (u_o u0))))]) (wc := (cwu cI cL cE cP g n k u0)) (vx_runV (As := [.int x]) (rest := [.int 0, .ref o]) ⟨hx, hb, hml, hown, hts⟩ (zX3_weighted l hfl D cI cL cE cP u0.1 g n k u0.2.1 u0.2.2.1 u0.2.2.2.1 u0.2.2.2.2.1 u0.2.2.2.2.2.1 u0.2.2.2.2.2.2.1 u0.2.2.2.2.2.2.2.1 hok x s.heap.size) (cwV 1 hts gL_weighted_X3_weighted rfl rfl rfl (by decide +kernel) ⟨Nat.le_of_ble_eq_true rfl, Nat.le_of_ble_eq_true rfl⟩) ⟨zPx_blind, va_recv hK hP (ci := 3) (q0 := 1) rfl lwo_1, zPx_mk hE hPc hDc hX hUc⟩ rfl rfl hl.1 rfl (lv_room (Nat.le_of_ble_eq_true rfl)) dL_weighted_4 ⟨Nat.le_of_ble_eq_true rfl, Nat.le_of_ble_eq_true rfl⟩) hP hD hS hA (fun E ce q9 H locs hxp hP hD hS hq hqv hqc => ?_) (fun r_1 _ H locs hr1 hP hD hS => ?_)
  · obtain ⟨rfl, hT⟩ := hxp
    refine vx_catch (name := "java/lang/IndexOutOfBoundsException") hown [] (⟨0, 9, 12, 13⟩ : ExceptionTableEntry) [] (by rw [htb]; rfl) (fun z hz => nomatch hz) (by decide) (by decide) (hts (.classLink RL 13 "java/lang/IndexOutOfBoundsException") (by decide +kernel)) (va_Nw.use rfl (hX.1 (.castable "java/lang/IndexOutOfBoundsException" "java/lang/IndexOutOfBoundsException") (by decide +kernel))) hq hqv hqc ?_
    refine lv_astore_n (lv' := [(3, .ref q9), (0, .ref (u0.1 0)), (1, .int x), (2, .ref o)]) hx hb dL_weighted_12 rfl hl (by decide) rfl (fun ls hl => ?_)
    refine lv_iconst (v := 1) hx hb dL_weighted_13 (by decide) ?_
    exact ziretU (u := u0) hx hb hr hAe ⟨hT.symm, fun h => absurd (hT.symm.trans h) (by decide), rfl⟩ (zP_re hP (by rfl)) (zD_re hD (by rfl)) hS dL_weighted_14
  · obtain ⟨hT, hR⟩ := hr1
    refine lv_i2l hx hb dL_weighted_7 rfl ?_
    have hP : va_P D vwCl ([(o, .inl (cL, 1, .inr (.inl (u_o u0))))] ++ cws cI cL cE cP (u0.1) (g) (n) (k) (zfl (US g k) u0.2.1 n) (zfl (WB g k) u0.2.2.1 (32 * n)) u0.2.2.2.1 (PRO (zfl (WB g k) u0.2.2.1 (32 * n)) u0.2.2.2.2.1 n) (LEO (zfl (US g k) u0.2.1 n) (zfl (WB g k) u0.2.2.1 (32 * n)) u0.2.2.2.2.1 u0.2.2.2.2.2.1 n) (nI n) (nI k)) H := hP
    have hD : va_D A ([(o, .inl (cL, 1, .inr (.inl (u_o u0))))] ++ cws cI cL cE cP (u0.1) (g) (n) (k) (zfl (US g k) u0.2.1 n) (zfl (WB g k) u0.2.2.1 (32 * n)) u0.2.2.2.1 (PRO (zfl (WB g k) u0.2.2.1 (32 * n)) u0.2.2.2.2.1 n) (LEO (zfl (US g k) u0.2.1 n) (zfl (WB g k) u0.2.2.1 (32 * n)) u0.2.2.2.2.1 u0.2.2.2.2.2.1 n) (nI n) (nI k)) := hD
    refine zlast (f2 := vp_updL (u_o u0) 0 r_1.toInt64) hx hb hK hP hD hS 0 1 rfl rfl (by unfold vp_in; decide) rfl dL_weighted_8 (fun H locs hP hD hS => ?_)
    refine lv_goto (tgt := 15) hx hb dL_weighted_9 (by decide) ?_
    refine lv_iconst (v := 0) hx hb dL_weighted_15 (by decide) ?_
    exact ziretU (u := (u0.1, zfl (US g k) u0.2.1 n, zfl (WB g k) u0.2.2.1 (32 * n), u0.2.2.2.1, PRO (zfl (WB g k) u0.2.2.1 (32 * n)) u0.2.2.2.2.1 n, LEO (zfl (US g k) u0.2.1 n) (zfl (WB g k) u0.2.2.1 (32 * n)) u0.2.2.2.2.1 u0.2.2.2.2.2.1 n, nI n, nI k, vp_updL (u_o u0) 0 r_1.toInt64)) hx hb hr hAe ⟨hT.symm, fun _ => by rw [← hR]; rfl, rfl⟩ (zP_re hP (by rfl)) (zD_re hD (by rfl)) hS dL_weighted_16
set_option maxHeartbeats 4000000 in
set_option maxRecDepth 100000 in
theorem zL_worth (l : Launch) (hfl : l.stackTraces = false) (D : va_G) (cI cL cE cP : ClassId) (o : Nat) (g : Nat → Nat → Int32) (n k : Nat) (u0 : U9) (hok : zOk g n k) (y : Int32) (sz : Nat) : Met l yL_worth wsL_worth ({ frames := 7, cells := 1, slots := 6, locals := 132 }) (zPy D cI cL cE cP (lwo cI cL cE cP o g n k u0) sz [.ref (u0.1 0), .int y, .ref o]) (va_Qi (fun (r : Int32) (u : U9) => r = T_amount k y ∧ (T_amount k y = 0 → u_o u 0 = (woE (LEO (zfl (US g k) u0.2.1 n) (zfl (WB g k) u0.2.2.1 (32 * n)) u0.2.2.2.2.1 u0.2.2.2.2.2.1 n) k y - bwE (LEO (zfl (US g k) u0.2.1 n) (zfl (WB g k) u0.2.2.1 (32 * n)) u0.2.2.2.2.1 u0.2.2.2.2.2.1 n) k : Int32).toInt64) ∧ u.1 0 = u0.1 0) (fun u t => zB D (lwo cI cL cE cP o g n k u0) sz (lwo cI cL cE cP o (g) (n) (k) u) t) (va_A (lwo cI cL cE cP o g n k u0) sz)) 1 6 (va_A (lwo cI cL cE cP o g n k u0) sz) := by
  refine va_MetW (cc := cL_worth) (maxL := 4) (ret := (some .int)) (hh := [(0, 9, 12, 13)]) (by decide) rfl ?_
  intro p e s m args below meth c s₁ B hml hv
  obtain ⟨rfl, hsz, hE, hP, hD0, hX, hU0, hN⟩ := hv
  subst hsz
  obtain ⟨A, hAe⟩ : ∃ A, A = va_A (lwo cI cL cE cP o g n k u0) s.heap.size := ⟨_, rfl⟩
  have hD : va_D A (lwo cI cL cE cP o g n k u0) := by rw [hAe]; exact hD0.self
  have hA : ∀ q : Nat, s.heap.size ≤ q → A q := fun q h => by rw [hAe]; exact Or.inr h
  have hS : va_S A s.heap s.heap [] := va_S.rf
  have hx := B.exec
  have hb := B.bytes
  have hr := B.returns
  have hts := atoms_spec (ws := wsL_worth) B.pre
  have hown : s.vm.findClass RL = some m.cls := findClass_of_methodNamed B.named
  have hlocks := B.notSynchronized
  have hK := hE.1
  have htb := vx_table (x := yX3_init) B (hts (.codeWith yL_worth cL_worth 4 (some .int) [(0, 9, 12, 13)]) List.mem_cons_self)
  have hl := lv_entry ([.ref (u0.1 0), .int y, .ref o]) (n := 4) (Nat.le_of_ble_eq_true rfl)
  rw [lg_entry_eq]
  generalize (lg_sl ([.ref (u0.1 0), .int y, .ref o]) ++ List.replicate (4 - (lg_sl ([.ref (u0.1 0), .int y, .ref o])).length) Slot.unset).toArray = ls at hl ⊢
  have hl : lv_has ls 4 [(0, .ref (u0.1 0)), (1, .int y), (2, .ref o)] := hl
  refine lv_aload_n hx hb dL_worth_0 rfl (lv_at hl 2 rfl) ?_
  refine lv_iconst (v := 0) hx hb dL_worth_1 (by decide) ?_
  refine lv_aload_n hx hb dL_worth_2 rfl (lv_at hl 0 rfl) ?_
  refine lv_iload_n hx hb dL_worth_3 rfl (lv_at hl 1 rfl) ?_
  have hPc := (zP_app (w1 := [(o, .inl (cL, 1, .inr (.inl (u_o u0))))]) (w2 := (cwu cI cL cE cP g n k u0)) hP).2
  have hDc := (zD_app (w1 := [(o, .inl (cL, 1, .inr (.inl (u_o u0))))]) (w2 := (cwu cI cL cE cP g n k u0)) hD).2.1
  have hUc : zU (va_A (cwu cI cL cE cP g n k u0) s.heap.size) s s.heap := hU0.narrow (va_A_right (wr := [(o, .inl (cL, 1, .inr (.inl (u_o u0))))]))
  refine zxcall (wr := [(o, .inl (cL, 1, .inr (.inl (u_o u0))))]) (wc := (cwu cI cL cE cP g n k u0)) (vx_runV (As := [.int y]) (rest := [.int 0, .ref o]) ⟨hx, hb, hml, hown, hts⟩ (zX3_worth l hfl D cI cL cE cP u0.1 g n k u0.2.1 u0.2.2.1 u0.2.2.2.1 u0.2.2.2.2.1 u0.2.2.2.2.2.1 u0.2.2.2.2.2.2.1 u0.2.2.2.2.2.2.2.1 hok y s.heap.size) (cwV 1 hts gL_worth_X3_worth rfl rfl rfl (by decide +kernel) ⟨Nat.le_of_ble_eq_true rfl, Nat.le_of_ble_eq_true rfl⟩) ⟨zPx_blind, va_recv hK hP (ci := 3) (q0 := 1) rfl lwo_1, zPx_mk hE hPc hDc hX hUc⟩ rfl rfl hl.1 rfl (lv_room (Nat.le_of_ble_eq_true rfl)) dL_worth_4 ⟨Nat.le_of_ble_eq_true rfl, Nat.le_of_ble_eq_true rfl⟩) hP hD hS hA (fun E ce q9 H locs hxp hP hD hS hq hqv hqc => ?_) (fun r_1 _ H locs hr1 hP hD hS => ?_)
  · obtain ⟨rfl, hT⟩ := hxp
    refine vx_catch (name := "java/lang/IndexOutOfBoundsException") hown [] (⟨0, 9, 12, 13⟩ : ExceptionTableEntry) [] (by rw [htb]; rfl) (fun z hz => nomatch hz) (by decide) (by decide) (hts (.classLink RL 13 "java/lang/IndexOutOfBoundsException") (by decide +kernel)) (va_Nw.use rfl (hX.1 (.castable "java/lang/IndexOutOfBoundsException" "java/lang/IndexOutOfBoundsException") (by decide +kernel))) hq hqv hqc ?_
    refine lv_astore_n (lv' := [(3, .ref q9), (0, .ref (u0.1 0)), (1, .int y), (2, .ref o)]) hx hb dL_worth_12 rfl hl (by decide) rfl (fun ls hl => ?_)
    refine lv_iconst (v := 1) hx hb dL_worth_13 (by decide) ?_
    exact ziretU (u := u0) hx hb hr hAe ⟨hT.symm, fun h => absurd (hT.symm.trans h) (by decide), rfl⟩ (zP_re hP (by rfl)) (zD_re hD (by rfl)) hS dL_worth_14
  · obtain ⟨hT, hR⟩ := hr1
    refine lv_i2l hx hb dL_worth_7 rfl ?_
    have hP : va_P D vwCl ([(o, .inl (cL, 1, .inr (.inl (u_o u0))))] ++ cws cI cL cE cP (u0.1) (g) (n) (k) (zfl (US g k) u0.2.1 n) (zfl (WB g k) u0.2.2.1 (32 * n)) u0.2.2.2.1 (PRO (zfl (WB g k) u0.2.2.1 (32 * n)) u0.2.2.2.2.1 n) (LEO (zfl (US g k) u0.2.1 n) (zfl (WB g k) u0.2.2.1 (32 * n)) u0.2.2.2.2.1 u0.2.2.2.2.2.1 n) (nI n) (nI k)) H := hP
    have hD : va_D A ([(o, .inl (cL, 1, .inr (.inl (u_o u0))))] ++ cws cI cL cE cP (u0.1) (g) (n) (k) (zfl (US g k) u0.2.1 n) (zfl (WB g k) u0.2.2.1 (32 * n)) u0.2.2.2.1 (PRO (zfl (WB g k) u0.2.2.1 (32 * n)) u0.2.2.2.2.1 n) (LEO (zfl (US g k) u0.2.1 n) (zfl (WB g k) u0.2.2.1 (32 * n)) u0.2.2.2.2.1 u0.2.2.2.2.2.1 n) (nI n) (nI k)) := hD
    refine zlast (f2 := vp_updL (u_o u0) 0 r_1.toInt64) hx hb hK hP hD hS 0 1 rfl rfl (by unfold vp_in; decide) rfl dL_worth_8 (fun H locs hP hD hS => ?_)
    refine lv_goto (tgt := 15) hx hb dL_worth_9 (by decide) ?_
    refine lv_iconst (v := 0) hx hb dL_worth_15 (by decide) ?_
    exact ziretU (u := (u0.1, zfl (US g k) u0.2.1 n, zfl (WB g k) u0.2.2.1 (32 * n), u0.2.2.2.1, PRO (zfl (WB g k) u0.2.2.1 (32 * n)) u0.2.2.2.2.1 n, LEO (zfl (US g k) u0.2.1 n) (zfl (WB g k) u0.2.2.1 (32 * n)) u0.2.2.2.2.1 u0.2.2.2.2.2.1 n, nI n, nI k, vp_updL (u_o u0) 0 r_1.toInt64)) hx hb hr hAe ⟨hT.symm, fun _ => by rw [← hR]; rfl, rfl⟩ (zP_re hP (by rfl)) (zD_re hD (by rfl)) hS dL_worth_16
set_option maxHeartbeats 4000000 in
set_option maxRecDepth 100000 in
theorem zL_partyBare (l : Launch) (hfl : l.stackTraces = false) (D : va_G) (cI cL cE cP : ClassId) (o : Nat) (g : Nat → Nat → Int32) (n k : Nat) (u0 : U9) (hok : zOk g n k) (x : Int32) (sz : Nat) : Met l yL_partyBare wsL_partyBare ({ frames := 7, cells := 1, slots := 6, locals := 132 }) (zPy D cI cL cE cP (lwo cI cL cE cP o g n k u0) sz [.ref (u0.1 0), .int x, .ref o]) (va_Qi (fun (r : Int32) (u : U9) => r = T_party x ∧ (T_party x = 0 → u_o u 0 = (bpL g k (LEO (zfl (US g k) u0.2.1 n) (zfl (WB g k) u0.2.2.1 (32 * n)) u0.2.2.2.2.1 u0.2.2.2.2.2.1 n) x n : Int32).toInt64) ∧ u.1 0 = u0.1 0) (fun u t => zB D (lwo cI cL cE cP o g n k u0) sz (lwo cI cL cE cP o (g) (n) (k) u) t) (va_A (lwo cI cL cE cP o g n k u0) sz)) 1 6 (va_A (lwo cI cL cE cP o g n k u0) sz) := by
  refine va_MetW (cc := cL_partyBare) (maxL := 4) (ret := (some .int)) (hh := [(0, 9, 12, 13)]) (by decide) rfl ?_
  intro p e s m args below meth c s₁ B hml hv
  obtain ⟨rfl, hsz, hE, hP, hD0, hX, hU0, hN⟩ := hv
  subst hsz
  obtain ⟨A, hAe⟩ : ∃ A, A = va_A (lwo cI cL cE cP o g n k u0) s.heap.size := ⟨_, rfl⟩
  have hD : va_D A (lwo cI cL cE cP o g n k u0) := by rw [hAe]; exact hD0.self
  have hA : ∀ q : Nat, s.heap.size ≤ q → A q := fun q h => by rw [hAe]; exact Or.inr h
  have hS : va_S A s.heap s.heap [] := va_S.rf
  have hx := B.exec
  have hb := B.bytes
  have hr := B.returns
  have hts := atoms_spec (ws := wsL_partyBare) B.pre
  have hown : s.vm.findClass RL = some m.cls := findClass_of_methodNamed B.named
  have hlocks := B.notSynchronized
  have hK := hE.1
  have htb := vx_table (x := yX3_init) B (hts (.codeWith yL_partyBare cL_partyBare 4 (some .int) [(0, 9, 12, 13)]) List.mem_cons_self)
  have hl := lv_entry ([.ref (u0.1 0), .int x, .ref o]) (n := 4) (Nat.le_of_ble_eq_true rfl)
  rw [lg_entry_eq]
  generalize (lg_sl ([.ref (u0.1 0), .int x, .ref o]) ++ List.replicate (4 - (lg_sl ([.ref (u0.1 0), .int x, .ref o])).length) Slot.unset).toArray = ls at hl ⊢
  have hl : lv_has ls 4 [(0, .ref (u0.1 0)), (1, .int x), (2, .ref o)] := hl
  refine lv_aload_n hx hb dL_partyBare_0 rfl (lv_at hl 2 rfl) ?_
  refine lv_iconst (v := 0) hx hb dL_partyBare_1 (by decide) ?_
  refine lv_aload_n hx hb dL_partyBare_2 rfl (lv_at hl 0 rfl) ?_
  refine lv_iload_n hx hb dL_partyBare_3 rfl (lv_at hl 1 rfl) ?_
  have hPc := (zP_app (w1 := [(o, .inl (cL, 1, .inr (.inl (u_o u0))))]) (w2 := (cwu cI cL cE cP g n k u0)) hP).2
  have hDc := (zD_app (w1 := [(o, .inl (cL, 1, .inr (.inl (u_o u0))))]) (w2 := (cwu cI cL cE cP g n k u0)) hD).2.1
  have hUc : zU (va_A (cwu cI cL cE cP g n k u0) s.heap.size) s s.heap := hU0.narrow (va_A_right (wr := [(o, .inl (cL, 1, .inr (.inl (u_o u0))))]))
  refine zxcall (wr := [(o, .inl (cL, 1, .inr (.inl (u_o u0))))]) (wc := (cwu cI cL cE cP g n k u0)) (vx_runV (As := [.int x]) (rest := [.int 0, .ref o]) ⟨hx, hb, hml, hown, hts⟩ (zX3_partyBare l hfl D cI cL cE cP u0.1 g n k u0.2.1 u0.2.2.1 u0.2.2.2.1 u0.2.2.2.2.1 u0.2.2.2.2.2.1 u0.2.2.2.2.2.2.1 u0.2.2.2.2.2.2.2.1 hok x s.heap.size) (cwV 1 hts gL_partyBare_X3_partyBare rfl rfl rfl (by decide +kernel) ⟨Nat.le_of_ble_eq_true rfl, Nat.le_of_ble_eq_true rfl⟩) ⟨zPx_blind, va_recv hK hP (ci := 3) (q0 := 1) rfl lwo_1, zPx_mk hE hPc hDc hX hUc⟩ rfl rfl hl.1 rfl (lv_room (Nat.le_of_ble_eq_true rfl)) dL_partyBare_4 ⟨Nat.le_of_ble_eq_true rfl, Nat.le_of_ble_eq_true rfl⟩) hP hD hS hA (fun E ce q9 H locs hxp hP hD hS hq hqv hqc => ?_) (fun r_1 _ H locs hr1 hP hD hS => ?_)
  · obtain ⟨rfl, hT⟩ := hxp
    refine vx_catch (name := "java/lang/IndexOutOfBoundsException") hown [] (⟨0, 9, 12, 13⟩ : ExceptionTableEntry) [] (by rw [htb]; rfl) (fun z hz => nomatch hz) (by decide) (by decide) (hts (.classLink RL 13 "java/lang/IndexOutOfBoundsException") (by decide +kernel)) (va_Nw.use rfl (hX.1 (.castable "java/lang/IndexOutOfBoundsException" "java/lang/IndexOutOfBoundsException") (by decide +kernel))) hq hqv hqc ?_
    refine lv_astore_n (lv' := [(3, .ref q9), (0, .ref (u0.1 0)), (1, .int x), (2, .ref o)]) hx hb dL_partyBare_12 rfl hl (by decide) rfl (fun ls hl => ?_)
    refine lv_iconst (v := 1) hx hb dL_partyBare_13 (by decide) ?_
    exact ziretU (u := u0) hx hb hr hAe ⟨hT.symm, fun h => absurd (hT.symm.trans h) (by decide), rfl⟩ (zP_re hP (by rfl)) (zD_re hD (by rfl)) hS dL_partyBare_14
  · obtain ⟨hT, hR⟩ := hr1
    refine lv_i2l hx hb dL_partyBare_7 rfl ?_
    have hP : va_P D vwCl ([(o, .inl (cL, 1, .inr (.inl (u_o u0))))] ++ cws cI cL cE cP (u0.1) (g) (n) (k) (zfl (US g k) u0.2.1 n) (zfl (WB g k) u0.2.2.1 (32 * n)) u0.2.2.2.1 (PRO (zfl (WB g k) u0.2.2.1 (32 * n)) u0.2.2.2.2.1 n) (LEO (zfl (US g k) u0.2.1 n) (zfl (WB g k) u0.2.2.1 (32 * n)) u0.2.2.2.2.1 u0.2.2.2.2.2.1 n) (nI n) (nI k)) H := hP
    have hD : va_D A ([(o, .inl (cL, 1, .inr (.inl (u_o u0))))] ++ cws cI cL cE cP (u0.1) (g) (n) (k) (zfl (US g k) u0.2.1 n) (zfl (WB g k) u0.2.2.1 (32 * n)) u0.2.2.2.1 (PRO (zfl (WB g k) u0.2.2.1 (32 * n)) u0.2.2.2.2.1 n) (LEO (zfl (US g k) u0.2.1 n) (zfl (WB g k) u0.2.2.1 (32 * n)) u0.2.2.2.2.1 u0.2.2.2.2.2.1 n) (nI n) (nI k)) := hD
    refine zlast (f2 := vp_updL (u_o u0) 0 r_1.toInt64) hx hb hK hP hD hS 0 1 rfl rfl (by unfold vp_in; decide) rfl dL_partyBare_8 (fun H locs hP hD hS => ?_)
    refine lv_goto (tgt := 15) hx hb dL_partyBare_9 (by decide) ?_
    refine lv_iconst (v := 0) hx hb dL_partyBare_15 (by decide) ?_
    exact ziretU (u := (u0.1, zfl (US g k) u0.2.1 n, zfl (WB g k) u0.2.2.1 (32 * n), u0.2.2.2.1, PRO (zfl (WB g k) u0.2.2.1 (32 * n)) u0.2.2.2.2.1 n, LEO (zfl (US g k) u0.2.1 n) (zfl (WB g k) u0.2.2.1 (32 * n)) u0.2.2.2.2.1 u0.2.2.2.2.2.1 n, nI n, nI k, vp_updL (u_o u0) 0 r_1.toInt64)) hx hb hr hAe ⟨hT.symm, fun _ => by rw [← hR]; rfl, rfl⟩ (zP_re hP (by rfl)) (zD_re hD (by rfl)) hS dL_partyBare_16
