/-! what the law's small methods answer -/
section LE
variable {p : Program} {l : Launch} {e : Env} {R : Room} {s : State} {m : MethodId} {args : Array Value} {below : List Frame} {meth : Method} {c : Code} {H : Heap} {locs : List Loc} {cells slots : Nat} {Q : State → Prop} {cc : ByteArray} {nL pc : Nat} {ls : Array Slot} {Ts : List Cond} {D : va_G} {cI cL cE cP : ClassId} {A : Nat → Prop} {g0' : Nat → Nat → Int32} {g : Nat → Nat → Int32} {n k n0 k0 : Nat}
/-- the end of a method of the law, an answer on the stack -/
theorem le_ret {u0 : U8} {v : Int32} {ty : FieldType} {post : Int32 → Prop} (C : CJ p l R s m args c cc nL Ts D cI cL cE cP A s.heap) (hr : meth.sig.returnType = some ty) (hlocks : meth.locks = false) (hn : narrow ty (.int v) = .int v) (hAe : A = va_A (cw8 cI cL cE cP g0' n0 k0 u0) s.heap.size) (hJ : LJ D cI cL cE cP A s.heap (u0.1 0) g n k H locs) (hv : post v) (hdg : decode cc pc = .ok (.ireturn, 1)) :
    W p l e R s m args below meth c H locs cells slots (MQ below (va_Qi (fun (r : Int32) (u : U8) => post r ∧ u.1 0 = u0.1 0) (fun u t => zB D (cw8 cI cL cE cP g0' n0 k0 u0) s.heap.size (cw8 cI cL cE cP g n k u) t) (va_A (cw8 cI cL cE cP g0' n0 k0 u0) s.heap.size)) args s cells slots (va_A (cw8 cI cL cE cP g0' n0 k0 u0) s.heap.size)) (F0 m pc ls [.int v]) := by
  obtain ⟨hx, hb, -⟩ := C
  obtain ⟨hok, h9, u, hu, hP, hD, hS⟩ := hJ
  subst hAe
  exact W.zret hx hb hr hn (fun t ht hW => ⟨⟨v, u, rfl, ⟨hv, hu⟩, by rw [ht]; exact hP, hD⟩, hS.F ht⟩) hS.2.2 hdg hlocks
end LE
set_option maxHeartbeats 4000000 in
set_option maxRecDepth 100000 in
theorem zL_act_0_1 (l : Launch) (hfl : l.stackTraces = false) (D : va_G) (cI cL cE cP : ClassId) (g : Nat → Nat → Int32) (n k : Nat) (u0 : U8) (hok : zOk g n k) (h9 : zH9 g n) (a b d : Int32) (hT : T_setWeights a b d = 1) (sz : Nat) : Met l yL_act wsL_act ({ frames := 20, cells := 1, slots := 6, locals := 1000 }) (zPy D cI cL cE cP (cw8 cI cL cE cP g n k u0) sz [.ref (u0.1 0), .int 0, .int a, .int b, .int d]) (va_Qi (fun (r : Int32) (u : U8) => r = -900000001 ∧ u.1 0 = u0.1 0) (fun u t => zB D (cw8 cI cL cE cP g n k u0) sz (cw8 cI cL cE cP g n k u) t) (va_A (cw8 cI cL cE cP g n k u0) sz)) 1 6 (va_A (cw8 cI cL cE cP g n k u0) sz) := by
  refine va_MetW (cc := cL_act) (maxL := 6) (ret := (some .int)) (hh := [(0, 192, 193, 13), (0, 192, 198, 16), (0, 192, 203, 19)]) (by decide) rfl ?_
  intro p e s m args below meth c s₁ B hml hv
  obtain ⟨rfl, hsz, hE, hP, hD0, hX, hU0, hN, hO0, hO1⟩ := hv
  subst hsz
  obtain ⟨A, hAe⟩ : ∃ A, A = va_A (cw8 cI cL cE cP g n k u0) s.heap.size := ⟨_, rfl⟩
  have hD : va_D A (cw8 cI cL cE cP g n k u0) := by rw [hAe]; exact hD0.self
  have hA : ∀ q : Nat, s.heap.size ≤ q → A q := fun q h => by rw [hAe]; exact Or.inr h
  have hU : zU A s s.heap := by rw [hAe]; exact hU0
  have hx := B.exec
  have hb := B.bytes
  have hr := B.returns
  have hts := atoms_spec (ws := wsL_act) B.pre
  have hown : s.vm.findClass RL = some m.cls := findClass_of_methodNamed B.named
  have hlocks := B.notSynchronized
  have htb := vx_table (x := yX3_init) B (hts (.codeWith yL_act cL_act 6 (some .int) [(0, 192, 193, 13), (0, 192, 198, 16), (0, 192, 203, 19)]) List.mem_cons_self)
  have C : CJ p l ({ frames := 20, cells := 1, slots := 6, locals := 1000 }) s m _ c cL_act 6 wsL_act D cI cL cE cP A s.heap := ⟨hx, hb, hml, hown, hts, hE, hX, hN, hU, hA, hfl, Nat.le_of_ble_eq_true rfl, Nat.le_of_ble_eq_true rfl, hO0, hO1⟩
  have hJ : LJ D cI cL cE cP A s.heap (u0.1 0) g n k s.heap [] := ⟨hok, h9, u0, rfl, hP, hD, va_S.rf⟩
  have hl := lv_entry ([.ref (u0.1 0), .int 0, .int a, .int b, .int d]) (n := 6) (Nat.le_of_ble_eq_true rfl)
  rw [lg_entry_eq]
  generalize (lg_sl ([.ref (u0.1 0), .int 0, .int a, .int b, .int d]) ++ List.replicate (6 - (lg_sl ([.ref (u0.1 0), .int 0, .int a, .int b, .int d])).length) Slot.unset).toArray = ls at hl ⊢
  have hl : lv_has ls 6 [(0, .ref (u0.1 0)), (1, .int 0), (2, .int a), (3, .int b), (4, .int d)] := hl
  refine lv_iload_n hx hb dL_act_0 rfl (lv_at hl 1 rfl) ?_
  refine lv_if_ne (tgt := 15) hx hb dL_act_1 (by decide) (fun h => absurd h (by decide +kernel)) (fun _ => ?_)
  refine lv_aload_n hx hb dL_act_4 rfl (lv_at hl 0 rfl) ?_
  refine lv_iload_n hx hb dL_act_5 rfl (lv_at hl 2 rfl) ?_
  refine lv_iload_n hx hb dL_act_6 rfl (lv_at hl 3 rfl) ?_
  refine lv_iload hx hb dL_act_7 (lv_at hl 4 rfl) ?_
  refine st_setWeights C gL_act_X3_setWeights dL_act_9 hl.1 (Nat.le_of_ble_eq_true rfl) ⟨Nat.le_of_ble_eq_true rfl, Nat.le_of_ble_eq_true rfl⟩ hJ a b d (fun E ce q9 H locs hxp hJ hq hqv hqc => ?_) (fun H locs h hJ => absurd (hT.symm.trans h) (by decide))
  rcases hxp with ⟨hEx, h⟩ | ⟨hEx, h⟩
  · subst hEx
    refine vx_catch (name := "java/lang/IndexOutOfBoundsException") hown [] (⟨0, 192, 193, 13⟩ : ExceptionTableEntry) [(⟨0, 192, 198, 16⟩ : ExceptionTableEntry), (⟨0, 192, 203, 19⟩ : ExceptionTableEntry)] (by rw [htb]; rfl) (fun z hz => nomatch hz) (by decide) (by decide) (hts (.classLink RL 13 "java/lang/IndexOutOfBoundsException") (by decide +kernel)) (va_Nw.use rfl (hX.1 (.castable "java/lang/IndexOutOfBoundsException" "java/lang/IndexOutOfBoundsException") (by decide +kernel))) hq hqv hqc ?_
    refine lv_astore (lv' := [(5, .ref q9), (0, .ref (u0.1 0)), (1, .int 0), (2, .int a), (3, .int b), (4, .int d)]) hx hb dL_act_193 hl (by decide) rfl (fun ls hl => ?_)
    refine lv_ldc (v := (-900000001)) hx hb hown (hts (.constant RL 15 (-900000001)) (by decide +kernel)) dL_act_195 ?_
    exact le_ret (post := fun r => r = -900000001) C hr hlocks rfl hAe hJ rfl dL_act_197
  · exact absurd (hT.symm.trans h) (by decide)
set_option maxHeartbeats 4000000 in
set_option maxRecDepth 100000 in
theorem zL_act_0_2 (l : Launch) (hfl : l.stackTraces = false) (D : va_G) (cI cL cE cP : ClassId) (g : Nat → Nat → Int32) (n k : Nat) (u0 : U8) (hok : zOk g n k) (h9 : zH9 g n) (a b d : Int32) (hT : T_setWeights a b d = 2) (sz : Nat) : Met l yL_act wsL_act ({ frames := 20, cells := 1, slots := 6, locals := 1000 }) (zPy D cI cL cE cP (cw8 cI cL cE cP g n k u0) sz [.ref (u0.1 0), .int 0, .int a, .int b, .int d]) (va_Qi (fun (r : Int32) (u : U8) => r = -900000002 ∧ u.1 0 = u0.1 0) (fun u t => zB D (cw8 cI cL cE cP g n k u0) sz (cw8 cI cL cE cP g n k u) t) (va_A (cw8 cI cL cE cP g n k u0) sz)) 1 6 (va_A (cw8 cI cL cE cP g n k u0) sz) := by
  refine va_MetW (cc := cL_act) (maxL := 6) (ret := (some .int)) (hh := [(0, 192, 193, 13), (0, 192, 198, 16), (0, 192, 203, 19)]) (by decide) rfl ?_
  intro p e s m args below meth c s₁ B hml hv
  obtain ⟨rfl, hsz, hE, hP, hD0, hX, hU0, hN, hO0, hO1⟩ := hv
  subst hsz
  obtain ⟨A, hAe⟩ : ∃ A, A = va_A (cw8 cI cL cE cP g n k u0) s.heap.size := ⟨_, rfl⟩
  have hD : va_D A (cw8 cI cL cE cP g n k u0) := by rw [hAe]; exact hD0.self
  have hA : ∀ q : Nat, s.heap.size ≤ q → A q := fun q h => by rw [hAe]; exact Or.inr h
  have hU : zU A s s.heap := by rw [hAe]; exact hU0
  have hx := B.exec
  have hb := B.bytes
  have hr := B.returns
  have hts := atoms_spec (ws := wsL_act) B.pre
  have hown : s.vm.findClass RL = some m.cls := findClass_of_methodNamed B.named
  have hlocks := B.notSynchronized
  have htb := vx_table (x := yX3_init) B (hts (.codeWith yL_act cL_act 6 (some .int) [(0, 192, 193, 13), (0, 192, 198, 16), (0, 192, 203, 19)]) List.mem_cons_self)
  have C : CJ p l ({ frames := 20, cells := 1, slots := 6, locals := 1000 }) s m _ c cL_act 6 wsL_act D cI cL cE cP A s.heap := ⟨hx, hb, hml, hown, hts, hE, hX, hN, hU, hA, hfl, Nat.le_of_ble_eq_true rfl, Nat.le_of_ble_eq_true rfl, hO0, hO1⟩
  have hJ : LJ D cI cL cE cP A s.heap (u0.1 0) g n k s.heap [] := ⟨hok, h9, u0, rfl, hP, hD, va_S.rf⟩
  have hl := lv_entry ([.ref (u0.1 0), .int 0, .int a, .int b, .int d]) (n := 6) (Nat.le_of_ble_eq_true rfl)
  rw [lg_entry_eq]
  generalize (lg_sl ([.ref (u0.1 0), .int 0, .int a, .int b, .int d]) ++ List.replicate (6 - (lg_sl ([.ref (u0.1 0), .int 0, .int a, .int b, .int d])).length) Slot.unset).toArray = ls at hl ⊢
  have hl : lv_has ls 6 [(0, .ref (u0.1 0)), (1, .int 0), (2, .int a), (3, .int b), (4, .int d)] := hl
  refine lv_iload_n hx hb dL_act_0 rfl (lv_at hl 1 rfl) ?_
  refine lv_if_ne (tgt := 15) hx hb dL_act_1 (by decide) (fun h => absurd h (by decide +kernel)) (fun _ => ?_)
  refine lv_aload_n hx hb dL_act_4 rfl (lv_at hl 0 rfl) ?_
  refine lv_iload_n hx hb dL_act_5 rfl (lv_at hl 2 rfl) ?_
  refine lv_iload_n hx hb dL_act_6 rfl (lv_at hl 3 rfl) ?_
  refine lv_iload hx hb dL_act_7 (lv_at hl 4 rfl) ?_
  refine st_setWeights C gL_act_X3_setWeights dL_act_9 hl.1 (Nat.le_of_ble_eq_true rfl) ⟨Nat.le_of_ble_eq_true rfl, Nat.le_of_ble_eq_true rfl⟩ hJ a b d (fun E ce q9 H locs hxp hJ hq hqv hqc => ?_) (fun H locs h hJ => absurd (hT.symm.trans h) (by decide))
  rcases hxp with ⟨hEx, h⟩ | ⟨hEx, h⟩
  · exact absurd (hT.symm.trans h) (by decide)
  · subst hEx
    refine vx_catch (name := "java/lang/IllegalArgumentException") hown [(⟨0, 192, 193, 13⟩ : ExceptionTableEntry)] (⟨0, 192, 198, 16⟩ : ExceptionTableEntry) [(⟨0, 192, 203, 19⟩ : ExceptionTableEntry)] (by rw [htb]; rfl) (fun z hz => by obtain rfl := List.mem_singleton.mp hz; exact Or.inr ⟨by decide, "java/lang/IndexOutOfBoundsException", hts (.classLink RL 13 "java/lang/IndexOutOfBoundsException") (by decide +kernel), hN.1⟩) (by decide) (by decide) (hts (.classLink RL 16 "java/lang/IllegalArgumentException") (by decide +kernel)) (va_Nw.use rfl (hX.1 (.castable "java/lang/IllegalArgumentException" "java/lang/IllegalArgumentException") (by decide +kernel))) hq hqv hqc ?_
    refine lv_astore (lv' := [(5, .ref q9), (0, .ref (u0.1 0)), (1, .int 0), (2, .int a), (3, .int b), (4, .int d)]) hx hb dL_act_198 hl (by decide) rfl (fun ls hl => ?_)
    refine lv_ldc (v := (-900000002)) hx hb hown (hts (.constant RL 18 (-900000002)) (by decide +kernel)) dL_act_200 ?_
    exact le_ret (post := fun r => r = -900000002) C hr hlocks rfl hAe hJ rfl dL_act_202
set_option maxHeartbeats 4000000 in
set_option maxRecDepth 100000 in
theorem zL_act_1_1 (l : Launch) (hfl : l.stackTraces = false) (D : va_G) (cI cL cE cP : ClassId) (g : Nat → Nat → Int32) (n k : Nat) (u0 : U8) (hok : zOk g n k) (h9 : zH9 g n) (a b d : Int32) (hT : T_setFloor a = 1) (sz : Nat) : Met l yL_act wsL_act ({ frames := 20, cells := 1, slots := 6, locals := 1000 }) (zPy D cI cL cE cP (cw8 cI cL cE cP g n k u0) sz [.ref (u0.1 0), .int 1, .int a, .int b, .int d]) (va_Qi (fun (r : Int32) (u : U8) => r = -900000002 ∧ u.1 0 = u0.1 0) (fun u t => zB D (cw8 cI cL cE cP g n k u0) sz (cw8 cI cL cE cP g n k u) t) (va_A (cw8 cI cL cE cP g n k u0) sz)) 1 6 (va_A (cw8 cI cL cE cP g n k u0) sz) := by
  refine va_MetW (cc := cL_act) (maxL := 6) (ret := (some .int)) (hh := [(0, 192, 193, 13), (0, 192, 198, 16), (0, 192, 203, 19)]) (by decide) rfl ?_
  intro p e s m args below meth c s₁ B hml hv
  obtain ⟨rfl, hsz, hE, hP, hD0, hX, hU0, hN, hO0, hO1⟩ := hv
  subst hsz
  obtain ⟨A, hAe⟩ : ∃ A, A = va_A (cw8 cI cL cE cP g n k u0) s.heap.size := ⟨_, rfl⟩
  have hD : va_D A (cw8 cI cL cE cP g n k u0) := by rw [hAe]; exact hD0.self
  have hA : ∀ q : Nat, s.heap.size ≤ q → A q := fun q h => by rw [hAe]; exact Or.inr h
  have hU : zU A s s.heap := by rw [hAe]; exact hU0
  have hx := B.exec
  have hb := B.bytes
  have hr := B.returns
  have hts := atoms_spec (ws := wsL_act) B.pre
  have hown : s.vm.findClass RL = some m.cls := findClass_of_methodNamed B.named
  have hlocks := B.notSynchronized
  have htb := vx_table (x := yX3_init) B (hts (.codeWith yL_act cL_act 6 (some .int) [(0, 192, 193, 13), (0, 192, 198, 16), (0, 192, 203, 19)]) List.mem_cons_self)
  have C : CJ p l ({ frames := 20, cells := 1, slots := 6, locals := 1000 }) s m _ c cL_act 6 wsL_act D cI cL cE cP A s.heap := ⟨hx, hb, hml, hown, hts, hE, hX, hN, hU, hA, hfl, Nat.le_of_ble_eq_true rfl, Nat.le_of_ble_eq_true rfl, hO0, hO1⟩
  have hJ : LJ D cI cL cE cP A s.heap (u0.1 0) g n k s.heap [] := ⟨hok, h9, u0, rfl, hP, hD, va_S.rf⟩
  have hl := lv_entry ([.ref (u0.1 0), .int 1, .int a, .int b, .int d]) (n := 6) (Nat.le_of_ble_eq_true rfl)
  rw [lg_entry_eq]
  generalize (lg_sl ([.ref (u0.1 0), .int 1, .int a, .int b, .int d]) ++ List.replicate (6 - (lg_sl ([.ref (u0.1 0), .int 1, .int a, .int b, .int d])).length) Slot.unset).toArray = ls at hl ⊢
  have hl : lv_has ls 6 [(0, .ref (u0.1 0)), (1, .int 1), (2, .int a), (3, .int b), (4, .int d)] := hl
  refine lv_iload_n hx hb dL_act_0 rfl (lv_at hl 1 rfl) ?_
  refine lv_if_ne (tgt := 15) hx hb dL_act_1 (by decide) (fun _ => ?_) (fun h => absurd h (by decide +kernel))
  refine lv_iload_n hx hb dL_act_15 rfl (lv_at hl 1 rfl) ?_
  refine lv_iconst (v := 1) hx hb dL_act_16 (by decide) ?_
  refine lv_icmp_ne (tgt := 28) hx hb dL_act_17 (by decide) (fun h => absurd h (by decide +kernel)) (fun _ => ?_)
  refine lv_aload_n hx hb dL_act_20 rfl (lv_at hl 0 rfl) ?_
  refine lv_iload_n hx hb dL_act_21 rfl (lv_at hl 2 rfl) ?_
  refine st_setFloor C gL_act_X3_setFloor dL_act_22 hl.1 (Nat.le_of_ble_eq_true rfl) ⟨Nat.le_of_ble_eq_true rfl, Nat.le_of_ble_eq_true rfl⟩ hJ a (fun E ce q9 H locs hxp hJ hq hqv hqc => ?_) (fun H locs h hJ => absurd (hT.symm.trans h) (by decide))
  obtain ⟨hEx, h⟩ := hxp
  subst hEx
  refine vx_catch (name := "java/lang/IllegalArgumentException") hown [(⟨0, 192, 193, 13⟩ : ExceptionTableEntry)] (⟨0, 192, 198, 16⟩ : ExceptionTableEntry) [(⟨0, 192, 203, 19⟩ : ExceptionTableEntry)] (by rw [htb]; rfl) (fun z hz => by obtain rfl := List.mem_singleton.mp hz; exact Or.inr ⟨by decide, "java/lang/IndexOutOfBoundsException", hts (.classLink RL 13 "java/lang/IndexOutOfBoundsException") (by decide +kernel), hN.1⟩) (by decide) (by decide) (hts (.classLink RL 16 "java/lang/IllegalArgumentException") (by decide +kernel)) (va_Nw.use rfl (hX.1 (.castable "java/lang/IllegalArgumentException" "java/lang/IllegalArgumentException") (by decide +kernel))) hq hqv hqc ?_
  refine lv_astore (lv' := [(5, .ref q9), (0, .ref (u0.1 0)), (1, .int 1), (2, .int a), (3, .int b), (4, .int d)]) hx hb dL_act_198 hl (by decide) rfl (fun ls hl => ?_)
  refine lv_ldc (v := (-900000002)) hx hb hown (hts (.constant RL 18 (-900000002)) (by decide +kernel)) dL_act_200 ?_
  exact le_ret (post := fun r => r = -900000002) C hr hlocks rfl hAe hJ rfl dL_act_202
set_option maxHeartbeats 4000000 in
set_option maxRecDepth 100000 in
theorem zL_act_2_1 (l : Launch) (hfl : l.stackTraces = false) (D : va_G) (cI cL cE cP : ClassId) (g : Nat → Nat → Int32) (n k : Nat) (u0 : U8) (hok : zOk g n k) (h9 : zH9 g n) (a b d : Int32) (hT : T_setCapital a = 1) (sz : Nat) : Met l yL_act wsL_act ({ frames := 20, cells := 1, slots := 6, locals := 1000 }) (zPy D cI cL cE cP (cw8 cI cL cE cP g n k u0) sz [.ref (u0.1 0), .int 2, .int a, .int b, .int d]) (va_Qi (fun (r : Int32) (u : U8) => r = -900000002 ∧ u.1 0 = u0.1 0) (fun u t => zB D (cw8 cI cL cE cP g n k u0) sz (cw8 cI cL cE cP g n k u) t) (va_A (cw8 cI cL cE cP g n k u0) sz)) 1 6 (va_A (cw8 cI cL cE cP g n k u0) sz) := by
  refine va_MetW (cc := cL_act) (maxL := 6) (ret := (some .int)) (hh := [(0, 192, 193, 13), (0, 192, 198, 16), (0, 192, 203, 19)]) (by decide) rfl ?_
  intro p e s m args below meth c s₁ B hml hv
  obtain ⟨rfl, hsz, hE, hP, hD0, hX, hU0, hN, hO0, hO1⟩ := hv
  subst hsz
  obtain ⟨A, hAe⟩ : ∃ A, A = va_A (cw8 cI cL cE cP g n k u0) s.heap.size := ⟨_, rfl⟩
  have hD : va_D A (cw8 cI cL cE cP g n k u0) := by rw [hAe]; exact hD0.self
  have hA : ∀ q : Nat, s.heap.size ≤ q → A q := fun q h => by rw [hAe]; exact Or.inr h
  have hU : zU A s s.heap := by rw [hAe]; exact hU0
  have hx := B.exec
  have hb := B.bytes
  have hr := B.returns
  have hts := atoms_spec (ws := wsL_act) B.pre
  have hown : s.vm.findClass RL = some m.cls := findClass_of_methodNamed B.named
  have hlocks := B.notSynchronized
  have htb := vx_table (x := yX3_init) B (hts (.codeWith yL_act cL_act 6 (some .int) [(0, 192, 193, 13), (0, 192, 198, 16), (0, 192, 203, 19)]) List.mem_cons_self)
  have C : CJ p l ({ frames := 20, cells := 1, slots := 6, locals := 1000 }) s m _ c cL_act 6 wsL_act D cI cL cE cP A s.heap := ⟨hx, hb, hml, hown, hts, hE, hX, hN, hU, hA, hfl, Nat.le_of_ble_eq_true rfl, Nat.le_of_ble_eq_true rfl, hO0, hO1⟩
  have hJ : LJ D cI cL cE cP A s.heap (u0.1 0) g n k s.heap [] := ⟨hok, h9, u0, rfl, hP, hD, va_S.rf⟩
  have hl := lv_entry ([.ref (u0.1 0), .int 2, .int a, .int b, .int d]) (n := 6) (Nat.le_of_ble_eq_true rfl)
  rw [lg_entry_eq]
  generalize (lg_sl ([.ref (u0.1 0), .int 2, .int a, .int b, .int d]) ++ List.replicate (6 - (lg_sl ([.ref (u0.1 0), .int 2, .int a, .int b, .int d])).length) Slot.unset).toArray = ls at hl ⊢
  have hl : lv_has ls 6 [(0, .ref (u0.1 0)), (1, .int 2), (2, .int a), (3, .int b), (4, .int d)] := hl
  refine lv_iload_n hx hb dL_act_0 rfl (lv_at hl 1 rfl) ?_
  refine lv_if_ne (tgt := 15) hx hb dL_act_1 (by decide) (fun _ => ?_) (fun h => absurd h (by decide +kernel))
  refine lv_iload_n hx hb dL_act_15 rfl (lv_at hl 1 rfl) ?_
  refine lv_iconst (v := 1) hx hb dL_act_16 (by decide) ?_
  refine lv_icmp_ne (tgt := 28) hx hb dL_act_17 (by decide) (fun _ => ?_) (fun h => absurd h (by decide +kernel))
  refine lv_iload_n hx hb dL_act_28 rfl (lv_at hl 1 rfl) ?_
  refine lv_iconst (v := 2) hx hb dL_act_29 (by decide) ?_
  refine lv_icmp_ne (tgt := 41) hx hb dL_act_30 (by decide) (fun h => absurd h (by decide +kernel)) (fun _ => ?_)
  refine lv_aload_n hx hb dL_act_33 rfl (lv_at hl 0 rfl) ?_
  refine lv_iload_n hx hb dL_act_34 rfl (lv_at hl 2 rfl) ?_
  refine st_setCapital C gL_act_X3_setCapital dL_act_35 hl.1 (Nat.le_of_ble_eq_true rfl) ⟨Nat.le_of_ble_eq_true rfl, Nat.le_of_ble_eq_true rfl⟩ hJ a (fun E ce q9 H locs hxp hJ hq hqv hqc => ?_) (fun H locs h hJ => absurd (hT.symm.trans h) (by decide))
  obtain ⟨hEx, h⟩ := hxp
  subst hEx
  refine vx_catch (name := "java/lang/IllegalArgumentException") hown [(⟨0, 192, 193, 13⟩ : ExceptionTableEntry)] (⟨0, 192, 198, 16⟩ : ExceptionTableEntry) [(⟨0, 192, 203, 19⟩ : ExceptionTableEntry)] (by rw [htb]; rfl) (fun z hz => by obtain rfl := List.mem_singleton.mp hz; exact Or.inr ⟨by decide, "java/lang/IndexOutOfBoundsException", hts (.classLink RL 13 "java/lang/IndexOutOfBoundsException") (by decide +kernel), hN.1⟩) (by decide) (by decide) (hts (.classLink RL 16 "java/lang/IllegalArgumentException") (by decide +kernel)) (va_Nw.use rfl (hX.1 (.castable "java/lang/IllegalArgumentException" "java/lang/IllegalArgumentException") (by decide +kernel))) hq hqv hqc ?_
  refine lv_astore (lv' := [(5, .ref q9), (0, .ref (u0.1 0)), (1, .int 2), (2, .int a), (3, .int b), (4, .int d)]) hx hb dL_act_198 hl (by decide) rfl (fun ls hl => ?_)
  refine lv_ldc (v := (-900000002)) hx hb hown (hts (.constant RL 18 (-900000002)) (by decide +kernel)) dL_act_200 ?_
  exact le_ret (post := fun r => r = -900000002) C hr hlocks rfl hAe hJ rfl dL_act_202
set_option maxHeartbeats 4000000 in
set_option maxRecDepth 100000 in
theorem zL_act_3_1 (l : Launch) (hfl : l.stackTraces = false) (D : va_G) (cI cL cE cP : ClassId) (g : Nat → Nat → Int32) (n k : Nat) (u0 : U8) (hok : zOk g n k) (h9 : zH9 g n) (a b d : Int32) (hT : T_draw g n a b = 1) (sz : Nat) : Met l yL_act wsL_act ({ frames := 20, cells := 1, slots := 6, locals := 1000 }) (zPy D cI cL cE cP (cw8 cI cL cE cP g n k u0) sz [.ref (u0.1 0), .int 3, .int a, .int b, .int d]) (va_Qi (fun (r : Int32) (u : U8) => r = -900000001 ∧ u.1 0 = u0.1 0) (fun u t => zB D (cw8 cI cL cE cP g n k u0) sz (cw8 cI cL cE cP g n k u) t) (va_A (cw8 cI cL cE cP g n k u0) sz)) 1 6 (va_A (cw8 cI cL cE cP g n k u0) sz) := by
  refine va_MetW (cc := cL_act) (maxL := 6) (ret := (some .int)) (hh := [(0, 192, 193, 13), (0, 192, 198, 16), (0, 192, 203, 19)]) (by decide) rfl ?_
  intro p e s m args below meth c s₁ B hml hv
  obtain ⟨rfl, hsz, hE, hP, hD0, hX, hU0, hN, hO0, hO1⟩ := hv
  subst hsz
  obtain ⟨A, hAe⟩ : ∃ A, A = va_A (cw8 cI cL cE cP g n k u0) s.heap.size := ⟨_, rfl⟩
  have hD : va_D A (cw8 cI cL cE cP g n k u0) := by rw [hAe]; exact hD0.self
  have hA : ∀ q : Nat, s.heap.size ≤ q → A q := fun q h => by rw [hAe]; exact Or.inr h
  have hU : zU A s s.heap := by rw [hAe]; exact hU0
  have hx := B.exec
  have hb := B.bytes
  have hr := B.returns
  have hts := atoms_spec (ws := wsL_act) B.pre
  have hown : s.vm.findClass RL = some m.cls := findClass_of_methodNamed B.named
  have hlocks := B.notSynchronized
  have htb := vx_table (x := yX3_init) B (hts (.codeWith yL_act cL_act 6 (some .int) [(0, 192, 193, 13), (0, 192, 198, 16), (0, 192, 203, 19)]) List.mem_cons_self)
  have C : CJ p l ({ frames := 20, cells := 1, slots := 6, locals := 1000 }) s m _ c cL_act 6 wsL_act D cI cL cE cP A s.heap := ⟨hx, hb, hml, hown, hts, hE, hX, hN, hU, hA, hfl, Nat.le_of_ble_eq_true rfl, Nat.le_of_ble_eq_true rfl, hO0, hO1⟩
  have hJ : LJ D cI cL cE cP A s.heap (u0.1 0) g n k s.heap [] := ⟨hok, h9, u0, rfl, hP, hD, va_S.rf⟩
  have hl := lv_entry ([.ref (u0.1 0), .int 3, .int a, .int b, .int d]) (n := 6) (Nat.le_of_ble_eq_true rfl)
  rw [lg_entry_eq]
  generalize (lg_sl ([.ref (u0.1 0), .int 3, .int a, .int b, .int d]) ++ List.replicate (6 - (lg_sl ([.ref (u0.1 0), .int 3, .int a, .int b, .int d])).length) Slot.unset).toArray = ls at hl ⊢
  have hl : lv_has ls 6 [(0, .ref (u0.1 0)), (1, .int 3), (2, .int a), (3, .int b), (4, .int d)] := hl
  refine lv_iload_n hx hb dL_act_0 rfl (lv_at hl 1 rfl) ?_
  refine lv_if_ne (tgt := 15) hx hb dL_act_1 (by decide) (fun _ => ?_) (fun h => absurd h (by decide +kernel))
  refine lv_iload_n hx hb dL_act_15 rfl (lv_at hl 1 rfl) ?_
  refine lv_iconst (v := 1) hx hb dL_act_16 (by decide) ?_
  refine lv_icmp_ne (tgt := 28) hx hb dL_act_17 (by decide) (fun _ => ?_) (fun h => absurd h (by decide +kernel))
  refine lv_iload_n hx hb dL_act_28 rfl (lv_at hl 1 rfl) ?_
  refine lv_iconst (v := 2) hx hb dL_act_29 (by decide) ?_
  refine lv_icmp_ne (tgt := 41) hx hb dL_act_30 (by decide) (fun _ => ?_) (fun h => absurd h (by decide +kernel))
  refine lv_iload_n hx hb dL_act_41 rfl (lv_at hl 1 rfl) ?_
  refine lv_iconst (v := 3) hx hb dL_act_42 (by decide) ?_
  refine lv_icmp_ne (tgt := 55) hx hb dL_act_43 (by decide) (fun h => absurd h (by decide +kernel)) (fun _ => ?_)
  refine lv_aload_n hx hb dL_act_46 rfl (lv_at hl 0 rfl) ?_
  refine lv_iload_n hx hb dL_act_47 rfl (lv_at hl 2 rfl) ?_
  refine lv_iload_n hx hb dL_act_48 rfl (lv_at hl 3 rfl) ?_
  refine st_draw C gL_act_X3_draw dL_act_49 hl.1 (Nat.le_of_ble_eq_true rfl) ⟨Nat.le_of_ble_eq_true rfl, Nat.le_of_ble_eq_true rfl⟩ hJ a b (fun E ce q9 H locs hxp hJ hq hqv hqc => ?_) (fun H locs h hJ => absurd (hT.symm.trans h) (by decide))
  rcases hxp with ⟨hEx, h⟩ | ⟨hEx, h⟩ | ⟨hEx, h⟩
  · subst hEx
    refine vx_catch (name := "java/lang/IndexOutOfBoundsException") hown [] (⟨0, 192, 193, 13⟩ : ExceptionTableEntry) [(⟨0, 192, 198, 16⟩ : ExceptionTableEntry), (⟨0, 192, 203, 19⟩ : ExceptionTableEntry)] (by rw [htb]; rfl) (fun z hz => nomatch hz) (by decide) (by decide) (hts (.classLink RL 13 "java/lang/IndexOutOfBoundsException") (by decide +kernel)) (va_Nw.use rfl (hX.1 (.castable "java/lang/IndexOutOfBoundsException" "java/lang/IndexOutOfBoundsException") (by decide +kernel))) hq hqv hqc ?_
    refine lv_astore (lv' := [(5, .ref q9), (0, .ref (u0.1 0)), (1, .int 3), (2, .int a), (3, .int b), (4, .int d)]) hx hb dL_act_193 hl (by decide) rfl (fun ls hl => ?_)
    refine lv_ldc (v := (-900000001)) hx hb hown (hts (.constant RL 15 (-900000001)) (by decide +kernel)) dL_act_195 ?_
    exact le_ret (post := fun r => r = -900000001) C hr hlocks rfl hAe hJ rfl dL_act_197
  · exact absurd (hT.symm.trans h) (by decide)
  · exact absurd (hT.symm.trans h) (by decide)
set_option maxHeartbeats 4000000 in
set_option maxRecDepth 100000 in
theorem zL_act_3_2 (l : Launch) (hfl : l.stackTraces = false) (D : va_G) (cI cL cE cP : ClassId) (g : Nat → Nat → Int32) (n k : Nat) (u0 : U8) (hok : zOk g n k) (h9 : zH9 g n) (a b d : Int32) (hT : T_draw g n a b = 2) (sz : Nat) : Met l yL_act wsL_act ({ frames := 20, cells := 1, slots := 6, locals := 1000 }) (zPy D cI cL cE cP (cw8 cI cL cE cP g n k u0) sz [.ref (u0.1 0), .int 3, .int a, .int b, .int d]) (va_Qi (fun (r : Int32) (u : U8) => r = -900000002 ∧ u.1 0 = u0.1 0) (fun u t => zB D (cw8 cI cL cE cP g n k u0) sz (cw8 cI cL cE cP g n k u) t) (va_A (cw8 cI cL cE cP g n k u0) sz)) 1 6 (va_A (cw8 cI cL cE cP g n k u0) sz) := by
  refine va_MetW (cc := cL_act) (maxL := 6) (ret := (some .int)) (hh := [(0, 192, 193, 13), (0, 192, 198, 16), (0, 192, 203, 19)]) (by decide) rfl ?_
  intro p e s m args below meth c s₁ B hml hv
  obtain ⟨rfl, hsz, hE, hP, hD0, hX, hU0, hN, hO0, hO1⟩ := hv
  subst hsz
  obtain ⟨A, hAe⟩ : ∃ A, A = va_A (cw8 cI cL cE cP g n k u0) s.heap.size := ⟨_, rfl⟩
  have hD : va_D A (cw8 cI cL cE cP g n k u0) := by rw [hAe]; exact hD0.self
  have hA : ∀ q : Nat, s.heap.size ≤ q → A q := fun q h => by rw [hAe]; exact Or.inr h
  have hU : zU A s s.heap := by rw [hAe]; exact hU0
  have hx := B.exec
  have hb := B.bytes
  have hr := B.returns
  have hts := atoms_spec (ws := wsL_act) B.pre
  have hown : s.vm.findClass RL = some m.cls := findClass_of_methodNamed B.named
  have hlocks := B.notSynchronized
  have htb := vx_table (x := yX3_init) B (hts (.codeWith yL_act cL_act 6 (some .int) [(0, 192, 193, 13), (0, 192, 198, 16), (0, 192, 203, 19)]) List.mem_cons_self)
  have C : CJ p l ({ frames := 20, cells := 1, slots := 6, locals := 1000 }) s m _ c cL_act 6 wsL_act D cI cL cE cP A s.heap := ⟨hx, hb, hml, hown, hts, hE, hX, hN, hU, hA, hfl, Nat.le_of_ble_eq_true rfl, Nat.le_of_ble_eq_true rfl, hO0, hO1⟩
  have hJ : LJ D cI cL cE cP A s.heap (u0.1 0) g n k s.heap [] := ⟨hok, h9, u0, rfl, hP, hD, va_S.rf⟩
  have hl := lv_entry ([.ref (u0.1 0), .int 3, .int a, .int b, .int d]) (n := 6) (Nat.le_of_ble_eq_true rfl)
  rw [lg_entry_eq]
  generalize (lg_sl ([.ref (u0.1 0), .int 3, .int a, .int b, .int d]) ++ List.replicate (6 - (lg_sl ([.ref (u0.1 0), .int 3, .int a, .int b, .int d])).length) Slot.unset).toArray = ls at hl ⊢
  have hl : lv_has ls 6 [(0, .ref (u0.1 0)), (1, .int 3), (2, .int a), (3, .int b), (4, .int d)] := hl
  refine lv_iload_n hx hb dL_act_0 rfl (lv_at hl 1 rfl) ?_
  refine lv_if_ne (tgt := 15) hx hb dL_act_1 (by decide) (fun _ => ?_) (fun h => absurd h (by decide +kernel))
  refine lv_iload_n hx hb dL_act_15 rfl (lv_at hl 1 rfl) ?_
  refine lv_iconst (v := 1) hx hb dL_act_16 (by decide) ?_
  refine lv_icmp_ne (tgt := 28) hx hb dL_act_17 (by decide) (fun _ => ?_) (fun h => absurd h (by decide +kernel))
  refine lv_iload_n hx hb dL_act_28 rfl (lv_at hl 1 rfl) ?_
  refine lv_iconst (v := 2) hx hb dL_act_29 (by decide) ?_
  refine lv_icmp_ne (tgt := 41) hx hb dL_act_30 (by decide) (fun _ => ?_) (fun h => absurd h (by decide +kernel))
  refine lv_iload_n hx hb dL_act_41 rfl (lv_at hl 1 rfl) ?_
  refine lv_iconst (v := 3) hx hb dL_act_42 (by decide) ?_
  refine lv_icmp_ne (tgt := 55) hx hb dL_act_43 (by decide) (fun h => absurd h (by decide +kernel)) (fun _ => ?_)
  refine lv_aload_n hx hb dL_act_46 rfl (lv_at hl 0 rfl) ?_
  refine lv_iload_n hx hb dL_act_47 rfl (lv_at hl 2 rfl) ?_
  refine lv_iload_n hx hb dL_act_48 rfl (lv_at hl 3 rfl) ?_
  refine st_draw C gL_act_X3_draw dL_act_49 hl.1 (Nat.le_of_ble_eq_true rfl) ⟨Nat.le_of_ble_eq_true rfl, Nat.le_of_ble_eq_true rfl⟩ hJ a b (fun E ce q9 H locs hxp hJ hq hqv hqc => ?_) (fun H locs h hJ => absurd (hT.symm.trans h) (by decide))
  rcases hxp with ⟨hEx, h⟩ | ⟨hEx, h⟩ | ⟨hEx, h⟩
  · exact absurd (hT.symm.trans h) (by decide)
  · subst hEx
    refine vx_catch (name := "java/lang/IllegalArgumentException") hown [(⟨0, 192, 193, 13⟩ : ExceptionTableEntry)] (⟨0, 192, 198, 16⟩ : ExceptionTableEntry) [(⟨0, 192, 203, 19⟩ : ExceptionTableEntry)] (by rw [htb]; rfl) (fun z hz => by obtain rfl := List.mem_singleton.mp hz; exact Or.inr ⟨by decide, "java/lang/IndexOutOfBoundsException", hts (.classLink RL 13 "java/lang/IndexOutOfBoundsException") (by decide +kernel), hN.1⟩) (by decide) (by decide) (hts (.classLink RL 16 "java/lang/IllegalArgumentException") (by decide +kernel)) (va_Nw.use rfl (hX.1 (.castable "java/lang/IllegalArgumentException" "java/lang/IllegalArgumentException") (by decide +kernel))) hq hqv hqc ?_
    refine lv_astore (lv' := [(5, .ref q9), (0, .ref (u0.1 0)), (1, .int 3), (2, .int a), (3, .int b), (4, .int d)]) hx hb dL_act_198 hl (by decide) rfl (fun ls hl => ?_)
    refine lv_ldc (v := (-900000002)) hx hb hown (hts (.constant RL 18 (-900000002)) (by decide +kernel)) dL_act_200 ?_
    exact le_ret (post := fun r => r = -900000002) C hr hlocks rfl hAe hJ rfl dL_act_202
  · exact absurd (hT.symm.trans h) (by decide)
set_option maxHeartbeats 4000000 in
set_option maxRecDepth 100000 in
theorem zL_act_3_3 (l : Launch) (hfl : l.stackTraces = false) (D : va_G) (cI cL cE cP : ClassId) (g : Nat → Nat → Int32) (n k : Nat) (u0 : U8) (hok : zOk g n k) (h9 : zH9 g n) (a b d : Int32) (hT : T_draw g n a b = 3) (sz : Nat) : Met l yL_act wsL_act ({ frames := 20, cells := 1, slots := 6, locals := 1000 }) (zPy D cI cL cE cP (cw8 cI cL cE cP g n k u0) sz [.ref (u0.1 0), .int 3, .int a, .int b, .int d]) (va_Qi (fun (r : Int32) (u : U8) => r = -900000003 ∧ u.1 0 = u0.1 0) (fun u t => zB D (cw8 cI cL cE cP g n k u0) sz (cw8 cI cL cE cP g n k u) t) (va_A (cw8 cI cL cE cP g n k u0) sz)) 1 6 (va_A (cw8 cI cL cE cP g n k u0) sz) := by
  refine va_MetW (cc := cL_act) (maxL := 6) (ret := (some .int)) (hh := [(0, 192, 193, 13), (0, 192, 198, 16), (0, 192, 203, 19)]) (by decide) rfl ?_
  intro p e s m args below meth c s₁ B hml hv
  obtain ⟨rfl, hsz, hE, hP, hD0, hX, hU0, hN, hO0, hO1⟩ := hv
  subst hsz
  obtain ⟨A, hAe⟩ : ∃ A, A = va_A (cw8 cI cL cE cP g n k u0) s.heap.size := ⟨_, rfl⟩
  have hD : va_D A (cw8 cI cL cE cP g n k u0) := by rw [hAe]; exact hD0.self
  have hA : ∀ q : Nat, s.heap.size ≤ q → A q := fun q h => by rw [hAe]; exact Or.inr h
  have hU : zU A s s.heap := by rw [hAe]; exact hU0
  have hx := B.exec
  have hb := B.bytes
  have hr := B.returns
  have hts := atoms_spec (ws := wsL_act) B.pre
  have hown : s.vm.findClass RL = some m.cls := findClass_of_methodNamed B.named
  have hlocks := B.notSynchronized
  have htb := vx_table (x := yX3_init) B (hts (.codeWith yL_act cL_act 6 (some .int) [(0, 192, 193, 13), (0, 192, 198, 16), (0, 192, 203, 19)]) List.mem_cons_self)
  have C : CJ p l ({ frames := 20, cells := 1, slots := 6, locals := 1000 }) s m _ c cL_act 6 wsL_act D cI cL cE cP A s.heap := ⟨hx, hb, hml, hown, hts, hE, hX, hN, hU, hA, hfl, Nat.le_of_ble_eq_true rfl, Nat.le_of_ble_eq_true rfl, hO0, hO1⟩
  have hJ : LJ D cI cL cE cP A s.heap (u0.1 0) g n k s.heap [] := ⟨hok, h9, u0, rfl, hP, hD, va_S.rf⟩
  have hl := lv_entry ([.ref (u0.1 0), .int 3, .int a, .int b, .int d]) (n := 6) (Nat.le_of_ble_eq_true rfl)
  rw [lg_entry_eq]
  generalize (lg_sl ([.ref (u0.1 0), .int 3, .int a, .int b, .int d]) ++ List.replicate (6 - (lg_sl ([.ref (u0.1 0), .int 3, .int a, .int b, .int d])).length) Slot.unset).toArray = ls at hl ⊢
  have hl : lv_has ls 6 [(0, .ref (u0.1 0)), (1, .int 3), (2, .int a), (3, .int b), (4, .int d)] := hl
  refine lv_iload_n hx hb dL_act_0 rfl (lv_at hl 1 rfl) ?_
  refine lv_if_ne (tgt := 15) hx hb dL_act_1 (by decide) (fun _ => ?_) (fun h => absurd h (by decide +kernel))
  refine lv_iload_n hx hb dL_act_15 rfl (lv_at hl 1 rfl) ?_
  refine lv_iconst (v := 1) hx hb dL_act_16 (by decide) ?_
  refine lv_icmp_ne (tgt := 28) hx hb dL_act_17 (by decide) (fun _ => ?_) (fun h => absurd h (by decide +kernel))
  refine lv_iload_n hx hb dL_act_28 rfl (lv_at hl 1 rfl) ?_
  refine lv_iconst (v := 2) hx hb dL_act_29 (by decide) ?_
  refine lv_icmp_ne (tgt := 41) hx hb dL_act_30 (by decide) (fun _ => ?_) (fun h => absurd h (by decide +kernel))
  refine lv_iload_n hx hb dL_act_41 rfl (lv_at hl 1 rfl) ?_
  refine lv_iconst (v := 3) hx hb dL_act_42 (by decide) ?_
  refine lv_icmp_ne (tgt := 55) hx hb dL_act_43 (by decide) (fun h => absurd h (by decide +kernel)) (fun _ => ?_)
  refine lv_aload_n hx hb dL_act_46 rfl (lv_at hl 0 rfl) ?_
  refine lv_iload_n hx hb dL_act_47 rfl (lv_at hl 2 rfl) ?_
  refine lv_iload_n hx hb dL_act_48 rfl (lv_at hl 3 rfl) ?_
  refine st_draw C gL_act_X3_draw dL_act_49 hl.1 (Nat.le_of_ble_eq_true rfl) ⟨Nat.le_of_ble_eq_true rfl, Nat.le_of_ble_eq_true rfl⟩ hJ a b (fun E ce q9 H locs hxp hJ hq hqv hqc => ?_) (fun H locs h hJ => absurd (hT.symm.trans h) (by decide))
  rcases hxp with ⟨hEx, h⟩ | ⟨hEx, h⟩ | ⟨hEx, h⟩
  · exact absurd (hT.symm.trans h) (by decide)
  · exact absurd (hT.symm.trans h) (by decide)
  · subst hEx
    refine vx_catch (name := "java/lang/IllegalStateException") hown [(⟨0, 192, 193, 13⟩ : ExceptionTableEntry), (⟨0, 192, 198, 16⟩ : ExceptionTableEntry)] (⟨0, 192, 203, 19⟩ : ExceptionTableEntry) [] (by rw [htb]; rfl) (fun z hz => by rcases List.mem_cons.mp hz with rfl | hz; (exact Or.inr ⟨by decide, "java/lang/IndexOutOfBoundsException", hts (.classLink RL 13 "java/lang/IndexOutOfBoundsException") (by decide +kernel), hN.2.1⟩); (obtain rfl := List.mem_singleton.mp hz; exact Or.inr ⟨by decide, "java/lang/IllegalArgumentException", hts (.classLink RL 16 "java/lang/IllegalArgumentException") (by decide +kernel), hN.2.2⟩)) (by decide) (by decide) (hts (.classLink RL 19 "java/lang/IllegalStateException") (by decide +kernel)) (va_Nw.use rfl (hX.1 (.castable "java/lang/IllegalStateException" "java/lang/IllegalStateException") (by decide +kernel))) hq hqv hqc ?_
    refine lv_astore (lv' := [(5, .ref q9), (0, .ref (u0.1 0)), (1, .int 3), (2, .int a), (3, .int b), (4, .int d)]) hx hb dL_act_203 hl (by decide) rfl (fun ls hl => ?_)
    refine lv_ldc (v := (-900000003)) hx hb hown (hts (.constant RL 21 (-900000003)) (by decide +kernel)) dL_act_205 ?_
    exact le_ret (post := fun r => r = -900000003) C hr hlocks rfl hAe hJ rfl dL_act_207
set_option maxHeartbeats 4000000 in
set_option maxRecDepth 100000 in
theorem zL_act_4_1 (l : Launch) (hfl : l.stackTraces = false) (D : va_G) (cI cL cE cP : ClassId) (g : Nat → Nat → Int32) (n k : Nat) (u0 : U8) (hok : zOk g n k) (h9 : zH9 g n) (a b d : Int32) (hT : T_setClass n a b = 1) (sz : Nat) : Met l yL_act wsL_act ({ frames := 20, cells := 1, slots := 6, locals := 1000 }) (zPy D cI cL cE cP (cw8 cI cL cE cP g n k u0) sz [.ref (u0.1 0), .int 4, .int a, .int b, .int d]) (va_Qi (fun (r : Int32) (u : U8) => r = -900000001 ∧ u.1 0 = u0.1 0) (fun u t => zB D (cw8 cI cL cE cP g n k u0) sz (cw8 cI cL cE cP g n k u) t) (va_A (cw8 cI cL cE cP g n k u0) sz)) 1 6 (va_A (cw8 cI cL cE cP g n k u0) sz) := by
  refine va_MetW (cc := cL_act) (maxL := 6) (ret := (some .int)) (hh := [(0, 192, 193, 13), (0, 192, 198, 16), (0, 192, 203, 19)]) (by decide) rfl ?_
  intro p e s m args below meth c s₁ B hml hv
  obtain ⟨rfl, hsz, hE, hP, hD0, hX, hU0, hN, hO0, hO1⟩ := hv
  subst hsz
  obtain ⟨A, hAe⟩ : ∃ A, A = va_A (cw8 cI cL cE cP g n k u0) s.heap.size := ⟨_, rfl⟩
  have hD : va_D A (cw8 cI cL cE cP g n k u0) := by rw [hAe]; exact hD0.self
  have hA : ∀ q : Nat, s.heap.size ≤ q → A q := fun q h => by rw [hAe]; exact Or.inr h
  have hU : zU A s s.heap := by rw [hAe]; exact hU0
  have hx := B.exec
  have hb := B.bytes
  have hr := B.returns
  have hts := atoms_spec (ws := wsL_act) B.pre
  have hown : s.vm.findClass RL = some m.cls := findClass_of_methodNamed B.named
  have hlocks := B.notSynchronized
  have htb := vx_table (x := yX3_init) B (hts (.codeWith yL_act cL_act 6 (some .int) [(0, 192, 193, 13), (0, 192, 198, 16), (0, 192, 203, 19)]) List.mem_cons_self)
  have C : CJ p l ({ frames := 20, cells := 1, slots := 6, locals := 1000 }) s m _ c cL_act 6 wsL_act D cI cL cE cP A s.heap := ⟨hx, hb, hml, hown, hts, hE, hX, hN, hU, hA, hfl, Nat.le_of_ble_eq_true rfl, Nat.le_of_ble_eq_true rfl, hO0, hO1⟩
  have hJ : LJ D cI cL cE cP A s.heap (u0.1 0) g n k s.heap [] := ⟨hok, h9, u0, rfl, hP, hD, va_S.rf⟩
  have hl := lv_entry ([.ref (u0.1 0), .int 4, .int a, .int b, .int d]) (n := 6) (Nat.le_of_ble_eq_true rfl)
  rw [lg_entry_eq]
  generalize (lg_sl ([.ref (u0.1 0), .int 4, .int a, .int b, .int d]) ++ List.replicate (6 - (lg_sl ([.ref (u0.1 0), .int 4, .int a, .int b, .int d])).length) Slot.unset).toArray = ls at hl ⊢
  have hl : lv_has ls 6 [(0, .ref (u0.1 0)), (1, .int 4), (2, .int a), (3, .int b), (4, .int d)] := hl
  refine lv_iload_n hx hb dL_act_0 rfl (lv_at hl 1 rfl) ?_
  refine lv_if_ne (tgt := 15) hx hb dL_act_1 (by decide) (fun _ => ?_) (fun h => absurd h (by decide +kernel))
  refine lv_iload_n hx hb dL_act_15 rfl (lv_at hl 1 rfl) ?_
  refine lv_iconst (v := 1) hx hb dL_act_16 (by decide) ?_
  refine lv_icmp_ne (tgt := 28) hx hb dL_act_17 (by decide) (fun _ => ?_) (fun h => absurd h (by decide +kernel))
  refine lv_iload_n hx hb dL_act_28 rfl (lv_at hl 1 rfl) ?_
  refine lv_iconst (v := 2) hx hb dL_act_29 (by decide) ?_
  refine lv_icmp_ne (tgt := 41) hx hb dL_act_30 (by decide) (fun _ => ?_) (fun h => absurd h (by decide +kernel))
  refine lv_iload_n hx hb dL_act_41 rfl (lv_at hl 1 rfl) ?_
  refine lv_iconst (v := 3) hx hb dL_act_42 (by decide) ?_
  refine lv_icmp_ne (tgt := 55) hx hb dL_act_43 (by decide) (fun _ => ?_) (fun h => absurd h (by decide +kernel))
  refine lv_iload_n hx hb dL_act_55 rfl (lv_at hl 1 rfl) ?_
  refine lv_iconst (v := 4) hx hb dL_act_56 (by decide) ?_
  refine lv_icmp_ne (tgt := 69) hx hb dL_act_57 (by decide) (fun h => absurd h (by decide +kernel)) (fun _ => ?_)
  refine lv_aload_n hx hb dL_act_60 rfl (lv_at hl 0 rfl) ?_
  refine lv_iload_n hx hb dL_act_61 rfl (lv_at hl 2 rfl) ?_
  refine lv_iload_n hx hb dL_act_62 rfl (lv_at hl 3 rfl) ?_
  refine st_setClass C gL_act_X3_setClass dL_act_63 hl.1 (Nat.le_of_ble_eq_true rfl) ⟨Nat.le_of_ble_eq_true rfl, Nat.le_of_ble_eq_true rfl⟩ hJ a b (fun E ce q9 H locs hxp hJ hq hqv hqc => ?_) (fun H locs h hJ => absurd (hT.symm.trans h) (by decide))
  obtain ⟨hEx, h⟩ := hxp
  subst hEx
  refine vx_catch (name := "java/lang/IndexOutOfBoundsException") hown [] (⟨0, 192, 193, 13⟩ : ExceptionTableEntry) [(⟨0, 192, 198, 16⟩ : ExceptionTableEntry), (⟨0, 192, 203, 19⟩ : ExceptionTableEntry)] (by rw [htb]; rfl) (fun z hz => nomatch hz) (by decide) (by decide) (hts (.classLink RL 13 "java/lang/IndexOutOfBoundsException") (by decide +kernel)) (va_Nw.use rfl (hX.1 (.castable "java/lang/IndexOutOfBoundsException" "java/lang/IndexOutOfBoundsException") (by decide +kernel))) hq hqv hqc ?_
  refine lv_astore (lv' := [(5, .ref q9), (0, .ref (u0.1 0)), (1, .int 4), (2, .int a), (3, .int b), (4, .int d)]) hx hb dL_act_193 hl (by decide) rfl (fun ls hl => ?_)
  refine lv_ldc (v := (-900000001)) hx hb hown (hts (.constant RL 15 (-900000001)) (by decide +kernel)) dL_act_195 ?_
  exact le_ret (post := fun r => r = -900000001) C hr hlocks rfl hAe hJ rfl dL_act_197
set_option maxHeartbeats 4000000 in
set_option maxRecDepth 100000 in
theorem zL_act_5_1 (l : Launch) (hfl : l.stackTraces = false) (D : va_G) (cI cL cE cP : ClassId) (g : Nat → Nat → Int32) (n k : Nat) (u0 : U8) (hok : zOk g n k) (h9 : zH9 g n) (a b d : Int32) (hT : T_guarantee n a b d = 1) (sz : Nat) : Met l yL_act wsL_act ({ frames := 20, cells := 1, slots := 6, locals := 1000 }) (zPy D cI cL cE cP (cw8 cI cL cE cP g n k u0) sz [.ref (u0.1 0), .int 5, .int a, .int b, .int d]) (va_Qi (fun (r : Int32) (u : U8) => r = -900000001 ∧ u.1 0 = u0.1 0) (fun u t => zB D (cw8 cI cL cE cP g n k u0) sz (cw8 cI cL cE cP g n k u) t) (va_A (cw8 cI cL cE cP g n k u0) sz)) 1 6 (va_A (cw8 cI cL cE cP g n k u0) sz) := by
  refine va_MetW (cc := cL_act) (maxL := 6) (ret := (some .int)) (hh := [(0, 192, 193, 13), (0, 192, 198, 16), (0, 192, 203, 19)]) (by decide) rfl ?_
  intro p e s m args below meth c s₁ B hml hv
  obtain ⟨rfl, hsz, hE, hP, hD0, hX, hU0, hN, hO0, hO1⟩ := hv
  subst hsz
  obtain ⟨A, hAe⟩ : ∃ A, A = va_A (cw8 cI cL cE cP g n k u0) s.heap.size := ⟨_, rfl⟩
  have hD : va_D A (cw8 cI cL cE cP g n k u0) := by rw [hAe]; exact hD0.self
  have hA : ∀ q : Nat, s.heap.size ≤ q → A q := fun q h => by rw [hAe]; exact Or.inr h
  have hU : zU A s s.heap := by rw [hAe]; exact hU0
  have hx := B.exec
  have hb := B.bytes
  have hr := B.returns
  have hts := atoms_spec (ws := wsL_act) B.pre
  have hown : s.vm.findClass RL = some m.cls := findClass_of_methodNamed B.named
  have hlocks := B.notSynchronized
  have htb := vx_table (x := yX3_init) B (hts (.codeWith yL_act cL_act 6 (some .int) [(0, 192, 193, 13), (0, 192, 198, 16), (0, 192, 203, 19)]) List.mem_cons_self)
  have C : CJ p l ({ frames := 20, cells := 1, slots := 6, locals := 1000 }) s m _ c cL_act 6 wsL_act D cI cL cE cP A s.heap := ⟨hx, hb, hml, hown, hts, hE, hX, hN, hU, hA, hfl, Nat.le_of_ble_eq_true rfl, Nat.le_of_ble_eq_true rfl, hO0, hO1⟩
  have hJ : LJ D cI cL cE cP A s.heap (u0.1 0) g n k s.heap [] := ⟨hok, h9, u0, rfl, hP, hD, va_S.rf⟩
  have hl := lv_entry ([.ref (u0.1 0), .int 5, .int a, .int b, .int d]) (n := 6) (Nat.le_of_ble_eq_true rfl)
  rw [lg_entry_eq]
  generalize (lg_sl ([.ref (u0.1 0), .int 5, .int a, .int b, .int d]) ++ List.replicate (6 - (lg_sl ([.ref (u0.1 0), .int 5, .int a, .int b, .int d])).length) Slot.unset).toArray = ls at hl ⊢
  have hl : lv_has ls 6 [(0, .ref (u0.1 0)), (1, .int 5), (2, .int a), (3, .int b), (4, .int d)] := hl
  refine lv_iload_n hx hb dL_act_0 rfl (lv_at hl 1 rfl) ?_
  refine lv_if_ne (tgt := 15) hx hb dL_act_1 (by decide) (fun _ => ?_) (fun h => absurd h (by decide +kernel))
  refine lv_iload_n hx hb dL_act_15 rfl (lv_at hl 1 rfl) ?_
  refine lv_iconst (v := 1) hx hb dL_act_16 (by decide) ?_
  refine lv_icmp_ne (tgt := 28) hx hb dL_act_17 (by decide) (fun _ => ?_) (fun h => absurd h (by decide +kernel))
  refine lv_iload_n hx hb dL_act_28 rfl (lv_at hl 1 rfl) ?_
  refine lv_iconst (v := 2) hx hb dL_act_29 (by decide) ?_
  refine lv_icmp_ne (tgt := 41) hx hb dL_act_30 (by decide) (fun _ => ?_) (fun h => absurd h (by decide +kernel))
  refine lv_iload_n hx hb dL_act_41 rfl (lv_at hl 1 rfl) ?_
  refine lv_iconst (v := 3) hx hb dL_act_42 (by decide) ?_
  refine lv_icmp_ne (tgt := 55) hx hb dL_act_43 (by decide) (fun _ => ?_) (fun h => absurd h (by decide +kernel))
  refine lv_iload_n hx hb dL_act_55 rfl (lv_at hl 1 rfl) ?_
  refine lv_iconst (v := 4) hx hb dL_act_56 (by decide) ?_
  refine lv_icmp_ne (tgt := 69) hx hb dL_act_57 (by decide) (fun _ => ?_) (fun h => absurd h (by decide +kernel))
  refine lv_iload_n hx hb dL_act_69 rfl (lv_at hl 1 rfl) ?_
  refine lv_iconst (v := 5) hx hb dL_act_70 (by decide) ?_
  refine lv_icmp_ne (tgt := 85) hx hb dL_act_71 (by decide) (fun h => absurd h (by decide +kernel)) (fun _ => ?_)
  refine lv_aload_n hx hb dL_act_74 rfl (lv_at hl 0 rfl) ?_
  refine lv_iload_n hx hb dL_act_75 rfl (lv_at hl 2 rfl) ?_
  refine lv_iload_n hx hb dL_act_76 rfl (lv_at hl 3 rfl) ?_
  refine lv_iload hx hb dL_act_77 (lv_at hl 4 rfl) ?_
  refine st_guarantee C gL_act_X3_guarantee dL_act_79 hl.1 (Nat.le_of_ble_eq_true rfl) ⟨Nat.le_of_ble_eq_true rfl, Nat.le_of_ble_eq_true rfl⟩ hJ a b d (fun E ce q9 H locs hxp hJ hq hqv hqc => ?_) (fun H locs h hJ => absurd (hT.symm.trans h) (by decide))
  rcases hxp with ⟨hEx, h⟩ | ⟨hEx, h⟩
  · subst hEx
    refine vx_catch (name := "java/lang/IndexOutOfBoundsException") hown [] (⟨0, 192, 193, 13⟩ : ExceptionTableEntry) [(⟨0, 192, 198, 16⟩ : ExceptionTableEntry), (⟨0, 192, 203, 19⟩ : ExceptionTableEntry)] (by rw [htb]; rfl) (fun z hz => nomatch hz) (by decide) (by decide) (hts (.classLink RL 13 "java/lang/IndexOutOfBoundsException") (by decide +kernel)) (va_Nw.use rfl (hX.1 (.castable "java/lang/IndexOutOfBoundsException" "java/lang/IndexOutOfBoundsException") (by decide +kernel))) hq hqv hqc ?_
    refine lv_astore (lv' := [(5, .ref q9), (0, .ref (u0.1 0)), (1, .int 5), (2, .int a), (3, .int b), (4, .int d)]) hx hb dL_act_193 hl (by decide) rfl (fun ls hl => ?_)
    refine lv_ldc (v := (-900000001)) hx hb hown (hts (.constant RL 15 (-900000001)) (by decide +kernel)) dL_act_195 ?_
    exact le_ret (post := fun r => r = -900000001) C hr hlocks rfl hAe hJ rfl dL_act_197
  · exact absurd (hT.symm.trans h) (by decide)
set_option maxHeartbeats 4000000 in
set_option maxRecDepth 100000 in
theorem zL_act_5_2 (l : Launch) (hfl : l.stackTraces = false) (D : va_G) (cI cL cE cP : ClassId) (g : Nat → Nat → Int32) (n k : Nat) (u0 : U8) (hok : zOk g n k) (h9 : zH9 g n) (a b d : Int32) (hT : T_guarantee n a b d = 2) (sz : Nat) : Met l yL_act wsL_act ({ frames := 20, cells := 1, slots := 6, locals := 1000 }) (zPy D cI cL cE cP (cw8 cI cL cE cP g n k u0) sz [.ref (u0.1 0), .int 5, .int a, .int b, .int d]) (va_Qi (fun (r : Int32) (u : U8) => r = -900000002 ∧ u.1 0 = u0.1 0) (fun u t => zB D (cw8 cI cL cE cP g n k u0) sz (cw8 cI cL cE cP g n k u) t) (va_A (cw8 cI cL cE cP g n k u0) sz)) 1 6 (va_A (cw8 cI cL cE cP g n k u0) sz) := by
  refine va_MetW (cc := cL_act) (maxL := 6) (ret := (some .int)) (hh := [(0, 192, 193, 13), (0, 192, 198, 16), (0, 192, 203, 19)]) (by decide) rfl ?_
  intro p e s m args below meth c s₁ B hml hv
  obtain ⟨rfl, hsz, hE, hP, hD0, hX, hU0, hN, hO0, hO1⟩ := hv
  subst hsz
  obtain ⟨A, hAe⟩ : ∃ A, A = va_A (cw8 cI cL cE cP g n k u0) s.heap.size := ⟨_, rfl⟩
  have hD : va_D A (cw8 cI cL cE cP g n k u0) := by rw [hAe]; exact hD0.self
  have hA : ∀ q : Nat, s.heap.size ≤ q → A q := fun q h => by rw [hAe]; exact Or.inr h
  have hU : zU A s s.heap := by rw [hAe]; exact hU0
  have hx := B.exec
  have hb := B.bytes
  have hr := B.returns
  have hts := atoms_spec (ws := wsL_act) B.pre
  have hown : s.vm.findClass RL = some m.cls := findClass_of_methodNamed B.named
  have hlocks := B.notSynchronized
  have htb := vx_table (x := yX3_init) B (hts (.codeWith yL_act cL_act 6 (some .int) [(0, 192, 193, 13), (0, 192, 198, 16), (0, 192, 203, 19)]) List.mem_cons_self)
  have C : CJ p l ({ frames := 20, cells := 1, slots := 6, locals := 1000 }) s m _ c cL_act 6 wsL_act D cI cL cE cP A s.heap := ⟨hx, hb, hml, hown, hts, hE, hX, hN, hU, hA, hfl, Nat.le_of_ble_eq_true rfl, Nat.le_of_ble_eq_true rfl, hO0, hO1⟩
  have hJ : LJ D cI cL cE cP A s.heap (u0.1 0) g n k s.heap [] := ⟨hok, h9, u0, rfl, hP, hD, va_S.rf⟩
  have hl := lv_entry ([.ref (u0.1 0), .int 5, .int a, .int b, .int d]) (n := 6) (Nat.le_of_ble_eq_true rfl)
  rw [lg_entry_eq]
  generalize (lg_sl ([.ref (u0.1 0), .int 5, .int a, .int b, .int d]) ++ List.replicate (6 - (lg_sl ([.ref (u0.1 0), .int 5, .int a, .int b, .int d])).length) Slot.unset).toArray = ls at hl ⊢
  have hl : lv_has ls 6 [(0, .ref (u0.1 0)), (1, .int 5), (2, .int a), (3, .int b), (4, .int d)] := hl
  refine lv_iload_n hx hb dL_act_0 rfl (lv_at hl 1 rfl) ?_
  refine lv_if_ne (tgt := 15) hx hb dL_act_1 (by decide) (fun _ => ?_) (fun h => absurd h (by decide +kernel))
  refine lv_iload_n hx hb dL_act_15 rfl (lv_at hl 1 rfl) ?_
  refine lv_iconst (v := 1) hx hb dL_act_16 (by decide) ?_
  refine lv_icmp_ne (tgt := 28) hx hb dL_act_17 (by decide) (fun _ => ?_) (fun h => absurd h (by decide +kernel))
  refine lv_iload_n hx hb dL_act_28 rfl (lv_at hl 1 rfl) ?_
  refine lv_iconst (v := 2) hx hb dL_act_29 (by decide) ?_
  refine lv_icmp_ne (tgt := 41) hx hb dL_act_30 (by decide) (fun _ => ?_) (fun h => absurd h (by decide +kernel))
  refine lv_iload_n hx hb dL_act_41 rfl (lv_at hl 1 rfl) ?_
  refine lv_iconst (v := 3) hx hb dL_act_42 (by decide) ?_
  refine lv_icmp_ne (tgt := 55) hx hb dL_act_43 (by decide) (fun _ => ?_) (fun h => absurd h (by decide +kernel))
  refine lv_iload_n hx hb dL_act_55 rfl (lv_at hl 1 rfl) ?_
  refine lv_iconst (v := 4) hx hb dL_act_56 (by decide) ?_
  refine lv_icmp_ne (tgt := 69) hx hb dL_act_57 (by decide) (fun _ => ?_) (fun h => absurd h (by decide +kernel))
  refine lv_iload_n hx hb dL_act_69 rfl (lv_at hl 1 rfl) ?_
  refine lv_iconst (v := 5) hx hb dL_act_70 (by decide) ?_
  refine lv_icmp_ne (tgt := 85) hx hb dL_act_71 (by decide) (fun h => absurd h (by decide +kernel)) (fun _ => ?_)
  refine lv_aload_n hx hb dL_act_74 rfl (lv_at hl 0 rfl) ?_
  refine lv_iload_n hx hb dL_act_75 rfl (lv_at hl 2 rfl) ?_
  refine lv_iload_n hx hb dL_act_76 rfl (lv_at hl 3 rfl) ?_
  refine lv_iload hx hb dL_act_77 (lv_at hl 4 rfl) ?_
  refine st_guarantee C gL_act_X3_guarantee dL_act_79 hl.1 (Nat.le_of_ble_eq_true rfl) ⟨Nat.le_of_ble_eq_true rfl, Nat.le_of_ble_eq_true rfl⟩ hJ a b d (fun E ce q9 H locs hxp hJ hq hqv hqc => ?_) (fun H locs h hJ => absurd (hT.symm.trans h) (by decide))
  rcases hxp with ⟨hEx, h⟩ | ⟨hEx, h⟩
  · exact absurd (hT.symm.trans h) (by decide)
  · subst hEx
    refine vx_catch (name := "java/lang/IllegalArgumentException") hown [(⟨0, 192, 193, 13⟩ : ExceptionTableEntry)] (⟨0, 192, 198, 16⟩ : ExceptionTableEntry) [(⟨0, 192, 203, 19⟩ : ExceptionTableEntry)] (by rw [htb]; rfl) (fun z hz => by obtain rfl := List.mem_singleton.mp hz; exact Or.inr ⟨by decide, "java/lang/IndexOutOfBoundsException", hts (.classLink RL 13 "java/lang/IndexOutOfBoundsException") (by decide +kernel), hN.1⟩) (by decide) (by decide) (hts (.classLink RL 16 "java/lang/IllegalArgumentException") (by decide +kernel)) (va_Nw.use rfl (hX.1 (.castable "java/lang/IllegalArgumentException" "java/lang/IllegalArgumentException") (by decide +kernel))) hq hqv hqc ?_
    refine lv_astore (lv' := [(5, .ref q9), (0, .ref (u0.1 0)), (1, .int 5), (2, .int a), (3, .int b), (4, .int d)]) hx hb dL_act_198 hl (by decide) rfl (fun ls hl => ?_)
    refine lv_ldc (v := (-900000002)) hx hb hown (hts (.constant RL 18 (-900000002)) (by decide +kernel)) dL_act_200 ?_
    exact le_ret (post := fun r => r = -900000002) C hr hlocks rfl hAe hJ rfl dL_act_202
set_option maxHeartbeats 4000000 in
set_option maxRecDepth 100000 in
theorem zL_act_6_1 (l : Launch) (hfl : l.stackTraces = false) (D : va_G) (cI cL cE cP : ClassId) (g : Nat → Nat → Int32) (n k : Nat) (u0 : U8) (hok : zOk g n k) (h9 : zH9 g n) (a b d : Int32) (hT : T_amount n a = 1) (sz : Nat) : Met l yL_act wsL_act ({ frames := 20, cells := 1, slots := 6, locals := 1000 }) (zPy D cI cL cE cP (cw8 cI cL cE cP g n k u0) sz [.ref (u0.1 0), .int 6, .int a, .int b, .int d]) (va_Qi (fun (r : Int32) (u : U8) => r = -900000001 ∧ u.1 0 = u0.1 0) (fun u t => zB D (cw8 cI cL cE cP g n k u0) sz (cw8 cI cL cE cP g n k u) t) (va_A (cw8 cI cL cE cP g n k u0) sz)) 1 6 (va_A (cw8 cI cL cE cP g n k u0) sz) := by
  refine va_MetW (cc := cL_act) (maxL := 6) (ret := (some .int)) (hh := [(0, 192, 193, 13), (0, 192, 198, 16), (0, 192, 203, 19)]) (by decide) rfl ?_
  intro p e s m args below meth c s₁ B hml hv
  obtain ⟨rfl, hsz, hE, hP, hD0, hX, hU0, hN, hO0, hO1⟩ := hv
  subst hsz
  obtain ⟨A, hAe⟩ : ∃ A, A = va_A (cw8 cI cL cE cP g n k u0) s.heap.size := ⟨_, rfl⟩
  have hD : va_D A (cw8 cI cL cE cP g n k u0) := by rw [hAe]; exact hD0.self
  have hA : ∀ q : Nat, s.heap.size ≤ q → A q := fun q h => by rw [hAe]; exact Or.inr h
  have hU : zU A s s.heap := by rw [hAe]; exact hU0
  have hx := B.exec
  have hb := B.bytes
  have hr := B.returns
  have hts := atoms_spec (ws := wsL_act) B.pre
  have hown : s.vm.findClass RL = some m.cls := findClass_of_methodNamed B.named
  have hlocks := B.notSynchronized
  have htb := vx_table (x := yX3_init) B (hts (.codeWith yL_act cL_act 6 (some .int) [(0, 192, 193, 13), (0, 192, 198, 16), (0, 192, 203, 19)]) List.mem_cons_self)
  have C : CJ p l ({ frames := 20, cells := 1, slots := 6, locals := 1000 }) s m _ c cL_act 6 wsL_act D cI cL cE cP A s.heap := ⟨hx, hb, hml, hown, hts, hE, hX, hN, hU, hA, hfl, Nat.le_of_ble_eq_true rfl, Nat.le_of_ble_eq_true rfl, hO0, hO1⟩
  have hJ : LJ D cI cL cE cP A s.heap (u0.1 0) g n k s.heap [] := ⟨hok, h9, u0, rfl, hP, hD, va_S.rf⟩
  have hl := lv_entry ([.ref (u0.1 0), .int 6, .int a, .int b, .int d]) (n := 6) (Nat.le_of_ble_eq_true rfl)
  rw [lg_entry_eq]
  generalize (lg_sl ([.ref (u0.1 0), .int 6, .int a, .int b, .int d]) ++ List.replicate (6 - (lg_sl ([.ref (u0.1 0), .int 6, .int a, .int b, .int d])).length) Slot.unset).toArray = ls at hl ⊢
  have hl : lv_has ls 6 [(0, .ref (u0.1 0)), (1, .int 6), (2, .int a), (3, .int b), (4, .int d)] := hl
  refine lv_iload_n hx hb dL_act_0 rfl (lv_at hl 1 rfl) ?_
  refine lv_if_ne (tgt := 15) hx hb dL_act_1 (by decide) (fun _ => ?_) (fun h => absurd h (by decide +kernel))
  refine lv_iload_n hx hb dL_act_15 rfl (lv_at hl 1 rfl) ?_
  refine lv_iconst (v := 1) hx hb dL_act_16 (by decide) ?_
  refine lv_icmp_ne (tgt := 28) hx hb dL_act_17 (by decide) (fun _ => ?_) (fun h => absurd h (by decide +kernel))
  refine lv_iload_n hx hb dL_act_28 rfl (lv_at hl 1 rfl) ?_
  refine lv_iconst (v := 2) hx hb dL_act_29 (by decide) ?_
  refine lv_icmp_ne (tgt := 41) hx hb dL_act_30 (by decide) (fun _ => ?_) (fun h => absurd h (by decide +kernel))
  refine lv_iload_n hx hb dL_act_41 rfl (lv_at hl 1 rfl) ?_
  refine lv_iconst (v := 3) hx hb dL_act_42 (by decide) ?_
  refine lv_icmp_ne (tgt := 55) hx hb dL_act_43 (by decide) (fun _ => ?_) (fun h => absurd h (by decide +kernel))
  refine lv_iload_n hx hb dL_act_55 rfl (lv_at hl 1 rfl) ?_
  refine lv_iconst (v := 4) hx hb dL_act_56 (by decide) ?_
  refine lv_icmp_ne (tgt := 69) hx hb dL_act_57 (by decide) (fun _ => ?_) (fun h => absurd h (by decide +kernel))
  refine lv_iload_n hx hb dL_act_69 rfl (lv_at hl 1 rfl) ?_
  refine lv_iconst (v := 5) hx hb dL_act_70 (by decide) ?_
  refine lv_icmp_ne (tgt := 85) hx hb dL_act_71 (by decide) (fun _ => ?_) (fun h => absurd h (by decide +kernel))
  refine lv_iload_n hx hb dL_act_85 rfl (lv_at hl 1 rfl) ?_
  refine lv_bipush (v := 6) hx hb dL_act_86 (by decide) ?_
  refine lv_icmp_ne (tgt := 99) hx hb dL_act_88 (by decide) (fun h => absurd h (by decide +kernel)) (fun _ => ?_)
  refine lv_aload_n hx hb dL_act_91 rfl (lv_at hl 0 rfl) ?_
  refine lv_iload_n hx hb dL_act_92 rfl (lv_at hl 2 rfl) ?_
  refine st_amount C gL_act_X3_amount dL_act_93 hl.1 (Nat.le_of_ble_eq_true rfl) ⟨Nat.le_of_ble_eq_true rfl, Nat.le_of_ble_eq_true rfl⟩ hJ a (fun E ce q9 H locs hxp hJ hq hqv hqc => ?_) (fun H locs h hJ => absurd (hT.symm.trans h) (by decide))
  obtain ⟨hEx, h⟩ := hxp
  subst hEx
  refine vx_catch (name := "java/lang/IndexOutOfBoundsException") hown [] (⟨0, 192, 193, 13⟩ : ExceptionTableEntry) [(⟨0, 192, 198, 16⟩ : ExceptionTableEntry), (⟨0, 192, 203, 19⟩ : ExceptionTableEntry)] (by rw [htb]; rfl) (fun z hz => nomatch hz) (by decide) (by decide) (hts (.classLink RL 13 "java/lang/IndexOutOfBoundsException") (by decide +kernel)) (va_Nw.use rfl (hX.1 (.castable "java/lang/IndexOutOfBoundsException" "java/lang/IndexOutOfBoundsException") (by decide +kernel))) hq hqv hqc ?_
  refine lv_astore (lv' := [(5, .ref q9), (0, .ref (u0.1 0)), (1, .int 6), (2, .int a), (3, .int b), (4, .int d)]) hx hb dL_act_193 hl (by decide) rfl (fun ls hl => ?_)
  refine lv_ldc (v := (-900000001)) hx hb hown (hts (.constant RL 15 (-900000001)) (by decide +kernel)) dL_act_195 ?_
  exact le_ret (post := fun r => r = -900000001) C hr hlocks rfl hAe hJ rfl dL_act_197
set_option maxHeartbeats 4000000 in
set_option maxRecDepth 100000 in
theorem zL_act_7_1 (l : Launch) (hfl : l.stackTraces = false) (D : va_G) (cI cL cE cP : ClassId) (g : Nat → Nat → Int32) (n k : Nat) (u0 : U8) (hok : zOk g n k) (h9 : zH9 g n) (a b d : Int32) (hT : T_setPiece k a b d = 1) (sz : Nat) : Met l yL_act wsL_act ({ frames := 20, cells := 1, slots := 6, locals := 1000 }) (zPy D cI cL cE cP (cw8 cI cL cE cP g n k u0) sz [.ref (u0.1 0), .int 7, .int a, .int b, .int d]) (va_Qi (fun (r : Int32) (u : U8) => r = -900000001 ∧ u.1 0 = u0.1 0) (fun u t => zB D (cw8 cI cL cE cP g n k u0) sz (cw8 cI cL cE cP g n k u) t) (va_A (cw8 cI cL cE cP g n k u0) sz)) 1 6 (va_A (cw8 cI cL cE cP g n k u0) sz) := by
  refine va_MetW (cc := cL_act) (maxL := 6) (ret := (some .int)) (hh := [(0, 192, 193, 13), (0, 192, 198, 16), (0, 192, 203, 19)]) (by decide) rfl ?_
  intro p e s m args below meth c s₁ B hml hv
  obtain ⟨rfl, hsz, hE, hP, hD0, hX, hU0, hN, hO0, hO1⟩ := hv
  subst hsz
  obtain ⟨A, hAe⟩ : ∃ A, A = va_A (cw8 cI cL cE cP g n k u0) s.heap.size := ⟨_, rfl⟩
  have hD : va_D A (cw8 cI cL cE cP g n k u0) := by rw [hAe]; exact hD0.self
  have hA : ∀ q : Nat, s.heap.size ≤ q → A q := fun q h => by rw [hAe]; exact Or.inr h
  have hU : zU A s s.heap := by rw [hAe]; exact hU0
  have hx := B.exec
  have hb := B.bytes
  have hr := B.returns
  have hts := atoms_spec (ws := wsL_act) B.pre
  have hown : s.vm.findClass RL = some m.cls := findClass_of_methodNamed B.named
  have hlocks := B.notSynchronized
  have htb := vx_table (x := yX3_init) B (hts (.codeWith yL_act cL_act 6 (some .int) [(0, 192, 193, 13), (0, 192, 198, 16), (0, 192, 203, 19)]) List.mem_cons_self)
  have C : CJ p l ({ frames := 20, cells := 1, slots := 6, locals := 1000 }) s m _ c cL_act 6 wsL_act D cI cL cE cP A s.heap := ⟨hx, hb, hml, hown, hts, hE, hX, hN, hU, hA, hfl, Nat.le_of_ble_eq_true rfl, Nat.le_of_ble_eq_true rfl, hO0, hO1⟩
  have hJ : LJ D cI cL cE cP A s.heap (u0.1 0) g n k s.heap [] := ⟨hok, h9, u0, rfl, hP, hD, va_S.rf⟩
  have hl := lv_entry ([.ref (u0.1 0), .int 7, .int a, .int b, .int d]) (n := 6) (Nat.le_of_ble_eq_true rfl)
  rw [lg_entry_eq]
  generalize (lg_sl ([.ref (u0.1 0), .int 7, .int a, .int b, .int d]) ++ List.replicate (6 - (lg_sl ([.ref (u0.1 0), .int 7, .int a, .int b, .int d])).length) Slot.unset).toArray = ls at hl ⊢
  have hl : lv_has ls 6 [(0, .ref (u0.1 0)), (1, .int 7), (2, .int a), (3, .int b), (4, .int d)] := hl
  refine lv_iload_n hx hb dL_act_0 rfl (lv_at hl 1 rfl) ?_
  refine lv_if_ne (tgt := 15) hx hb dL_act_1 (by decide) (fun _ => ?_) (fun h => absurd h (by decide +kernel))
  refine lv_iload_n hx hb dL_act_15 rfl (lv_at hl 1 rfl) ?_
  refine lv_iconst (v := 1) hx hb dL_act_16 (by decide) ?_
  refine lv_icmp_ne (tgt := 28) hx hb dL_act_17 (by decide) (fun _ => ?_) (fun h => absurd h (by decide +kernel))
  refine lv_iload_n hx hb dL_act_28 rfl (lv_at hl 1 rfl) ?_
  refine lv_iconst (v := 2) hx hb dL_act_29 (by decide) ?_
  refine lv_icmp_ne (tgt := 41) hx hb dL_act_30 (by decide) (fun _ => ?_) (fun h => absurd h (by decide +kernel))
  refine lv_iload_n hx hb dL_act_41 rfl (lv_at hl 1 rfl) ?_
  refine lv_iconst (v := 3) hx hb dL_act_42 (by decide) ?_
  refine lv_icmp_ne (tgt := 55) hx hb dL_act_43 (by decide) (fun _ => ?_) (fun h => absurd h (by decide +kernel))
  refine lv_iload_n hx hb dL_act_55 rfl (lv_at hl 1 rfl) ?_
  refine lv_iconst (v := 4) hx hb dL_act_56 (by decide) ?_
  refine lv_icmp_ne (tgt := 69) hx hb dL_act_57 (by decide) (fun _ => ?_) (fun h => absurd h (by decide +kernel))
  refine lv_iload_n hx hb dL_act_69 rfl (lv_at hl 1 rfl) ?_
  refine lv_iconst (v := 5) hx hb dL_act_70 (by decide) ?_
  refine lv_icmp_ne (tgt := 85) hx hb dL_act_71 (by decide) (fun _ => ?_) (fun h => absurd h (by decide +kernel))
  refine lv_iload_n hx hb dL_act_85 rfl (lv_at hl 1 rfl) ?_
  refine lv_bipush (v := 6) hx hb dL_act_86 (by decide) ?_
  refine lv_icmp_ne (tgt := 99) hx hb dL_act_88 (by decide) (fun _ => ?_) (fun h => absurd h (by decide +kernel))
  refine lv_iload_n hx hb dL_act_99 rfl (lv_at hl 1 rfl) ?_
  refine lv_bipush (v := 7) hx hb dL_act_100 (by decide) ?_
  refine lv_icmp_ne (tgt := 116) hx hb dL_act_102 (by decide) (fun h => absurd h (by decide +kernel)) (fun _ => ?_)
  refine lv_aload_n hx hb dL_act_105 rfl (lv_at hl 0 rfl) ?_
  refine lv_iload_n hx hb dL_act_106 rfl (lv_at hl 2 rfl) ?_
  refine lv_iload_n hx hb dL_act_107 rfl (lv_at hl 3 rfl) ?_
  refine lv_iload hx hb dL_act_108 (lv_at hl 4 rfl) ?_
  refine st_setPiece C gL_act_X3_setPiece dL_act_110 hl.1 (Nat.le_of_ble_eq_true rfl) ⟨Nat.le_of_ble_eq_true rfl, Nat.le_of_ble_eq_true rfl⟩ hJ a b d (fun E ce q9 H locs hxp hJ hq hqv hqc => ?_) (fun H locs h hJ => absurd (hT.symm.trans h) (by decide))
  rcases hxp with ⟨hEx, h⟩ | ⟨hEx, h⟩
  · subst hEx
    refine vx_catch (name := "java/lang/IndexOutOfBoundsException") hown [] (⟨0, 192, 193, 13⟩ : ExceptionTableEntry) [(⟨0, 192, 198, 16⟩ : ExceptionTableEntry), (⟨0, 192, 203, 19⟩ : ExceptionTableEntry)] (by rw [htb]; rfl) (fun z hz => nomatch hz) (by decide) (by decide) (hts (.classLink RL 13 "java/lang/IndexOutOfBoundsException") (by decide +kernel)) (va_Nw.use rfl (hX.1 (.castable "java/lang/IndexOutOfBoundsException" "java/lang/IndexOutOfBoundsException") (by decide +kernel))) hq hqv hqc ?_
    refine lv_astore (lv' := [(5, .ref q9), (0, .ref (u0.1 0)), (1, .int 7), (2, .int a), (3, .int b), (4, .int d)]) hx hb dL_act_193 hl (by decide) rfl (fun ls hl => ?_)
    refine lv_ldc (v := (-900000001)) hx hb hown (hts (.constant RL 15 (-900000001)) (by decide +kernel)) dL_act_195 ?_
    exact le_ret (post := fun r => r = -900000001) C hr hlocks rfl hAe hJ rfl dL_act_197
  · exact absurd (hT.symm.trans h) (by decide)
set_option maxHeartbeats 4000000 in
set_option maxRecDepth 100000 in
theorem zL_act_7_2 (l : Launch) (hfl : l.stackTraces = false) (D : va_G) (cI cL cE cP : ClassId) (g : Nat → Nat → Int32) (n k : Nat) (u0 : U8) (hok : zOk g n k) (h9 : zH9 g n) (a b d : Int32) (hT : T_setPiece k a b d = 2) (sz : Nat) : Met l yL_act wsL_act ({ frames := 20, cells := 1, slots := 6, locals := 1000 }) (zPy D cI cL cE cP (cw8 cI cL cE cP g n k u0) sz [.ref (u0.1 0), .int 7, .int a, .int b, .int d]) (va_Qi (fun (r : Int32) (u : U8) => r = -900000002 ∧ u.1 0 = u0.1 0) (fun u t => zB D (cw8 cI cL cE cP g n k u0) sz (cw8 cI cL cE cP g n k u) t) (va_A (cw8 cI cL cE cP g n k u0) sz)) 1 6 (va_A (cw8 cI cL cE cP g n k u0) sz) := by
  refine va_MetW (cc := cL_act) (maxL := 6) (ret := (some .int)) (hh := [(0, 192, 193, 13), (0, 192, 198, 16), (0, 192, 203, 19)]) (by decide) rfl ?_
  intro p e s m args below meth c s₁ B hml hv
  obtain ⟨rfl, hsz, hE, hP, hD0, hX, hU0, hN, hO0, hO1⟩ := hv
  subst hsz
  obtain ⟨A, hAe⟩ : ∃ A, A = va_A (cw8 cI cL cE cP g n k u0) s.heap.size := ⟨_, rfl⟩
  have hD : va_D A (cw8 cI cL cE cP g n k u0) := by rw [hAe]; exact hD0.self
  have hA : ∀ q : Nat, s.heap.size ≤ q → A q := fun q h => by rw [hAe]; exact Or.inr h
  have hU : zU A s s.heap := by rw [hAe]; exact hU0
  have hx := B.exec
  have hb := B.bytes
  have hr := B.returns
  have hts := atoms_spec (ws := wsL_act) B.pre
  have hown : s.vm.findClass RL = some m.cls := findClass_of_methodNamed B.named
  have hlocks := B.notSynchronized
  have htb := vx_table (x := yX3_init) B (hts (.codeWith yL_act cL_act 6 (some .int) [(0, 192, 193, 13), (0, 192, 198, 16), (0, 192, 203, 19)]) List.mem_cons_self)
  have C : CJ p l ({ frames := 20, cells := 1, slots := 6, locals := 1000 }) s m _ c cL_act 6 wsL_act D cI cL cE cP A s.heap := ⟨hx, hb, hml, hown, hts, hE, hX, hN, hU, hA, hfl, Nat.le_of_ble_eq_true rfl, Nat.le_of_ble_eq_true rfl, hO0, hO1⟩
  have hJ : LJ D cI cL cE cP A s.heap (u0.1 0) g n k s.heap [] := ⟨hok, h9, u0, rfl, hP, hD, va_S.rf⟩
  have hl := lv_entry ([.ref (u0.1 0), .int 7, .int a, .int b, .int d]) (n := 6) (Nat.le_of_ble_eq_true rfl)
  rw [lg_entry_eq]
  generalize (lg_sl ([.ref (u0.1 0), .int 7, .int a, .int b, .int d]) ++ List.replicate (6 - (lg_sl ([.ref (u0.1 0), .int 7, .int a, .int b, .int d])).length) Slot.unset).toArray = ls at hl ⊢
  have hl : lv_has ls 6 [(0, .ref (u0.1 0)), (1, .int 7), (2, .int a), (3, .int b), (4, .int d)] := hl
  refine lv_iload_n hx hb dL_act_0 rfl (lv_at hl 1 rfl) ?_
  refine lv_if_ne (tgt := 15) hx hb dL_act_1 (by decide) (fun _ => ?_) (fun h => absurd h (by decide +kernel))
  refine lv_iload_n hx hb dL_act_15 rfl (lv_at hl 1 rfl) ?_
  refine lv_iconst (v := 1) hx hb dL_act_16 (by decide) ?_
  refine lv_icmp_ne (tgt := 28) hx hb dL_act_17 (by decide) (fun _ => ?_) (fun h => absurd h (by decide +kernel))
  refine lv_iload_n hx hb dL_act_28 rfl (lv_at hl 1 rfl) ?_
  refine lv_iconst (v := 2) hx hb dL_act_29 (by decide) ?_
  refine lv_icmp_ne (tgt := 41) hx hb dL_act_30 (by decide) (fun _ => ?_) (fun h => absurd h (by decide +kernel))
  refine lv_iload_n hx hb dL_act_41 rfl (lv_at hl 1 rfl) ?_
  refine lv_iconst (v := 3) hx hb dL_act_42 (by decide) ?_
  refine lv_icmp_ne (tgt := 55) hx hb dL_act_43 (by decide) (fun _ => ?_) (fun h => absurd h (by decide +kernel))
  refine lv_iload_n hx hb dL_act_55 rfl (lv_at hl 1 rfl) ?_
  refine lv_iconst (v := 4) hx hb dL_act_56 (by decide) ?_
  refine lv_icmp_ne (tgt := 69) hx hb dL_act_57 (by decide) (fun _ => ?_) (fun h => absurd h (by decide +kernel))
  refine lv_iload_n hx hb dL_act_69 rfl (lv_at hl 1 rfl) ?_
  refine lv_iconst (v := 5) hx hb dL_act_70 (by decide) ?_
  refine lv_icmp_ne (tgt := 85) hx hb dL_act_71 (by decide) (fun _ => ?_) (fun h => absurd h (by decide +kernel))
  refine lv_iload_n hx hb dL_act_85 rfl (lv_at hl 1 rfl) ?_
  refine lv_bipush (v := 6) hx hb dL_act_86 (by decide) ?_
  refine lv_icmp_ne (tgt := 99) hx hb dL_act_88 (by decide) (fun _ => ?_) (fun h => absurd h (by decide +kernel))
  refine lv_iload_n hx hb dL_act_99 rfl (lv_at hl 1 rfl) ?_
  refine lv_bipush (v := 7) hx hb dL_act_100 (by decide) ?_
  refine lv_icmp_ne (tgt := 116) hx hb dL_act_102 (by decide) (fun h => absurd h (by decide +kernel)) (fun _ => ?_)
  refine lv_aload_n hx hb dL_act_105 rfl (lv_at hl 0 rfl) ?_
  refine lv_iload_n hx hb dL_act_106 rfl (lv_at hl 2 rfl) ?_
  refine lv_iload_n hx hb dL_act_107 rfl (lv_at hl 3 rfl) ?_
  refine lv_iload hx hb dL_act_108 (lv_at hl 4 rfl) ?_
  refine st_setPiece C gL_act_X3_setPiece dL_act_110 hl.1 (Nat.le_of_ble_eq_true rfl) ⟨Nat.le_of_ble_eq_true rfl, Nat.le_of_ble_eq_true rfl⟩ hJ a b d (fun E ce q9 H locs hxp hJ hq hqv hqc => ?_) (fun H locs h hJ => absurd (hT.symm.trans h) (by decide))
  rcases hxp with ⟨hEx, h⟩ | ⟨hEx, h⟩
  · exact absurd (hT.symm.trans h) (by decide)
  · subst hEx
    refine vx_catch (name := "java/lang/IllegalArgumentException") hown [(⟨0, 192, 193, 13⟩ : ExceptionTableEntry)] (⟨0, 192, 198, 16⟩ : ExceptionTableEntry) [(⟨0, 192, 203, 19⟩ : ExceptionTableEntry)] (by rw [htb]; rfl) (fun z hz => by obtain rfl := List.mem_singleton.mp hz; exact Or.inr ⟨by decide, "java/lang/IndexOutOfBoundsException", hts (.classLink RL 13 "java/lang/IndexOutOfBoundsException") (by decide +kernel), hN.1⟩) (by decide) (by decide) (hts (.classLink RL 16 "java/lang/IllegalArgumentException") (by decide +kernel)) (va_Nw.use rfl (hX.1 (.castable "java/lang/IllegalArgumentException" "java/lang/IllegalArgumentException") (by decide +kernel))) hq hqv hqc ?_
    refine lv_astore (lv' := [(5, .ref q9), (0, .ref (u0.1 0)), (1, .int 7), (2, .int a), (3, .int b), (4, .int d)]) hx hb dL_act_198 hl (by decide) rfl (fun ls hl => ?_)
    refine lv_ldc (v := (-900000002)) hx hb hown (hts (.constant RL 18 (-900000002)) (by decide +kernel)) dL_act_200 ?_
    exact le_ret (post := fun r => r = -900000002) C hr hlocks rfl hAe hJ rfl dL_act_202
set_option maxHeartbeats 4000000 in
set_option maxRecDepth 100000 in
theorem zL_act_8_1 (l : Launch) (hfl : l.stackTraces = false) (D : va_G) (cI cL cE cP : ClassId) (g : Nat → Nat → Int32) (n k : Nat) (u0 : U8) (hok : zOk g n k) (h9 : zH9 g n) (a b d : Int32) (hT : T_value n k a b = 1) (sz : Nat) : Met l yL_act wsL_act ({ frames := 20, cells := 1, slots := 6, locals := 1000 }) (zPy D cI cL cE cP (cw8 cI cL cE cP g n k u0) sz [.ref (u0.1 0), .int 8, .int a, .int b, .int d]) (va_Qi (fun (r : Int32) (u : U8) => r = -900000001 ∧ u.1 0 = u0.1 0) (fun u t => zB D (cw8 cI cL cE cP g n k u0) sz (cw8 cI cL cE cP g n k u) t) (va_A (cw8 cI cL cE cP g n k u0) sz)) 1 6 (va_A (cw8 cI cL cE cP g n k u0) sz) := by
  refine va_MetW (cc := cL_act) (maxL := 6) (ret := (some .int)) (hh := [(0, 192, 193, 13), (0, 192, 198, 16), (0, 192, 203, 19)]) (by decide) rfl ?_
  intro p e s m args below meth c s₁ B hml hv
  obtain ⟨rfl, hsz, hE, hP, hD0, hX, hU0, hN, hO0, hO1⟩ := hv
  subst hsz
  obtain ⟨A, hAe⟩ : ∃ A, A = va_A (cw8 cI cL cE cP g n k u0) s.heap.size := ⟨_, rfl⟩
  have hD : va_D A (cw8 cI cL cE cP g n k u0) := by rw [hAe]; exact hD0.self
  have hA : ∀ q : Nat, s.heap.size ≤ q → A q := fun q h => by rw [hAe]; exact Or.inr h
  have hU : zU A s s.heap := by rw [hAe]; exact hU0
  have hx := B.exec
  have hb := B.bytes
  have hr := B.returns
  have hts := atoms_spec (ws := wsL_act) B.pre
  have hown : s.vm.findClass RL = some m.cls := findClass_of_methodNamed B.named
  have hlocks := B.notSynchronized
  have htb := vx_table (x := yX3_init) B (hts (.codeWith yL_act cL_act 6 (some .int) [(0, 192, 193, 13), (0, 192, 198, 16), (0, 192, 203, 19)]) List.mem_cons_self)
  have C : CJ p l ({ frames := 20, cells := 1, slots := 6, locals := 1000 }) s m _ c cL_act 6 wsL_act D cI cL cE cP A s.heap := ⟨hx, hb, hml, hown, hts, hE, hX, hN, hU, hA, hfl, Nat.le_of_ble_eq_true rfl, Nat.le_of_ble_eq_true rfl, hO0, hO1⟩
  have hJ : LJ D cI cL cE cP A s.heap (u0.1 0) g n k s.heap [] := ⟨hok, h9, u0, rfl, hP, hD, va_S.rf⟩
  have hl := lv_entry ([.ref (u0.1 0), .int 8, .int a, .int b, .int d]) (n := 6) (Nat.le_of_ble_eq_true rfl)
  rw [lg_entry_eq]
  generalize (lg_sl ([.ref (u0.1 0), .int 8, .int a, .int b, .int d]) ++ List.replicate (6 - (lg_sl ([.ref (u0.1 0), .int 8, .int a, .int b, .int d])).length) Slot.unset).toArray = ls at hl ⊢
  have hl : lv_has ls 6 [(0, .ref (u0.1 0)), (1, .int 8), (2, .int a), (3, .int b), (4, .int d)] := hl
  refine lv_iload_n hx hb dL_act_0 rfl (lv_at hl 1 rfl) ?_
  refine lv_if_ne (tgt := 15) hx hb dL_act_1 (by decide) (fun _ => ?_) (fun h => absurd h (by decide +kernel))
  refine lv_iload_n hx hb dL_act_15 rfl (lv_at hl 1 rfl) ?_
  refine lv_iconst (v := 1) hx hb dL_act_16 (by decide) ?_
  refine lv_icmp_ne (tgt := 28) hx hb dL_act_17 (by decide) (fun _ => ?_) (fun h => absurd h (by decide +kernel))
  refine lv_iload_n hx hb dL_act_28 rfl (lv_at hl 1 rfl) ?_
  refine lv_iconst (v := 2) hx hb dL_act_29 (by decide) ?_
  refine lv_icmp_ne (tgt := 41) hx hb dL_act_30 (by decide) (fun _ => ?_) (fun h => absurd h (by decide +kernel))
  refine lv_iload_n hx hb dL_act_41 rfl (lv_at hl 1 rfl) ?_
  refine lv_iconst (v := 3) hx hb dL_act_42 (by decide) ?_
  refine lv_icmp_ne (tgt := 55) hx hb dL_act_43 (by decide) (fun _ => ?_) (fun h => absurd h (by decide +kernel))
  refine lv_iload_n hx hb dL_act_55 rfl (lv_at hl 1 rfl) ?_
  refine lv_iconst (v := 4) hx hb dL_act_56 (by decide) ?_
  refine lv_icmp_ne (tgt := 69) hx hb dL_act_57 (by decide) (fun _ => ?_) (fun h => absurd h (by decide +kernel))
  refine lv_iload_n hx hb dL_act_69 rfl (lv_at hl 1 rfl) ?_
  refine lv_iconst (v := 5) hx hb dL_act_70 (by decide) ?_
  refine lv_icmp_ne (tgt := 85) hx hb dL_act_71 (by decide) (fun _ => ?_) (fun h => absurd h (by decide +kernel))
  refine lv_iload_n hx hb dL_act_85 rfl (lv_at hl 1 rfl) ?_
  refine lv_bipush (v := 6) hx hb dL_act_86 (by decide) ?_
  refine lv_icmp_ne (tgt := 99) hx hb dL_act_88 (by decide) (fun _ => ?_) (fun h => absurd h (by decide +kernel))
  refine lv_iload_n hx hb dL_act_99 rfl (lv_at hl 1 rfl) ?_
  refine lv_bipush (v := 7) hx hb dL_act_100 (by decide) ?_
  refine lv_icmp_ne (tgt := 116) hx hb dL_act_102 (by decide) (fun _ => ?_) (fun h => absurd h (by decide +kernel))
  refine lv_iload_n hx hb dL_act_116 rfl (lv_at hl 1 rfl) ?_
  refine lv_bipush (v := 8) hx hb dL_act_117 (by decide) ?_
  refine lv_icmp_ne (tgt := 131) hx hb dL_act_119 (by decide) (fun h => absurd h (by decide +kernel)) (fun _ => ?_)
  refine lv_aload_n hx hb dL_act_122 rfl (lv_at hl 0 rfl) ?_
  refine lv_iload_n hx hb dL_act_123 rfl (lv_at hl 2 rfl) ?_
  refine lv_iload_n hx hb dL_act_124 rfl (lv_at hl 3 rfl) ?_
  refine st_value C gL_act_X3_value dL_act_125 hl.1 (Nat.le_of_ble_eq_true rfl) ⟨Nat.le_of_ble_eq_true rfl, Nat.le_of_ble_eq_true rfl⟩ hJ a b (fun E ce q9 H locs hxp hJ hq hqv hqc => ?_) (fun H locs h hJ => absurd (hT.symm.trans h) (by decide))
  obtain ⟨hEx, h⟩ := hxp
  subst hEx
  refine vx_catch (name := "java/lang/IndexOutOfBoundsException") hown [] (⟨0, 192, 193, 13⟩ : ExceptionTableEntry) [(⟨0, 192, 198, 16⟩ : ExceptionTableEntry), (⟨0, 192, 203, 19⟩ : ExceptionTableEntry)] (by rw [htb]; rfl) (fun z hz => nomatch hz) (by decide) (by decide) (hts (.classLink RL 13 "java/lang/IndexOutOfBoundsException") (by decide +kernel)) (va_Nw.use rfl (hX.1 (.castable "java/lang/IndexOutOfBoundsException" "java/lang/IndexOutOfBoundsException") (by decide +kernel))) hq hqv hqc ?_
  refine lv_astore (lv' := [(5, .ref q9), (0, .ref (u0.1 0)), (1, .int 8), (2, .int a), (3, .int b), (4, .int d)]) hx hb dL_act_193 hl (by decide) rfl (fun ls hl => ?_)
  refine lv_ldc (v := (-900000001)) hx hb hown (hts (.constant RL 15 (-900000001)) (by decide +kernel)) dL_act_195 ?_
  exact le_ret (post := fun r => r = -900000001) C hr hlocks rfl hAe hJ rfl dL_act_197
set_option maxHeartbeats 4000000 in
set_option maxRecDepth 100000 in
theorem zL_act_9_1 (l : Launch) (hfl : l.stackTraces = false) (D : va_G) (cI cL cE cP : ClassId) (g : Nat → Nat → Int32) (n k : Nat) (u0 : U8) (hok : zOk g n k) (h9 : zH9 g n) (a b d : Int32) (hT : T_amount k a = 1) (sz : Nat) : Met l yL_act wsL_act ({ frames := 20, cells := 1, slots := 6, locals := 1000 }) (zPy D cI cL cE cP (cw8 cI cL cE cP g n k u0) sz [.ref (u0.1 0), .int 9, .int a, .int b, .int d]) (va_Qi (fun (r : Int32) (u : U8) => r = -900000001 ∧ u.1 0 = u0.1 0) (fun u t => zB D (cw8 cI cL cE cP g n k u0) sz (cw8 cI cL cE cP g n k u) t) (va_A (cw8 cI cL cE cP g n k u0) sz)) 1 6 (va_A (cw8 cI cL cE cP g n k u0) sz) := by
  refine va_MetW (cc := cL_act) (maxL := 6) (ret := (some .int)) (hh := [(0, 192, 193, 13), (0, 192, 198, 16), (0, 192, 203, 19)]) (by decide) rfl ?_
  intro p e s m args below meth c s₁ B hml hv
  obtain ⟨rfl, hsz, hE, hP, hD0, hX, hU0, hN, hO0, hO1⟩ := hv
  subst hsz
  obtain ⟨A, hAe⟩ : ∃ A, A = va_A (cw8 cI cL cE cP g n k u0) s.heap.size := ⟨_, rfl⟩
  have hD : va_D A (cw8 cI cL cE cP g n k u0) := by rw [hAe]; exact hD0.self
  have hA : ∀ q : Nat, s.heap.size ≤ q → A q := fun q h => by rw [hAe]; exact Or.inr h
  have hU : zU A s s.heap := by rw [hAe]; exact hU0
  have hx := B.exec
  have hb := B.bytes
  have hr := B.returns
  have hts := atoms_spec (ws := wsL_act) B.pre
  have hown : s.vm.findClass RL = some m.cls := findClass_of_methodNamed B.named
  have hlocks := B.notSynchronized
  have htb := vx_table (x := yX3_init) B (hts (.codeWith yL_act cL_act 6 (some .int) [(0, 192, 193, 13), (0, 192, 198, 16), (0, 192, 203, 19)]) List.mem_cons_self)
  have C : CJ p l ({ frames := 20, cells := 1, slots := 6, locals := 1000 }) s m _ c cL_act 6 wsL_act D cI cL cE cP A s.heap := ⟨hx, hb, hml, hown, hts, hE, hX, hN, hU, hA, hfl, Nat.le_of_ble_eq_true rfl, Nat.le_of_ble_eq_true rfl, hO0, hO1⟩
  have hJ : LJ D cI cL cE cP A s.heap (u0.1 0) g n k s.heap [] := ⟨hok, h9, u0, rfl, hP, hD, va_S.rf⟩
  have hl := lv_entry ([.ref (u0.1 0), .int 9, .int a, .int b, .int d]) (n := 6) (Nat.le_of_ble_eq_true rfl)
  rw [lg_entry_eq]
  generalize (lg_sl ([.ref (u0.1 0), .int 9, .int a, .int b, .int d]) ++ List.replicate (6 - (lg_sl ([.ref (u0.1 0), .int 9, .int a, .int b, .int d])).length) Slot.unset).toArray = ls at hl ⊢
  have hl : lv_has ls 6 [(0, .ref (u0.1 0)), (1, .int 9), (2, .int a), (3, .int b), (4, .int d)] := hl
  refine lv_iload_n hx hb dL_act_0 rfl (lv_at hl 1 rfl) ?_
  refine lv_if_ne (tgt := 15) hx hb dL_act_1 (by decide) (fun _ => ?_) (fun h => absurd h (by decide +kernel))
  refine lv_iload_n hx hb dL_act_15 rfl (lv_at hl 1 rfl) ?_
  refine lv_iconst (v := 1) hx hb dL_act_16 (by decide) ?_
  refine lv_icmp_ne (tgt := 28) hx hb dL_act_17 (by decide) (fun _ => ?_) (fun h => absurd h (by decide +kernel))
  refine lv_iload_n hx hb dL_act_28 rfl (lv_at hl 1 rfl) ?_
  refine lv_iconst (v := 2) hx hb dL_act_29 (by decide) ?_
  refine lv_icmp_ne (tgt := 41) hx hb dL_act_30 (by decide) (fun _ => ?_) (fun h => absurd h (by decide +kernel))
  refine lv_iload_n hx hb dL_act_41 rfl (lv_at hl 1 rfl) ?_
  refine lv_iconst (v := 3) hx hb dL_act_42 (by decide) ?_
  refine lv_icmp_ne (tgt := 55) hx hb dL_act_43 (by decide) (fun _ => ?_) (fun h => absurd h (by decide +kernel))
  refine lv_iload_n hx hb dL_act_55 rfl (lv_at hl 1 rfl) ?_
  refine lv_iconst (v := 4) hx hb dL_act_56 (by decide) ?_
  refine lv_icmp_ne (tgt := 69) hx hb dL_act_57 (by decide) (fun _ => ?_) (fun h => absurd h (by decide +kernel))
  refine lv_iload_n hx hb dL_act_69 rfl (lv_at hl 1 rfl) ?_
  refine lv_iconst (v := 5) hx hb dL_act_70 (by decide) ?_
  refine lv_icmp_ne (tgt := 85) hx hb dL_act_71 (by decide) (fun _ => ?_) (fun h => absurd h (by decide +kernel))
  refine lv_iload_n hx hb dL_act_85 rfl (lv_at hl 1 rfl) ?_
  refine lv_bipush (v := 6) hx hb dL_act_86 (by decide) ?_
  refine lv_icmp_ne (tgt := 99) hx hb dL_act_88 (by decide) (fun _ => ?_) (fun h => absurd h (by decide +kernel))
  refine lv_iload_n hx hb dL_act_99 rfl (lv_at hl 1 rfl) ?_
  refine lv_bipush (v := 7) hx hb dL_act_100 (by decide) ?_
  refine lv_icmp_ne (tgt := 116) hx hb dL_act_102 (by decide) (fun _ => ?_) (fun h => absurd h (by decide +kernel))
  refine lv_iload_n hx hb dL_act_116 rfl (lv_at hl 1 rfl) ?_
  refine lv_bipush (v := 8) hx hb dL_act_117 (by decide) ?_
  refine lv_icmp_ne (tgt := 131) hx hb dL_act_119 (by decide) (fun _ => ?_) (fun h => absurd h (by decide +kernel))
  refine lv_iload_n hx hb dL_act_131 rfl (lv_at hl 1 rfl) ?_
  refine lv_bipush (v := 9) hx hb dL_act_132 (by decide) ?_
  refine lv_icmp_ne (tgt := 145) hx hb dL_act_134 (by decide) (fun h => absurd h (by decide +kernel)) (fun _ => ?_)
  refine lv_aload_n hx hb dL_act_137 rfl (lv_at hl 0 rfl) ?_
  refine lv_iload_n hx hb dL_act_138 rfl (lv_at hl 2 rfl) ?_
  refine st_givenTo C gL_act_X3_givenTo dL_act_139 hl.1 (Nat.le_of_ble_eq_true rfl) ⟨Nat.le_of_ble_eq_true rfl, Nat.le_of_ble_eq_true rfl⟩ hJ a (fun E ce q9 H locs hxp hJ hq hqv hqc => ?_) (fun H locs h hJ => absurd (hT.symm.trans h) (by decide))
  obtain ⟨hEx, h⟩ := hxp
  subst hEx
  refine vx_catch (name := "java/lang/IndexOutOfBoundsException") hown [] (⟨0, 192, 193, 13⟩ : ExceptionTableEntry) [(⟨0, 192, 198, 16⟩ : ExceptionTableEntry), (⟨0, 192, 203, 19⟩ : ExceptionTableEntry)] (by rw [htb]; rfl) (fun z hz => nomatch hz) (by decide) (by decide) (hts (.classLink RL 13 "java/lang/IndexOutOfBoundsException") (by decide +kernel)) (va_Nw.use rfl (hX.1 (.castable "java/lang/IndexOutOfBoundsException" "java/lang/IndexOutOfBoundsException") (by decide +kernel))) hq hqv hqc ?_
  refine lv_astore (lv' := [(5, .ref q9), (0, .ref (u0.1 0)), (1, .int 9), (2, .int a), (3, .int b), (4, .int d)]) hx hb dL_act_193 hl (by decide) rfl (fun ls hl => ?_)
  refine lv_ldc (v := (-900000001)) hx hb hown (hts (.constant RL 15 (-900000001)) (by decide +kernel)) dL_act_195 ?_
  exact le_ret (post := fun r => r = -900000001) C hr hlocks rfl hAe hJ rfl dL_act_197
set_option maxHeartbeats 4000000 in
set_option maxRecDepth 100000 in
theorem zL_act_10_1 (l : Launch) (hfl : l.stackTraces = false) (D : va_G) (cI cL cE cP : ClassId) (g : Nat → Nat → Int32) (n k : Nat) (u0 : U8) (hok : zOk g n k) (h9 : zH9 g n) (a b d : Int32) (hT : T_amount n a = 1) (sz : Nat) : Met l yL_act wsL_act ({ frames := 20, cells := 1, slots := 6, locals := 1000 }) (zPy D cI cL cE cP (cw8 cI cL cE cP g n k u0) sz [.ref (u0.1 0), .int 10, .int a, .int b, .int d]) (va_Qi (fun (r : Int32) (u : U8) => r = -900000001 ∧ u.1 0 = u0.1 0) (fun u t => zB D (cw8 cI cL cE cP g n k u0) sz (cw8 cI cL cE cP g n k u) t) (va_A (cw8 cI cL cE cP g n k u0) sz)) 1 6 (va_A (cw8 cI cL cE cP g n k u0) sz) := by
  refine va_MetW (cc := cL_act) (maxL := 6) (ret := (some .int)) (hh := [(0, 192, 193, 13), (0, 192, 198, 16), (0, 192, 203, 19)]) (by decide) rfl ?_
  intro p e s m args below meth c s₁ B hml hv
  obtain ⟨rfl, hsz, hE, hP, hD0, hX, hU0, hN, hO0, hO1⟩ := hv
  subst hsz
  obtain ⟨A, hAe⟩ : ∃ A, A = va_A (cw8 cI cL cE cP g n k u0) s.heap.size := ⟨_, rfl⟩
  have hD : va_D A (cw8 cI cL cE cP g n k u0) := by rw [hAe]; exact hD0.self
  have hA : ∀ q : Nat, s.heap.size ≤ q → A q := fun q h => by rw [hAe]; exact Or.inr h
  have hU : zU A s s.heap := by rw [hAe]; exact hU0
  have hx := B.exec
  have hb := B.bytes
  have hr := B.returns
  have hts := atoms_spec (ws := wsL_act) B.pre
  have hown : s.vm.findClass RL = some m.cls := findClass_of_methodNamed B.named
  have hlocks := B.notSynchronized
  have htb := vx_table (x := yX3_init) B (hts (.codeWith yL_act cL_act 6 (some .int) [(0, 192, 193, 13), (0, 192, 198, 16), (0, 192, 203, 19)]) List.mem_cons_self)
  have C : CJ p l ({ frames := 20, cells := 1, slots := 6, locals := 1000 }) s m _ c cL_act 6 wsL_act D cI cL cE cP A s.heap := ⟨hx, hb, hml, hown, hts, hE, hX, hN, hU, hA, hfl, Nat.le_of_ble_eq_true rfl, Nat.le_of_ble_eq_true rfl, hO0, hO1⟩
  have hJ : LJ D cI cL cE cP A s.heap (u0.1 0) g n k s.heap [] := ⟨hok, h9, u0, rfl, hP, hD, va_S.rf⟩
  have hl := lv_entry ([.ref (u0.1 0), .int 10, .int a, .int b, .int d]) (n := 6) (Nat.le_of_ble_eq_true rfl)
  rw [lg_entry_eq]
  generalize (lg_sl ([.ref (u0.1 0), .int 10, .int a, .int b, .int d]) ++ List.replicate (6 - (lg_sl ([.ref (u0.1 0), .int 10, .int a, .int b, .int d])).length) Slot.unset).toArray = ls at hl ⊢
  have hl : lv_has ls 6 [(0, .ref (u0.1 0)), (1, .int 10), (2, .int a), (3, .int b), (4, .int d)] := hl
  refine lv_iload_n hx hb dL_act_0 rfl (lv_at hl 1 rfl) ?_
  refine lv_if_ne (tgt := 15) hx hb dL_act_1 (by decide) (fun _ => ?_) (fun h => absurd h (by decide +kernel))
  refine lv_iload_n hx hb dL_act_15 rfl (lv_at hl 1 rfl) ?_
  refine lv_iconst (v := 1) hx hb dL_act_16 (by decide) ?_
  refine lv_icmp_ne (tgt := 28) hx hb dL_act_17 (by decide) (fun _ => ?_) (fun h => absurd h (by decide +kernel))
  refine lv_iload_n hx hb dL_act_28 rfl (lv_at hl 1 rfl) ?_
  refine lv_iconst (v := 2) hx hb dL_act_29 (by decide) ?_
  refine lv_icmp_ne (tgt := 41) hx hb dL_act_30 (by decide) (fun _ => ?_) (fun h => absurd h (by decide +kernel))
  refine lv_iload_n hx hb dL_act_41 rfl (lv_at hl 1 rfl) ?_
  refine lv_iconst (v := 3) hx hb dL_act_42 (by decide) ?_
  refine lv_icmp_ne (tgt := 55) hx hb dL_act_43 (by decide) (fun _ => ?_) (fun h => absurd h (by decide +kernel))
  refine lv_iload_n hx hb dL_act_55 rfl (lv_at hl 1 rfl) ?_
  refine lv_iconst (v := 4) hx hb dL_act_56 (by decide) ?_
  refine lv_icmp_ne (tgt := 69) hx hb dL_act_57 (by decide) (fun _ => ?_) (fun h => absurd h (by decide +kernel))
  refine lv_iload_n hx hb dL_act_69 rfl (lv_at hl 1 rfl) ?_
  refine lv_iconst (v := 5) hx hb dL_act_70 (by decide) ?_
  refine lv_icmp_ne (tgt := 85) hx hb dL_act_71 (by decide) (fun _ => ?_) (fun h => absurd h (by decide +kernel))
  refine lv_iload_n hx hb dL_act_85 rfl (lv_at hl 1 rfl) ?_
  refine lv_bipush (v := 6) hx hb dL_act_86 (by decide) ?_
  refine lv_icmp_ne (tgt := 99) hx hb dL_act_88 (by decide) (fun _ => ?_) (fun h => absurd h (by decide +kernel))
  refine lv_iload_n hx hb dL_act_99 rfl (lv_at hl 1 rfl) ?_
  refine lv_bipush (v := 7) hx hb dL_act_100 (by decide) ?_
  refine lv_icmp_ne (tgt := 116) hx hb dL_act_102 (by decide) (fun _ => ?_) (fun h => absurd h (by decide +kernel))
  refine lv_iload_n hx hb dL_act_116 rfl (lv_at hl 1 rfl) ?_
  refine lv_bipush (v := 8) hx hb dL_act_117 (by decide) ?_
  refine lv_icmp_ne (tgt := 131) hx hb dL_act_119 (by decide) (fun _ => ?_) (fun h => absurd h (by decide +kernel))
  refine lv_iload_n hx hb dL_act_131 rfl (lv_at hl 1 rfl) ?_
  refine lv_bipush (v := 9) hx hb dL_act_132 (by decide) ?_
  refine lv_icmp_ne (tgt := 145) hx hb dL_act_134 (by decide) (fun _ => ?_) (fun h => absurd h (by decide +kernel))
  refine lv_iload_n hx hb dL_act_145 rfl (lv_at hl 1 rfl) ?_
  refine lv_bipush (v := 10) hx hb dL_act_146 (by decide) ?_
  refine lv_icmp_ne (tgt := 159) hx hb dL_act_148 (by decide) (fun h => absurd h (by decide +kernel)) (fun _ => ?_)
  refine lv_aload_n hx hb dL_act_151 rfl (lv_at hl 0 rfl) ?_
  refine lv_iload_n hx hb dL_act_152 rfl (lv_at hl 2 rfl) ?_
  refine st_bare C gL_act_X3_bare dL_act_153 hl.1 (Nat.le_of_ble_eq_true rfl) ⟨Nat.le_of_ble_eq_true rfl, Nat.le_of_ble_eq_true rfl⟩ hJ a (fun E ce q9 H locs hxp hJ hq hqv hqc => ?_) (fun H locs h hJ => absurd (hT.symm.trans h) (by decide))
  obtain ⟨hEx, h⟩ := hxp
  subst hEx
  refine vx_catch (name := "java/lang/IndexOutOfBoundsException") hown [] (⟨0, 192, 193, 13⟩ : ExceptionTableEntry) [(⟨0, 192, 198, 16⟩ : ExceptionTableEntry), (⟨0, 192, 203, 19⟩ : ExceptionTableEntry)] (by rw [htb]; rfl) (fun z hz => nomatch hz) (by decide) (by decide) (hts (.classLink RL 13 "java/lang/IndexOutOfBoundsException") (by decide +kernel)) (va_Nw.use rfl (hX.1 (.castable "java/lang/IndexOutOfBoundsException" "java/lang/IndexOutOfBoundsException") (by decide +kernel))) hq hqv hqc ?_
  refine lv_astore (lv' := [(5, .ref q9), (0, .ref (u0.1 0)), (1, .int 10), (2, .int a), (3, .int b), (4, .int d)]) hx hb dL_act_193 hl (by decide) rfl (fun ls hl => ?_)
  refine lv_ldc (v := (-900000001)) hx hb hown (hts (.constant RL 15 (-900000001)) (by decide +kernel)) dL_act_195 ?_
  exact le_ret (post := fun r => r = -900000001) C hr hlocks rfl hAe hJ rfl dL_act_197
set_option maxHeartbeats 4000000 in
set_option maxRecDepth 100000 in
theorem zL_act_11_1 (l : Launch) (hfl : l.stackTraces = false) (D : va_G) (cI cL cE cP : ClassId) (g : Nat → Nat → Int32) (n k : Nat) (u0 : U8) (hok : zOk g n k) (h9 : zH9 g n) (a b d : Int32) (hT : T_amount n a = 1) (sz : Nat) : Met l yL_act wsL_act ({ frames := 20, cells := 1, slots := 6, locals := 1000 }) (zPy D cI cL cE cP (cw8 cI cL cE cP g n k u0) sz [.ref (u0.1 0), .int 11, .int a, .int b, .int d]) (va_Qi (fun (r : Int32) (u : U8) => r = -900000001 ∧ u.1 0 = u0.1 0) (fun u t => zB D (cw8 cI cL cE cP g n k u0) sz (cw8 cI cL cE cP g n k u) t) (va_A (cw8 cI cL cE cP g n k u0) sz)) 1 6 (va_A (cw8 cI cL cE cP g n k u0) sz) := by
  refine va_MetW (cc := cL_act) (maxL := 6) (ret := (some .int)) (hh := [(0, 192, 193, 13), (0, 192, 198, 16), (0, 192, 203, 19)]) (by decide) rfl ?_
  intro p e s m args below meth c s₁ B hml hv
  obtain ⟨rfl, hsz, hE, hP, hD0, hX, hU0, hN, hO0, hO1⟩ := hv
  subst hsz
  obtain ⟨A, hAe⟩ : ∃ A, A = va_A (cw8 cI cL cE cP g n k u0) s.heap.size := ⟨_, rfl⟩
  have hD : va_D A (cw8 cI cL cE cP g n k u0) := by rw [hAe]; exact hD0.self
  have hA : ∀ q : Nat, s.heap.size ≤ q → A q := fun q h => by rw [hAe]; exact Or.inr h
  have hU : zU A s s.heap := by rw [hAe]; exact hU0
  have hx := B.exec
  have hb := B.bytes
  have hr := B.returns
  have hts := atoms_spec (ws := wsL_act) B.pre
  have hown : s.vm.findClass RL = some m.cls := findClass_of_methodNamed B.named
  have hlocks := B.notSynchronized
  have htb := vx_table (x := yX3_init) B (hts (.codeWith yL_act cL_act 6 (some .int) [(0, 192, 193, 13), (0, 192, 198, 16), (0, 192, 203, 19)]) List.mem_cons_self)
  have C : CJ p l ({ frames := 20, cells := 1, slots := 6, locals := 1000 }) s m _ c cL_act 6 wsL_act D cI cL cE cP A s.heap := ⟨hx, hb, hml, hown, hts, hE, hX, hN, hU, hA, hfl, Nat.le_of_ble_eq_true rfl, Nat.le_of_ble_eq_true rfl, hO0, hO1⟩
  have hJ : LJ D cI cL cE cP A s.heap (u0.1 0) g n k s.heap [] := ⟨hok, h9, u0, rfl, hP, hD, va_S.rf⟩
  have hl := lv_entry ([.ref (u0.1 0), .int 11, .int a, .int b, .int d]) (n := 6) (Nat.le_of_ble_eq_true rfl)
  rw [lg_entry_eq]
  generalize (lg_sl ([.ref (u0.1 0), .int 11, .int a, .int b, .int d]) ++ List.replicate (6 - (lg_sl ([.ref (u0.1 0), .int 11, .int a, .int b, .int d])).length) Slot.unset).toArray = ls at hl ⊢
  have hl : lv_has ls 6 [(0, .ref (u0.1 0)), (1, .int 11), (2, .int a), (3, .int b), (4, .int d)] := hl
  refine lv_iload_n hx hb dL_act_0 rfl (lv_at hl 1 rfl) ?_
  refine lv_if_ne (tgt := 15) hx hb dL_act_1 (by decide) (fun _ => ?_) (fun h => absurd h (by decide +kernel))
  refine lv_iload_n hx hb dL_act_15 rfl (lv_at hl 1 rfl) ?_
  refine lv_iconst (v := 1) hx hb dL_act_16 (by decide) ?_
  refine lv_icmp_ne (tgt := 28) hx hb dL_act_17 (by decide) (fun _ => ?_) (fun h => absurd h (by decide +kernel))
  refine lv_iload_n hx hb dL_act_28 rfl (lv_at hl 1 rfl) ?_
  refine lv_iconst (v := 2) hx hb dL_act_29 (by decide) ?_
  refine lv_icmp_ne (tgt := 41) hx hb dL_act_30 (by decide) (fun _ => ?_) (fun h => absurd h (by decide +kernel))
  refine lv_iload_n hx hb dL_act_41 rfl (lv_at hl 1 rfl) ?_
  refine lv_iconst (v := 3) hx hb dL_act_42 (by decide) ?_
  refine lv_icmp_ne (tgt := 55) hx hb dL_act_43 (by decide) (fun _ => ?_) (fun h => absurd h (by decide +kernel))
  refine lv_iload_n hx hb dL_act_55 rfl (lv_at hl 1 rfl) ?_
  refine lv_iconst (v := 4) hx hb dL_act_56 (by decide) ?_
  refine lv_icmp_ne (tgt := 69) hx hb dL_act_57 (by decide) (fun _ => ?_) (fun h => absurd h (by decide +kernel))
  refine lv_iload_n hx hb dL_act_69 rfl (lv_at hl 1 rfl) ?_
  refine lv_iconst (v := 5) hx hb dL_act_70 (by decide) ?_
  refine lv_icmp_ne (tgt := 85) hx hb dL_act_71 (by decide) (fun _ => ?_) (fun h => absurd h (by decide +kernel))
  refine lv_iload_n hx hb dL_act_85 rfl (lv_at hl 1 rfl) ?_
  refine lv_bipush (v := 6) hx hb dL_act_86 (by decide) ?_
  refine lv_icmp_ne (tgt := 99) hx hb dL_act_88 (by decide) (fun _ => ?_) (fun h => absurd h (by decide +kernel))
  refine lv_iload_n hx hb dL_act_99 rfl (lv_at hl 1 rfl) ?_
  refine lv_bipush (v := 7) hx hb dL_act_100 (by decide) ?_
  refine lv_icmp_ne (tgt := 116) hx hb dL_act_102 (by decide) (fun _ => ?_) (fun h => absurd h (by decide +kernel))
  refine lv_iload_n hx hb dL_act_116 rfl (lv_at hl 1 rfl) ?_
  refine lv_bipush (v := 8) hx hb dL_act_117 (by decide) ?_
  refine lv_icmp_ne (tgt := 131) hx hb dL_act_119 (by decide) (fun _ => ?_) (fun h => absurd h (by decide +kernel))
  refine lv_iload_n hx hb dL_act_131 rfl (lv_at hl 1 rfl) ?_
  refine lv_bipush (v := 9) hx hb dL_act_132 (by decide) ?_
  refine lv_icmp_ne (tgt := 145) hx hb dL_act_134 (by decide) (fun _ => ?_) (fun h => absurd h (by decide +kernel))
  refine lv_iload_n hx hb dL_act_145 rfl (lv_at hl 1 rfl) ?_
  refine lv_bipush (v := 10) hx hb dL_act_146 (by decide) ?_
  refine lv_icmp_ne (tgt := 159) hx hb dL_act_148 (by decide) (fun _ => ?_) (fun h => absurd h (by decide +kernel))
  refine lv_iload_n hx hb dL_act_159 rfl (lv_at hl 1 rfl) ?_
  refine lv_bipush (v := 11) hx hb dL_act_160 (by decide) ?_
  refine lv_icmp_ne (tgt := 173) hx hb dL_act_162 (by decide) (fun h => absurd h (by decide +kernel)) (fun _ => ?_)
  refine lv_aload_n hx hb dL_act_165 rfl (lv_at hl 0 rfl) ?_
  refine lv_iload_n hx hb dL_act_166 rfl (lv_at hl 2 rfl) ?_
  refine st_weighted C gL_act_X3_weighted dL_act_167 hl.1 (Nat.le_of_ble_eq_true rfl) ⟨Nat.le_of_ble_eq_true rfl, Nat.le_of_ble_eq_true rfl⟩ hJ a (fun E ce q9 H locs hxp hJ hq hqv hqc => ?_) (fun H locs h hJ => absurd (hT.symm.trans h) (by decide))
  obtain ⟨hEx, h⟩ := hxp
  subst hEx
  refine vx_catch (name := "java/lang/IndexOutOfBoundsException") hown [] (⟨0, 192, 193, 13⟩ : ExceptionTableEntry) [(⟨0, 192, 198, 16⟩ : ExceptionTableEntry), (⟨0, 192, 203, 19⟩ : ExceptionTableEntry)] (by rw [htb]; rfl) (fun z hz => nomatch hz) (by decide) (by decide) (hts (.classLink RL 13 "java/lang/IndexOutOfBoundsException") (by decide +kernel)) (va_Nw.use rfl (hX.1 (.castable "java/lang/IndexOutOfBoundsException" "java/lang/IndexOutOfBoundsException") (by decide +kernel))) hq hqv hqc ?_
  refine lv_astore (lv' := [(5, .ref q9), (0, .ref (u0.1 0)), (1, .int 11), (2, .int a), (3, .int b), (4, .int d)]) hx hb dL_act_193 hl (by decide) rfl (fun ls hl => ?_)
  refine lv_ldc (v := (-900000001)) hx hb hown (hts (.constant RL 15 (-900000001)) (by decide +kernel)) dL_act_195 ?_
  exact le_ret (post := fun r => r = -900000001) C hr hlocks rfl hAe hJ rfl dL_act_197
set_option maxHeartbeats 4000000 in
set_option maxRecDepth 100000 in
theorem zL_act_12_1 (l : Launch) (hfl : l.stackTraces = false) (D : va_G) (cI cL cE cP : ClassId) (g : Nat → Nat → Int32) (n k : Nat) (u0 : U8) (hok : zOk g n k) (h9 : zH9 g n) (a b d : Int32) (hT : T_amount k a = 1) (sz : Nat) : Met l yL_act wsL_act ({ frames := 20, cells := 1, slots := 6, locals := 1000 }) (zPy D cI cL cE cP (cw8 cI cL cE cP g n k u0) sz [.ref (u0.1 0), .int 12, .int a, .int b, .int d]) (va_Qi (fun (r : Int32) (u : U8) => r = -900000001 ∧ u.1 0 = u0.1 0) (fun u t => zB D (cw8 cI cL cE cP g n k u0) sz (cw8 cI cL cE cP g n k u) t) (va_A (cw8 cI cL cE cP g n k u0) sz)) 1 6 (va_A (cw8 cI cL cE cP g n k u0) sz) := by
  refine va_MetW (cc := cL_act) (maxL := 6) (ret := (some .int)) (hh := [(0, 192, 193, 13), (0, 192, 198, 16), (0, 192, 203, 19)]) (by decide) rfl ?_
  intro p e s m args below meth c s₁ B hml hv
  obtain ⟨rfl, hsz, hE, hP, hD0, hX, hU0, hN, hO0, hO1⟩ := hv
  subst hsz
  obtain ⟨A, hAe⟩ : ∃ A, A = va_A (cw8 cI cL cE cP g n k u0) s.heap.size := ⟨_, rfl⟩
  have hD : va_D A (cw8 cI cL cE cP g n k u0) := by rw [hAe]; exact hD0.self
  have hA : ∀ q : Nat, s.heap.size ≤ q → A q := fun q h => by rw [hAe]; exact Or.inr h
  have hU : zU A s s.heap := by rw [hAe]; exact hU0
  have hx := B.exec
  have hb := B.bytes
  have hr := B.returns
  have hts := atoms_spec (ws := wsL_act) B.pre
  have hown : s.vm.findClass RL = some m.cls := findClass_of_methodNamed B.named
  have hlocks := B.notSynchronized
  have htb := vx_table (x := yX3_init) B (hts (.codeWith yL_act cL_act 6 (some .int) [(0, 192, 193, 13), (0, 192, 198, 16), (0, 192, 203, 19)]) List.mem_cons_self)
  have C : CJ p l ({ frames := 20, cells := 1, slots := 6, locals := 1000 }) s m _ c cL_act 6 wsL_act D cI cL cE cP A s.heap := ⟨hx, hb, hml, hown, hts, hE, hX, hN, hU, hA, hfl, Nat.le_of_ble_eq_true rfl, Nat.le_of_ble_eq_true rfl, hO0, hO1⟩
  have hJ : LJ D cI cL cE cP A s.heap (u0.1 0) g n k s.heap [] := ⟨hok, h9, u0, rfl, hP, hD, va_S.rf⟩
  have hl := lv_entry ([.ref (u0.1 0), .int 12, .int a, .int b, .int d]) (n := 6) (Nat.le_of_ble_eq_true rfl)
  rw [lg_entry_eq]
  generalize (lg_sl ([.ref (u0.1 0), .int 12, .int a, .int b, .int d]) ++ List.replicate (6 - (lg_sl ([.ref (u0.1 0), .int 12, .int a, .int b, .int d])).length) Slot.unset).toArray = ls at hl ⊢
  have hl : lv_has ls 6 [(0, .ref (u0.1 0)), (1, .int 12), (2, .int a), (3, .int b), (4, .int d)] := hl
  refine lv_iload_n hx hb dL_act_0 rfl (lv_at hl 1 rfl) ?_
  refine lv_if_ne (tgt := 15) hx hb dL_act_1 (by decide) (fun _ => ?_) (fun h => absurd h (by decide +kernel))
  refine lv_iload_n hx hb dL_act_15 rfl (lv_at hl 1 rfl) ?_
  refine lv_iconst (v := 1) hx hb dL_act_16 (by decide) ?_
  refine lv_icmp_ne (tgt := 28) hx hb dL_act_17 (by decide) (fun _ => ?_) (fun h => absurd h (by decide +kernel))
  refine lv_iload_n hx hb dL_act_28 rfl (lv_at hl 1 rfl) ?_
  refine lv_iconst (v := 2) hx hb dL_act_29 (by decide) ?_
  refine lv_icmp_ne (tgt := 41) hx hb dL_act_30 (by decide) (fun _ => ?_) (fun h => absurd h (by decide +kernel))
  refine lv_iload_n hx hb dL_act_41 rfl (lv_at hl 1 rfl) ?_
  refine lv_iconst (v := 3) hx hb dL_act_42 (by decide) ?_
  refine lv_icmp_ne (tgt := 55) hx hb dL_act_43 (by decide) (fun _ => ?_) (fun h => absurd h (by decide +kernel))
  refine lv_iload_n hx hb dL_act_55 rfl (lv_at hl 1 rfl) ?_
  refine lv_iconst (v := 4) hx hb dL_act_56 (by decide) ?_
  refine lv_icmp_ne (tgt := 69) hx hb dL_act_57 (by decide) (fun _ => ?_) (fun h => absurd h (by decide +kernel))
  refine lv_iload_n hx hb dL_act_69 rfl (lv_at hl 1 rfl) ?_
  refine lv_iconst (v := 5) hx hb dL_act_70 (by decide) ?_
  refine lv_icmp_ne (tgt := 85) hx hb dL_act_71 (by decide) (fun _ => ?_) (fun h => absurd h (by decide +kernel))
  refine lv_iload_n hx hb dL_act_85 rfl (lv_at hl 1 rfl) ?_
  refine lv_bipush (v := 6) hx hb dL_act_86 (by decide) ?_
  refine lv_icmp_ne (tgt := 99) hx hb dL_act_88 (by decide) (fun _ => ?_) (fun h => absurd h (by decide +kernel))
  refine lv_iload_n hx hb dL_act_99 rfl (lv_at hl 1 rfl) ?_
  refine lv_bipush (v := 7) hx hb dL_act_100 (by decide) ?_
  refine lv_icmp_ne (tgt := 116) hx hb dL_act_102 (by decide) (fun _ => ?_) (fun h => absurd h (by decide +kernel))
  refine lv_iload_n hx hb dL_act_116 rfl (lv_at hl 1 rfl) ?_
  refine lv_bipush (v := 8) hx hb dL_act_117 (by decide) ?_
  refine lv_icmp_ne (tgt := 131) hx hb dL_act_119 (by decide) (fun _ => ?_) (fun h => absurd h (by decide +kernel))
  refine lv_iload_n hx hb dL_act_131 rfl (lv_at hl 1 rfl) ?_
  refine lv_bipush (v := 9) hx hb dL_act_132 (by decide) ?_
  refine lv_icmp_ne (tgt := 145) hx hb dL_act_134 (by decide) (fun _ => ?_) (fun h => absurd h (by decide +kernel))
  refine lv_iload_n hx hb dL_act_145 rfl (lv_at hl 1 rfl) ?_
  refine lv_bipush (v := 10) hx hb dL_act_146 (by decide) ?_
  refine lv_icmp_ne (tgt := 159) hx hb dL_act_148 (by decide) (fun _ => ?_) (fun h => absurd h (by decide +kernel))
  refine lv_iload_n hx hb dL_act_159 rfl (lv_at hl 1 rfl) ?_
  refine lv_bipush (v := 11) hx hb dL_act_160 (by decide) ?_
  refine lv_icmp_ne (tgt := 173) hx hb dL_act_162 (by decide) (fun _ => ?_) (fun h => absurd h (by decide +kernel))
  refine lv_iload_n hx hb dL_act_173 rfl (lv_at hl 1 rfl) ?_
  refine lv_bipush (v := 12) hx hb dL_act_174 (by decide) ?_
  refine lv_icmp_ne (tgt := 187) hx hb dL_act_176 (by decide) (fun h => absurd h (by decide +kernel)) (fun _ => ?_)
  refine lv_aload_n hx hb dL_act_179 rfl (lv_at hl 0 rfl) ?_
  refine lv_iload_n hx hb dL_act_180 rfl (lv_at hl 2 rfl) ?_
  refine st_worth C gL_act_X3_worth dL_act_181 hl.1 (Nat.le_of_ble_eq_true rfl) ⟨Nat.le_of_ble_eq_true rfl, Nat.le_of_ble_eq_true rfl⟩ hJ a (fun E ce q9 H locs hxp hJ hq hqv hqc => ?_) (fun H locs h hJ => absurd (hT.symm.trans h) (by decide))
  obtain ⟨hEx, h⟩ := hxp
  subst hEx
  refine vx_catch (name := "java/lang/IndexOutOfBoundsException") hown [] (⟨0, 192, 193, 13⟩ : ExceptionTableEntry) [(⟨0, 192, 198, 16⟩ : ExceptionTableEntry), (⟨0, 192, 203, 19⟩ : ExceptionTableEntry)] (by rw [htb]; rfl) (fun z hz => nomatch hz) (by decide) (by decide) (hts (.classLink RL 13 "java/lang/IndexOutOfBoundsException") (by decide +kernel)) (va_Nw.use rfl (hX.1 (.castable "java/lang/IndexOutOfBoundsException" "java/lang/IndexOutOfBoundsException") (by decide +kernel))) hq hqv hqc ?_
  refine lv_astore (lv' := [(5, .ref q9), (0, .ref (u0.1 0)), (1, .int 12), (2, .int a), (3, .int b), (4, .int d)]) hx hb dL_act_193 hl (by decide) rfl (fun ls hl => ?_)
  refine lv_ldc (v := (-900000001)) hx hb hown (hts (.constant RL 15 (-900000001)) (by decide +kernel)) dL_act_195 ?_
  exact le_ret (post := fun r => r = -900000001) C hr hlocks rfl hAe hJ rfl dL_act_197
set_option maxHeartbeats 4000000 in
set_option maxRecDepth 100000 in
theorem zL_act_13_1 (l : Launch) (hfl : l.stackTraces = false) (D : va_G) (cI cL cE cP : ClassId) (g : Nat → Nat → Int32) (n k : Nat) (u0 : U8) (hok : zOk g n k) (h9 : zH9 g n) (a b d : Int32) (hT : T_party a = 1) (sz : Nat) : Met l yL_act wsL_act ({ frames := 20, cells := 1, slots := 6, locals := 1000 }) (zPy D cI cL cE cP (cw8 cI cL cE cP g n k u0) sz [.ref (u0.1 0), .int 13, .int a, .int b, .int d]) (va_Qi (fun (r : Int32) (u : U8) => r = -900000001 ∧ u.1 0 = u0.1 0) (fun u t => zB D (cw8 cI cL cE cP g n k u0) sz (cw8 cI cL cE cP g n k u) t) (va_A (cw8 cI cL cE cP g n k u0) sz)) 1 6 (va_A (cw8 cI cL cE cP g n k u0) sz) := by
  refine va_MetW (cc := cL_act) (maxL := 6) (ret := (some .int)) (hh := [(0, 192, 193, 13), (0, 192, 198, 16), (0, 192, 203, 19)]) (by decide) rfl ?_
  intro p e s m args below meth c s₁ B hml hv
  obtain ⟨rfl, hsz, hE, hP, hD0, hX, hU0, hN, hO0, hO1⟩ := hv
  subst hsz
  obtain ⟨A, hAe⟩ : ∃ A, A = va_A (cw8 cI cL cE cP g n k u0) s.heap.size := ⟨_, rfl⟩
  have hD : va_D A (cw8 cI cL cE cP g n k u0) := by rw [hAe]; exact hD0.self
  have hA : ∀ q : Nat, s.heap.size ≤ q → A q := fun q h => by rw [hAe]; exact Or.inr h
  have hU : zU A s s.heap := by rw [hAe]; exact hU0
  have hx := B.exec
  have hb := B.bytes
  have hr := B.returns
  have hts := atoms_spec (ws := wsL_act) B.pre
  have hown : s.vm.findClass RL = some m.cls := findClass_of_methodNamed B.named
  have hlocks := B.notSynchronized
  have htb := vx_table (x := yX3_init) B (hts (.codeWith yL_act cL_act 6 (some .int) [(0, 192, 193, 13), (0, 192, 198, 16), (0, 192, 203, 19)]) List.mem_cons_self)
  have C : CJ p l ({ frames := 20, cells := 1, slots := 6, locals := 1000 }) s m _ c cL_act 6 wsL_act D cI cL cE cP A s.heap := ⟨hx, hb, hml, hown, hts, hE, hX, hN, hU, hA, hfl, Nat.le_of_ble_eq_true rfl, Nat.le_of_ble_eq_true rfl, hO0, hO1⟩
  have hJ : LJ D cI cL cE cP A s.heap (u0.1 0) g n k s.heap [] := ⟨hok, h9, u0, rfl, hP, hD, va_S.rf⟩
  have hl := lv_entry ([.ref (u0.1 0), .int 13, .int a, .int b, .int d]) (n := 6) (Nat.le_of_ble_eq_true rfl)
  rw [lg_entry_eq]
  generalize (lg_sl ([.ref (u0.1 0), .int 13, .int a, .int b, .int d]) ++ List.replicate (6 - (lg_sl ([.ref (u0.1 0), .int 13, .int a, .int b, .int d])).length) Slot.unset).toArray = ls at hl ⊢
  have hl : lv_has ls 6 [(0, .ref (u0.1 0)), (1, .int 13), (2, .int a), (3, .int b), (4, .int d)] := hl
  refine lv_iload_n hx hb dL_act_0 rfl (lv_at hl 1 rfl) ?_
  refine lv_if_ne (tgt := 15) hx hb dL_act_1 (by decide) (fun _ => ?_) (fun h => absurd h (by decide +kernel))
  refine lv_iload_n hx hb dL_act_15 rfl (lv_at hl 1 rfl) ?_
  refine lv_iconst (v := 1) hx hb dL_act_16 (by decide) ?_
  refine lv_icmp_ne (tgt := 28) hx hb dL_act_17 (by decide) (fun _ => ?_) (fun h => absurd h (by decide +kernel))
  refine lv_iload_n hx hb dL_act_28 rfl (lv_at hl 1 rfl) ?_
  refine lv_iconst (v := 2) hx hb dL_act_29 (by decide) ?_
  refine lv_icmp_ne (tgt := 41) hx hb dL_act_30 (by decide) (fun _ => ?_) (fun h => absurd h (by decide +kernel))
  refine lv_iload_n hx hb dL_act_41 rfl (lv_at hl 1 rfl) ?_
  refine lv_iconst (v := 3) hx hb dL_act_42 (by decide) ?_
  refine lv_icmp_ne (tgt := 55) hx hb dL_act_43 (by decide) (fun _ => ?_) (fun h => absurd h (by decide +kernel))
  refine lv_iload_n hx hb dL_act_55 rfl (lv_at hl 1 rfl) ?_
  refine lv_iconst (v := 4) hx hb dL_act_56 (by decide) ?_
  refine lv_icmp_ne (tgt := 69) hx hb dL_act_57 (by decide) (fun _ => ?_) (fun h => absurd h (by decide +kernel))
  refine lv_iload_n hx hb dL_act_69 rfl (lv_at hl 1 rfl) ?_
  refine lv_iconst (v := 5) hx hb dL_act_70 (by decide) ?_
  refine lv_icmp_ne (tgt := 85) hx hb dL_act_71 (by decide) (fun _ => ?_) (fun h => absurd h (by decide +kernel))
  refine lv_iload_n hx hb dL_act_85 rfl (lv_at hl 1 rfl) ?_
  refine lv_bipush (v := 6) hx hb dL_act_86 (by decide) ?_
  refine lv_icmp_ne (tgt := 99) hx hb dL_act_88 (by decide) (fun _ => ?_) (fun h => absurd h (by decide +kernel))
  refine lv_iload_n hx hb dL_act_99 rfl (lv_at hl 1 rfl) ?_
  refine lv_bipush (v := 7) hx hb dL_act_100 (by decide) ?_
  refine lv_icmp_ne (tgt := 116) hx hb dL_act_102 (by decide) (fun _ => ?_) (fun h => absurd h (by decide +kernel))
  refine lv_iload_n hx hb dL_act_116 rfl (lv_at hl 1 rfl) ?_
  refine lv_bipush (v := 8) hx hb dL_act_117 (by decide) ?_
  refine lv_icmp_ne (tgt := 131) hx hb dL_act_119 (by decide) (fun _ => ?_) (fun h => absurd h (by decide +kernel))
  refine lv_iload_n hx hb dL_act_131 rfl (lv_at hl 1 rfl) ?_
  refine lv_bipush (v := 9) hx hb dL_act_132 (by decide) ?_
  refine lv_icmp_ne (tgt := 145) hx hb dL_act_134 (by decide) (fun _ => ?_) (fun h => absurd h (by decide +kernel))
  refine lv_iload_n hx hb dL_act_145 rfl (lv_at hl 1 rfl) ?_
  refine lv_bipush (v := 10) hx hb dL_act_146 (by decide) ?_
  refine lv_icmp_ne (tgt := 159) hx hb dL_act_148 (by decide) (fun _ => ?_) (fun h => absurd h (by decide +kernel))
  refine lv_iload_n hx hb dL_act_159 rfl (lv_at hl 1 rfl) ?_
  refine lv_bipush (v := 11) hx hb dL_act_160 (by decide) ?_
  refine lv_icmp_ne (tgt := 173) hx hb dL_act_162 (by decide) (fun _ => ?_) (fun h => absurd h (by decide +kernel))
  refine lv_iload_n hx hb dL_act_173 rfl (lv_at hl 1 rfl) ?_
  refine lv_bipush (v := 12) hx hb dL_act_174 (by decide) ?_
  refine lv_icmp_ne (tgt := 187) hx hb dL_act_176 (by decide) (fun _ => ?_) (fun h => absurd h (by decide +kernel))
  refine lv_aload_n hx hb dL_act_187 rfl (lv_at hl 0 rfl) ?_
  refine lv_iload_n hx hb dL_act_188 rfl (lv_at hl 2 rfl) ?_
  refine st_partyBare C gL_act_X3_partyBare dL_act_189 hl.1 (Nat.le_of_ble_eq_true rfl) ⟨Nat.le_of_ble_eq_true rfl, Nat.le_of_ble_eq_true rfl⟩ hJ a (fun E ce q9 H locs hxp hJ hq hqv hqc => ?_) (fun H locs h hJ => absurd (hT.symm.trans h) (by decide))
  obtain ⟨hEx, h⟩ := hxp
  subst hEx
  refine vx_catch (name := "java/lang/IndexOutOfBoundsException") hown [] (⟨0, 192, 193, 13⟩ : ExceptionTableEntry) [(⟨0, 192, 198, 16⟩ : ExceptionTableEntry), (⟨0, 192, 203, 19⟩ : ExceptionTableEntry)] (by rw [htb]; rfl) (fun z hz => nomatch hz) (by decide) (by decide) (hts (.classLink RL 13 "java/lang/IndexOutOfBoundsException") (by decide +kernel)) (va_Nw.use rfl (hX.1 (.castable "java/lang/IndexOutOfBoundsException" "java/lang/IndexOutOfBoundsException") (by decide +kernel))) hq hqv hqc ?_
  refine lv_astore (lv' := [(5, .ref q9), (0, .ref (u0.1 0)), (1, .int 13), (2, .int a), (3, .int b), (4, .int d)]) hx hb dL_act_193 hl (by decide) rfl (fun ls hl => ?_)
  refine lv_ldc (v := (-900000001)) hx hb hown (hts (.constant RL 15 (-900000001)) (by decide +kernel)) dL_act_195 ?_
  exact le_ret (post := fun r => r = -900000001) C hr hlocks rfl hAe hJ rfl dL_act_197
set_option maxHeartbeats 4000000 in
set_option maxRecDepth 100000 in
theorem zL_expose_0 (l : Launch) (hfl : l.stackTraces = false) (D : va_G) (cI cL cE cP : ClassId) (g : Nat → Nat → Int32) (n k : Nat) (u0 : U8) (hok : zOk g n k) (h9 : zH9 g n) (a0 a1 a2 a3 a4 a5 : Int32) (hT : T_addExposure n a0 a1 a2 a3 a4 a5 = 0) (sz : Nat) : Met l yL_expose wsL_expose ({ frames := 20, cells := 1, slots := 8, locals := 1000 }) (zPy D cI cL cE cP (cw8 cI cL cE cP g n k u0) sz [.ref (u0.1 0), .int a0, .int a1, .int a2, .int a3, .int a4, .int a5]) (va_Qi (fun (r : Int32) (u : U8) => r = nI n ∧ u.1 0 = u0.1 0) (fun u t => zB D (cw8 cI cL cE cP g n k u0) sz (cw8 cI cL cE cP (gAE g n a0 a1 a2 a3 a4 a5) (n + 1) k u) t) (va_A (cw8 cI cL cE cP g n k u0) sz)) 1 8 (va_A (cw8 cI cL cE cP g n k u0) sz) := by
  refine va_MetW (cc := cL_expose) (maxL := 8) (ret := (some .int)) (hh := [(0, 13, 14, 13), (0, 13, 19, 16), (0, 13, 24, 19)]) (by decide) rfl ?_
  intro p e s m args below meth c s₁ B hml hv
  obtain ⟨rfl, hsz, hE, hP, hD0, hX, hU0, hN, hO0, hO1⟩ := hv
  subst hsz
  obtain ⟨A, hAe⟩ : ∃ A, A = va_A (cw8 cI cL cE cP g n k u0) s.heap.size := ⟨_, rfl⟩
  have hD : va_D A (cw8 cI cL cE cP g n k u0) := by rw [hAe]; exact hD0.self
  have hA : ∀ q : Nat, s.heap.size ≤ q → A q := fun q h => by rw [hAe]; exact Or.inr h
  have hU : zU A s s.heap := by rw [hAe]; exact hU0
  have hx := B.exec
  have hb := B.bytes
  have hr := B.returns
  have hts := atoms_spec (ws := wsL_expose) B.pre
  have hown : s.vm.findClass RL = some m.cls := findClass_of_methodNamed B.named
  have hlocks := B.notSynchronized
  have htb := vx_table (x := yX3_init) B (hts (.codeWith yL_expose cL_expose 8 (some .int) [(0, 13, 14, 13), (0, 13, 19, 16), (0, 13, 24, 19)]) List.mem_cons_self)
  have C : CJ p l ({ frames := 20, cells := 1, slots := 8, locals := 1000 }) s m _ c cL_expose 8 wsL_expose D cI cL cE cP A s.heap := ⟨hx, hb, hml, hown, hts, hE, hX, hN, hU, hA, hfl, Nat.le_of_ble_eq_true rfl, Nat.le_of_ble_eq_true rfl, hO0, hO1⟩
  have hJ : LJ D cI cL cE cP A s.heap (u0.1 0) g n k s.heap [] := ⟨hok, h9, u0, rfl, hP, hD, va_S.rf⟩
  have hl := lv_entry ([.ref (u0.1 0), .int a0, .int a1, .int a2, .int a3, .int a4, .int a5]) (n := 8) (Nat.le_of_ble_eq_true rfl)
  rw [lg_entry_eq]
  generalize (lg_sl ([.ref (u0.1 0), .int a0, .int a1, .int a2, .int a3, .int a4, .int a5]) ++ List.replicate (8 - (lg_sl ([.ref (u0.1 0), .int a0, .int a1, .int a2, .int a3, .int a4, .int a5])).length) Slot.unset).toArray = ls at hl ⊢
  have hl : lv_has ls 8 [(0, .ref (u0.1 0)), (1, .int a0), (2, .int a1), (3, .int a2), (4, .int a3), (5, .int a4), (6, .int a5)] := hl
  refine lv_aload_n hx hb dL_expose_0 rfl (lv_at hl 0 rfl) ?_
  refine lv_iload_n hx hb dL_expose_1 rfl (lv_at hl 1 rfl) ?_
  refine lv_iload_n hx hb dL_expose_2 rfl (lv_at hl 2 rfl) ?_
  refine lv_iload_n hx hb dL_expose_3 rfl (lv_at hl 3 rfl) ?_
  refine lv_iload hx hb dL_expose_4 (lv_at hl 4 rfl) ?_
  refine lv_iload hx hb dL_expose_6 (lv_at hl 5 rfl) ?_
  refine lv_iload hx hb dL_expose_8 (lv_at hl 6 rfl) ?_
  refine sa_addExposure C gL_expose_X3_addExposure dL_expose_10 hl.1 (Nat.le_of_ble_eq_true rfl) ⟨Nat.le_of_ble_eq_true rfl, Nat.le_of_ble_eq_true rfl⟩ hJ a0 a1 a2 a3 a4 a5 (nI n) hT rfl (fun H locs hJ => ?_)
  exact le_ret (post := fun r => r = nI n) C hr hlocks rfl hAe hJ rfl dL_expose_13
set_option maxHeartbeats 4000000 in
set_option maxRecDepth 100000 in
theorem zL_expose_1 (l : Launch) (hfl : l.stackTraces = false) (D : va_G) (cI cL cE cP : ClassId) (g : Nat → Nat → Int32) (n k : Nat) (u0 : U8) (hok : zOk g n k) (h9 : zH9 g n) (a0 a1 a2 a3 a4 a5 : Int32) (hT : T_addExposure n a0 a1 a2 a3 a4 a5 = 1) (sz : Nat) : Met l yL_expose wsL_expose ({ frames := 20, cells := 1, slots := 8, locals := 1000 }) (zPy D cI cL cE cP (cw8 cI cL cE cP g n k u0) sz [.ref (u0.1 0), .int a0, .int a1, .int a2, .int a3, .int a4, .int a5]) (va_Qi (fun (r : Int32) (u : U8) => r = -900000001 ∧ u.1 0 = u0.1 0) (fun u t => zB D (cw8 cI cL cE cP g n k u0) sz (cw8 cI cL cE cP g n k u) t) (va_A (cw8 cI cL cE cP g n k u0) sz)) 1 8 (va_A (cw8 cI cL cE cP g n k u0) sz) := by
  refine va_MetW (cc := cL_expose) (maxL := 8) (ret := (some .int)) (hh := [(0, 13, 14, 13), (0, 13, 19, 16), (0, 13, 24, 19)]) (by decide) rfl ?_
  intro p e s m args below meth c s₁ B hml hv
  obtain ⟨rfl, hsz, hE, hP, hD0, hX, hU0, hN, hO0, hO1⟩ := hv
  subst hsz
  obtain ⟨A, hAe⟩ : ∃ A, A = va_A (cw8 cI cL cE cP g n k u0) s.heap.size := ⟨_, rfl⟩
  have hD : va_D A (cw8 cI cL cE cP g n k u0) := by rw [hAe]; exact hD0.self
  have hA : ∀ q : Nat, s.heap.size ≤ q → A q := fun q h => by rw [hAe]; exact Or.inr h
  have hU : zU A s s.heap := by rw [hAe]; exact hU0
  have hx := B.exec
  have hb := B.bytes
  have hr := B.returns
  have hts := atoms_spec (ws := wsL_expose) B.pre
  have hown : s.vm.findClass RL = some m.cls := findClass_of_methodNamed B.named
  have hlocks := B.notSynchronized
  have htb := vx_table (x := yX3_init) B (hts (.codeWith yL_expose cL_expose 8 (some .int) [(0, 13, 14, 13), (0, 13, 19, 16), (0, 13, 24, 19)]) List.mem_cons_self)
  have C : CJ p l ({ frames := 20, cells := 1, slots := 8, locals := 1000 }) s m _ c cL_expose 8 wsL_expose D cI cL cE cP A s.heap := ⟨hx, hb, hml, hown, hts, hE, hX, hN, hU, hA, hfl, Nat.le_of_ble_eq_true rfl, Nat.le_of_ble_eq_true rfl, hO0, hO1⟩
  have hJ : LJ D cI cL cE cP A s.heap (u0.1 0) g n k s.heap [] := ⟨hok, h9, u0, rfl, hP, hD, va_S.rf⟩
  have hl := lv_entry ([.ref (u0.1 0), .int a0, .int a1, .int a2, .int a3, .int a4, .int a5]) (n := 8) (Nat.le_of_ble_eq_true rfl)
  rw [lg_entry_eq]
  generalize (lg_sl ([.ref (u0.1 0), .int a0, .int a1, .int a2, .int a3, .int a4, .int a5]) ++ List.replicate (8 - (lg_sl ([.ref (u0.1 0), .int a0, .int a1, .int a2, .int a3, .int a4, .int a5])).length) Slot.unset).toArray = ls at hl ⊢
  have hl : lv_has ls 8 [(0, .ref (u0.1 0)), (1, .int a0), (2, .int a1), (3, .int a2), (4, .int a3), (5, .int a4), (6, .int a5)] := hl
  refine lv_aload_n hx hb dL_expose_0 rfl (lv_at hl 0 rfl) ?_
  refine lv_iload_n hx hb dL_expose_1 rfl (lv_at hl 1 rfl) ?_
  refine lv_iload_n hx hb dL_expose_2 rfl (lv_at hl 2 rfl) ?_
  refine lv_iload_n hx hb dL_expose_3 rfl (lv_at hl 3 rfl) ?_
  refine lv_iload hx hb dL_expose_4 (lv_at hl 4 rfl) ?_
  refine lv_iload hx hb dL_expose_6 (lv_at hl 5 rfl) ?_
  refine lv_iload hx hb dL_expose_8 (lv_at hl 6 rfl) ?_
  refine st_addExposure C gL_expose_X3_addExposure dL_expose_10 hl.1 (Nat.le_of_ble_eq_true rfl) ⟨Nat.le_of_ble_eq_true rfl, Nat.le_of_ble_eq_true rfl⟩ hJ a0 a1 a2 a3 a4 a5 (fun E ce q9 H locs hxp hJ hq hqv hqc => ?_) (fun H locs h hJ => absurd (hT.symm.trans h) (by decide))
  rcases hxp with ⟨hEx, h⟩ | ⟨hEx, h⟩ | ⟨hEx, h⟩
  · subst hEx
    refine vx_catch (name := "java/lang/IndexOutOfBoundsException") hown [] (⟨0, 13, 14, 13⟩ : ExceptionTableEntry) [(⟨0, 13, 19, 16⟩ : ExceptionTableEntry), (⟨0, 13, 24, 19⟩ : ExceptionTableEntry)] (by rw [htb]; rfl) (fun z hz => nomatch hz) (by decide) (by decide) (hts (.classLink RL 13 "java/lang/IndexOutOfBoundsException") (by decide +kernel)) (va_Nw.use rfl (hX.1 (.castable "java/lang/IndexOutOfBoundsException" "java/lang/IndexOutOfBoundsException") (by decide +kernel))) hq hqv hqc ?_
    refine lv_astore (lv' := [(7, .ref q9), (0, .ref (u0.1 0)), (1, .int a0), (2, .int a1), (3, .int a2), (4, .int a3), (5, .int a4), (6, .int a5)]) hx hb dL_expose_14 hl (by decide) rfl (fun ls hl => ?_)
    refine lv_ldc (v := (-900000001)) hx hb hown (hts (.constant RL 15 (-900000001)) (by decide +kernel)) dL_expose_16 ?_
    exact le_ret (post := fun r => r = -900000001) C hr hlocks rfl hAe hJ rfl dL_expose_18
  · exact absurd (hT.symm.trans h) (by decide)
  · exact absurd (hT.symm.trans h) (by decide)
set_option maxHeartbeats 4000000 in
set_option maxRecDepth 100000 in
theorem zL_expose_2 (l : Launch) (hfl : l.stackTraces = false) (D : va_G) (cI cL cE cP : ClassId) (g : Nat → Nat → Int32) (n k : Nat) (u0 : U8) (hok : zOk g n k) (h9 : zH9 g n) (a0 a1 a2 a3 a4 a5 : Int32) (hT : T_addExposure n a0 a1 a2 a3 a4 a5 = 2) (sz : Nat) : Met l yL_expose wsL_expose ({ frames := 20, cells := 1, slots := 8, locals := 1000 }) (zPy D cI cL cE cP (cw8 cI cL cE cP g n k u0) sz [.ref (u0.1 0), .int a0, .int a1, .int a2, .int a3, .int a4, .int a5]) (va_Qi (fun (r : Int32) (u : U8) => r = -900000002 ∧ u.1 0 = u0.1 0) (fun u t => zB D (cw8 cI cL cE cP g n k u0) sz (cw8 cI cL cE cP g n k u) t) (va_A (cw8 cI cL cE cP g n k u0) sz)) 1 8 (va_A (cw8 cI cL cE cP g n k u0) sz) := by
  refine va_MetW (cc := cL_expose) (maxL := 8) (ret := (some .int)) (hh := [(0, 13, 14, 13), (0, 13, 19, 16), (0, 13, 24, 19)]) (by decide) rfl ?_
  intro p e s m args below meth c s₁ B hml hv
  obtain ⟨rfl, hsz, hE, hP, hD0, hX, hU0, hN, hO0, hO1⟩ := hv
  subst hsz
  obtain ⟨A, hAe⟩ : ∃ A, A = va_A (cw8 cI cL cE cP g n k u0) s.heap.size := ⟨_, rfl⟩
  have hD : va_D A (cw8 cI cL cE cP g n k u0) := by rw [hAe]; exact hD0.self
  have hA : ∀ q : Nat, s.heap.size ≤ q → A q := fun q h => by rw [hAe]; exact Or.inr h
  have hU : zU A s s.heap := by rw [hAe]; exact hU0
  have hx := B.exec
  have hb := B.bytes
  have hr := B.returns
  have hts := atoms_spec (ws := wsL_expose) B.pre
  have hown : s.vm.findClass RL = some m.cls := findClass_of_methodNamed B.named
  have hlocks := B.notSynchronized
  have htb := vx_table (x := yX3_init) B (hts (.codeWith yL_expose cL_expose 8 (some .int) [(0, 13, 14, 13), (0, 13, 19, 16), (0, 13, 24, 19)]) List.mem_cons_self)
  have C : CJ p l ({ frames := 20, cells := 1, slots := 8, locals := 1000 }) s m _ c cL_expose 8 wsL_expose D cI cL cE cP A s.heap := ⟨hx, hb, hml, hown, hts, hE, hX, hN, hU, hA, hfl, Nat.le_of_ble_eq_true rfl, Nat.le_of_ble_eq_true rfl, hO0, hO1⟩
  have hJ : LJ D cI cL cE cP A s.heap (u0.1 0) g n k s.heap [] := ⟨hok, h9, u0, rfl, hP, hD, va_S.rf⟩
  have hl := lv_entry ([.ref (u0.1 0), .int a0, .int a1, .int a2, .int a3, .int a4, .int a5]) (n := 8) (Nat.le_of_ble_eq_true rfl)
  rw [lg_entry_eq]
  generalize (lg_sl ([.ref (u0.1 0), .int a0, .int a1, .int a2, .int a3, .int a4, .int a5]) ++ List.replicate (8 - (lg_sl ([.ref (u0.1 0), .int a0, .int a1, .int a2, .int a3, .int a4, .int a5])).length) Slot.unset).toArray = ls at hl ⊢
  have hl : lv_has ls 8 [(0, .ref (u0.1 0)), (1, .int a0), (2, .int a1), (3, .int a2), (4, .int a3), (5, .int a4), (6, .int a5)] := hl
  refine lv_aload_n hx hb dL_expose_0 rfl (lv_at hl 0 rfl) ?_
  refine lv_iload_n hx hb dL_expose_1 rfl (lv_at hl 1 rfl) ?_
  refine lv_iload_n hx hb dL_expose_2 rfl (lv_at hl 2 rfl) ?_
  refine lv_iload_n hx hb dL_expose_3 rfl (lv_at hl 3 rfl) ?_
  refine lv_iload hx hb dL_expose_4 (lv_at hl 4 rfl) ?_
  refine lv_iload hx hb dL_expose_6 (lv_at hl 5 rfl) ?_
  refine lv_iload hx hb dL_expose_8 (lv_at hl 6 rfl) ?_
  refine st_addExposure C gL_expose_X3_addExposure dL_expose_10 hl.1 (Nat.le_of_ble_eq_true rfl) ⟨Nat.le_of_ble_eq_true rfl, Nat.le_of_ble_eq_true rfl⟩ hJ a0 a1 a2 a3 a4 a5 (fun E ce q9 H locs hxp hJ hq hqv hqc => ?_) (fun H locs h hJ => absurd (hT.symm.trans h) (by decide))
  rcases hxp with ⟨hEx, h⟩ | ⟨hEx, h⟩ | ⟨hEx, h⟩
  · exact absurd (hT.symm.trans h) (by decide)
  · subst hEx
    refine vx_catch (name := "java/lang/IllegalArgumentException") hown [(⟨0, 13, 14, 13⟩ : ExceptionTableEntry)] (⟨0, 13, 19, 16⟩ : ExceptionTableEntry) [(⟨0, 13, 24, 19⟩ : ExceptionTableEntry)] (by rw [htb]; rfl) (fun z hz => by obtain rfl := List.mem_singleton.mp hz; exact Or.inr ⟨by decide, "java/lang/IndexOutOfBoundsException", hts (.classLink RL 13 "java/lang/IndexOutOfBoundsException") (by decide +kernel), hN.1⟩) (by decide) (by decide) (hts (.classLink RL 16 "java/lang/IllegalArgumentException") (by decide +kernel)) (va_Nw.use rfl (hX.1 (.castable "java/lang/IllegalArgumentException" "java/lang/IllegalArgumentException") (by decide +kernel))) hq hqv hqc ?_
    refine lv_astore (lv' := [(7, .ref q9), (0, .ref (u0.1 0)), (1, .int a0), (2, .int a1), (3, .int a2), (4, .int a3), (5, .int a4), (6, .int a5)]) hx hb dL_expose_19 hl (by decide) rfl (fun ls hl => ?_)
    refine lv_ldc (v := (-900000002)) hx hb hown (hts (.constant RL 18 (-900000002)) (by decide +kernel)) dL_expose_21 ?_
    exact le_ret (post := fun r => r = -900000002) C hr hlocks rfl hAe hJ rfl dL_expose_23
  · exact absurd (hT.symm.trans h) (by decide)
set_option maxHeartbeats 4000000 in
set_option maxRecDepth 100000 in
theorem zL_expose_3 (l : Launch) (hfl : l.stackTraces = false) (D : va_G) (cI cL cE cP : ClassId) (g : Nat → Nat → Int32) (n k : Nat) (u0 : U8) (hok : zOk g n k) (h9 : zH9 g n) (a0 a1 a2 a3 a4 a5 : Int32) (hT : T_addExposure n a0 a1 a2 a3 a4 a5 = 3) (sz : Nat) : Met l yL_expose wsL_expose ({ frames := 20, cells := 1, slots := 8, locals := 1000 }) (zPy D cI cL cE cP (cw8 cI cL cE cP g n k u0) sz [.ref (u0.1 0), .int a0, .int a1, .int a2, .int a3, .int a4, .int a5]) (va_Qi (fun (r : Int32) (u : U8) => r = -900000003 ∧ u.1 0 = u0.1 0) (fun u t => zB D (cw8 cI cL cE cP g n k u0) sz (cw8 cI cL cE cP g n k u) t) (va_A (cw8 cI cL cE cP g n k u0) sz)) 1 8 (va_A (cw8 cI cL cE cP g n k u0) sz) := by
  refine va_MetW (cc := cL_expose) (maxL := 8) (ret := (some .int)) (hh := [(0, 13, 14, 13), (0, 13, 19, 16), (0, 13, 24, 19)]) (by decide) rfl ?_
  intro p e s m args below meth c s₁ B hml hv
  obtain ⟨rfl, hsz, hE, hP, hD0, hX, hU0, hN, hO0, hO1⟩ := hv
  subst hsz
  obtain ⟨A, hAe⟩ : ∃ A, A = va_A (cw8 cI cL cE cP g n k u0) s.heap.size := ⟨_, rfl⟩
  have hD : va_D A (cw8 cI cL cE cP g n k u0) := by rw [hAe]; exact hD0.self
  have hA : ∀ q : Nat, s.heap.size ≤ q → A q := fun q h => by rw [hAe]; exact Or.inr h
  have hU : zU A s s.heap := by rw [hAe]; exact hU0
  have hx := B.exec
  have hb := B.bytes
  have hr := B.returns
  have hts := atoms_spec (ws := wsL_expose) B.pre
  have hown : s.vm.findClass RL = some m.cls := findClass_of_methodNamed B.named
  have hlocks := B.notSynchronized
  have htb := vx_table (x := yX3_init) B (hts (.codeWith yL_expose cL_expose 8 (some .int) [(0, 13, 14, 13), (0, 13, 19, 16), (0, 13, 24, 19)]) List.mem_cons_self)
  have C : CJ p l ({ frames := 20, cells := 1, slots := 8, locals := 1000 }) s m _ c cL_expose 8 wsL_expose D cI cL cE cP A s.heap := ⟨hx, hb, hml, hown, hts, hE, hX, hN, hU, hA, hfl, Nat.le_of_ble_eq_true rfl, Nat.le_of_ble_eq_true rfl, hO0, hO1⟩
  have hJ : LJ D cI cL cE cP A s.heap (u0.1 0) g n k s.heap [] := ⟨hok, h9, u0, rfl, hP, hD, va_S.rf⟩
  have hl := lv_entry ([.ref (u0.1 0), .int a0, .int a1, .int a2, .int a3, .int a4, .int a5]) (n := 8) (Nat.le_of_ble_eq_true rfl)
  rw [lg_entry_eq]
  generalize (lg_sl ([.ref (u0.1 0), .int a0, .int a1, .int a2, .int a3, .int a4, .int a5]) ++ List.replicate (8 - (lg_sl ([.ref (u0.1 0), .int a0, .int a1, .int a2, .int a3, .int a4, .int a5])).length) Slot.unset).toArray = ls at hl ⊢
  have hl : lv_has ls 8 [(0, .ref (u0.1 0)), (1, .int a0), (2, .int a1), (3, .int a2), (4, .int a3), (5, .int a4), (6, .int a5)] := hl
  refine lv_aload_n hx hb dL_expose_0 rfl (lv_at hl 0 rfl) ?_
  refine lv_iload_n hx hb dL_expose_1 rfl (lv_at hl 1 rfl) ?_
  refine lv_iload_n hx hb dL_expose_2 rfl (lv_at hl 2 rfl) ?_
  refine lv_iload_n hx hb dL_expose_3 rfl (lv_at hl 3 rfl) ?_
  refine lv_iload hx hb dL_expose_4 (lv_at hl 4 rfl) ?_
  refine lv_iload hx hb dL_expose_6 (lv_at hl 5 rfl) ?_
  refine lv_iload hx hb dL_expose_8 (lv_at hl 6 rfl) ?_
  refine st_addExposure C gL_expose_X3_addExposure dL_expose_10 hl.1 (Nat.le_of_ble_eq_true rfl) ⟨Nat.le_of_ble_eq_true rfl, Nat.le_of_ble_eq_true rfl⟩ hJ a0 a1 a2 a3 a4 a5 (fun E ce q9 H locs hxp hJ hq hqv hqc => ?_) (fun H locs h hJ => absurd (hT.symm.trans h) (by decide))
  rcases hxp with ⟨hEx, h⟩ | ⟨hEx, h⟩ | ⟨hEx, h⟩
  · exact absurd (hT.symm.trans h) (by decide)
  · exact absurd (hT.symm.trans h) (by decide)
  · subst hEx
    refine vx_catch (name := "java/lang/IllegalStateException") hown [(⟨0, 13, 14, 13⟩ : ExceptionTableEntry), (⟨0, 13, 19, 16⟩ : ExceptionTableEntry)] (⟨0, 13, 24, 19⟩ : ExceptionTableEntry) [] (by rw [htb]; rfl) (fun z hz => by rcases List.mem_cons.mp hz with rfl | hz; (exact Or.inr ⟨by decide, "java/lang/IndexOutOfBoundsException", hts (.classLink RL 13 "java/lang/IndexOutOfBoundsException") (by decide +kernel), hN.2.1⟩); (obtain rfl := List.mem_singleton.mp hz; exact Or.inr ⟨by decide, "java/lang/IllegalArgumentException", hts (.classLink RL 16 "java/lang/IllegalArgumentException") (by decide +kernel), hN.2.2⟩)) (by decide) (by decide) (hts (.classLink RL 19 "java/lang/IllegalStateException") (by decide +kernel)) (va_Nw.use rfl (hX.1 (.castable "java/lang/IllegalStateException" "java/lang/IllegalStateException") (by decide +kernel))) hq hqv hqc ?_
    refine lv_astore (lv' := [(7, .ref q9), (0, .ref (u0.1 0)), (1, .int a0), (2, .int a1), (3, .int a2), (4, .int a3), (5, .int a4), (6, .int a5)]) hx hb dL_expose_24 hl (by decide) rfl (fun ls hl => ?_)
    refine lv_ldc (v := (-900000003)) hx hb hown (hts (.constant RL 21 (-900000003)) (by decide +kernel)) dL_expose_26 ?_
    exact le_ret (post := fun r => r = -900000003) C hr hlocks rfl hAe hJ rfl dL_expose_28
set_option maxHeartbeats 4000000 in
set_option maxRecDepth 100000 in
theorem zL_piece_0 (l : Launch) (hfl : l.stackTraces = false) (D : va_G) (cI cL cE cP : ClassId) (g : Nat → Nat → Int32) (n k : Nat) (u0 : U8) (hok : zOk g n k) (h9 : zH9 g n) (a0 a1 a2 a3 a4 : Int32) (hT : T_addPiece k a0 a1 a2 a3 a4 = 0) (sz : Nat) : Met l yL_piece wsL_piece ({ frames := 20, cells := 1, slots := 6, locals := 1000 }) (zPy D cI cL cE cP (cw8 cI cL cE cP g n k u0) sz [.ref (u0.1 0), .int a0, .int a1, .int a2, .int a3, .int a4]) (va_Qi (fun (r : Int32) (u : U8) => r = nI k ∧ u.1 0 = u0.1 0) (fun u t => zB D (cw8 cI cL cE cP g n k u0) sz (cw8 cI cL cE cP (gAP g k a0 a1 a2 a3 a4) n (k + 1) u) t) (va_A (cw8 cI cL cE cP g n k u0) sz)) 1 6 (va_A (cw8 cI cL cE cP g n k u0) sz) := by
  refine va_MetW (cc := cL_piece) (maxL := 7) (ret := (some .int)) (hh := [(0, 11, 12, 16), (0, 11, 17, 19)]) (by decide) rfl ?_
  intro p e s m args below meth c s₁ B hml hv
  obtain ⟨rfl, hsz, hE, hP, hD0, hX, hU0, hN, hO0, hO1⟩ := hv
  subst hsz
  obtain ⟨A, hAe⟩ : ∃ A, A = va_A (cw8 cI cL cE cP g n k u0) s.heap.size := ⟨_, rfl⟩
  have hD : va_D A (cw8 cI cL cE cP g n k u0) := by rw [hAe]; exact hD0.self
  have hA : ∀ q : Nat, s.heap.size ≤ q → A q := fun q h => by rw [hAe]; exact Or.inr h
  have hU : zU A s s.heap := by rw [hAe]; exact hU0
  have hx := B.exec
  have hb := B.bytes
  have hr := B.returns
  have hts := atoms_spec (ws := wsL_piece) B.pre
  have hown : s.vm.findClass RL = some m.cls := findClass_of_methodNamed B.named
  have hlocks := B.notSynchronized
  have htb := vx_table (x := yX3_init) B (hts (.codeWith yL_piece cL_piece 7 (some .int) [(0, 11, 12, 16), (0, 11, 17, 19)]) List.mem_cons_self)
  have C : CJ p l ({ frames := 20, cells := 1, slots := 6, locals := 1000 }) s m _ c cL_piece 7 wsL_piece D cI cL cE cP A s.heap := ⟨hx, hb, hml, hown, hts, hE, hX, hN, hU, hA, hfl, Nat.le_of_ble_eq_true rfl, Nat.le_of_ble_eq_true rfl, hO0, hO1⟩
  have hJ : LJ D cI cL cE cP A s.heap (u0.1 0) g n k s.heap [] := ⟨hok, h9, u0, rfl, hP, hD, va_S.rf⟩
  have hl := lv_entry ([.ref (u0.1 0), .int a0, .int a1, .int a2, .int a3, .int a4]) (n := 7) (Nat.le_of_ble_eq_true rfl)
  rw [lg_entry_eq]
  generalize (lg_sl ([.ref (u0.1 0), .int a0, .int a1, .int a2, .int a3, .int a4]) ++ List.replicate (7 - (lg_sl ([.ref (u0.1 0), .int a0, .int a1, .int a2, .int a3, .int a4])).length) Slot.unset).toArray = ls at hl ⊢
  have hl : lv_has ls 7 [(0, .ref (u0.1 0)), (1, .int a0), (2, .int a1), (3, .int a2), (4, .int a3), (5, .int a4)] := hl
  refine lv_aload_n hx hb dL_piece_0 rfl (lv_at hl 0 rfl) ?_
  refine lv_iload_n hx hb dL_piece_1 rfl (lv_at hl 1 rfl) ?_
  refine lv_iload_n hx hb dL_piece_2 rfl (lv_at hl 2 rfl) ?_
  refine lv_iload_n hx hb dL_piece_3 rfl (lv_at hl 3 rfl) ?_
  refine lv_iload hx hb dL_piece_4 (lv_at hl 4 rfl) ?_
  refine lv_iload hx hb dL_piece_6 (lv_at hl 5 rfl) ?_
  refine sa_addPiece C gL_piece_X3_addPiece dL_piece_8 hl.1 (Nat.le_of_ble_eq_true rfl) ⟨Nat.le_of_ble_eq_true rfl, Nat.le_of_ble_eq_true rfl⟩ hJ a0 a1 a2 a3 a4 (nI k) hT rfl (fun H locs hJ => ?_)
  exact le_ret (post := fun r => r = nI k) C hr hlocks rfl hAe hJ rfl dL_piece_11
set_option maxHeartbeats 4000000 in
set_option maxRecDepth 100000 in
theorem zL_piece_1 (l : Launch) (hfl : l.stackTraces = false) (D : va_G) (cI cL cE cP : ClassId) (g : Nat → Nat → Int32) (n k : Nat) (u0 : U8) (hok : zOk g n k) (h9 : zH9 g n) (a0 a1 a2 a3 a4 : Int32) (hT : T_addPiece k a0 a1 a2 a3 a4 = 1) (sz : Nat) : Met l yL_piece wsL_piece ({ frames := 20, cells := 1, slots := 6, locals := 1000 }) (zPy D cI cL cE cP (cw8 cI cL cE cP g n k u0) sz [.ref (u0.1 0), .int a0, .int a1, .int a2, .int a3, .int a4]) (va_Qi (fun (r : Int32) (u : U8) => r = -900000002 ∧ u.1 0 = u0.1 0) (fun u t => zB D (cw8 cI cL cE cP g n k u0) sz (cw8 cI cL cE cP g n k u) t) (va_A (cw8 cI cL cE cP g n k u0) sz)) 1 6 (va_A (cw8 cI cL cE cP g n k u0) sz) := by
  refine va_MetW (cc := cL_piece) (maxL := 7) (ret := (some .int)) (hh := [(0, 11, 12, 16), (0, 11, 17, 19)]) (by decide) rfl ?_
  intro p e s m args below meth c s₁ B hml hv
  obtain ⟨rfl, hsz, hE, hP, hD0, hX, hU0, hN, hO0, hO1⟩ := hv
  subst hsz
  obtain ⟨A, hAe⟩ : ∃ A, A = va_A (cw8 cI cL cE cP g n k u0) s.heap.size := ⟨_, rfl⟩
  have hD : va_D A (cw8 cI cL cE cP g n k u0) := by rw [hAe]; exact hD0.self
  have hA : ∀ q : Nat, s.heap.size ≤ q → A q := fun q h => by rw [hAe]; exact Or.inr h
  have hU : zU A s s.heap := by rw [hAe]; exact hU0
  have hx := B.exec
  have hb := B.bytes
  have hr := B.returns
  have hts := atoms_spec (ws := wsL_piece) B.pre
  have hown : s.vm.findClass RL = some m.cls := findClass_of_methodNamed B.named
  have hlocks := B.notSynchronized
  have htb := vx_table (x := yX3_init) B (hts (.codeWith yL_piece cL_piece 7 (some .int) [(0, 11, 12, 16), (0, 11, 17, 19)]) List.mem_cons_self)
  have C : CJ p l ({ frames := 20, cells := 1, slots := 6, locals := 1000 }) s m _ c cL_piece 7 wsL_piece D cI cL cE cP A s.heap := ⟨hx, hb, hml, hown, hts, hE, hX, hN, hU, hA, hfl, Nat.le_of_ble_eq_true rfl, Nat.le_of_ble_eq_true rfl, hO0, hO1⟩
  have hJ : LJ D cI cL cE cP A s.heap (u0.1 0) g n k s.heap [] := ⟨hok, h9, u0, rfl, hP, hD, va_S.rf⟩
  have hl := lv_entry ([.ref (u0.1 0), .int a0, .int a1, .int a2, .int a3, .int a4]) (n := 7) (Nat.le_of_ble_eq_true rfl)
  rw [lg_entry_eq]
  generalize (lg_sl ([.ref (u0.1 0), .int a0, .int a1, .int a2, .int a3, .int a4]) ++ List.replicate (7 - (lg_sl ([.ref (u0.1 0), .int a0, .int a1, .int a2, .int a3, .int a4])).length) Slot.unset).toArray = ls at hl ⊢
  have hl : lv_has ls 7 [(0, .ref (u0.1 0)), (1, .int a0), (2, .int a1), (3, .int a2), (4, .int a3), (5, .int a4)] := hl
  refine lv_aload_n hx hb dL_piece_0 rfl (lv_at hl 0 rfl) ?_
  refine lv_iload_n hx hb dL_piece_1 rfl (lv_at hl 1 rfl) ?_
  refine lv_iload_n hx hb dL_piece_2 rfl (lv_at hl 2 rfl) ?_
  refine lv_iload_n hx hb dL_piece_3 rfl (lv_at hl 3 rfl) ?_
  refine lv_iload hx hb dL_piece_4 (lv_at hl 4 rfl) ?_
  refine lv_iload hx hb dL_piece_6 (lv_at hl 5 rfl) ?_
  refine st_addPiece C gL_piece_X3_addPiece dL_piece_8 hl.1 (Nat.le_of_ble_eq_true rfl) ⟨Nat.le_of_ble_eq_true rfl, Nat.le_of_ble_eq_true rfl⟩ hJ a0 a1 a2 a3 a4 (fun E ce q9 H locs hxp hJ hq hqv hqc => ?_) (fun H locs h hJ => absurd (hT.symm.trans h) (by decide))
  rcases hxp with ⟨hEx, h⟩ | ⟨hEx, h⟩
  · subst hEx
    refine vx_catch (name := "java/lang/IllegalArgumentException") hown [] (⟨0, 11, 12, 16⟩ : ExceptionTableEntry) [(⟨0, 11, 17, 19⟩ : ExceptionTableEntry)] (by rw [htb]; rfl) (fun z hz => nomatch hz) (by decide) (by decide) (hts (.classLink RL 16 "java/lang/IllegalArgumentException") (by decide +kernel)) (va_Nw.use rfl (hX.1 (.castable "java/lang/IllegalArgumentException" "java/lang/IllegalArgumentException") (by decide +kernel))) hq hqv hqc ?_
    refine lv_astore (lv' := [(6, .ref q9), (0, .ref (u0.1 0)), (1, .int a0), (2, .int a1), (3, .int a2), (4, .int a3), (5, .int a4)]) hx hb dL_piece_12 hl (by decide) rfl (fun ls hl => ?_)
    refine lv_ldc (v := (-900000002)) hx hb hown (hts (.constant RL 18 (-900000002)) (by decide +kernel)) dL_piece_14 ?_
    exact le_ret (post := fun r => r = -900000002) C hr hlocks rfl hAe hJ rfl dL_piece_16
  · exact absurd (hT.symm.trans h) (by decide)
set_option maxHeartbeats 4000000 in
set_option maxRecDepth 100000 in
theorem zL_piece_2 (l : Launch) (hfl : l.stackTraces = false) (D : va_G) (cI cL cE cP : ClassId) (g : Nat → Nat → Int32) (n k : Nat) (u0 : U8) (hok : zOk g n k) (h9 : zH9 g n) (a0 a1 a2 a3 a4 : Int32) (hT : T_addPiece k a0 a1 a2 a3 a4 = 2) (sz : Nat) : Met l yL_piece wsL_piece ({ frames := 20, cells := 1, slots := 6, locals := 1000 }) (zPy D cI cL cE cP (cw8 cI cL cE cP g n k u0) sz [.ref (u0.1 0), .int a0, .int a1, .int a2, .int a3, .int a4]) (va_Qi (fun (r : Int32) (u : U8) => r = -900000003 ∧ u.1 0 = u0.1 0) (fun u t => zB D (cw8 cI cL cE cP g n k u0) sz (cw8 cI cL cE cP g n k u) t) (va_A (cw8 cI cL cE cP g n k u0) sz)) 1 6 (va_A (cw8 cI cL cE cP g n k u0) sz) := by
  refine va_MetW (cc := cL_piece) (maxL := 7) (ret := (some .int)) (hh := [(0, 11, 12, 16), (0, 11, 17, 19)]) (by decide) rfl ?_
  intro p e s m args below meth c s₁ B hml hv
  obtain ⟨rfl, hsz, hE, hP, hD0, hX, hU0, hN, hO0, hO1⟩ := hv
  subst hsz
  obtain ⟨A, hAe⟩ : ∃ A, A = va_A (cw8 cI cL cE cP g n k u0) s.heap.size := ⟨_, rfl⟩
  have hD : va_D A (cw8 cI cL cE cP g n k u0) := by rw [hAe]; exact hD0.self
  have hA : ∀ q : Nat, s.heap.size ≤ q → A q := fun q h => by rw [hAe]; exact Or.inr h
  have hU : zU A s s.heap := by rw [hAe]; exact hU0
  have hx := B.exec
  have hb := B.bytes
  have hr := B.returns
  have hts := atoms_spec (ws := wsL_piece) B.pre
  have hown : s.vm.findClass RL = some m.cls := findClass_of_methodNamed B.named
  have hlocks := B.notSynchronized
  have htb := vx_table (x := yX3_init) B (hts (.codeWith yL_piece cL_piece 7 (some .int) [(0, 11, 12, 16), (0, 11, 17, 19)]) List.mem_cons_self)
  have C : CJ p l ({ frames := 20, cells := 1, slots := 6, locals := 1000 }) s m _ c cL_piece 7 wsL_piece D cI cL cE cP A s.heap := ⟨hx, hb, hml, hown, hts, hE, hX, hN, hU, hA, hfl, Nat.le_of_ble_eq_true rfl, Nat.le_of_ble_eq_true rfl, hO0, hO1⟩
  have hJ : LJ D cI cL cE cP A s.heap (u0.1 0) g n k s.heap [] := ⟨hok, h9, u0, rfl, hP, hD, va_S.rf⟩
  have hl := lv_entry ([.ref (u0.1 0), .int a0, .int a1, .int a2, .int a3, .int a4]) (n := 7) (Nat.le_of_ble_eq_true rfl)
  rw [lg_entry_eq]
  generalize (lg_sl ([.ref (u0.1 0), .int a0, .int a1, .int a2, .int a3, .int a4]) ++ List.replicate (7 - (lg_sl ([.ref (u0.1 0), .int a0, .int a1, .int a2, .int a3, .int a4])).length) Slot.unset).toArray = ls at hl ⊢
  have hl : lv_has ls 7 [(0, .ref (u0.1 0)), (1, .int a0), (2, .int a1), (3, .int a2), (4, .int a3), (5, .int a4)] := hl
  refine lv_aload_n hx hb dL_piece_0 rfl (lv_at hl 0 rfl) ?_
  refine lv_iload_n hx hb dL_piece_1 rfl (lv_at hl 1 rfl) ?_
  refine lv_iload_n hx hb dL_piece_2 rfl (lv_at hl 2 rfl) ?_
  refine lv_iload_n hx hb dL_piece_3 rfl (lv_at hl 3 rfl) ?_
  refine lv_iload hx hb dL_piece_4 (lv_at hl 4 rfl) ?_
  refine lv_iload hx hb dL_piece_6 (lv_at hl 5 rfl) ?_
  refine st_addPiece C gL_piece_X3_addPiece dL_piece_8 hl.1 (Nat.le_of_ble_eq_true rfl) ⟨Nat.le_of_ble_eq_true rfl, Nat.le_of_ble_eq_true rfl⟩ hJ a0 a1 a2 a3 a4 (fun E ce q9 H locs hxp hJ hq hqv hqc => ?_) (fun H locs h hJ => absurd (hT.symm.trans h) (by decide))
  rcases hxp with ⟨hEx, h⟩ | ⟨hEx, h⟩
  · exact absurd (hT.symm.trans h) (by decide)
  · subst hEx
    refine vx_catch (name := "java/lang/IllegalStateException") hown [(⟨0, 11, 12, 16⟩ : ExceptionTableEntry)] (⟨0, 11, 17, 19⟩ : ExceptionTableEntry) [] (by rw [htb]; rfl) (fun z hz => by obtain rfl := List.mem_singleton.mp hz; exact Or.inr ⟨by decide, "java/lang/IllegalArgumentException", hts (.classLink RL 16 "java/lang/IllegalArgumentException") (by decide +kernel), hN.2.2⟩) (by decide) (by decide) (hts (.classLink RL 19 "java/lang/IllegalStateException") (by decide +kernel)) (va_Nw.use rfl (hX.1 (.castable "java/lang/IllegalStateException" "java/lang/IllegalStateException") (by decide +kernel))) hq hqv hqc ?_
    refine lv_astore (lv' := [(6, .ref q9), (0, .ref (u0.1 0)), (1, .int a0), (2, .int a1), (3, .int a2), (4, .int a3), (5, .int a4)]) hx hb dL_piece_17 hl (by decide) rfl (fun ls hl => ?_)
    refine lv_ldc (v := (-900000003)) hx hb hown (hts (.constant RL 21 (-900000003)) (by decide +kernel)) dL_piece_19 ?_
    exact le_ret (post := fun r => r = -900000003) C hr hlocks rfl hAe hJ rfl dL_piece_21
set_option maxHeartbeats 4000000 in
set_option maxRecDepth 100000 in
theorem zL_sums (l : Launch) (hfl : l.stackTraces = false) (D : va_G) (cI cL cE cP : ClassId) (g : Nat → Nat → Int32) (n k : Nat) (u0 : U8) (hok : zOk g n k) (h9 : zH9 g n) (a b d : Int32) (h1 : bwE (KE g n k) k = a) (h2 : plL g n = b) (h3 : (if bwE (KE g n k) k < pct (plL g n) (g 2 0) then pct (plL g n) (g 2 0) else bwE (KE g n k) k) = d) (sz : Nat) : Met l yL_sums wsL_sums ({ frames := 20, cells := 0, slots := 0, locals := 1000 }) (zPy D cI cL cE cP (cw8 cI cL cE cP g n k u0) sz [.ref (u0.1 0), .int a, .int b, .int d]) (va_Qi (fun (r : Int32) (u : U8) => r = 1 ∧ u.1 0 = u0.1 0) (fun u t => zB D (cw8 cI cL cE cP g n k u0) sz (cw8 cI cL cE cP g n k u) t) (va_A (cw8 cI cL cE cP g n k u0) sz)) 0 0 (va_A (cw8 cI cL cE cP g n k u0) sz) := by
  refine Met.ofW (cc := cL_sums) (maxL := 4) (ret := (some .boolean)) (by decide) rfl ?_
  intro p e s m args below meth c s₁ B hml hv
  obtain ⟨rfl, hsz, hE, hP, hD0, hX, hU0, hN, hO0, hO1⟩ := hv
  subst hsz
  obtain ⟨A, hAe⟩ : ∃ A, A = va_A (cw8 cI cL cE cP g n k u0) s.heap.size := ⟨_, rfl⟩
  have hD : va_D A (cw8 cI cL cE cP g n k u0) := by rw [hAe]; exact hD0.self
  have hA : ∀ q : Nat, s.heap.size ≤ q → A q := fun q h => by rw [hAe]; exact Or.inr h
  have hU : zU A s s.heap := by rw [hAe]; exact hU0
  have hx := B.exec
  have hb := B.bytes
  have hr := B.returns
  have hts := atoms_spec (ws := wsL_sums) B.pre
  have hown : s.vm.findClass RL = some m.cls := findClass_of_methodNamed B.named
  have hlocks := B.notSynchronized
  have C : CJ p l ({ frames := 20, cells := 0, slots := 0, locals := 1000 }) s m _ c cL_sums 4 wsL_sums D cI cL cE cP A s.heap := ⟨hx, hb, hml, hown, hts, hE, hX, hN, hU, hA, hfl, Nat.le_of_ble_eq_true rfl, Nat.le_of_ble_eq_true rfl, hO0, hO1⟩
  have hJ : LJ D cI cL cE cP A s.heap (u0.1 0) g n k s.heap [] := ⟨hok, h9, u0, rfl, hP, hD, va_S.rf⟩
  have hl := lv_entry ([.ref (u0.1 0), .int a, .int b, .int d]) (n := 4) (Nat.le_of_ble_eq_true rfl)
  rw [lg_entry_eq]
  generalize (lg_sl ([.ref (u0.1 0), .int a, .int b, .int d]) ++ List.replicate (4 - (lg_sl ([.ref (u0.1 0), .int a, .int b, .int d])).length) Slot.unset).toArray = ls at hl ⊢
  have hl : lv_has ls 4 [(0, .ref (u0.1 0)), (1, .int a), (2, .int b), (3, .int d)] := hl
  refine lv_aload_n hx hb dL_sums_0 rfl (lv_at hl 0 rfl) ?_
  refine sa_whole C gL_sums_X3_whole dL_sums_1 hl.1 (Nat.le_of_ble_eq_true rfl) ⟨Nat.le_of_ble_eq_true rfl, Nat.le_of_ble_eq_true rfl⟩ hJ a h1 (fun H locs hJ => ?_)
  refine lv_iload_n hx hb dL_sums_4 rfl (lv_at hl 1 rfl) ?_
  refine lv_icmp_ne (tgt := 36) hx hb dL_sums_5 (by decide) (fun h => absurd rfl h) (fun _ => ?_)
  refine lv_aload_n hx hb dL_sums_8 rfl (lv_at hl 0 rfl) ?_
  refine sa_wholeByTrying C gL_sums_X3_wholeByTrying dL_sums_9 hl.1 (Nat.le_of_ble_eq_true rfl) ⟨Nat.le_of_ble_eq_true rfl, Nat.le_of_ble_eq_true rfl⟩ hJ a h1 (fun H locs hJ => ?_)
  refine lv_iload_n hx hb dL_sums_12 rfl (lv_at hl 1 rfl) ?_
  refine lv_icmp_ne (tgt := 36) hx hb dL_sums_13 (by decide) (fun h => absurd rfl h) (fun _ => ?_)
  refine lv_aload_n hx hb dL_sums_16 rfl (lv_at hl 0 rfl) ?_
  refine sa_plain C gL_sums_X3_plain dL_sums_17 hl.1 (Nat.le_of_ble_eq_true rfl) ⟨Nat.le_of_ble_eq_true rfl, Nat.le_of_ble_eq_true rfl⟩ hJ b h2 ?_
  refine lv_iload_n hx hb dL_sums_20 rfl (lv_at hl 2 rfl) ?_
  refine lv_icmp_ne (tgt := 36) hx hb dL_sums_21 (by decide) (fun h => absurd rfl h) (fun _ => ?_)
  refine lv_aload_n hx hb dL_sums_24 rfl (lv_at hl 0 rfl) ?_
  refine sa_required C gL_sums_X3_required dL_sums_25 hl.1 (Nat.le_of_ble_eq_true rfl) ⟨Nat.le_of_ble_eq_true rfl, Nat.le_of_ble_eq_true rfl⟩ hJ d h3 (fun H locs hJ => ?_)
  refine lv_iload_n hx hb dL_sums_28 rfl (lv_at hl 3 rfl) ?_
  refine lv_icmp_ne (tgt := 36) hx hb dL_sums_29 (by decide) (fun h => absurd rfl h) (fun _ => ?_)
  refine lv_iconst (v := 1) hx hb dL_sums_32 (by decide) ?_
  refine lv_goto (tgt := 37) hx hb dL_sums_33 (by decide) ?_
  exact le_ret (post := fun r => r = 1) C hr hlocks rfl hAe hJ rfl dL_sums_37
set_option maxHeartbeats 4000000 in
set_option maxRecDepth 100000 in
theorem zL_at (l : Launch) (hfl : l.stackTraces = false) (D : va_G) (cI cL cE cP : ClassId) (g : Nat → Nat → Int32) (n k : Nat) (u0 : U8) (hok : zOk g n k) (h9 : zH9 g n) (x b d : Int32) (hT : T_amount n x = 0) (h1 : bw g k x.toNatClampNeg (gsL (KE g n k) k x k) = b) (h2 : wo g x.toNatClampNeg (bw g k x.toNatClampNeg (gsL (KE g n k) k x k)) = d) (sz : Nat) : Met l yL_at wsL_at ({ frames := 20, cells := 2, slots := 12, locals := 1000 }) (zPy D cI cL cE cP (cw8 cI cL cE cP g n k u0) sz [.ref (u0.1 0), .int x, .int b, .int d]) (va_Qi (fun (r : Int32) (u : U8) => r = 1 ∧ u.1 0 = u0.1 0) (fun u t => zB D (cw8 cI cL cE cP g n k u0) sz (cw8 cI cL cE cP g n k u) t) (va_A (cw8 cI cL cE cP g n k u0) sz)) 2 12 (va_A (cw8 cI cL cE cP g n k u0) sz) := by
  refine Met.ofW (cc := cL_at) (maxL := 4) (ret := (some .boolean)) (by decide) rfl ?_
  intro p e s m args below meth c s₁ B hml hv
  obtain ⟨rfl, hsz, hE, hP, hD0, hX, hU0, hN, hO0, hO1⟩ := hv
  subst hsz
  obtain ⟨A, hAe⟩ : ∃ A, A = va_A (cw8 cI cL cE cP g n k u0) s.heap.size := ⟨_, rfl⟩
  have hD : va_D A (cw8 cI cL cE cP g n k u0) := by rw [hAe]; exact hD0.self
  have hA : ∀ q : Nat, s.heap.size ≤ q → A q := fun q h => by rw [hAe]; exact Or.inr h
  have hU : zU A s s.heap := by rw [hAe]; exact hU0
  have hx := B.exec
  have hb := B.bytes
  have hr := B.returns
  have hts := atoms_spec (ws := wsL_at) B.pre
  have hown : s.vm.findClass RL = some m.cls := findClass_of_methodNamed B.named
  have hlocks := B.notSynchronized
  have C : CJ p l ({ frames := 20, cells := 2, slots := 12, locals := 1000 }) s m _ c cL_at 4 wsL_at D cI cL cE cP A s.heap := ⟨hx, hb, hml, hown, hts, hE, hX, hN, hU, hA, hfl, Nat.le_of_ble_eq_true rfl, Nat.le_of_ble_eq_true rfl, hO0, hO1⟩
  have hJ : LJ D cI cL cE cP A s.heap (u0.1 0) g n k s.heap [] := ⟨hok, h9, u0, rfl, hP, hD, va_S.rf⟩
  have hl := lv_entry ([.ref (u0.1 0), .int x, .int b, .int d]) (n := 4) (Nat.le_of_ble_eq_true rfl)
  rw [lg_entry_eq]
  generalize (lg_sl ([.ref (u0.1 0), .int x, .int b, .int d]) ++ List.replicate (4 - (lg_sl ([.ref (u0.1 0), .int x, .int b, .int d])).length) Slot.unset).toArray = ls at hl ⊢
  have hl : lv_has ls 4 [(0, .ref (u0.1 0)), (1, .int x), (2, .int b), (3, .int d)] := hl
  refine lv_aload_n hx hb dL_at_0 rfl (lv_at hl 0 rfl) ?_
  refine lv_iload_n hx hb dL_at_1 rfl (lv_at hl 1 rfl) ?_
  refine sa_bare C gL_at_X3_bare dL_at_2 hl.1 (Nat.le_of_ble_eq_true rfl) ⟨Nat.le_of_ble_eq_true rfl, Nat.le_of_ble_eq_true rfl⟩ hJ x b hT h1 (fun H locs hJ => ?_)
  refine lv_iload_n hx hb dL_at_5 rfl (lv_at hl 2 rfl) ?_
  refine lv_icmp_ne (tgt := 22) hx hb dL_at_6 (by decide) (fun h => absurd rfl h) (fun _ => ?_)
  refine lv_aload_n hx hb dL_at_9 rfl (lv_at hl 0 rfl) ?_
  refine lv_iload_n hx hb dL_at_10 rfl (lv_at hl 1 rfl) ?_
  refine sa_weighted C gL_at_X3_weighted dL_at_11 hl.1 (Nat.le_of_ble_eq_true rfl) ⟨Nat.le_of_ble_eq_true rfl, Nat.le_of_ble_eq_true rfl⟩ hJ x d hT h2 (fun H locs hJ => ?_)
  refine lv_iload_n hx hb dL_at_14 rfl (lv_at hl 3 rfl) ?_
  refine lv_icmp_ne (tgt := 22) hx hb dL_at_15 (by decide) (fun h => absurd rfl h) (fun _ => ?_)
  refine lv_iconst (v := 1) hx hb dL_at_18 (by decide) ?_
  refine lv_goto (tgt := 23) hx hb dL_at_19 (by decide) ?_
  exact le_ret (post := fun r => r = 1) C hr hlocks rfl hAe hJ rfl dL_at_23
section SL
variable {p : Program} {l : Launch} {e : Env} {R : Room} {s : State} {m : MethodId} {args : Array Value} {below : List Frame} {meth : Method} {c : Code} {H : Heap} {locs : List Loc} {cells slots : Nat} {Q : State → Prop} {cc : ByteArray} {nL pc : Nat} {ls : Array Slot} {rest st0 : List Value} {Ts : List Cond} {D : va_G} {cI cL cE cP : ClassId} {A : Nat → Prop} {H0 : Heap} {o0 : Nat} {g : Nat → Nat → Int32} {n k : Nat}
theorem sl_back {ar : Array Value} {g2 : Nat → Nat → Int32} {n2 k2 mc ms : Nat} {u0 : U8} {v : Int32} (hA : ∀ q : Nat, H0.size ≤ q → A q) (hok : zOk g2 n2 k2) (h9 : zH9 g2 n2) (hD : va_D A (cw8 cI cL cE cP g n k u0)) (hS : va_S A H0 H locs)
    (hr : va_Run p l e R s m args below meth c H locs cells slots mc ms (F0 m pc ls st0) rest (va_Qi (fun (r : Int32) (u : U8) => r = v ∧ u.1 0 = u0.1 0) (fun u t => zB D (cw8 cI cL cE cP g n k u0) H.size (cw8 cI cL cE cP g2 n2 k2 u) t) (va_A (cw8 cI cL cE cP g n k u0) H.size) ar) (va_A (cw8 cI cL cE cP g n k u0) H.size))
    (kk : ∀ (H1 : Heap) (locs1 : List Loc), LJ D cI cL cE cP A H0 (u0.1 0) g2 n2 k2 H1 locs1 → W p l e R s m args below meth c H1 locs1 (cells + mc) (slots + ms) Q (F0 m (pc + 3) ls (.int v :: rest))) : W p l e R s m args below meth c H locs cells slots Q (F0 m pc ls st0) :=
  va_calli hr hS (fun q _ h => va_A_in hD hS hA q h) (va_A_in hD hS hA) (fun r u t H1 locs1 ht hvm hp hB hz hk hS1 => by
    obtain ⟨rfl, hu⟩ := hp
    exact kk H1 locs1 ⟨hok, h9, u, hu, by rw [← ht]; exact hB.1, hB.2.weaken (fun _ _ _ h => va_A_in hD hS hA _ h), hS1⟩)
theorem sl_act_0_1 (C : CJ p l R s m args c cc nL Ts D cI cL cE cP A H0) (hg : GoodIn Ts (va_wsS RL 86 yL_act wsL_act)) (hdg : decode cc pc = .ok (.invokestatic 86, 3)) (hls : ls.size = nL) (hW : (rest.map fun v => v.category).sum ≤ 8) (hf : cells + 1 ≤ R.cells ∧ slots + 6 ≤ R.slots) (hRR : 30 ≤ R.frames ∧ 2000 ≤ R.locals) (hJ : LJ D cI cL cE cP A H0 o0 g n k H locs) (a b d : Int32) (hT : T_setWeights a b d = 1)
    (kk : ∀ (H1 : Heap) (locs1 : List Loc), LJ D cI cL cE cP A H0 o0 g n k H1 locs1 → W p l e R s m args below meth c H1 locs1 (cells + 1) (slots + 6) Q (F0 m (pc + 3) ls (.int (-900000001) :: rest))) : W p l e R s m args below meth c H locs cells slots Q (F0 m pc ls (.int d :: .int b :: .int a :: .int 0 :: .ref o0 :: rest)) := by
  obtain ⟨hx, hb, hml, hown, hts, hE, hX, hN, hU0, hA, hfl, hR1, hR2, hO0, hO1⟩ := C
  obtain ⟨hok, h9, u0, rfl, hP, hD, hS⟩ := hJ
  have hU : zU (va_A (cw8 cI cL cE cP g n k u0) H.size) s H := (hU0.kept hS.2.1).narrow (va_A_in hD hS hA)
  exact sl_back hA hok h9 hD hS (vx_runSW (As := [.ref (u0.1 0), .int 0, .int a, .int b, .int d]) (rest := rest) ⟨hx, hb, hml, hown, hts⟩ (zL_act_0_1 l hfl D cI cL cE cP g n k u0 hok h9 a b d hT H.size) (vx_cwSW 5 hts hg rfl rfl rfl (by decide +kernel) ⟨Nat.le_trans (m := 30) (Nat.le_of_ble_eq_true rfl) hRR.1, Nat.le_trans (m := 2000) (Nat.le_of_ble_eq_true rfl) hRR.2⟩) ⟨zPy_blind, zPy_mk hE hP hD hX hU hN hO0 hO1⟩ rfl rfl hls rfl (lv_room hW) hdg hf) kk
theorem sl_act_0_2 (C : CJ p l R s m args c cc nL Ts D cI cL cE cP A H0) (hg : GoodIn Ts (va_wsS RL 86 yL_act wsL_act)) (hdg : decode cc pc = .ok (.invokestatic 86, 3)) (hls : ls.size = nL) (hW : (rest.map fun v => v.category).sum ≤ 8) (hf : cells + 1 ≤ R.cells ∧ slots + 6 ≤ R.slots) (hRR : 30 ≤ R.frames ∧ 2000 ≤ R.locals) (hJ : LJ D cI cL cE cP A H0 o0 g n k H locs) (a b d : Int32) (hT : T_setWeights a b d = 2)
    (kk : ∀ (H1 : Heap) (locs1 : List Loc), LJ D cI cL cE cP A H0 o0 g n k H1 locs1 → W p l e R s m args below meth c H1 locs1 (cells + 1) (slots + 6) Q (F0 m (pc + 3) ls (.int (-900000002) :: rest))) : W p l e R s m args below meth c H locs cells slots Q (F0 m pc ls (.int d :: .int b :: .int a :: .int 0 :: .ref o0 :: rest)) := by
  obtain ⟨hx, hb, hml, hown, hts, hE, hX, hN, hU0, hA, hfl, hR1, hR2, hO0, hO1⟩ := C
  obtain ⟨hok, h9, u0, rfl, hP, hD, hS⟩ := hJ
  have hU : zU (va_A (cw8 cI cL cE cP g n k u0) H.size) s H := (hU0.kept hS.2.1).narrow (va_A_in hD hS hA)
  exact sl_back hA hok h9 hD hS (vx_runSW (As := [.ref (u0.1 0), .int 0, .int a, .int b, .int d]) (rest := rest) ⟨hx, hb, hml, hown, hts⟩ (zL_act_0_2 l hfl D cI cL cE cP g n k u0 hok h9 a b d hT H.size) (vx_cwSW 5 hts hg rfl rfl rfl (by decide +kernel) ⟨Nat.le_trans (m := 30) (Nat.le_of_ble_eq_true rfl) hRR.1, Nat.le_trans (m := 2000) (Nat.le_of_ble_eq_true rfl) hRR.2⟩) ⟨zPy_blind, zPy_mk hE hP hD hX hU hN hO0 hO1⟩ rfl rfl hls rfl (lv_room hW) hdg hf) kk
theorem sl_act_1_1 (C : CJ p l R s m args c cc nL Ts D cI cL cE cP A H0) (hg : GoodIn Ts (va_wsS RL 86 yL_act wsL_act)) (hdg : decode cc pc = .ok (.invokestatic 86, 3)) (hls : ls.size = nL) (hW : (rest.map fun v => v.category).sum ≤ 8) (hf : cells + 1 ≤ R.cells ∧ slots + 6 ≤ R.slots) (hRR : 30 ≤ R.frames ∧ 2000 ≤ R.locals) (hJ : LJ D cI cL cE cP A H0 o0 g n k H locs) (a b d : Int32) (hT : T_setFloor a = 1)
    (kk : ∀ (H1 : Heap) (locs1 : List Loc), LJ D cI cL cE cP A H0 o0 g n k H1 locs1 → W p l e R s m args below meth c H1 locs1 (cells + 1) (slots + 6) Q (F0 m (pc + 3) ls (.int (-900000002) :: rest))) : W p l e R s m args below meth c H locs cells slots Q (F0 m pc ls (.int d :: .int b :: .int a :: .int 1 :: .ref o0 :: rest)) := by
  obtain ⟨hx, hb, hml, hown, hts, hE, hX, hN, hU0, hA, hfl, hR1, hR2, hO0, hO1⟩ := C
  obtain ⟨hok, h9, u0, rfl, hP, hD, hS⟩ := hJ
  have hU : zU (va_A (cw8 cI cL cE cP g n k u0) H.size) s H := (hU0.kept hS.2.1).narrow (va_A_in hD hS hA)
  exact sl_back hA hok h9 hD hS (vx_runSW (As := [.ref (u0.1 0), .int 1, .int a, .int b, .int d]) (rest := rest) ⟨hx, hb, hml, hown, hts⟩ (zL_act_1_1 l hfl D cI cL cE cP g n k u0 hok h9 a b d hT H.size) (vx_cwSW 5 hts hg rfl rfl rfl (by decide +kernel) ⟨Nat.le_trans (m := 30) (Nat.le_of_ble_eq_true rfl) hRR.1, Nat.le_trans (m := 2000) (Nat.le_of_ble_eq_true rfl) hRR.2⟩) ⟨zPy_blind, zPy_mk hE hP hD hX hU hN hO0 hO1⟩ rfl rfl hls rfl (lv_room hW) hdg hf) kk
theorem sl_act_2_1 (C : CJ p l R s m args c cc nL Ts D cI cL cE cP A H0) (hg : GoodIn Ts (va_wsS RL 86 yL_act wsL_act)) (hdg : decode cc pc = .ok (.invokestatic 86, 3)) (hls : ls.size = nL) (hW : (rest.map fun v => v.category).sum ≤ 8) (hf : cells + 1 ≤ R.cells ∧ slots + 6 ≤ R.slots) (hRR : 30 ≤ R.frames ∧ 2000 ≤ R.locals) (hJ : LJ D cI cL cE cP A H0 o0 g n k H locs) (a b d : Int32) (hT : T_setCapital a = 1)
    (kk : ∀ (H1 : Heap) (locs1 : List Loc), LJ D cI cL cE cP A H0 o0 g n k H1 locs1 → W p l e R s m args below meth c H1 locs1 (cells + 1) (slots + 6) Q (F0 m (pc + 3) ls (.int (-900000002) :: rest))) : W p l e R s m args below meth c H locs cells slots Q (F0 m pc ls (.int d :: .int b :: .int a :: .int 2 :: .ref o0 :: rest)) := by
  obtain ⟨hx, hb, hml, hown, hts, hE, hX, hN, hU0, hA, hfl, hR1, hR2, hO0, hO1⟩ := C
  obtain ⟨hok, h9, u0, rfl, hP, hD, hS⟩ := hJ
  have hU : zU (va_A (cw8 cI cL cE cP g n k u0) H.size) s H := (hU0.kept hS.2.1).narrow (va_A_in hD hS hA)
  exact sl_back hA hok h9 hD hS (vx_runSW (As := [.ref (u0.1 0), .int 2, .int a, .int b, .int d]) (rest := rest) ⟨hx, hb, hml, hown, hts⟩ (zL_act_2_1 l hfl D cI cL cE cP g n k u0 hok h9 a b d hT H.size) (vx_cwSW 5 hts hg rfl rfl rfl (by decide +kernel) ⟨Nat.le_trans (m := 30) (Nat.le_of_ble_eq_true rfl) hRR.1, Nat.le_trans (m := 2000) (Nat.le_of_ble_eq_true rfl) hRR.2⟩) ⟨zPy_blind, zPy_mk hE hP hD hX hU hN hO0 hO1⟩ rfl rfl hls rfl (lv_room hW) hdg hf) kk
theorem sl_act_3_1 (C : CJ p l R s m args c cc nL Ts D cI cL cE cP A H0) (hg : GoodIn Ts (va_wsS RL 86 yL_act wsL_act)) (hdg : decode cc pc = .ok (.invokestatic 86, 3)) (hls : ls.size = nL) (hW : (rest.map fun v => v.category).sum ≤ 8) (hf : cells + 1 ≤ R.cells ∧ slots + 6 ≤ R.slots) (hRR : 30 ≤ R.frames ∧ 2000 ≤ R.locals) (hJ : LJ D cI cL cE cP A H0 o0 g n k H locs) (a b d : Int32) (hT : T_draw g n a b = 1)
    (kk : ∀ (H1 : Heap) (locs1 : List Loc), LJ D cI cL cE cP A H0 o0 g n k H1 locs1 → W p l e R s m args below meth c H1 locs1 (cells + 1) (slots + 6) Q (F0 m (pc + 3) ls (.int (-900000001) :: rest))) : W p l e R s m args below meth c H locs cells slots Q (F0 m pc ls (.int d :: .int b :: .int a :: .int 3 :: .ref o0 :: rest)) := by
  obtain ⟨hx, hb, hml, hown, hts, hE, hX, hN, hU0, hA, hfl, hR1, hR2, hO0, hO1⟩ := C
  obtain ⟨hok, h9, u0, rfl, hP, hD, hS⟩ := hJ
  have hU : zU (va_A (cw8 cI cL cE cP g n k u0) H.size) s H := (hU0.kept hS.2.1).narrow (va_A_in hD hS hA)
  exact sl_back hA hok h9 hD hS (vx_runSW (As := [.ref (u0.1 0), .int 3, .int a, .int b, .int d]) (rest := rest) ⟨hx, hb, hml, hown, hts⟩ (zL_act_3_1 l hfl D cI cL cE cP g n k u0 hok h9 a b d hT H.size) (vx_cwSW 5 hts hg rfl rfl rfl (by decide +kernel) ⟨Nat.le_trans (m := 30) (Nat.le_of_ble_eq_true rfl) hRR.1, Nat.le_trans (m := 2000) (Nat.le_of_ble_eq_true rfl) hRR.2⟩) ⟨zPy_blind, zPy_mk hE hP hD hX hU hN hO0 hO1⟩ rfl rfl hls rfl (lv_room hW) hdg hf) kk
theorem sl_act_3_2 (C : CJ p l R s m args c cc nL Ts D cI cL cE cP A H0) (hg : GoodIn Ts (va_wsS RL 86 yL_act wsL_act)) (hdg : decode cc pc = .ok (.invokestatic 86, 3)) (hls : ls.size = nL) (hW : (rest.map fun v => v.category).sum ≤ 8) (hf : cells + 1 ≤ R.cells ∧ slots + 6 ≤ R.slots) (hRR : 30 ≤ R.frames ∧ 2000 ≤ R.locals) (hJ : LJ D cI cL cE cP A H0 o0 g n k H locs) (a b d : Int32) (hT : T_draw g n a b = 2)
    (kk : ∀ (H1 : Heap) (locs1 : List Loc), LJ D cI cL cE cP A H0 o0 g n k H1 locs1 → W p l e R s m args below meth c H1 locs1 (cells + 1) (slots + 6) Q (F0 m (pc + 3) ls (.int (-900000002) :: rest))) : W p l e R s m args below meth c H locs cells slots Q (F0 m pc ls (.int d :: .int b :: .int a :: .int 3 :: .ref o0 :: rest)) := by
  obtain ⟨hx, hb, hml, hown, hts, hE, hX, hN, hU0, hA, hfl, hR1, hR2, hO0, hO1⟩ := C
  obtain ⟨hok, h9, u0, rfl, hP, hD, hS⟩ := hJ
  have hU : zU (va_A (cw8 cI cL cE cP g n k u0) H.size) s H := (hU0.kept hS.2.1).narrow (va_A_in hD hS hA)
  exact sl_back hA hok h9 hD hS (vx_runSW (As := [.ref (u0.1 0), .int 3, .int a, .int b, .int d]) (rest := rest) ⟨hx, hb, hml, hown, hts⟩ (zL_act_3_2 l hfl D cI cL cE cP g n k u0 hok h9 a b d hT H.size) (vx_cwSW 5 hts hg rfl rfl rfl (by decide +kernel) ⟨Nat.le_trans (m := 30) (Nat.le_of_ble_eq_true rfl) hRR.1, Nat.le_trans (m := 2000) (Nat.le_of_ble_eq_true rfl) hRR.2⟩) ⟨zPy_blind, zPy_mk hE hP hD hX hU hN hO0 hO1⟩ rfl rfl hls rfl (lv_room hW) hdg hf) kk
theorem sl_act_3_3 (C : CJ p l R s m args c cc nL Ts D cI cL cE cP A H0) (hg : GoodIn Ts (va_wsS RL 86 yL_act wsL_act)) (hdg : decode cc pc = .ok (.invokestatic 86, 3)) (hls : ls.size = nL) (hW : (rest.map fun v => v.category).sum ≤ 8) (hf : cells + 1 ≤ R.cells ∧ slots + 6 ≤ R.slots) (hRR : 30 ≤ R.frames ∧ 2000 ≤ R.locals) (hJ : LJ D cI cL cE cP A H0 o0 g n k H locs) (a b d : Int32) (hT : T_draw g n a b = 3)
    (kk : ∀ (H1 : Heap) (locs1 : List Loc), LJ D cI cL cE cP A H0 o0 g n k H1 locs1 → W p l e R s m args below meth c H1 locs1 (cells + 1) (slots + 6) Q (F0 m (pc + 3) ls (.int (-900000003) :: rest))) : W p l e R s m args below meth c H locs cells slots Q (F0 m pc ls (.int d :: .int b :: .int a :: .int 3 :: .ref o0 :: rest)) := by
  obtain ⟨hx, hb, hml, hown, hts, hE, hX, hN, hU0, hA, hfl, hR1, hR2, hO0, hO1⟩ := C
  obtain ⟨hok, h9, u0, rfl, hP, hD, hS⟩ := hJ
  have hU : zU (va_A (cw8 cI cL cE cP g n k u0) H.size) s H := (hU0.kept hS.2.1).narrow (va_A_in hD hS hA)
  exact sl_back hA hok h9 hD hS (vx_runSW (As := [.ref (u0.1 0), .int 3, .int a, .int b, .int d]) (rest := rest) ⟨hx, hb, hml, hown, hts⟩ (zL_act_3_3 l hfl D cI cL cE cP g n k u0 hok h9 a b d hT H.size) (vx_cwSW 5 hts hg rfl rfl rfl (by decide +kernel) ⟨Nat.le_trans (m := 30) (Nat.le_of_ble_eq_true rfl) hRR.1, Nat.le_trans (m := 2000) (Nat.le_of_ble_eq_true rfl) hRR.2⟩) ⟨zPy_blind, zPy_mk hE hP hD hX hU hN hO0 hO1⟩ rfl rfl hls rfl (lv_room hW) hdg hf) kk
theorem sl_act_4_1 (C : CJ p l R s m args c cc nL Ts D cI cL cE cP A H0) (hg : GoodIn Ts (va_wsS RL 86 yL_act wsL_act)) (hdg : decode cc pc = .ok (.invokestatic 86, 3)) (hls : ls.size = nL) (hW : (rest.map fun v => v.category).sum ≤ 8) (hf : cells + 1 ≤ R.cells ∧ slots + 6 ≤ R.slots) (hRR : 30 ≤ R.frames ∧ 2000 ≤ R.locals) (hJ : LJ D cI cL cE cP A H0 o0 g n k H locs) (a b d : Int32) (hT : T_setClass n a b = 1)
    (kk : ∀ (H1 : Heap) (locs1 : List Loc), LJ D cI cL cE cP A H0 o0 g n k H1 locs1 → W p l e R s m args below meth c H1 locs1 (cells + 1) (slots + 6) Q (F0 m (pc + 3) ls (.int (-900000001) :: rest))) : W p l e R s m args below meth c H locs cells slots Q (F0 m pc ls (.int d :: .int b :: .int a :: .int 4 :: .ref o0 :: rest)) := by
  obtain ⟨hx, hb, hml, hown, hts, hE, hX, hN, hU0, hA, hfl, hR1, hR2, hO0, hO1⟩ := C
  obtain ⟨hok, h9, u0, rfl, hP, hD, hS⟩ := hJ
  have hU : zU (va_A (cw8 cI cL cE cP g n k u0) H.size) s H := (hU0.kept hS.2.1).narrow (va_A_in hD hS hA)
  exact sl_back hA hok h9 hD hS (vx_runSW (As := [.ref (u0.1 0), .int 4, .int a, .int b, .int d]) (rest := rest) ⟨hx, hb, hml, hown, hts⟩ (zL_act_4_1 l hfl D cI cL cE cP g n k u0 hok h9 a b d hT H.size) (vx_cwSW 5 hts hg rfl rfl rfl (by decide +kernel) ⟨Nat.le_trans (m := 30) (Nat.le_of_ble_eq_true rfl) hRR.1, Nat.le_trans (m := 2000) (Nat.le_of_ble_eq_true rfl) hRR.2⟩) ⟨zPy_blind, zPy_mk hE hP hD hX hU hN hO0 hO1⟩ rfl rfl hls rfl (lv_room hW) hdg hf) kk
theorem sl_act_5_1 (C : CJ p l R s m args c cc nL Ts D cI cL cE cP A H0) (hg : GoodIn Ts (va_wsS RL 86 yL_act wsL_act)) (hdg : decode cc pc = .ok (.invokestatic 86, 3)) (hls : ls.size = nL) (hW : (rest.map fun v => v.category).sum ≤ 8) (hf : cells + 1 ≤ R.cells ∧ slots + 6 ≤ R.slots) (hRR : 30 ≤ R.frames ∧ 2000 ≤ R.locals) (hJ : LJ D cI cL cE cP A H0 o0 g n k H locs) (a b d : Int32) (hT : T_guarantee n a b d = 1)
    (kk : ∀ (H1 : Heap) (locs1 : List Loc), LJ D cI cL cE cP A H0 o0 g n k H1 locs1 → W p l e R s m args below meth c H1 locs1 (cells + 1) (slots + 6) Q (F0 m (pc + 3) ls (.int (-900000001) :: rest))) : W p l e R s m args below meth c H locs cells slots Q (F0 m pc ls (.int d :: .int b :: .int a :: .int 5 :: .ref o0 :: rest)) := by
  obtain ⟨hx, hb, hml, hown, hts, hE, hX, hN, hU0, hA, hfl, hR1, hR2, hO0, hO1⟩ := C
  obtain ⟨hok, h9, u0, rfl, hP, hD, hS⟩ := hJ
  have hU : zU (va_A (cw8 cI cL cE cP g n k u0) H.size) s H := (hU0.kept hS.2.1).narrow (va_A_in hD hS hA)
  exact sl_back hA hok h9 hD hS (vx_runSW (As := [.ref (u0.1 0), .int 5, .int a, .int b, .int d]) (rest := rest) ⟨hx, hb, hml, hown, hts⟩ (zL_act_5_1 l hfl D cI cL cE cP g n k u0 hok h9 a b d hT H.size) (vx_cwSW 5 hts hg rfl rfl rfl (by decide +kernel) ⟨Nat.le_trans (m := 30) (Nat.le_of_ble_eq_true rfl) hRR.1, Nat.le_trans (m := 2000) (Nat.le_of_ble_eq_true rfl) hRR.2⟩) ⟨zPy_blind, zPy_mk hE hP hD hX hU hN hO0 hO1⟩ rfl rfl hls rfl (lv_room hW) hdg hf) kk
theorem sl_act_5_2 (C : CJ p l R s m args c cc nL Ts D cI cL cE cP A H0) (hg : GoodIn Ts (va_wsS RL 86 yL_act wsL_act)) (hdg : decode cc pc = .ok (.invokestatic 86, 3)) (hls : ls.size = nL) (hW : (rest.map fun v => v.category).sum ≤ 8) (hf : cells + 1 ≤ R.cells ∧ slots + 6 ≤ R.slots) (hRR : 30 ≤ R.frames ∧ 2000 ≤ R.locals) (hJ : LJ D cI cL cE cP A H0 o0 g n k H locs) (a b d : Int32) (hT : T_guarantee n a b d = 2)
    (kk : ∀ (H1 : Heap) (locs1 : List Loc), LJ D cI cL cE cP A H0 o0 g n k H1 locs1 → W p l e R s m args below meth c H1 locs1 (cells + 1) (slots + 6) Q (F0 m (pc + 3) ls (.int (-900000002) :: rest))) : W p l e R s m args below meth c H locs cells slots Q (F0 m pc ls (.int d :: .int b :: .int a :: .int 5 :: .ref o0 :: rest)) := by
  obtain ⟨hx, hb, hml, hown, hts, hE, hX, hN, hU0, hA, hfl, hR1, hR2, hO0, hO1⟩ := C
  obtain ⟨hok, h9, u0, rfl, hP, hD, hS⟩ := hJ
  have hU : zU (va_A (cw8 cI cL cE cP g n k u0) H.size) s H := (hU0.kept hS.2.1).narrow (va_A_in hD hS hA)
  exact sl_back hA hok h9 hD hS (vx_runSW (As := [.ref (u0.1 0), .int 5, .int a, .int b, .int d]) (rest := rest) ⟨hx, hb, hml, hown, hts⟩ (zL_act_5_2 l hfl D cI cL cE cP g n k u0 hok h9 a b d hT H.size) (vx_cwSW 5 hts hg rfl rfl rfl (by decide +kernel) ⟨Nat.le_trans (m := 30) (Nat.le_of_ble_eq_true rfl) hRR.1, Nat.le_trans (m := 2000) (Nat.le_of_ble_eq_true rfl) hRR.2⟩) ⟨zPy_blind, zPy_mk hE hP hD hX hU hN hO0 hO1⟩ rfl rfl hls rfl (lv_room hW) hdg hf) kk
theorem sl_act_6_1 (C : CJ p l R s m args c cc nL Ts D cI cL cE cP A H0) (hg : GoodIn Ts (va_wsS RL 86 yL_act wsL_act)) (hdg : decode cc pc = .ok (.invokestatic 86, 3)) (hls : ls.size = nL) (hW : (rest.map fun v => v.category).sum ≤ 8) (hf : cells + 1 ≤ R.cells ∧ slots + 6 ≤ R.slots) (hRR : 30 ≤ R.frames ∧ 2000 ≤ R.locals) (hJ : LJ D cI cL cE cP A H0 o0 g n k H locs) (a b d : Int32) (hT : T_amount n a = 1)
    (kk : ∀ (H1 : Heap) (locs1 : List Loc), LJ D cI cL cE cP A H0 o0 g n k H1 locs1 → W p l e R s m args below meth c H1 locs1 (cells + 1) (slots + 6) Q (F0 m (pc + 3) ls (.int (-900000001) :: rest))) : W p l e R s m args below meth c H locs cells slots Q (F0 m pc ls (.int d :: .int b :: .int a :: .int 6 :: .ref o0 :: rest)) := by
  obtain ⟨hx, hb, hml, hown, hts, hE, hX, hN, hU0, hA, hfl, hR1, hR2, hO0, hO1⟩ := C
  obtain ⟨hok, h9, u0, rfl, hP, hD, hS⟩ := hJ
  have hU : zU (va_A (cw8 cI cL cE cP g n k u0) H.size) s H := (hU0.kept hS.2.1).narrow (va_A_in hD hS hA)
  exact sl_back hA hok h9 hD hS (vx_runSW (As := [.ref (u0.1 0), .int 6, .int a, .int b, .int d]) (rest := rest) ⟨hx, hb, hml, hown, hts⟩ (zL_act_6_1 l hfl D cI cL cE cP g n k u0 hok h9 a b d hT H.size) (vx_cwSW 5 hts hg rfl rfl rfl (by decide +kernel) ⟨Nat.le_trans (m := 30) (Nat.le_of_ble_eq_true rfl) hRR.1, Nat.le_trans (m := 2000) (Nat.le_of_ble_eq_true rfl) hRR.2⟩) ⟨zPy_blind, zPy_mk hE hP hD hX hU hN hO0 hO1⟩ rfl rfl hls rfl (lv_room hW) hdg hf) kk
theorem sl_act_7_1 (C : CJ p l R s m args c cc nL Ts D cI cL cE cP A H0) (hg : GoodIn Ts (va_wsS RL 86 yL_act wsL_act)) (hdg : decode cc pc = .ok (.invokestatic 86, 3)) (hls : ls.size = nL) (hW : (rest.map fun v => v.category).sum ≤ 8) (hf : cells + 1 ≤ R.cells ∧ slots + 6 ≤ R.slots) (hRR : 30 ≤ R.frames ∧ 2000 ≤ R.locals) (hJ : LJ D cI cL cE cP A H0 o0 g n k H locs) (a b d : Int32) (hT : T_setPiece k a b d = 1)
    (kk : ∀ (H1 : Heap) (locs1 : List Loc), LJ D cI cL cE cP A H0 o0 g n k H1 locs1 → W p l e R s m args below meth c H1 locs1 (cells + 1) (slots + 6) Q (F0 m (pc + 3) ls (.int (-900000001) :: rest))) : W p l e R s m args below meth c H locs cells slots Q (F0 m pc ls (.int d :: .int b :: .int a :: .int 7 :: .ref o0 :: rest)) := by
  obtain ⟨hx, hb, hml, hown, hts, hE, hX, hN, hU0, hA, hfl, hR1, hR2, hO0, hO1⟩ := C
  obtain ⟨hok, h9, u0, rfl, hP, hD, hS⟩ := hJ
  have hU : zU (va_A (cw8 cI cL cE cP g n k u0) H.size) s H := (hU0.kept hS.2.1).narrow (va_A_in hD hS hA)
  exact sl_back hA hok h9 hD hS (vx_runSW (As := [.ref (u0.1 0), .int 7, .int a, .int b, .int d]) (rest := rest) ⟨hx, hb, hml, hown, hts⟩ (zL_act_7_1 l hfl D cI cL cE cP g n k u0 hok h9 a b d hT H.size) (vx_cwSW 5 hts hg rfl rfl rfl (by decide +kernel) ⟨Nat.le_trans (m := 30) (Nat.le_of_ble_eq_true rfl) hRR.1, Nat.le_trans (m := 2000) (Nat.le_of_ble_eq_true rfl) hRR.2⟩) ⟨zPy_blind, zPy_mk hE hP hD hX hU hN hO0 hO1⟩ rfl rfl hls rfl (lv_room hW) hdg hf) kk
theorem sl_act_7_2 (C : CJ p l R s m args c cc nL Ts D cI cL cE cP A H0) (hg : GoodIn Ts (va_wsS RL 86 yL_act wsL_act)) (hdg : decode cc pc = .ok (.invokestatic 86, 3)) (hls : ls.size = nL) (hW : (rest.map fun v => v.category).sum ≤ 8) (hf : cells + 1 ≤ R.cells ∧ slots + 6 ≤ R.slots) (hRR : 30 ≤ R.frames ∧ 2000 ≤ R.locals) (hJ : LJ D cI cL cE cP A H0 o0 g n k H locs) (a b d : Int32) (hT : T_setPiece k a b d = 2)
    (kk : ∀ (H1 : Heap) (locs1 : List Loc), LJ D cI cL cE cP A H0 o0 g n k H1 locs1 → W p l e R s m args below meth c H1 locs1 (cells + 1) (slots + 6) Q (F0 m (pc + 3) ls (.int (-900000002) :: rest))) : W p l e R s m args below meth c H locs cells slots Q (F0 m pc ls (.int d :: .int b :: .int a :: .int 7 :: .ref o0 :: rest)) := by
  obtain ⟨hx, hb, hml, hown, hts, hE, hX, hN, hU0, hA, hfl, hR1, hR2, hO0, hO1⟩ := C
  obtain ⟨hok, h9, u0, rfl, hP, hD, hS⟩ := hJ
  have hU : zU (va_A (cw8 cI cL cE cP g n k u0) H.size) s H := (hU0.kept hS.2.1).narrow (va_A_in hD hS hA)
  exact sl_back hA hok h9 hD hS (vx_runSW (As := [.ref (u0.1 0), .int 7, .int a, .int b, .int d]) (rest := rest) ⟨hx, hb, hml, hown, hts⟩ (zL_act_7_2 l hfl D cI cL cE cP g n k u0 hok h9 a b d hT H.size) (vx_cwSW 5 hts hg rfl rfl rfl (by decide +kernel) ⟨Nat.le_trans (m := 30) (Nat.le_of_ble_eq_true rfl) hRR.1, Nat.le_trans (m := 2000) (Nat.le_of_ble_eq_true rfl) hRR.2⟩) ⟨zPy_blind, zPy_mk hE hP hD hX hU hN hO0 hO1⟩ rfl rfl hls rfl (lv_room hW) hdg hf) kk
theorem sl_act_8_1 (C : CJ p l R s m args c cc nL Ts D cI cL cE cP A H0) (hg : GoodIn Ts (va_wsS RL 86 yL_act wsL_act)) (hdg : decode cc pc = .ok (.invokestatic 86, 3)) (hls : ls.size = nL) (hW : (rest.map fun v => v.category).sum ≤ 8) (hf : cells + 1 ≤ R.cells ∧ slots + 6 ≤ R.slots) (hRR : 30 ≤ R.frames ∧ 2000 ≤ R.locals) (hJ : LJ D cI cL cE cP A H0 o0 g n k H locs) (a b d : Int32) (hT : T_value n k a b = 1)
    (kk : ∀ (H1 : Heap) (locs1 : List Loc), LJ D cI cL cE cP A H0 o0 g n k H1 locs1 → W p l e R s m args below meth c H1 locs1 (cells + 1) (slots + 6) Q (F0 m (pc + 3) ls (.int (-900000001) :: rest))) : W p l e R s m args below meth c H locs cells slots Q (F0 m pc ls (.int d :: .int b :: .int a :: .int 8 :: .ref o0 :: rest)) := by
  obtain ⟨hx, hb, hml, hown, hts, hE, hX, hN, hU0, hA, hfl, hR1, hR2, hO0, hO1⟩ := C
  obtain ⟨hok, h9, u0, rfl, hP, hD, hS⟩ := hJ
  have hU : zU (va_A (cw8 cI cL cE cP g n k u0) H.size) s H := (hU0.kept hS.2.1).narrow (va_A_in hD hS hA)
  exact sl_back hA hok h9 hD hS (vx_runSW (As := [.ref (u0.1 0), .int 8, .int a, .int b, .int d]) (rest := rest) ⟨hx, hb, hml, hown, hts⟩ (zL_act_8_1 l hfl D cI cL cE cP g n k u0 hok h9 a b d hT H.size) (vx_cwSW 5 hts hg rfl rfl rfl (by decide +kernel) ⟨Nat.le_trans (m := 30) (Nat.le_of_ble_eq_true rfl) hRR.1, Nat.le_trans (m := 2000) (Nat.le_of_ble_eq_true rfl) hRR.2⟩) ⟨zPy_blind, zPy_mk hE hP hD hX hU hN hO0 hO1⟩ rfl rfl hls rfl (lv_room hW) hdg hf) kk
theorem sl_act_9_1 (C : CJ p l R s m args c cc nL Ts D cI cL cE cP A H0) (hg : GoodIn Ts (va_wsS RL 86 yL_act wsL_act)) (hdg : decode cc pc = .ok (.invokestatic 86, 3)) (hls : ls.size = nL) (hW : (rest.map fun v => v.category).sum ≤ 8) (hf : cells + 1 ≤ R.cells ∧ slots + 6 ≤ R.slots) (hRR : 30 ≤ R.frames ∧ 2000 ≤ R.locals) (hJ : LJ D cI cL cE cP A H0 o0 g n k H locs) (a b d : Int32) (hT : T_amount k a = 1)
    (kk : ∀ (H1 : Heap) (locs1 : List Loc), LJ D cI cL cE cP A H0 o0 g n k H1 locs1 → W p l e R s m args below meth c H1 locs1 (cells + 1) (slots + 6) Q (F0 m (pc + 3) ls (.int (-900000001) :: rest))) : W p l e R s m args below meth c H locs cells slots Q (F0 m pc ls (.int d :: .int b :: .int a :: .int 9 :: .ref o0 :: rest)) := by
  obtain ⟨hx, hb, hml, hown, hts, hE, hX, hN, hU0, hA, hfl, hR1, hR2, hO0, hO1⟩ := C
  obtain ⟨hok, h9, u0, rfl, hP, hD, hS⟩ := hJ
  have hU : zU (va_A (cw8 cI cL cE cP g n k u0) H.size) s H := (hU0.kept hS.2.1).narrow (va_A_in hD hS hA)
  exact sl_back hA hok h9 hD hS (vx_runSW (As := [.ref (u0.1 0), .int 9, .int a, .int b, .int d]) (rest := rest) ⟨hx, hb, hml, hown, hts⟩ (zL_act_9_1 l hfl D cI cL cE cP g n k u0 hok h9 a b d hT H.size) (vx_cwSW 5 hts hg rfl rfl rfl (by decide +kernel) ⟨Nat.le_trans (m := 30) (Nat.le_of_ble_eq_true rfl) hRR.1, Nat.le_trans (m := 2000) (Nat.le_of_ble_eq_true rfl) hRR.2⟩) ⟨zPy_blind, zPy_mk hE hP hD hX hU hN hO0 hO1⟩ rfl rfl hls rfl (lv_room hW) hdg hf) kk
theorem sl_act_10_1 (C : CJ p l R s m args c cc nL Ts D cI cL cE cP A H0) (hg : GoodIn Ts (va_wsS RL 86 yL_act wsL_act)) (hdg : decode cc pc = .ok (.invokestatic 86, 3)) (hls : ls.size = nL) (hW : (rest.map fun v => v.category).sum ≤ 8) (hf : cells + 1 ≤ R.cells ∧ slots + 6 ≤ R.slots) (hRR : 30 ≤ R.frames ∧ 2000 ≤ R.locals) (hJ : LJ D cI cL cE cP A H0 o0 g n k H locs) (a b d : Int32) (hT : T_amount n a = 1)
    (kk : ∀ (H1 : Heap) (locs1 : List Loc), LJ D cI cL cE cP A H0 o0 g n k H1 locs1 → W p l e R s m args below meth c H1 locs1 (cells + 1) (slots + 6) Q (F0 m (pc + 3) ls (.int (-900000001) :: rest))) : W p l e R s m args below meth c H locs cells slots Q (F0 m pc ls (.int d :: .int b :: .int a :: .int 10 :: .ref o0 :: rest)) := by
  obtain ⟨hx, hb, hml, hown, hts, hE, hX, hN, hU0, hA, hfl, hR1, hR2, hO0, hO1⟩ := C
  obtain ⟨hok, h9, u0, rfl, hP, hD, hS⟩ := hJ
  have hU : zU (va_A (cw8 cI cL cE cP g n k u0) H.size) s H := (hU0.kept hS.2.1).narrow (va_A_in hD hS hA)
  exact sl_back hA hok h9 hD hS (vx_runSW (As := [.ref (u0.1 0), .int 10, .int a, .int b, .int d]) (rest := rest) ⟨hx, hb, hml, hown, hts⟩ (zL_act_10_1 l hfl D cI cL cE cP g n k u0 hok h9 a b d hT H.size) (vx_cwSW 5 hts hg rfl rfl rfl (by decide +kernel) ⟨Nat.le_trans (m := 30) (Nat.le_of_ble_eq_true rfl) hRR.1, Nat.le_trans (m := 2000) (Nat.le_of_ble_eq_true rfl) hRR.2⟩) ⟨zPy_blind, zPy_mk hE hP hD hX hU hN hO0 hO1⟩ rfl rfl hls rfl (lv_room hW) hdg hf) kk
theorem sl_act_11_1 (C : CJ p l R s m args c cc nL Ts D cI cL cE cP A H0) (hg : GoodIn Ts (va_wsS RL 86 yL_act wsL_act)) (hdg : decode cc pc = .ok (.invokestatic 86, 3)) (hls : ls.size = nL) (hW : (rest.map fun v => v.category).sum ≤ 8) (hf : cells + 1 ≤ R.cells ∧ slots + 6 ≤ R.slots) (hRR : 30 ≤ R.frames ∧ 2000 ≤ R.locals) (hJ : LJ D cI cL cE cP A H0 o0 g n k H locs) (a b d : Int32) (hT : T_amount n a = 1)
    (kk : ∀ (H1 : Heap) (locs1 : List Loc), LJ D cI cL cE cP A H0 o0 g n k H1 locs1 → W p l e R s m args below meth c H1 locs1 (cells + 1) (slots + 6) Q (F0 m (pc + 3) ls (.int (-900000001) :: rest))) : W p l e R s m args below meth c H locs cells slots Q (F0 m pc ls (.int d :: .int b :: .int a :: .int 11 :: .ref o0 :: rest)) := by
  obtain ⟨hx, hb, hml, hown, hts, hE, hX, hN, hU0, hA, hfl, hR1, hR2, hO0, hO1⟩ := C
  obtain ⟨hok, h9, u0, rfl, hP, hD, hS⟩ := hJ
  have hU : zU (va_A (cw8 cI cL cE cP g n k u0) H.size) s H := (hU0.kept hS.2.1).narrow (va_A_in hD hS hA)
  exact sl_back hA hok h9 hD hS (vx_runSW (As := [.ref (u0.1 0), .int 11, .int a, .int b, .int d]) (rest := rest) ⟨hx, hb, hml, hown, hts⟩ (zL_act_11_1 l hfl D cI cL cE cP g n k u0 hok h9 a b d hT H.size) (vx_cwSW 5 hts hg rfl rfl rfl (by decide +kernel) ⟨Nat.le_trans (m := 30) (Nat.le_of_ble_eq_true rfl) hRR.1, Nat.le_trans (m := 2000) (Nat.le_of_ble_eq_true rfl) hRR.2⟩) ⟨zPy_blind, zPy_mk hE hP hD hX hU hN hO0 hO1⟩ rfl rfl hls rfl (lv_room hW) hdg hf) kk
theorem sl_act_12_1 (C : CJ p l R s m args c cc nL Ts D cI cL cE cP A H0) (hg : GoodIn Ts (va_wsS RL 86 yL_act wsL_act)) (hdg : decode cc pc = .ok (.invokestatic 86, 3)) (hls : ls.size = nL) (hW : (rest.map fun v => v.category).sum ≤ 8) (hf : cells + 1 ≤ R.cells ∧ slots + 6 ≤ R.slots) (hRR : 30 ≤ R.frames ∧ 2000 ≤ R.locals) (hJ : LJ D cI cL cE cP A H0 o0 g n k H locs) (a b d : Int32) (hT : T_amount k a = 1)
    (kk : ∀ (H1 : Heap) (locs1 : List Loc), LJ D cI cL cE cP A H0 o0 g n k H1 locs1 → W p l e R s m args below meth c H1 locs1 (cells + 1) (slots + 6) Q (F0 m (pc + 3) ls (.int (-900000001) :: rest))) : W p l e R s m args below meth c H locs cells slots Q (F0 m pc ls (.int d :: .int b :: .int a :: .int 12 :: .ref o0 :: rest)) := by
  obtain ⟨hx, hb, hml, hown, hts, hE, hX, hN, hU0, hA, hfl, hR1, hR2, hO0, hO1⟩ := C
  obtain ⟨hok, h9, u0, rfl, hP, hD, hS⟩ := hJ
  have hU : zU (va_A (cw8 cI cL cE cP g n k u0) H.size) s H := (hU0.kept hS.2.1).narrow (va_A_in hD hS hA)
  exact sl_back hA hok h9 hD hS (vx_runSW (As := [.ref (u0.1 0), .int 12, .int a, .int b, .int d]) (rest := rest) ⟨hx, hb, hml, hown, hts⟩ (zL_act_12_1 l hfl D cI cL cE cP g n k u0 hok h9 a b d hT H.size) (vx_cwSW 5 hts hg rfl rfl rfl (by decide +kernel) ⟨Nat.le_trans (m := 30) (Nat.le_of_ble_eq_true rfl) hRR.1, Nat.le_trans (m := 2000) (Nat.le_of_ble_eq_true rfl) hRR.2⟩) ⟨zPy_blind, zPy_mk hE hP hD hX hU hN hO0 hO1⟩ rfl rfl hls rfl (lv_room hW) hdg hf) kk
theorem sl_act_13_1 (C : CJ p l R s m args c cc nL Ts D cI cL cE cP A H0) (hg : GoodIn Ts (va_wsS RL 86 yL_act wsL_act)) (hdg : decode cc pc = .ok (.invokestatic 86, 3)) (hls : ls.size = nL) (hW : (rest.map fun v => v.category).sum ≤ 8) (hf : cells + 1 ≤ R.cells ∧ slots + 6 ≤ R.slots) (hRR : 30 ≤ R.frames ∧ 2000 ≤ R.locals) (hJ : LJ D cI cL cE cP A H0 o0 g n k H locs) (a b d : Int32) (hT : T_party a = 1)
    (kk : ∀ (H1 : Heap) (locs1 : List Loc), LJ D cI cL cE cP A H0 o0 g n k H1 locs1 → W p l e R s m args below meth c H1 locs1 (cells + 1) (slots + 6) Q (F0 m (pc + 3) ls (.int (-900000001) :: rest))) : W p l e R s m args below meth c H locs cells slots Q (F0 m pc ls (.int d :: .int b :: .int a :: .int 13 :: .ref o0 :: rest)) := by
  obtain ⟨hx, hb, hml, hown, hts, hE, hX, hN, hU0, hA, hfl, hR1, hR2, hO0, hO1⟩ := C
  obtain ⟨hok, h9, u0, rfl, hP, hD, hS⟩ := hJ
  have hU : zU (va_A (cw8 cI cL cE cP g n k u0) H.size) s H := (hU0.kept hS.2.1).narrow (va_A_in hD hS hA)
  exact sl_back hA hok h9 hD hS (vx_runSW (As := [.ref (u0.1 0), .int 13, .int a, .int b, .int d]) (rest := rest) ⟨hx, hb, hml, hown, hts⟩ (zL_act_13_1 l hfl D cI cL cE cP g n k u0 hok h9 a b d hT H.size) (vx_cwSW 5 hts hg rfl rfl rfl (by decide +kernel) ⟨Nat.le_trans (m := 30) (Nat.le_of_ble_eq_true rfl) hRR.1, Nat.le_trans (m := 2000) (Nat.le_of_ble_eq_true rfl) hRR.2⟩) ⟨zPy_blind, zPy_mk hE hP hD hX hU hN hO0 hO1⟩ rfl rfl hls rfl (lv_room hW) hdg hf) kk
theorem sl_expose_0 (C : CJ p l R s m args c cc nL Ts D cI cL cE cP A H0) (hg : GoodIn Ts (va_wsS RL 93 yL_expose wsL_expose)) (hdg : decode cc pc = .ok (.invokestatic 93, 3)) (hls : ls.size = nL) (hW : (rest.map fun v => v.category).sum ≤ 8) (hf : cells + 1 ≤ R.cells ∧ slots + 8 ≤ R.slots) (hRR : 30 ≤ R.frames ∧ 2000 ≤ R.locals) (hJ : LJ D cI cL cE cP A H0 o0 g n k H locs) (a0 a1 a2 a3 a4 a5 : Int32) (hT : T_addExposure n a0 a1 a2 a3 a4 a5 = 0)
    (kk : ∀ (H1 : Heap) (locs1 : List Loc), LJ D cI cL cE cP A H0 o0 (gAE g n a0 a1 a2 a3 a4 a5) (n + 1) k H1 locs1 → W p l e R s m args below meth c H1 locs1 (cells + 1) (slots + 8) Q (F0 m (pc + 3) ls (.int (nI n) :: rest))) : W p l e R s m args below meth c H locs cells slots Q (F0 m pc ls (.int a5 :: .int a4 :: .int a3 :: .int a2 :: .int a1 :: .int a0 :: .ref o0 :: rest)) := by
  obtain ⟨hx, hb, hml, hown, hts, hE, hX, hN, hU0, hA, hfl, hR1, hR2, hO0, hO1⟩ := C
  obtain ⟨hok, h9, u0, rfl, hP, hD, hS⟩ := hJ
  have hU : zU (va_A (cw8 cI cL cE cP g n k u0) H.size) s H := (hU0.kept hS.2.1).narrow (va_A_in hD hS hA)
  exact sl_back hA (ok_addExposure hok h9 hT) (fun i hi => h9 i (by omega)) hD hS (vx_runSW (As := [.ref (u0.1 0), .int a0, .int a1, .int a2, .int a3, .int a4, .int a5]) (rest := rest) ⟨hx, hb, hml, hown, hts⟩ (zL_expose_0 l hfl D cI cL cE cP g n k u0 hok h9 a0 a1 a2 a3 a4 a5 hT H.size) (vx_cwSW 7 hts hg rfl rfl rfl (by decide +kernel) ⟨Nat.le_trans (m := 30) (Nat.le_of_ble_eq_true rfl) hRR.1, Nat.le_trans (m := 2000) (Nat.le_of_ble_eq_true rfl) hRR.2⟩) ⟨zPy_blind, zPy_mk hE hP hD hX hU hN hO0 hO1⟩ rfl rfl hls rfl (lv_room hW) hdg hf) kk
theorem sl_expose_1 (C : CJ p l R s m args c cc nL Ts D cI cL cE cP A H0) (hg : GoodIn Ts (va_wsS RL 93 yL_expose wsL_expose)) (hdg : decode cc pc = .ok (.invokestatic 93, 3)) (hls : ls.size = nL) (hW : (rest.map fun v => v.category).sum ≤ 8) (hf : cells + 1 ≤ R.cells ∧ slots + 8 ≤ R.slots) (hRR : 30 ≤ R.frames ∧ 2000 ≤ R.locals) (hJ : LJ D cI cL cE cP A H0 o0 g n k H locs) (a0 a1 a2 a3 a4 a5 : Int32) (hT : T_addExposure n a0 a1 a2 a3 a4 a5 = 1)
    (kk : ∀ (H1 : Heap) (locs1 : List Loc), LJ D cI cL cE cP A H0 o0 g n k H1 locs1 → W p l e R s m args below meth c H1 locs1 (cells + 1) (slots + 8) Q (F0 m (pc + 3) ls (.int (-900000001) :: rest))) : W p l e R s m args below meth c H locs cells slots Q (F0 m pc ls (.int a5 :: .int a4 :: .int a3 :: .int a2 :: .int a1 :: .int a0 :: .ref o0 :: rest)) := by
  obtain ⟨hx, hb, hml, hown, hts, hE, hX, hN, hU0, hA, hfl, hR1, hR2, hO0, hO1⟩ := C
  obtain ⟨hok, h9, u0, rfl, hP, hD, hS⟩ := hJ
  have hU : zU (va_A (cw8 cI cL cE cP g n k u0) H.size) s H := (hU0.kept hS.2.1).narrow (va_A_in hD hS hA)
  exact sl_back hA hok h9 hD hS (vx_runSW (As := [.ref (u0.1 0), .int a0, .int a1, .int a2, .int a3, .int a4, .int a5]) (rest := rest) ⟨hx, hb, hml, hown, hts⟩ (zL_expose_1 l hfl D cI cL cE cP g n k u0 hok h9 a0 a1 a2 a3 a4 a5 hT H.size) (vx_cwSW 7 hts hg rfl rfl rfl (by decide +kernel) ⟨Nat.le_trans (m := 30) (Nat.le_of_ble_eq_true rfl) hRR.1, Nat.le_trans (m := 2000) (Nat.le_of_ble_eq_true rfl) hRR.2⟩) ⟨zPy_blind, zPy_mk hE hP hD hX hU hN hO0 hO1⟩ rfl rfl hls rfl (lv_room hW) hdg hf) kk
theorem sl_expose_2 (C : CJ p l R s m args c cc nL Ts D cI cL cE cP A H0) (hg : GoodIn Ts (va_wsS RL 93 yL_expose wsL_expose)) (hdg : decode cc pc = .ok (.invokestatic 93, 3)) (hls : ls.size = nL) (hW : (rest.map fun v => v.category).sum ≤ 8) (hf : cells + 1 ≤ R.cells ∧ slots + 8 ≤ R.slots) (hRR : 30 ≤ R.frames ∧ 2000 ≤ R.locals) (hJ : LJ D cI cL cE cP A H0 o0 g n k H locs) (a0 a1 a2 a3 a4 a5 : Int32) (hT : T_addExposure n a0 a1 a2 a3 a4 a5 = 2)
    (kk : ∀ (H1 : Heap) (locs1 : List Loc), LJ D cI cL cE cP A H0 o0 g n k H1 locs1 → W p l e R s m args below meth c H1 locs1 (cells + 1) (slots + 8) Q (F0 m (pc + 3) ls (.int (-900000002) :: rest))) : W p l e R s m args below meth c H locs cells slots Q (F0 m pc ls (.int a5 :: .int a4 :: .int a3 :: .int a2 :: .int a1 :: .int a0 :: .ref o0 :: rest)) := by
  obtain ⟨hx, hb, hml, hown, hts, hE, hX, hN, hU0, hA, hfl, hR1, hR2, hO0, hO1⟩ := C
  obtain ⟨hok, h9, u0, rfl, hP, hD, hS⟩ := hJ
  have hU : zU (va_A (cw8 cI cL cE cP g n k u0) H.size) s H := (hU0.kept hS.2.1).narrow (va_A_in hD hS hA)
  exact sl_back hA hok h9 hD hS (vx_runSW (As := [.ref (u0.1 0), .int a0, .int a1, .int a2, .int a3, .int a4, .int a5]) (rest := rest) ⟨hx, hb, hml, hown, hts⟩ (zL_expose_2 l hfl D cI cL cE cP g n k u0 hok h9 a0 a1 a2 a3 a4 a5 hT H.size) (vx_cwSW 7 hts hg rfl rfl rfl (by decide +kernel) ⟨Nat.le_trans (m := 30) (Nat.le_of_ble_eq_true rfl) hRR.1, Nat.le_trans (m := 2000) (Nat.le_of_ble_eq_true rfl) hRR.2⟩) ⟨zPy_blind, zPy_mk hE hP hD hX hU hN hO0 hO1⟩ rfl rfl hls rfl (lv_room hW) hdg hf) kk
theorem sl_expose_3 (C : CJ p l R s m args c cc nL Ts D cI cL cE cP A H0) (hg : GoodIn Ts (va_wsS RL 93 yL_expose wsL_expose)) (hdg : decode cc pc = .ok (.invokestatic 93, 3)) (hls : ls.size = nL) (hW : (rest.map fun v => v.category).sum ≤ 8) (hf : cells + 1 ≤ R.cells ∧ slots + 8 ≤ R.slots) (hRR : 30 ≤ R.frames ∧ 2000 ≤ R.locals) (hJ : LJ D cI cL cE cP A H0 o0 g n k H locs) (a0 a1 a2 a3 a4 a5 : Int32) (hT : T_addExposure n a0 a1 a2 a3 a4 a5 = 3)
    (kk : ∀ (H1 : Heap) (locs1 : List Loc), LJ D cI cL cE cP A H0 o0 g n k H1 locs1 → W p l e R s m args below meth c H1 locs1 (cells + 1) (slots + 8) Q (F0 m (pc + 3) ls (.int (-900000003) :: rest))) : W p l e R s m args below meth c H locs cells slots Q (F0 m pc ls (.int a5 :: .int a4 :: .int a3 :: .int a2 :: .int a1 :: .int a0 :: .ref o0 :: rest)) := by
  obtain ⟨hx, hb, hml, hown, hts, hE, hX, hN, hU0, hA, hfl, hR1, hR2, hO0, hO1⟩ := C
  obtain ⟨hok, h9, u0, rfl, hP, hD, hS⟩ := hJ
  have hU : zU (va_A (cw8 cI cL cE cP g n k u0) H.size) s H := (hU0.kept hS.2.1).narrow (va_A_in hD hS hA)
  exact sl_back hA hok h9 hD hS (vx_runSW (As := [.ref (u0.1 0), .int a0, .int a1, .int a2, .int a3, .int a4, .int a5]) (rest := rest) ⟨hx, hb, hml, hown, hts⟩ (zL_expose_3 l hfl D cI cL cE cP g n k u0 hok h9 a0 a1 a2 a3 a4 a5 hT H.size) (vx_cwSW 7 hts hg rfl rfl rfl (by decide +kernel) ⟨Nat.le_trans (m := 30) (Nat.le_of_ble_eq_true rfl) hRR.1, Nat.le_trans (m := 2000) (Nat.le_of_ble_eq_true rfl) hRR.2⟩) ⟨zPy_blind, zPy_mk hE hP hD hX hU hN hO0 hO1⟩ rfl rfl hls rfl (lv_room hW) hdg hf) kk
theorem sl_piece_0 (C : CJ p l R s m args c cc nL Ts D cI cL cE cP A H0) (hg : GoodIn Ts (va_wsS RL 97 yL_piece wsL_piece)) (hdg : decode cc pc = .ok (.invokestatic 97, 3)) (hls : ls.size = nL) (hW : (rest.map fun v => v.category).sum ≤ 8) (hf : cells + 1 ≤ R.cells ∧ slots + 6 ≤ R.slots) (hRR : 30 ≤ R.frames ∧ 2000 ≤ R.locals) (hJ : LJ D cI cL cE cP A H0 o0 g n k H locs) (a0 a1 a2 a3 a4 : Int32) (hT : T_addPiece k a0 a1 a2 a3 a4 = 0)
    (kk : ∀ (H1 : Heap) (locs1 : List Loc), LJ D cI cL cE cP A H0 o0 (gAP g k a0 a1 a2 a3 a4) n (k + 1) H1 locs1 → W p l e R s m args below meth c H1 locs1 (cells + 1) (slots + 6) Q (F0 m (pc + 3) ls (.int (nI k) :: rest))) : W p l e R s m args below meth c H locs cells slots Q (F0 m pc ls (.int a4 :: .int a3 :: .int a2 :: .int a1 :: .int a0 :: .ref o0 :: rest)) := by
  obtain ⟨hx, hb, hml, hown, hts, hE, hX, hN, hU0, hA, hfl, hR1, hR2, hO0, hO1⟩ := C
  obtain ⟨hok, h9, u0, rfl, hP, hD, hS⟩ := hJ
  have hU : zU (va_A (cw8 cI cL cE cP g n k u0) H.size) s H := (hU0.kept hS.2.1).narrow (va_A_in hD hS hA)
  exact sl_back hA (ok_addPiece hok hT) h9 hD hS (vx_runSW (As := [.ref (u0.1 0), .int a0, .int a1, .int a2, .int a3, .int a4]) (rest := rest) ⟨hx, hb, hml, hown, hts⟩ (zL_piece_0 l hfl D cI cL cE cP g n k u0 hok h9 a0 a1 a2 a3 a4 hT H.size) (vx_cwSW 6 hts hg rfl rfl rfl (by decide +kernel) ⟨Nat.le_trans (m := 30) (Nat.le_of_ble_eq_true rfl) hRR.1, Nat.le_trans (m := 2000) (Nat.le_of_ble_eq_true rfl) hRR.2⟩) ⟨zPy_blind, zPy_mk hE hP hD hX hU hN hO0 hO1⟩ rfl rfl hls rfl (lv_room hW) hdg hf) kk
theorem sl_piece_1 (C : CJ p l R s m args c cc nL Ts D cI cL cE cP A H0) (hg : GoodIn Ts (va_wsS RL 97 yL_piece wsL_piece)) (hdg : decode cc pc = .ok (.invokestatic 97, 3)) (hls : ls.size = nL) (hW : (rest.map fun v => v.category).sum ≤ 8) (hf : cells + 1 ≤ R.cells ∧ slots + 6 ≤ R.slots) (hRR : 30 ≤ R.frames ∧ 2000 ≤ R.locals) (hJ : LJ D cI cL cE cP A H0 o0 g n k H locs) (a0 a1 a2 a3 a4 : Int32) (hT : T_addPiece k a0 a1 a2 a3 a4 = 1)
    (kk : ∀ (H1 : Heap) (locs1 : List Loc), LJ D cI cL cE cP A H0 o0 g n k H1 locs1 → W p l e R s m args below meth c H1 locs1 (cells + 1) (slots + 6) Q (F0 m (pc + 3) ls (.int (-900000002) :: rest))) : W p l e R s m args below meth c H locs cells slots Q (F0 m pc ls (.int a4 :: .int a3 :: .int a2 :: .int a1 :: .int a0 :: .ref o0 :: rest)) := by
  obtain ⟨hx, hb, hml, hown, hts, hE, hX, hN, hU0, hA, hfl, hR1, hR2, hO0, hO1⟩ := C
  obtain ⟨hok, h9, u0, rfl, hP, hD, hS⟩ := hJ
  have hU : zU (va_A (cw8 cI cL cE cP g n k u0) H.size) s H := (hU0.kept hS.2.1).narrow (va_A_in hD hS hA)
  exact sl_back hA hok h9 hD hS (vx_runSW (As := [.ref (u0.1 0), .int a0, .int a1, .int a2, .int a3, .int a4]) (rest := rest) ⟨hx, hb, hml, hown, hts⟩ (zL_piece_1 l hfl D cI cL cE cP g n k u0 hok h9 a0 a1 a2 a3 a4 hT H.size) (vx_cwSW 6 hts hg rfl rfl rfl (by decide +kernel) ⟨Nat.le_trans (m := 30) (Nat.le_of_ble_eq_true rfl) hRR.1, Nat.le_trans (m := 2000) (Nat.le_of_ble_eq_true rfl) hRR.2⟩) ⟨zPy_blind, zPy_mk hE hP hD hX hU hN hO0 hO1⟩ rfl rfl hls rfl (lv_room hW) hdg hf) kk
theorem sl_piece_2 (C : CJ p l R s m args c cc nL Ts D cI cL cE cP A H0) (hg : GoodIn Ts (va_wsS RL 97 yL_piece wsL_piece)) (hdg : decode cc pc = .ok (.invokestatic 97, 3)) (hls : ls.size = nL) (hW : (rest.map fun v => v.category).sum ≤ 8) (hf : cells + 1 ≤ R.cells ∧ slots + 6 ≤ R.slots) (hRR : 30 ≤ R.frames ∧ 2000 ≤ R.locals) (hJ : LJ D cI cL cE cP A H0 o0 g n k H locs) (a0 a1 a2 a3 a4 : Int32) (hT : T_addPiece k a0 a1 a2 a3 a4 = 2)
    (kk : ∀ (H1 : Heap) (locs1 : List Loc), LJ D cI cL cE cP A H0 o0 g n k H1 locs1 → W p l e R s m args below meth c H1 locs1 (cells + 1) (slots + 6) Q (F0 m (pc + 3) ls (.int (-900000003) :: rest))) : W p l e R s m args below meth c H locs cells slots Q (F0 m pc ls (.int a4 :: .int a3 :: .int a2 :: .int a1 :: .int a0 :: .ref o0 :: rest)) := by
  obtain ⟨hx, hb, hml, hown, hts, hE, hX, hN, hU0, hA, hfl, hR1, hR2, hO0, hO1⟩ := C
  obtain ⟨hok, h9, u0, rfl, hP, hD, hS⟩ := hJ
  have hU : zU (va_A (cw8 cI cL cE cP g n k u0) H.size) s H := (hU0.kept hS.2.1).narrow (va_A_in hD hS hA)
  exact sl_back hA hok h9 hD hS (vx_runSW (As := [.ref (u0.1 0), .int a0, .int a1, .int a2, .int a3, .int a4]) (rest := rest) ⟨hx, hb, hml, hown, hts⟩ (zL_piece_2 l hfl D cI cL cE cP g n k u0 hok h9 a0 a1 a2 a3 a4 hT H.size) (vx_cwSW 6 hts hg rfl rfl rfl (by decide +kernel) ⟨Nat.le_trans (m := 30) (Nat.le_of_ble_eq_true rfl) hRR.1, Nat.le_trans (m := 2000) (Nat.le_of_ble_eq_true rfl) hRR.2⟩) ⟨zPy_blind, zPy_mk hE hP hD hX hU hN hO0 hO1⟩ rfl rfl hls rfl (lv_room hW) hdg hf) kk
theorem sl_sums (C : CJ p l R s m args c cc nL Ts D cI cL cE cP A H0) (hg : GoodIn Ts (va_wsS RL 109 yL_sums wsL_sums)) (hdg : decode cc pc = .ok (.invokestatic 109, 3)) (hls : ls.size = nL) (hW : (rest.map fun v => v.category).sum ≤ 8) (hf : cells + 0 ≤ R.cells ∧ slots + 0 ≤ R.slots) (hRR : 30 ≤ R.frames ∧ 2000 ≤ R.locals) (hJ : LJ D cI cL cE cP A H0 o0 g n k H locs) (a b d : Int32) (h1 : bwE (KE g n k) k = a) (h2 : plL g n = b) (h3 : (if bwE (KE g n k) k < pct (plL g n) (g 2 0) then pct (plL g n) (g 2 0) else bwE (KE g n k) k) = d)
    (kk : ∀ (H1 : Heap) (locs1 : List Loc), LJ D cI cL cE cP A H0 o0 g n k H1 locs1 → W p l e R s m args below meth c H1 locs1 (cells + 0) (slots + 0) Q (F0 m (pc + 3) ls (.int (1) :: rest))) : W p l e R s m args below meth c H locs cells slots Q (F0 m pc ls (.int d :: .int b :: .int a :: .ref o0 :: rest)) := by
  obtain ⟨hx, hb, hml, hown, hts, hE, hX, hN, hU0, hA, hfl, hR1, hR2, hO0, hO1⟩ := C
  obtain ⟨hok, h9, u0, rfl, hP, hD, hS⟩ := hJ
  have hU : zU (va_A (cw8 cI cL cE cP g n k u0) H.size) s H := (hU0.kept hS.2.1).narrow (va_A_in hD hS hA)
  exact sl_back hA hok h9 hD hS (va_runS (As := [.ref (u0.1 0), .int a, .int b, .int d]) (rest := rest) ⟨hx, hb, hml, hown, hts⟩ (zL_sums l hfl D cI cL cE cP g n k u0 hok h9 a b d h1 h2 h3 H.size) (va_cwS 4 hts hg rfl rfl rfl (by decide +kernel) ⟨Nat.le_trans (m := 30) (Nat.le_of_ble_eq_true rfl) hRR.1, Nat.le_trans (m := 2000) (Nat.le_of_ble_eq_true rfl) hRR.2⟩) ⟨zPy_blind, zPy_mk hE hP hD hX hU hN hO0 hO1⟩ rfl rfl hls rfl (lv_room hW) hdg hf) kk
theorem sl_at (C : CJ p l R s m args c cc nL Ts D cI cL cE cP A H0) (hg : GoodIn Ts (va_wsS RL 120 yL_at wsL_at)) (hdg : decode cc pc = .ok (.invokestatic 120, 3)) (hls : ls.size = nL) (hW : (rest.map fun v => v.category).sum ≤ 8) (hf : cells + 2 ≤ R.cells ∧ slots + 12 ≤ R.slots) (hRR : 30 ≤ R.frames ∧ 2000 ≤ R.locals) (hJ : LJ D cI cL cE cP A H0 o0 g n k H locs) (x b d : Int32) (hT : T_amount n x = 0) (h1 : bw g k x.toNatClampNeg (gsL (KE g n k) k x k) = b) (h2 : wo g x.toNatClampNeg (bw g k x.toNatClampNeg (gsL (KE g n k) k x k)) = d)
    (kk : ∀ (H1 : Heap) (locs1 : List Loc), LJ D cI cL cE cP A H0 o0 g n k H1 locs1 → W p l e R s m args below meth c H1 locs1 (cells + 2) (slots + 12) Q (F0 m (pc + 3) ls (.int (1) :: rest))) : W p l e R s m args below meth c H locs cells slots Q (F0 m pc ls (.int d :: .int b :: .int x :: .ref o0 :: rest)) := by
  obtain ⟨hx, hb, hml, hown, hts, hE, hX, hN, hU0, hA, hfl, hR1, hR2, hO0, hO1⟩ := C
  obtain ⟨hok, h9, u0, rfl, hP, hD, hS⟩ := hJ
  have hU : zU (va_A (cw8 cI cL cE cP g n k u0) H.size) s H := (hU0.kept hS.2.1).narrow (va_A_in hD hS hA)
  exact sl_back hA hok h9 hD hS (va_runS (As := [.ref (u0.1 0), .int x, .int b, .int d]) (rest := rest) ⟨hx, hb, hml, hown, hts⟩ (zL_at l hfl D cI cL cE cP g n k u0 hok h9 x b d hT h1 h2 H.size) (va_cwS 4 hts hg rfl rfl rfl (by decide +kernel) ⟨Nat.le_trans (m := 30) (Nat.le_of_ble_eq_true rfl) hRR.1, Nat.le_trans (m := 2000) (Nat.le_of_ble_eq_true rfl) hRR.2⟩) ⟨zPy_blind, zPy_mk hE hP hD hX hU hN hO0 hO1⟩ rfl rfl hls rfl (lv_room hW) hdg hf) kk
end SL
