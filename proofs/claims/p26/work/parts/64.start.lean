/-! THE LAW FROM ITS ENTRY -/
set_option maxRecDepth 100000 in
theorem zNest_in : ∀ w ∈ zNest, w ∈ lw_tbl := by decide +kernel
set_option maxRecDepth 100000 in
theorem zXw_in : ∀ w ∈ zXw, w ∈ lw_tbl := by decide +kernel
set_option maxRecDepth 100000 in
theorem zStr_in : ∀ q ∈ zStr, Cond.stringRef RX3 q.1 q.2 ∈ lw_tbl := by decide +kernel
set_option maxRecDepth 100000 in
theorem zStr_fl : ∀ q ∈ zStr, Cond.exactly (.string RX3 q.1) "java/lang/String" ∈ flatC (Jvm.Cond.and given_1 narrow_1) := by decide +kernel
theorem zflags {l : Launch} (h : l.flags = flags0) : l.stackTraces = false := by
  unfold Launch.stackTraces; rw [h]; decide +kernel
theorem arr1 {args : Array Value} {s : State} {ty : FieldType} (h : (Cond.arrayClass ty).before args s = true) : ∃ cA : ClassId, ArrOfT s cA ty ∧ s.vm.findClass ("[" ++ ty.toString) = some cA := by
  obtain ⟨cA, kA, comp, h1, h2, h3⟩ := Cond.arrayClass_spec h
  exact ⟨cA, fun n z => ⟨fun k h => (by cases h), kA, h2, comp, h3⟩, h1⟩
theorem arr2 {args : Array Value} {s : State} {C : String} (h : (Cond.arrayOver (.object C)).before args s = true) : ∃ cA : ClassId, ArrOfT s cA (.object C) ∧ va_RA s cA (.object C) := by
  obtain ⟨comp, cA, kA, e1, -, e2, e3, e4⟩ := Cond.arrayOver_spec h
  exact ⟨cA, fun n z => ⟨fun k h => (by cases h), kA, e2, comp, e3⟩, kA, comp, e2, e3, e1, e4⟩
set_option maxRecDepth 100000 in
set_option maxHeartbeats 4000000 in
theorem zcond {s : State} {b : Nat} {l : Launch} (hflags : l.flags = flags0) (hts0 : ∀ w ∈ lw_tbl, w.before #[Value.ref b] s = true) (hgv : (Jvm.Cond.and given_1 narrow_1).before #[Value.ref b] s = true) : ∃ (D : va_G) (cI cL cE cP : ClassId), zE D cI cL cE cP s ∧ zX s ∧ zN s ∧ zU (lA s) s s.heap ∧ l.stackTraces = false ∧ va_AO RX0 s ∧ va_AO RX1 s := by
  have hfl := flat_of_before _ hgv
  have a0 : (Cond.arrayOver (.object RX0)).before #[Value.ref b] s = true := hts0 _ (by decide +kernel)
  have a1 : (Cond.arrayOver (.object RX1)).before #[Value.ref b] s = true := hts0 _ (by decide +kernel)
  obtain ⟨c0, iS0, k0⟩ := u_known (C := RX0) (T := TX0) (N := 8) (n := 8) hts0 inX0 (hts0 (.instantiable RX0 8) (by decide +kernel))
  obtain ⟨c1, iS1, k1⟩ := u_known (C := RX1) (T := TX1) (N := 5) (n := 5) hts0 inX1 (hts0 (.instantiable RX1 5) (by decide +kernel))
  obtain ⟨c2, iS2, k2⟩ := u_known (C := RX2) (T := TX2) (N := 7) (n := 7) hts0 inX2 (hts0 (.instantiable RX2 7) (by decide +kernel))
  obtain ⟨c3, iS3, k3⟩ := u_known (C := RX3) (T := TX3) (N := 9) (n := 9) hts0 inX3 (hts0 (.instantiable RX3 9) (by decide +kernel))
  obtain ⟨D, hKc⟩ : ∃ D : va_G, ∀ (k : Nat) (q : vw_C), vwCl[k]? = some q → u_Kn s q.1 q.2.1 q.2.2 (D.1 k) (D.2 k) := by
    refine ⟨(fun k => if k = 0 then c0 else if k = 1 then c1 else if k = 2 then c2 else c3, fun k => if k = 0 then iS0 else if k = 1 then iS1 else if k = 2 then iS2 else iS3), ?_⟩
    intro k q hq
    match k, hq with
    | 0, hq => cases hq; exact k0
    | 1, hq => cases hq; exact k1
    | 2, hq => cases hq; exact k2
    | 3, hq => cases hq; exact k3
    | k + 4, hq => simp [vwCl] at hq
  obtain ⟨cI, i1, i2⟩ := arr1 (ty := .int) (hts0 (.arrayClass .int) (by decide +kernel))
  obtain ⟨cL, l1, l2⟩ := arr1 (ty := .long) (hts0 (.arrayClass .long) (by decide +kernel))
  obtain ⟨cE, e1, e2⟩ := arr2 a0
  obtain ⟨cP, p1, p2⟩ := arr2 a1
  refine ⟨D, cI, cL, cE, cP, ⟨⟨hKc, fun k q hq => ?_⟩, fun w hw => va_Nw.of (zNest_tabs w hw) (hts0 w (zNest_in w hw))⟩, ⟨fun w hw => va_Nw.of (zXw_tabs w hw) (hts0 w (zXw_in w hw)), fun q hq => ?_⟩, ⟨va_Nc.of (hfl (.not (.castable "java/lang/IllegalArgumentException" "java/lang/IndexOutOfBoundsException")) (by decide +kernel)), va_Nc.of (hfl (.not (.castable "java/lang/IllegalStateException" "java/lang/IndexOutOfBoundsException")) (by decide +kernel)), va_Nc.of (hfl (.not (.castable "java/lang/IllegalStateException" "java/lang/IllegalArgumentException")) (by decide +kernel))⟩, ⟨vx_Zqof (hts0 (.laysStatic Bundle.tN "UNASSIGNED_STACK" Bundle.steD) (by decide +kernel)) (hts0 (.initialized Bundle.tN) (by decide +kernel)) (hfl (.isRef (.static Bundle.tN "UNASSIGNED_STACK" Bundle.steD)) (by decide +kernel)) (fun a h q => absurd q (Nat.not_le.mpr h)), vx_Zqof (hts0 (.laysStatic Bundle.tN "SUPPRESSED_SENTINEL" Bundle.listD) (by decide +kernel)) (hts0 (.initialized Bundle.tN) (by decide +kernel)) (hfl (.isRef (.static Bundle.tN "SUPPRESSED_SENTINEL" Bundle.listD)) (by decide +kernel)) (fun a h q => absurd q (Nat.not_le.mpr h))⟩, zflags hflags, va_AO.of a0, va_AO.of a1⟩
  · match k, hq with
    | 0, hq => cases hq; exact ⟨i1, i2⟩
    | 1, hq => cases hq; exact ⟨l1, l2⟩
    | 2, hq => cases hq; exact ⟨e1, e2⟩
    | 3, hq => cases hq; exact ⟨p1, p2⟩
    | k + 4, hq => simp [zTys] at hq
  · obtain ⟨sa, _, _, _, ha, _⟩ := Cond.exactly_spec (hfl _ (zStr_fl q hq))
    exact ⟨sa, vk_R.of (hts0 _ (zStr_in q hq)) ha⟩
set_option maxHeartbeats 4000000 in
set_option maxRecDepth 100000 in
/-- THE LAW, from its entry -/
theorem whole_start {p : Program} {e : Env} {s : State} {m : MethodId} {below : List Frame} {meth : Method} {c : Code} (l : Launch) (hflags : l.flags = flags0) {b L : Nat} {xs : Nat → Int32} (hL : L ≤ 260) (C0 : lw_At p s m meth c b L xs) : W p l e room_1 s m #[Value.ref b] below meth c s.heap [] 0 0 (lw_Z below #[Value.ref b] s) (entryFrame m ([Value.ref b] : List Value).toArray 5) := by
  obtain ⟨hx, hb, hr, hml, hown0, hts0, hX0, hbl, hlocks, hgv⟩ := id C0
  obtain ⟨D, cI, cL, cE, cP, hE, hX, hN, hU, hfl, hO0, hO1⟩ := zcond hflags hts0 hgv
  have hown : s.vm.findClass RL = some m.cls := hown0
  have hts : ∀ w ∈ wsL_law, w.before #[Value.ref b] s = true := fun w h => hts0 w (wsL_law_in w h)
  have hA : ∀ q : Nat, s.heap.size ≤ q → lA s q := fun _ h => h
  have hC : CJ p l room_1 s m #[Value.ref b] c cL_law 5 wsL_law D cI cL cE cP (lA s) s.heap := ⟨hx, hb, hml, hown, hts, hE, hX, hN, hU, hA, hfl, Nat.le_of_ble_eq_true rfl, Nat.le_of_ble_eq_true rfl, hO0, hO1⟩
  have C : LC p s m meth c b L xs D cI cL cE cP l := ⟨C0, hC⟩
  have hl := lv_entry ([.ref b]) (n := 5) (Nat.le_of_ble_eq_true rfl)
  rw [lg_entry_eq]
  generalize (lg_sl ([.ref b]) ++ List.replicate (5 - (lg_sl ([.ref b])).length) Slot.unset).toArray = ls at hl ⊢
  have hl : lv_has ls 5 [(0, .ref b)] := hl
  refine sl_two hC gL_law_L_two dL_law_0 hl.1 (Nat.le_of_ble_eq_true rfl) (zroomL (by omega) (by omega)) ⟨Nat.le_of_ble_eq_true rfl, Nat.le_of_ble_eq_true rfl⟩ va_S.rf (fun H locs hS => ?_)
  refine lv_if_eq (tgt := 12) hx hb dL_law_3 (by decide) (fun h => absurd h (by decide +kernel)) (fun _ => ?_)
  refine sl_many hC gL_law_L_many dL_law_6 hl.1 (Nat.le_of_ble_eq_true rfl) (zroomL (by omega) (by omega)) ⟨Nat.le_of_ble_eq_true rfl, Nat.le_of_ble_eq_true rfl⟩ hS (fun H locs hS => ?_)
  refine lv_if_ne (tgt := 14) hx hb dL_law_9 (by decide) (fun _ => ?_) (fun h => absurd h (by decide +kernel))
  refine sn_new hC (by decide +kernel) (by decide +kernel) (by decide +kernel) (by decide +kernel) (by decide +kernel) (by decide +kernel) gL_law_X3_init dL_law_14 dL_law_17 dL_law_18 hl.1 (Nat.le_of_ble_eq_true rfl) (zroomL (by omega) (by omega)) hS (fun o0 H locs hJ => ?_)
  refine lv_astore_n (lv' := [(1, .ref o0), (0, .ref b)]) hx hb dL_law_21 rfl hl (by decide) rfl (fun ls hl => ?_)
  refine lv_iconst (v := 0) hx hb dL_law_22 (by decide) ?_
  refine lv_istore_n (lv' := [(2, .int 0), (1, .ref o0), (0, .ref b)]) hx hb dL_law_23 rfl hl (by decide) rfl (fun ls hl => ?_)
  exact law_loop C hL 8 0 rfl g0 H locs ls hJ (show lv_has ls 5 [(0, .ref b), (1, .ref o0), (2, .int (nI 0))] by rw [nI_0]; exact lv_sub hl [2, 1, 0] rfl)
