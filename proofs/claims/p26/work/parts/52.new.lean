/-! a new reckoner, from any method of the law -/
set_option maxHeartbeats 4000000 in
set_option maxRecDepth 100000 in
theorem sn_new {p : Program} {l : Launch} {e : Env} {R : Room} {s : State} {m : MethodId} {args : Array Value} {below : List Frame} {meth : Method} {c : Code} {H : Heap} {locs : List Loc} {cells slots : Nat} {Q : State → Prop} {cc : ByteArray} {nL pc : Nat} {ls : Array Slot} {rest : List Value} {Ts : List Cond} {D : va_G} {cI cL cE cP : ClassId} {A : Nat → Prop} {H0 : Heap}
    (C : CJ p l R s m args c cc nL Ts D cI cL cE cP A H0) (hcl : Cond.classLink RL 8 RX3 ∈ Ts) (hin : Cond.instantiable RX3 9 ∈ Ts) (hini : Cond.initialized RX3 ∈ Ts) (iX3 : ∀ w ∈ wsX30, w ∈ Ts) (hm8 : Cond.methodLink RL 108 yX3_init ∈ Ts) (him : Cond.instanceMethod yX3_init ∈ Ts) (hgI : GoodIn Ts wsX3_init)
    (h1 : decode cc pc = .ok (.new 8, 3)) (h2 : decode cc (pc + 3) = .ok (.dup, 1)) (h3 : decode cc (pc + 3 + 1) = .ok (.invokespecial 108, 3)) (hls : ls.size = nL) (hW : (rest.map fun v => v.category).sum ≤ 7) (hf : cells + 11 ≤ R.cells ∧ slots + 373 ≤ R.slots) (hS : va_S A H0 H locs)
    (kk : ∀ (o0 : Nat) (H1 : Heap) (locs1 : List Loc), LJ D cI cL cE cP A H0 o0 g0 0 0 H1 locs1 → W p l e R s m args below meth c H1 locs1 (cells + 1 + 10) (slots + 9 + 364) Q (F0 m (pc + 3 + 1 + 3) ls (.ref o0 :: rest))) : W p l e R s m args below meth c H locs cells slots Q (F0 m pc ls rest) := by
  obtain ⟨hx, hb, hml, hown, hts, hE, hX, hN, hU0, hA, hfl, hR1, hR2, hO0, hO1⟩ := C
  have hK := hE.1
  have hP : va_P D vwCl [] H := fun k q h => by simp at h
  have hD : va_D A [] := ⟨fun i j p q h => by simp at h, fun k q h => by simp at h⟩
  refine va_new (ci := 3) (fs := [.null, .null, .null, .null, .null, .int 0, .int 0, .int 0, .int 0]) (C := RX3) (T := TX3) (N := 9) hx hb hts iX3 tyX3 tyX3_ok hown (hts _ hcl) (hts _ hin) (hts _ hini) hK hP hD hS hA rfl (fun j hj => by rcases (show j = 0 ∨ j = 1 ∨ j = 2 ∨ j = 3 ∨ j = 4 ∨ j = 5 ∨ j = 6 ∨ j = 7 ∨ j = 8 by omega) with rfl | rfl | rfl | rfl | rfl | rfl | rfl | rfl | rfl <;> rfl) (by omega) (by omega) h1 (fun q1 H hP hD hS => ?_)
  have hP : va_P D vwCl [(q1, .inr (3, [.null, .null, .null, .null, .null, .int 0, .int 0, .int 0, .int 0]))] H := hP
  have hD : va_D A [(q1, .inr (3, [.null, .null, .null, .null, .null, .int 0, .int 0, .int 0, .int 0]))] := hD
  refine lv_dup hx hb h2 rfl ?_
  refine zcallvJ (wr := []) (wc := [(q1, .inr (3, [.null, .null, .null, .null, .null, .int 0, .int 0, .int 0, .int 0]))]) (w1 := fun (u : Nat → Nat) => cws cI cL cE cP u g0 0 0 (fun _ => 0) (fun _ => 0) (fun _ => 0) (fun _ => 0) (fun _ => 0) 0 0) (va_runI (As := []) (rest := .ref q1 :: rest) ⟨hx, hb, hml, hown, hts⟩ (zX3_init l D cI cL cE cP q1 H.size) (cwI 0 hts hgI rfl rfl rfl (hts _ hini) (hts _ hm8) (hts _ him) rfl (by decide +kernel) ⟨Nat.le_trans (m := 20) (Nat.le_of_ble_eq_true rfl) hR1, Nat.le_trans (m := 1000) (Nat.le_of_ble_eq_true rfl) hR2⟩) ⟨zPo_blind, zPo_mk hE hP hD hO0 hO1⟩ rfl rfl hls rfl (lv_room (by
    show 1 + (rest.map fun v => v.category).sum ≤ 8
    omega)) h3 ⟨by omega, by omega⟩) hP hD hS hA (fun u H locs hu hP hD hS => ?_)
  rw [← show u 0 = q1 from hu]
  exact kk (u 0) H locs ⟨g0_ok.1, g0_ok.2, (u, fun _ => 0, fun _ => 0, fun _ => 0, fun _ => 0, fun _ => 0, 0, 0), rfl, hP, hD, hS⟩
