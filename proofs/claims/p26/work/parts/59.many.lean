/-! many -/
section S_manyA
variable {p : Program} {l : Launch} {e : Env} {R : Room} {s : State} {m : MethodId} {args : Array Value} {below : List Frame} {meth : Method} {c : Code} {H : Heap} {locs : List Loc} {Q : State → Prop} {ls : Array Slot} {D : va_G} {cI cL cE cP : ClassId} {A : Nat → Prop} {H0 : Heap} {o0 : Nat}
set_option maxHeartbeats 4000000 in
set_option maxRecDepth 100000 in
theorem sg_manyA_0 (C : CJ p l R s m args c cL_many 2 wsL_many D cI cL cE cP A H0) (hRR : 40 ≤ R.frames ∧ 3000 ≤ R.locals) (hR : 800 ≤ R.cells ∧ 6000 ≤ R.slots) (hJ : LJ D cI cL cE cP A H0 o0 g0 0 0 H locs) (hl : lv_has ls 2 [(0, .ref o0)])
    (kk : ∀ (H : Heap) (locs : List Loc) (ls : Array Slot), LJ D cI cL cE cP A H0 o0 YU8 8 0 H locs → lv_has ls 2 [(0, .ref o0), (1, .int 8)] → W p l e R s m args below meth c H locs 20 445 Q (F0 m 47 ls [])) : W p l e R s m args below meth c H locs 11 373 Q (F0 m 8 ls []) := by
  obtain ⟨hx, hb, hml, hown, hts, -⟩ := id C
  have hRS : 30 ≤ R.frames ∧ 2000 ≤ R.locals := ⟨Nat.le_trans (m := 40) (by decide) hRR.1, Nat.le_trans (m := 3000) (by decide) hRR.2⟩
  refine lv_iconst (v := 0) hx hb dL_many_8 (by decide) ?_
  refine lv_istore_n (lv' := [(1, .int 0), (0, .ref o0)]) hx hb dL_many_9 rfl hl (by decide) rfl (fun ls hl => ?_)
  refine lv_iload_n hx hb dL_many_10 rfl (lv_at hl 0 rfl) ?_
  refine lv_bipush (v := 9) hx hb dL_many_11 (by decide) ?_
  refine lv_icmp_ge (tgt := 53) hx hb dL_many_13 (by decide) (fun h => absurd h (by decide +kernel)) (fun _ => ?_)
  refine lv_aload_n hx hb dL_many_16 rfl (lv_at hl 1 rfl) ?_
  refine lv_iconst (v := 3) hx hb dL_many_17 (by decide) ?_
  refine lv_iload_n hx hb dL_many_18 rfl (lv_at hl 0 rfl) ?_
  refine lv_iconst (v := 4) hx hb dL_many_19 (by decide) ?_
  refine lv_irem hx hb dL_many_20 (by decide) ?_
  rw [show ((0) - (0) / (4) * (4) : Int32) = 0 from by decide +kernel]
  refine lv_bipush (v := 100) hx hb dL_many_21 (by decide) ?_
  refine lv_iconst (v := 0) hx hb dL_many_23 (by decide) ?_
  refine lv_iconst (v := 0) hx hb dL_many_24 (by decide) ?_
  refine lv_bipush (v := 10) hx hb dL_many_25 (by decide) ?_
  refine sl_expose_0 C gL_many_L_expose dL_many_27 hl.1 (Nat.le_of_ble_eq_true rfl) ⟨Nat.le_trans (m := 800) (Nat.le_of_ble_eq_true rfl) hR.1, Nat.le_trans (m := 6000) (Nat.le_of_ble_eq_true rfl) hR.2⟩ hRS hJ 3 0 100 0 0 10 (by decide +kernel) (fun H locs hJ => ?_)
  rw [show (nI 0 : Int32) = 0 from by decide +kernel]
  have hJ : LJ D cI cL cE cP A H0 o0 YU1 1 0 H locs := hJ
  refine lv_iload_n hx hb dL_many_30 rfl (lv_at hl 0 rfl) ?_
  refine lv_bipush (v := 8) hx hb dL_many_31 (by decide) ?_
  refine lv_icmp_ge (tgt := 40) hx hb dL_many_33 (by decide) (fun h => absurd h (by decide +kernel)) (fun _ => ?_)
  refine lv_iload_n hx hb dL_many_36 rfl (lv_at hl 0 rfl) ?_
  refine lv_goto (tgt := 42) hx hb dL_many_37 (by decide) ?_
  refine lv_icmp_eq (tgt := 47) hx hb dL_many_42 (by decide) (fun _ => ?_) (fun h => absurd h (by decide +kernel))
  refine lv_iinc (v := 1) (lv' := [(1, .int 1), (0, .ref o0)]) hx hb dL_many_47 hl (k := 0) rfl (by decide +kernel) (by decide) rfl (fun ls hl => ?_)
  refine lv_goto (tgt := 10) hx hb dL_many_50 (by decide) ?_
  refine lv_iload_n hx hb dL_many_10 rfl (lv_at hl 0 rfl) ?_
  refine lv_bipush (v := 9) hx hb dL_many_11 (by decide) ?_
  refine lv_icmp_ge (tgt := 53) hx hb dL_many_13 (by decide) (fun h => absurd h (by decide +kernel)) (fun _ => ?_)
  refine lv_aload_n hx hb dL_many_16 rfl (lv_at hl 1 rfl) ?_
  refine lv_iconst (v := 3) hx hb dL_many_17 (by decide) ?_
  refine lv_iload_n hx hb dL_many_18 rfl (lv_at hl 0 rfl) ?_
  refine lv_iconst (v := 4) hx hb dL_many_19 (by decide) ?_
  refine lv_irem hx hb dL_many_20 (by decide) ?_
  rw [show ((1) - (1) / (4) * (4) : Int32) = 1 from by decide +kernel]
  refine lv_bipush (v := 100) hx hb dL_many_21 (by decide) ?_
  refine lv_iconst (v := 0) hx hb dL_many_23 (by decide) ?_
  refine lv_iconst (v := 0) hx hb dL_many_24 (by decide) ?_
  refine lv_bipush (v := 10) hx hb dL_many_25 (by decide) ?_
  refine sl_expose_0 C gL_many_L_expose dL_many_27 hl.1 (Nat.le_of_ble_eq_true rfl) ⟨Nat.le_trans (m := 800) (Nat.le_of_ble_eq_true rfl) hR.1, Nat.le_trans (m := 6000) (Nat.le_of_ble_eq_true rfl) hR.2⟩ hRS hJ 3 1 100 0 0 10 (by decide +kernel) (fun H locs hJ => ?_)
  rw [show (nI 1 : Int32) = 1 from by decide +kernel]
  have hJ : LJ D cI cL cE cP A H0 o0 YU2 2 0 H locs := hJ
  refine lv_iload_n hx hb dL_many_30 rfl (lv_at hl 0 rfl) ?_
  refine lv_bipush (v := 8) hx hb dL_many_31 (by decide) ?_
  refine lv_icmp_ge (tgt := 40) hx hb dL_many_33 (by decide) (fun h => absurd h (by decide +kernel)) (fun _ => ?_)
  refine lv_iload_n hx hb dL_many_36 rfl (lv_at hl 0 rfl) ?_
  refine lv_goto (tgt := 42) hx hb dL_many_37 (by decide) ?_
  refine lv_icmp_eq (tgt := 47) hx hb dL_many_42 (by decide) (fun _ => ?_) (fun h => absurd h (by decide +kernel))
  refine lv_iinc (v := 2) (lv' := [(1, .int 2), (0, .ref o0)]) hx hb dL_many_47 hl (k := 0) rfl (by decide +kernel) (by decide) rfl (fun ls hl => ?_)
  refine lv_goto (tgt := 10) hx hb dL_many_50 (by decide) ?_
  refine lv_iload_n hx hb dL_many_10 rfl (lv_at hl 0 rfl) ?_
  refine lv_bipush (v := 9) hx hb dL_many_11 (by decide) ?_
  refine lv_icmp_ge (tgt := 53) hx hb dL_many_13 (by decide) (fun h => absurd h (by decide +kernel)) (fun _ => ?_)
  refine lv_aload_n hx hb dL_many_16 rfl (lv_at hl 1 rfl) ?_
  refine lv_iconst (v := 3) hx hb dL_many_17 (by decide) ?_
  refine lv_iload_n hx hb dL_many_18 rfl (lv_at hl 0 rfl) ?_
  refine lv_iconst (v := 4) hx hb dL_many_19 (by decide) ?_
  refine lv_irem hx hb dL_many_20 (by decide) ?_
  rw [show ((2) - (2) / (4) * (4) : Int32) = 2 from by decide +kernel]
  refine lv_bipush (v := 100) hx hb dL_many_21 (by decide) ?_
  refine lv_iconst (v := 0) hx hb dL_many_23 (by decide) ?_
  refine lv_iconst (v := 0) hx hb dL_many_24 (by decide) ?_
  refine lv_bipush (v := 10) hx hb dL_many_25 (by decide) ?_
  refine sl_expose_0 C gL_many_L_expose dL_many_27 hl.1 (Nat.le_of_ble_eq_true rfl) ⟨Nat.le_trans (m := 800) (Nat.le_of_ble_eq_true rfl) hR.1, Nat.le_trans (m := 6000) (Nat.le_of_ble_eq_true rfl) hR.2⟩ hRS hJ 3 2 100 0 0 10 (by decide +kernel) (fun H locs hJ => ?_)
  rw [show (nI 2 : Int32) = 2 from by decide +kernel]
  have hJ : LJ D cI cL cE cP A H0 o0 YU3 3 0 H locs := hJ
  refine lv_iload_n hx hb dL_many_30 rfl (lv_at hl 0 rfl) ?_
  refine lv_bipush (v := 8) hx hb dL_many_31 (by decide) ?_
  refine lv_icmp_ge (tgt := 40) hx hb dL_many_33 (by decide) (fun h => absurd h (by decide +kernel)) (fun _ => ?_)
  refine lv_iload_n hx hb dL_many_36 rfl (lv_at hl 0 rfl) ?_
  refine lv_goto (tgt := 42) hx hb dL_many_37 (by decide) ?_
  refine lv_icmp_eq (tgt := 47) hx hb dL_many_42 (by decide) (fun _ => ?_) (fun h => absurd h (by decide +kernel))
  refine lv_iinc (v := 3) (lv' := [(1, .int 3), (0, .ref o0)]) hx hb dL_many_47 hl (k := 0) rfl (by decide +kernel) (by decide) rfl (fun ls hl => ?_)
  refine lv_goto (tgt := 10) hx hb dL_many_50 (by decide) ?_
  refine lv_iload_n hx hb dL_many_10 rfl (lv_at hl 0 rfl) ?_
  refine lv_bipush (v := 9) hx hb dL_many_11 (by decide) ?_
  refine lv_icmp_ge (tgt := 53) hx hb dL_many_13 (by decide) (fun h => absurd h (by decide +kernel)) (fun _ => ?_)
  refine lv_aload_n hx hb dL_many_16 rfl (lv_at hl 1 rfl) ?_
  refine lv_iconst (v := 3) hx hb dL_many_17 (by decide) ?_
  refine lv_iload_n hx hb dL_many_18 rfl (lv_at hl 0 rfl) ?_
  refine lv_iconst (v := 4) hx hb dL_many_19 (by decide) ?_
  refine lv_irem hx hb dL_many_20 (by decide) ?_
  rw [show ((3) - (3) / (4) * (4) : Int32) = 3 from by decide +kernel]
  refine lv_bipush (v := 100) hx hb dL_many_21 (by decide) ?_
  refine lv_iconst (v := 0) hx hb dL_many_23 (by decide) ?_
  refine lv_iconst (v := 0) hx hb dL_many_24 (by decide) ?_
  refine lv_bipush (v := 10) hx hb dL_many_25 (by decide) ?_
  refine sl_expose_0 C gL_many_L_expose dL_many_27 hl.1 (Nat.le_of_ble_eq_true rfl) ⟨Nat.le_trans (m := 800) (Nat.le_of_ble_eq_true rfl) hR.1, Nat.le_trans (m := 6000) (Nat.le_of_ble_eq_true rfl) hR.2⟩ hRS hJ 3 3 100 0 0 10 (by decide +kernel) (fun H locs hJ => ?_)
  rw [show (nI 3 : Int32) = 3 from by decide +kernel]
  have hJ : LJ D cI cL cE cP A H0 o0 YU4 4 0 H locs := hJ
  refine lv_iload_n hx hb dL_many_30 rfl (lv_at hl 0 rfl) ?_
  refine lv_bipush (v := 8) hx hb dL_many_31 (by decide) ?_
  refine lv_icmp_ge (tgt := 40) hx hb dL_many_33 (by decide) (fun h => absurd h (by decide +kernel)) (fun _ => ?_)
  refine lv_iload_n hx hb dL_many_36 rfl (lv_at hl 0 rfl) ?_
  refine lv_goto (tgt := 42) hx hb dL_many_37 (by decide) ?_
  refine lv_icmp_eq (tgt := 47) hx hb dL_many_42 (by decide) (fun _ => ?_) (fun h => absurd h (by decide +kernel))
  refine lv_iinc (v := 4) (lv' := [(1, .int 4), (0, .ref o0)]) hx hb dL_many_47 hl (k := 0) rfl (by decide +kernel) (by decide) rfl (fun ls hl => ?_)
  refine lv_goto (tgt := 10) hx hb dL_many_50 (by decide) ?_
  refine lv_iload_n hx hb dL_many_10 rfl (lv_at hl 0 rfl) ?_
  refine lv_bipush (v := 9) hx hb dL_many_11 (by decide) ?_
  refine lv_icmp_ge (tgt := 53) hx hb dL_many_13 (by decide) (fun h => absurd h (by decide +kernel)) (fun _ => ?_)
  refine lv_aload_n hx hb dL_many_16 rfl (lv_at hl 1 rfl) ?_
  refine lv_iconst (v := 3) hx hb dL_many_17 (by decide) ?_
  refine lv_iload_n hx hb dL_many_18 rfl (lv_at hl 0 rfl) ?_
  refine lv_iconst (v := 4) hx hb dL_many_19 (by decide) ?_
  refine lv_irem hx hb dL_many_20 (by decide) ?_
  rw [show ((4) - (4) / (4) * (4) : Int32) = 0 from by decide +kernel]
  refine lv_bipush (v := 100) hx hb dL_many_21 (by decide) ?_
  refine lv_iconst (v := 0) hx hb dL_many_23 (by decide) ?_
  refine lv_iconst (v := 0) hx hb dL_many_24 (by decide) ?_
  refine lv_bipush (v := 10) hx hb dL_many_25 (by decide) ?_
  refine sl_expose_0 C gL_many_L_expose dL_many_27 hl.1 (Nat.le_of_ble_eq_true rfl) ⟨Nat.le_trans (m := 800) (Nat.le_of_ble_eq_true rfl) hR.1, Nat.le_trans (m := 6000) (Nat.le_of_ble_eq_true rfl) hR.2⟩ hRS hJ 3 0 100 0 0 10 (by decide +kernel) (fun H locs hJ => ?_)
  rw [show (nI 4 : Int32) = 4 from by decide +kernel]
  have hJ : LJ D cI cL cE cP A H0 o0 YU5 5 0 H locs := hJ
  refine lv_iload_n hx hb dL_many_30 rfl (lv_at hl 0 rfl) ?_
  refine lv_bipush (v := 8) hx hb dL_many_31 (by decide) ?_
  refine lv_icmp_ge (tgt := 40) hx hb dL_many_33 (by decide) (fun h => absurd h (by decide +kernel)) (fun _ => ?_)
  refine lv_iload_n hx hb dL_many_36 rfl (lv_at hl 0 rfl) ?_
  refine lv_goto (tgt := 42) hx hb dL_many_37 (by decide) ?_
  refine lv_icmp_eq (tgt := 47) hx hb dL_many_42 (by decide) (fun _ => ?_) (fun h => absurd h (by decide +kernel))
  refine lv_iinc (v := 5) (lv' := [(1, .int 5), (0, .ref o0)]) hx hb dL_many_47 hl (k := 0) rfl (by decide +kernel) (by decide) rfl (fun ls hl => ?_)
  refine lv_goto (tgt := 10) hx hb dL_many_50 (by decide) ?_
  refine lv_iload_n hx hb dL_many_10 rfl (lv_at hl 0 rfl) ?_
  refine lv_bipush (v := 9) hx hb dL_many_11 (by decide) ?_
  refine lv_icmp_ge (tgt := 53) hx hb dL_many_13 (by decide) (fun h => absurd h (by decide +kernel)) (fun _ => ?_)
  refine lv_aload_n hx hb dL_many_16 rfl (lv_at hl 1 rfl) ?_
  refine lv_iconst (v := 3) hx hb dL_many_17 (by decide) ?_
  refine lv_iload_n hx hb dL_many_18 rfl (lv_at hl 0 rfl) ?_
  refine lv_iconst (v := 4) hx hb dL_many_19 (by decide) ?_
  refine lv_irem hx hb dL_many_20 (by decide) ?_
  rw [show ((5) - (5) / (4) * (4) : Int32) = 1 from by decide +kernel]
  refine lv_bipush (v := 100) hx hb dL_many_21 (by decide) ?_
  refine lv_iconst (v := 0) hx hb dL_many_23 (by decide) ?_
  refine lv_iconst (v := 0) hx hb dL_many_24 (by decide) ?_
  refine lv_bipush (v := 10) hx hb dL_many_25 (by decide) ?_
  refine sl_expose_0 C gL_many_L_expose dL_many_27 hl.1 (Nat.le_of_ble_eq_true rfl) ⟨Nat.le_trans (m := 800) (Nat.le_of_ble_eq_true rfl) hR.1, Nat.le_trans (m := 6000) (Nat.le_of_ble_eq_true rfl) hR.2⟩ hRS hJ 3 1 100 0 0 10 (by decide +kernel) (fun H locs hJ => ?_)
  rw [show (nI 5 : Int32) = 5 from by decide +kernel]
  have hJ : LJ D cI cL cE cP A H0 o0 YU6 6 0 H locs := hJ
  refine lv_iload_n hx hb dL_many_30 rfl (lv_at hl 0 rfl) ?_
  refine lv_bipush (v := 8) hx hb dL_many_31 (by decide) ?_
  refine lv_icmp_ge (tgt := 40) hx hb dL_many_33 (by decide) (fun h => absurd h (by decide +kernel)) (fun _ => ?_)
  refine lv_iload_n hx hb dL_many_36 rfl (lv_at hl 0 rfl) ?_
  refine lv_goto (tgt := 42) hx hb dL_many_37 (by decide) ?_
  refine lv_icmp_eq (tgt := 47) hx hb dL_many_42 (by decide) (fun _ => ?_) (fun h => absurd h (by decide +kernel))
  refine lv_iinc (v := 6) (lv' := [(1, .int 6), (0, .ref o0)]) hx hb dL_many_47 hl (k := 0) rfl (by decide +kernel) (by decide) rfl (fun ls hl => ?_)
  refine lv_goto (tgt := 10) hx hb dL_many_50 (by decide) ?_
  refine lv_iload_n hx hb dL_many_10 rfl (lv_at hl 0 rfl) ?_
  refine lv_bipush (v := 9) hx hb dL_many_11 (by decide) ?_
  refine lv_icmp_ge (tgt := 53) hx hb dL_many_13 (by decide) (fun h => absurd h (by decide +kernel)) (fun _ => ?_)
  refine lv_aload_n hx hb dL_many_16 rfl (lv_at hl 1 rfl) ?_
  refine lv_iconst (v := 3) hx hb dL_many_17 (by decide) ?_
  refine lv_iload_n hx hb dL_many_18 rfl (lv_at hl 0 rfl) ?_
  refine lv_iconst (v := 4) hx hb dL_many_19 (by decide) ?_
  refine lv_irem hx hb dL_many_20 (by decide) ?_
  rw [show ((6) - (6) / (4) * (4) : Int32) = 2 from by decide +kernel]
  refine lv_bipush (v := 100) hx hb dL_many_21 (by decide) ?_
  refine lv_iconst (v := 0) hx hb dL_many_23 (by decide) ?_
  refine lv_iconst (v := 0) hx hb dL_many_24 (by decide) ?_
  refine lv_bipush (v := 10) hx hb dL_many_25 (by decide) ?_
  refine sl_expose_0 C gL_many_L_expose dL_many_27 hl.1 (Nat.le_of_ble_eq_true rfl) ⟨Nat.le_trans (m := 800) (Nat.le_of_ble_eq_true rfl) hR.1, Nat.le_trans (m := 6000) (Nat.le_of_ble_eq_true rfl) hR.2⟩ hRS hJ 3 2 100 0 0 10 (by decide +kernel) (fun H locs hJ => ?_)
  rw [show (nI 6 : Int32) = 6 from by decide +kernel]
  have hJ : LJ D cI cL cE cP A H0 o0 YU7 7 0 H locs := hJ
  refine lv_iload_n hx hb dL_many_30 rfl (lv_at hl 0 rfl) ?_
  refine lv_bipush (v := 8) hx hb dL_many_31 (by decide) ?_
  refine lv_icmp_ge (tgt := 40) hx hb dL_many_33 (by decide) (fun h => absurd h (by decide +kernel)) (fun _ => ?_)
  refine lv_iload_n hx hb dL_many_36 rfl (lv_at hl 0 rfl) ?_
  refine lv_goto (tgt := 42) hx hb dL_many_37 (by decide) ?_
  refine lv_icmp_eq (tgt := 47) hx hb dL_many_42 (by decide) (fun _ => ?_) (fun h => absurd h (by decide +kernel))
  refine lv_iinc (v := 7) (lv' := [(1, .int 7), (0, .ref o0)]) hx hb dL_many_47 hl (k := 0) rfl (by decide +kernel) (by decide) rfl (fun ls hl => ?_)
  refine lv_goto (tgt := 10) hx hb dL_many_50 (by decide) ?_
  refine lv_iload_n hx hb dL_many_10 rfl (lv_at hl 0 rfl) ?_
  refine lv_bipush (v := 9) hx hb dL_many_11 (by decide) ?_
  refine lv_icmp_ge (tgt := 53) hx hb dL_many_13 (by decide) (fun h => absurd h (by decide +kernel)) (fun _ => ?_)
  refine lv_aload_n hx hb dL_many_16 rfl (lv_at hl 1 rfl) ?_
  refine lv_iconst (v := 3) hx hb dL_many_17 (by decide) ?_
  refine lv_iload_n hx hb dL_many_18 rfl (lv_at hl 0 rfl) ?_
  refine lv_iconst (v := 4) hx hb dL_many_19 (by decide) ?_
  refine lv_irem hx hb dL_many_20 (by decide) ?_
  rw [show ((7) - (7) / (4) * (4) : Int32) = 3 from by decide +kernel]
  refine lv_bipush (v := 100) hx hb dL_many_21 (by decide) ?_
  refine lv_iconst (v := 0) hx hb dL_many_23 (by decide) ?_
  refine lv_iconst (v := 0) hx hb dL_many_24 (by decide) ?_
  refine lv_bipush (v := 10) hx hb dL_many_25 (by decide) ?_
  refine sl_expose_0 C gL_many_L_expose dL_many_27 hl.1 (Nat.le_of_ble_eq_true rfl) ⟨Nat.le_trans (m := 800) (Nat.le_of_ble_eq_true rfl) hR.1, Nat.le_trans (m := 6000) (Nat.le_of_ble_eq_true rfl) hR.2⟩ hRS hJ 3 3 100 0 0 10 (by decide +kernel) (fun H locs hJ => ?_)
  rw [show (nI 7 : Int32) = 7 from by decide +kernel]
  have hJ : LJ D cI cL cE cP A H0 o0 YU8 8 0 H locs := hJ
  refine lv_iload_n hx hb dL_many_30 rfl (lv_at hl 0 rfl) ?_
  refine lv_bipush (v := 8) hx hb dL_many_31 (by decide) ?_
  refine lv_icmp_ge (tgt := 40) hx hb dL_many_33 (by decide) (fun h => absurd h (by decide +kernel)) (fun _ => ?_)
  refine lv_iload_n hx hb dL_many_36 rfl (lv_at hl 0 rfl) ?_
  refine lv_goto (tgt := 42) hx hb dL_many_37 (by decide) ?_
  refine lv_icmp_eq (tgt := 47) hx hb dL_many_42 (by decide) (fun _ => ?_) (fun h => absurd h (by decide +kernel))
  refine lv_iinc (v := 8) (lv' := [(1, .int 8), (0, .ref o0)]) hx hb dL_many_47 hl (k := 0) rfl (by decide +kernel) (by decide) rfl (fun ls hl => ?_)
  refine lv_goto (tgt := 10) hx hb dL_many_50 (by decide) ?_
  refine lv_iload_n hx hb dL_many_10 rfl (lv_at hl 0 rfl) ?_
  refine lv_bipush (v := 9) hx hb dL_many_11 (by decide) ?_
  refine lv_icmp_ge (tgt := 53) hx hb dL_many_13 (by decide) (fun h => absurd h (by decide +kernel)) (fun _ => ?_)
  refine lv_aload_n hx hb dL_many_16 rfl (lv_at hl 1 rfl) ?_
  refine lv_iconst (v := 3) hx hb dL_many_17 (by decide) ?_
  refine lv_iload_n hx hb dL_many_18 rfl (lv_at hl 0 rfl) ?_
  refine lv_iconst (v := 4) hx hb dL_many_19 (by decide) ?_
  refine lv_irem hx hb dL_many_20 (by decide) ?_
  rw [show ((8) - (8) / (4) * (4) : Int32) = 0 from by decide +kernel]
  refine lv_bipush (v := 100) hx hb dL_many_21 (by decide) ?_
  refine lv_iconst (v := 0) hx hb dL_many_23 (by decide) ?_
  refine lv_iconst (v := 0) hx hb dL_many_24 (by decide) ?_
  refine lv_bipush (v := 10) hx hb dL_many_25 (by decide) ?_
  refine sl_expose_3 C gL_many_L_expose dL_many_27 hl.1 (Nat.le_of_ble_eq_true rfl) ⟨Nat.le_trans (m := 800) (Nat.le_of_ble_eq_true rfl) hR.1, Nat.le_trans (m := 6000) (Nat.le_of_ble_eq_true rfl) hR.2⟩ hRS hJ 3 0 100 0 0 10 (by decide +kernel) (fun H locs hJ => ?_)
  refine lv_iload_n hx hb dL_many_30 rfl (lv_at hl 0 rfl) ?_
  refine lv_bipush (v := 8) hx hb dL_many_31 (by decide) ?_
  refine lv_icmp_ge (tgt := 40) hx hb dL_many_33 (by decide) (fun _ => ?_) (fun h => absurd h (by decide +kernel))
  refine lv_ldc (v := (-900000003)) hx hb hown (hts (.constant RL 21 (-900000003)) (by decide +kernel)) dL_many_40 ?_
  refine lv_icmp_eq (tgt := 47) hx hb dL_many_42 (by decide) (fun _ => ?_) (fun h => absurd h (by decide +kernel))
  exact kk H locs ls hJ (lv_sub hl [1, 0] rfl)
set_option maxHeartbeats 4000000 in
set_option maxRecDepth 100000 in
theorem sg_manyA_1 (C : CJ p l R s m args c cL_many 2 wsL_many D cI cL cE cP A H0) (hRR : 40 ≤ R.frames ∧ 3000 ≤ R.locals) (hR : 800 ≤ R.cells ∧ 6000 ≤ R.slots) (hJ : LJ D cI cL cE cP A H0 o0 YU8 8 0 H locs) (hl : lv_has ls 2 [(0, .ref o0), (1, .int 8)])
    (kk : ∀ (H : Heap) (locs : List Loc) (ls : Array Slot), LJ D cI cL cE cP A H0 o0 YU13 8 5 H locs → lv_has ls 2 [(0, .ref o0), (1, .int 6)] → W p l e R s m args below meth c H locs 28 493 Q (F0 m 129 ls [])) : W p l e R s m args below meth c H locs 20 445 Q (F0 m 47 ls []) := by
  obtain ⟨hx, hb, hml, hown, hts, -⟩ := id C
  have hRS : 30 ≤ R.frames ∧ 2000 ≤ R.locals := ⟨Nat.le_trans (m := 40) (by decide) hRR.1, Nat.le_trans (m := 3000) (by decide) hRR.2⟩
  refine lv_iinc (v := 9) (lv' := [(1, .int 9), (0, .ref o0)]) hx hb dL_many_47 hl (k := 1) rfl (by decide +kernel) (by decide) rfl (fun ls hl => ?_)
  refine lv_goto (tgt := 10) hx hb dL_many_50 (by decide) ?_
  refine lv_iload_n hx hb dL_many_10 rfl (lv_at hl 0 rfl) ?_
  refine lv_bipush (v := 9) hx hb dL_many_11 (by decide) ?_
  refine lv_icmp_ge (tgt := 53) hx hb dL_many_13 (by decide) (fun _ => ?_) (fun h => absurd h (by decide +kernel))
  refine lv_iconst (v := 0) hx hb dL_many_53 (by decide) ?_
  refine lv_istore_n (lv' := [(1, .int 0), (0, .ref o0)]) hx hb dL_many_54 rfl hl (by decide) rfl (fun ls hl => ?_)
  refine lv_iload_n hx hb dL_many_55 rfl (lv_at hl 0 rfl) ?_
  refine lv_bipush (v := 6) hx hb dL_many_56 (by decide) ?_
  refine lv_icmp_ge (tgt := 96) hx hb dL_many_58 (by decide) (fun h => absurd h (by decide +kernel)) (fun _ => ?_)
  refine lv_aload_n hx hb dL_many_61 rfl (lv_at hl 1 rfl) ?_
  refine lv_bipush (v := 60) hx hb dL_many_62 (by decide) ?_
  refine lv_iconst (v := 0) hx hb dL_many_64 (by decide) ?_
  refine lv_iconst (v := 0) hx hb dL_many_65 (by decide) ?_
  refine lv_bipush (v := 10) hx hb dL_many_66 (by decide) ?_
  refine lv_sipush (v := 255) hx hb dL_many_68 (by decide) ?_
  refine sl_piece_0 C gL_many_L_piece dL_many_71 hl.1 (Nat.le_of_ble_eq_true rfl) ⟨Nat.le_trans (m := 800) (Nat.le_of_ble_eq_true rfl) hR.1, Nat.le_trans (m := 6000) (Nat.le_of_ble_eq_true rfl) hR.2⟩ hRS hJ 60 0 0 10 255 (by decide +kernel) (fun H locs hJ => ?_)
  rw [show (nI 0 : Int32) = 0 from by decide +kernel]
  have hJ : LJ D cI cL cE cP A H0 o0 YU9 8 1 H locs := hJ
  refine lv_iload_n hx hb dL_many_74 rfl (lv_at hl 0 rfl) ?_
  refine lv_iconst (v := 5) hx hb dL_many_75 (by decide) ?_
  refine lv_icmp_ge (tgt := 83) hx hb dL_many_76 (by decide) (fun h => absurd h (by decide +kernel)) (fun _ => ?_)
  refine lv_iload_n hx hb dL_many_79 rfl (lv_at hl 0 rfl) ?_
  refine lv_goto (tgt := 85) hx hb dL_many_80 (by decide) ?_
  refine lv_icmp_eq (tgt := 90) hx hb dL_many_85 (by decide) (fun _ => ?_) (fun h => absurd h (by decide +kernel))
  refine lv_iinc (v := 1) (lv' := [(1, .int 1), (0, .ref o0)]) hx hb dL_many_90 hl (k := 0) rfl (by decide +kernel) (by decide) rfl (fun ls hl => ?_)
  refine lv_goto (tgt := 55) hx hb dL_many_93 (by decide) ?_
  refine lv_iload_n hx hb dL_many_55 rfl (lv_at hl 0 rfl) ?_
  refine lv_bipush (v := 6) hx hb dL_many_56 (by decide) ?_
  refine lv_icmp_ge (tgt := 96) hx hb dL_many_58 (by decide) (fun h => absurd h (by decide +kernel)) (fun _ => ?_)
  refine lv_aload_n hx hb dL_many_61 rfl (lv_at hl 1 rfl) ?_
  refine lv_bipush (v := 60) hx hb dL_many_62 (by decide) ?_
  refine lv_iconst (v := 0) hx hb dL_many_64 (by decide) ?_
  refine lv_iconst (v := 0) hx hb dL_many_65 (by decide) ?_
  refine lv_bipush (v := 10) hx hb dL_many_66 (by decide) ?_
  refine lv_sipush (v := 255) hx hb dL_many_68 (by decide) ?_
  refine sl_piece_0 C gL_many_L_piece dL_many_71 hl.1 (Nat.le_of_ble_eq_true rfl) ⟨Nat.le_trans (m := 800) (Nat.le_of_ble_eq_true rfl) hR.1, Nat.le_trans (m := 6000) (Nat.le_of_ble_eq_true rfl) hR.2⟩ hRS hJ 60 0 0 10 255 (by decide +kernel) (fun H locs hJ => ?_)
  rw [show (nI 1 : Int32) = 1 from by decide +kernel]
  have hJ : LJ D cI cL cE cP A H0 o0 YU10 8 2 H locs := hJ
  refine lv_iload_n hx hb dL_many_74 rfl (lv_at hl 0 rfl) ?_
  refine lv_iconst (v := 5) hx hb dL_many_75 (by decide) ?_
  refine lv_icmp_ge (tgt := 83) hx hb dL_many_76 (by decide) (fun h => absurd h (by decide +kernel)) (fun _ => ?_)
  refine lv_iload_n hx hb dL_many_79 rfl (lv_at hl 0 rfl) ?_
  refine lv_goto (tgt := 85) hx hb dL_many_80 (by decide) ?_
  refine lv_icmp_eq (tgt := 90) hx hb dL_many_85 (by decide) (fun _ => ?_) (fun h => absurd h (by decide +kernel))
  refine lv_iinc (v := 2) (lv' := [(1, .int 2), (0, .ref o0)]) hx hb dL_many_90 hl (k := 0) rfl (by decide +kernel) (by decide) rfl (fun ls hl => ?_)
  refine lv_goto (tgt := 55) hx hb dL_many_93 (by decide) ?_
  refine lv_iload_n hx hb dL_many_55 rfl (lv_at hl 0 rfl) ?_
  refine lv_bipush (v := 6) hx hb dL_many_56 (by decide) ?_
  refine lv_icmp_ge (tgt := 96) hx hb dL_many_58 (by decide) (fun h => absurd h (by decide +kernel)) (fun _ => ?_)
  refine lv_aload_n hx hb dL_many_61 rfl (lv_at hl 1 rfl) ?_
  refine lv_bipush (v := 60) hx hb dL_many_62 (by decide) ?_
  refine lv_iconst (v := 0) hx hb dL_many_64 (by decide) ?_
  refine lv_iconst (v := 0) hx hb dL_many_65 (by decide) ?_
  refine lv_bipush (v := 10) hx hb dL_many_66 (by decide) ?_
  refine lv_sipush (v := 255) hx hb dL_many_68 (by decide) ?_
  refine sl_piece_0 C gL_many_L_piece dL_many_71 hl.1 (Nat.le_of_ble_eq_true rfl) ⟨Nat.le_trans (m := 800) (Nat.le_of_ble_eq_true rfl) hR.1, Nat.le_trans (m := 6000) (Nat.le_of_ble_eq_true rfl) hR.2⟩ hRS hJ 60 0 0 10 255 (by decide +kernel) (fun H locs hJ => ?_)
  rw [show (nI 2 : Int32) = 2 from by decide +kernel]
  have hJ : LJ D cI cL cE cP A H0 o0 YU11 8 3 H locs := hJ
  refine lv_iload_n hx hb dL_many_74 rfl (lv_at hl 0 rfl) ?_
  refine lv_iconst (v := 5) hx hb dL_many_75 (by decide) ?_
  refine lv_icmp_ge (tgt := 83) hx hb dL_many_76 (by decide) (fun h => absurd h (by decide +kernel)) (fun _ => ?_)
  refine lv_iload_n hx hb dL_many_79 rfl (lv_at hl 0 rfl) ?_
  refine lv_goto (tgt := 85) hx hb dL_many_80 (by decide) ?_
  refine lv_icmp_eq (tgt := 90) hx hb dL_many_85 (by decide) (fun _ => ?_) (fun h => absurd h (by decide +kernel))
  refine lv_iinc (v := 3) (lv' := [(1, .int 3), (0, .ref o0)]) hx hb dL_many_90 hl (k := 0) rfl (by decide +kernel) (by decide) rfl (fun ls hl => ?_)
  refine lv_goto (tgt := 55) hx hb dL_many_93 (by decide) ?_
  refine lv_iload_n hx hb dL_many_55 rfl (lv_at hl 0 rfl) ?_
  refine lv_bipush (v := 6) hx hb dL_many_56 (by decide) ?_
  refine lv_icmp_ge (tgt := 96) hx hb dL_many_58 (by decide) (fun h => absurd h (by decide +kernel)) (fun _ => ?_)
  refine lv_aload_n hx hb dL_many_61 rfl (lv_at hl 1 rfl) ?_
  refine lv_bipush (v := 60) hx hb dL_many_62 (by decide) ?_
  refine lv_iconst (v := 0) hx hb dL_many_64 (by decide) ?_
  refine lv_iconst (v := 0) hx hb dL_many_65 (by decide) ?_
  refine lv_bipush (v := 10) hx hb dL_many_66 (by decide) ?_
  refine lv_sipush (v := 255) hx hb dL_many_68 (by decide) ?_
  refine sl_piece_0 C gL_many_L_piece dL_many_71 hl.1 (Nat.le_of_ble_eq_true rfl) ⟨Nat.le_trans (m := 800) (Nat.le_of_ble_eq_true rfl) hR.1, Nat.le_trans (m := 6000) (Nat.le_of_ble_eq_true rfl) hR.2⟩ hRS hJ 60 0 0 10 255 (by decide +kernel) (fun H locs hJ => ?_)
  rw [show (nI 3 : Int32) = 3 from by decide +kernel]
  have hJ : LJ D cI cL cE cP A H0 o0 YU12 8 4 H locs := hJ
  refine lv_iload_n hx hb dL_many_74 rfl (lv_at hl 0 rfl) ?_
  refine lv_iconst (v := 5) hx hb dL_many_75 (by decide) ?_
  refine lv_icmp_ge (tgt := 83) hx hb dL_many_76 (by decide) (fun h => absurd h (by decide +kernel)) (fun _ => ?_)
  refine lv_iload_n hx hb dL_many_79 rfl (lv_at hl 0 rfl) ?_
  refine lv_goto (tgt := 85) hx hb dL_many_80 (by decide) ?_
  refine lv_icmp_eq (tgt := 90) hx hb dL_many_85 (by decide) (fun _ => ?_) (fun h => absurd h (by decide +kernel))
  refine lv_iinc (v := 4) (lv' := [(1, .int 4), (0, .ref o0)]) hx hb dL_many_90 hl (k := 0) rfl (by decide +kernel) (by decide) rfl (fun ls hl => ?_)
  refine lv_goto (tgt := 55) hx hb dL_many_93 (by decide) ?_
  refine lv_iload_n hx hb dL_many_55 rfl (lv_at hl 0 rfl) ?_
  refine lv_bipush (v := 6) hx hb dL_many_56 (by decide) ?_
  refine lv_icmp_ge (tgt := 96) hx hb dL_many_58 (by decide) (fun h => absurd h (by decide +kernel)) (fun _ => ?_)
  refine lv_aload_n hx hb dL_many_61 rfl (lv_at hl 1 rfl) ?_
  refine lv_bipush (v := 60) hx hb dL_many_62 (by decide) ?_
  refine lv_iconst (v := 0) hx hb dL_many_64 (by decide) ?_
  refine lv_iconst (v := 0) hx hb dL_many_65 (by decide) ?_
  refine lv_bipush (v := 10) hx hb dL_many_66 (by decide) ?_
  refine lv_sipush (v := 255) hx hb dL_many_68 (by decide) ?_
  refine sl_piece_0 C gL_many_L_piece dL_many_71 hl.1 (Nat.le_of_ble_eq_true rfl) ⟨Nat.le_trans (m := 800) (Nat.le_of_ble_eq_true rfl) hR.1, Nat.le_trans (m := 6000) (Nat.le_of_ble_eq_true rfl) hR.2⟩ hRS hJ 60 0 0 10 255 (by decide +kernel) (fun H locs hJ => ?_)
  rw [show (nI 4 : Int32) = 4 from by decide +kernel]
  have hJ : LJ D cI cL cE cP A H0 o0 YU13 8 5 H locs := hJ
  refine lv_iload_n hx hb dL_many_74 rfl (lv_at hl 0 rfl) ?_
  refine lv_iconst (v := 5) hx hb dL_many_75 (by decide) ?_
  refine lv_icmp_ge (tgt := 83) hx hb dL_many_76 (by decide) (fun h => absurd h (by decide +kernel)) (fun _ => ?_)
  refine lv_iload_n hx hb dL_many_79 rfl (lv_at hl 0 rfl) ?_
  refine lv_goto (tgt := 85) hx hb dL_many_80 (by decide) ?_
  refine lv_icmp_eq (tgt := 90) hx hb dL_many_85 (by decide) (fun _ => ?_) (fun h => absurd h (by decide +kernel))
  refine lv_iinc (v := 5) (lv' := [(1, .int 5), (0, .ref o0)]) hx hb dL_many_90 hl (k := 0) rfl (by decide +kernel) (by decide) rfl (fun ls hl => ?_)
  refine lv_goto (tgt := 55) hx hb dL_many_93 (by decide) ?_
  refine lv_iload_n hx hb dL_many_55 rfl (lv_at hl 0 rfl) ?_
  refine lv_bipush (v := 6) hx hb dL_many_56 (by decide) ?_
  refine lv_icmp_ge (tgt := 96) hx hb dL_many_58 (by decide) (fun h => absurd h (by decide +kernel)) (fun _ => ?_)
  refine lv_aload_n hx hb dL_many_61 rfl (lv_at hl 1 rfl) ?_
  refine lv_bipush (v := 60) hx hb dL_many_62 (by decide) ?_
  refine lv_iconst (v := 0) hx hb dL_many_64 (by decide) ?_
  refine lv_iconst (v := 0) hx hb dL_many_65 (by decide) ?_
  refine lv_bipush (v := 10) hx hb dL_many_66 (by decide) ?_
  refine lv_sipush (v := 255) hx hb dL_many_68 (by decide) ?_
  refine sl_piece_2 C gL_many_L_piece dL_many_71 hl.1 (Nat.le_of_ble_eq_true rfl) ⟨Nat.le_trans (m := 800) (Nat.le_of_ble_eq_true rfl) hR.1, Nat.le_trans (m := 6000) (Nat.le_of_ble_eq_true rfl) hR.2⟩ hRS hJ 60 0 0 10 255 (by decide +kernel) (fun H locs hJ => ?_)
  refine lv_iload_n hx hb dL_many_74 rfl (lv_at hl 0 rfl) ?_
  refine lv_iconst (v := 5) hx hb dL_many_75 (by decide) ?_
  refine lv_icmp_ge (tgt := 83) hx hb dL_many_76 (by decide) (fun _ => ?_) (fun h => absurd h (by decide +kernel))
  refine lv_ldc (v := (-900000003)) hx hb hown (hts (.constant RL 21 (-900000003)) (by decide +kernel)) dL_many_83 ?_
  refine lv_icmp_eq (tgt := 90) hx hb dL_many_85 (by decide) (fun _ => ?_) (fun h => absurd h (by decide +kernel))
  refine lv_iinc (v := 6) (lv' := [(1, .int 6), (0, .ref o0)]) hx hb dL_many_90 hl (k := 0) rfl (by decide +kernel) (by decide) rfl (fun ls hl => ?_)
  refine lv_goto (tgt := 55) hx hb dL_many_93 (by decide) ?_
  refine lv_iload_n hx hb dL_many_55 rfl (lv_at hl 0 rfl) ?_
  refine lv_bipush (v := 6) hx hb dL_many_56 (by decide) ?_
  refine lv_icmp_ge (tgt := 96) hx hb dL_many_58 (by decide) (fun _ => ?_) (fun h => absurd h (by decide +kernel))
  refine lv_aload_n hx hb dL_many_96 rfl (lv_at hl 1 rfl) ?_
  refine lv_sipush (v := 500) hx hb dL_many_97 (by decide) ?_
  refine lv_sipush (v := 800) hx hb dL_many_100 (by decide) ?_
  refine lv_sipush (v := 560) hx hb dL_many_103 (by decide) ?_
  refine sl_sums C gL_many_L_sums dL_many_106 hl.1 (Nat.le_of_ble_eq_true rfl) ⟨Nat.le_trans (m := 800) (Nat.le_of_ble_eq_true rfl) hR.1, Nat.le_trans (m := 6000) (Nat.le_of_ble_eq_true rfl) hR.2⟩ hRS hJ 500 800 560 ((bwE_K hk_YU_YU13).trans (by decide +kernel)) (by decide +kernel) (by rw [bwE_K hk_YU_YU13]; decide +kernel) (fun H locs hJ => ?_)
  refine lv_if_eq (tgt := 248) hx hb dL_many_109 (by decide) (fun h => absurd h (by decide +kernel)) (fun _ => ?_)
  refine lv_aload_n hx hb dL_many_112 rfl (lv_at hl 1 rfl) ?_
  refine lv_iconst (v := 0) hx hb dL_many_113 (by decide) ?_
  refine sa_givenTo C gL_many_X3_givenTo dL_many_114 hl.1 (Nat.le_of_ble_eq_true rfl) ⟨Nat.le_trans (m := 800) (Nat.le_of_ble_eq_true rfl) hR.1, Nat.le_trans (m := 6000) (Nat.le_of_ble_eq_true rfl) hR.2⟩ hJ 0 0 (by decide +kernel) ((tkE_K hk_YU_YU13 _).trans (by decide +kernel)) (fun H locs hJ => ?_)
  refine lv_if_ne (tgt := 248) hx hb dL_many_117 (by decide) (fun h => absurd h (by decide +kernel)) (fun _ => ?_)
  refine lv_aload_n hx hb dL_many_120 rfl (lv_at hl 1 rfl) ?_
  refine lv_iconst (v := 1) hx hb dL_many_121 (by decide) ?_
  refine sa_givenTo C gL_many_X3_givenTo dL_many_122 hl.1 (Nat.le_of_ble_eq_true rfl) ⟨Nat.le_trans (m := 800) (Nat.le_of_ble_eq_true rfl) hR.1, Nat.le_trans (m := 6000) (Nat.le_of_ble_eq_true rfl) hR.2⟩ hJ 1 1 (by decide +kernel) ((tkE_K hk_YU_YU13 _).trans (by decide +kernel)) (fun H locs hJ => ?_)
  refine lv_iconst (v := 1) hx hb dL_many_125 (by decide) ?_
  refine lv_icmp_ne (tgt := 248) hx hb dL_many_126 (by decide) (fun h => absurd h (by decide +kernel)) (fun _ => ?_)
  exact kk H locs ls hJ (lv_sub hl [1, 0] rfl)
set_option maxHeartbeats 4000000 in
set_option maxRecDepth 100000 in
theorem sg_manyA_2 (C : CJ p l R s m args c cL_many 2 wsL_many D cI cL cE cP A H0) (hRR : 40 ≤ R.frames ∧ 3000 ≤ R.locals) (hR : 800 ≤ R.cells ∧ 6000 ≤ R.slots) (hJ : LJ D cI cL cE cP A H0 o0 YU13 8 5 H locs) (hl : lv_has ls 2 [(0, .ref o0), (1, .int 6)])
    (kk : ∀ (H : Heap) (locs : List Loc) (ls : Array Slot), LJ D cI cL cE cP A H0 o0 YU14 8 5 H locs → lv_has ls 2 [(0, .ref o0), (1, .int 6)] → W p l e R s m args below meth c H locs 37 547 Q (F0 m 222 ls [])) : W p l e R s m args below meth c H locs 28 493 Q (F0 m 129 ls []) := by
  obtain ⟨hx, hb, hml, hown, hts, -⟩ := id C
  have hRS : 30 ≤ R.frames ∧ 2000 ≤ R.locals := ⟨Nat.le_trans (m := 40) (by decide) hRR.1, Nat.le_trans (m := 3000) (by decide) hRR.2⟩
  refine lv_aload_n hx hb dL_many_129 rfl (lv_at hl 0 rfl) ?_
  refine lv_iconst (v := 4) hx hb dL_many_130 (by decide) ?_
  refine sa_givenTo C gL_many_X3_givenTo dL_many_131 hl.1 (Nat.le_of_ble_eq_true rfl) ⟨Nat.le_trans (m := 800) (Nat.le_of_ble_eq_true rfl) hR.1, Nat.le_trans (m := 6000) (Nat.le_of_ble_eq_true rfl) hR.2⟩ hJ 4 4 (by decide +kernel) ((tkE_K hk_YU_YU13 _).trans (by decide +kernel)) (fun H locs hJ => ?_)
  refine lv_iconst (v := 4) hx hb dL_many_134 (by decide) ?_
  refine lv_icmp_ne (tgt := 248) hx hb dL_many_135 (by decide) (fun h => absurd h (by decide +kernel)) (fun _ => ?_)
  refine lv_aload_n hx hb dL_many_138 rfl (lv_at hl 0 rfl) ?_
  refine lv_iconst (v := 4) hx hb dL_many_139 (by decide) ?_
  refine sa_bare C gL_many_X3_bare dL_many_140 hl.1 (Nat.le_of_ble_eq_true rfl) ⟨Nat.le_trans (m := 800) (Nat.le_of_ble_eq_true rfl) hR.1, Nat.le_trans (m := 6000) (Nat.le_of_ble_eq_true rfl) hR.2⟩ hJ 4 40 (by decide +kernel) (by rw [gsL_K hk_YU_YU13]; decide +kernel) (fun H locs hJ => ?_)
  refine lv_bipush (v := 40) hx hb dL_many_143 (by decide) ?_
  refine lv_icmp_ne (tgt := 248) hx hb dL_many_145 (by decide) (fun h => absurd h (by decide +kernel)) (fun _ => ?_)
  refine lv_aload_n hx hb dL_many_148 rfl (lv_at hl 0 rfl) ?_
  refine lv_iconst (v := 5) hx hb dL_many_149 (by decide) ?_
  refine sa_bare C gL_many_X3_bare dL_many_150 hl.1 (Nat.le_of_ble_eq_true rfl) ⟨Nat.le_trans (m := 800) (Nat.le_of_ble_eq_true rfl) hR.1, Nat.le_trans (m := 6000) (Nat.le_of_ble_eq_true rfl) hR.2⟩ hJ 5 100 (by decide +kernel) (by rw [gsL_K hk_YU_YU13]; decide +kernel) (fun H locs hJ => ?_)
  refine lv_bipush (v := 100) hx hb dL_many_153 (by decide) ?_
  refine lv_icmp_ne (tgt := 248) hx hb dL_many_155 (by decide) (fun h => absurd h (by decide +kernel)) (fun _ => ?_)
  refine lv_aload_n hx hb dL_many_158 rfl (lv_at hl 0 rfl) ?_
  refine lv_iconst (v := 0) hx hb dL_many_159 (by decide) ?_
  refine sa_partyBare C gL_many_X3_partyBare dL_many_160 hl.1 (Nat.le_of_ble_eq_true rfl) ⟨Nat.le_trans (m := 800) (Nat.le_of_ble_eq_true rfl) hR.1, Nat.le_trans (m := 6000) (Nat.le_of_ble_eq_true rfl) hR.2⟩ hJ 0 80 (by decide +kernel) ((bpL_K hk_YU_YU13 _ _).trans (by decide +kernel)) (fun H locs hJ => ?_)
  refine lv_bipush (v := 80) hx hb dL_many_163 (by decide) ?_
  refine lv_icmp_ne (tgt := 248) hx hb dL_many_165 (by decide) (fun h => absurd h (by decide +kernel)) (fun _ => ?_)
  refine lv_aload_n hx hb dL_many_168 rfl (lv_at hl 0 rfl) ?_
  refine lv_iconst (v := 3) hx hb dL_many_169 (by decide) ?_
  refine sa_partyBare C gL_many_X3_partyBare dL_many_170 hl.1 (Nat.le_of_ble_eq_true rfl) ⟨Nat.le_trans (m := 800) (Nat.le_of_ble_eq_true rfl) hR.1, Nat.le_trans (m := 6000) (Nat.le_of_ble_eq_true rfl) hR.2⟩ hJ 3 140 (by decide +kernel) ((bpL_K hk_YU_YU13 _ _).trans (by decide +kernel)) (fun H locs hJ => ?_)
  refine lv_sipush (v := 140) hx hb dL_many_173 (by decide) ?_
  refine lv_icmp_ne (tgt := 248) hx hb dL_many_176 (by decide) (fun h => absurd h (by decide +kernel)) (fun _ => ?_)
  refine lv_aload_n hx hb dL_many_179 rfl (lv_at hl 0 rfl) ?_
  refine lv_iconst (v := 2) hx hb dL_many_180 (by decide) ?_
  refine sa_worth C gL_many_X3_worth dL_many_181 hl.1 (Nat.le_of_ble_eq_true rfl) ⟨Nat.le_trans (m := 800) (Nat.le_of_ble_eq_true rfl) hR.1, Nat.le_trans (m := 6000) (Nat.le_of_ble_eq_true rfl) hR.2⟩ hJ 2 60 (by decide +kernel) (by rw [woE_K2 (p := 2) (by decide) (by decide) (by decide +kernel) hw_YU_YU13_2, bwE_K hk_YU_YU13]; decide +kernel) (fun H locs hJ => ?_)
  refine lv_bipush (v := 60) hx hb dL_many_184 (by decide) ?_
  refine lv_icmp_ne (tgt := 248) hx hb dL_many_186 (by decide) (fun h => absurd h (by decide +kernel)) (fun _ => ?_)
  refine lv_aload_n hx hb dL_many_189 rfl (lv_at hl 0 rfl) ?_
  refine lv_iconst (v := 0) hx hb dL_many_190 (by decide) ?_
  refine lv_bipush (v := 60) hx hb dL_many_191 (by decide) ?_
  refine lv_sipush (v := 128) hx hb dL_many_193 (by decide) ?_
  refine sa_setPiece C gL_many_X3_setPiece dL_many_196 hl.1 (Nat.le_of_ble_eq_true rfl) ⟨Nat.le_trans (m := 800) (Nat.le_of_ble_eq_true rfl) hR.1, Nat.le_trans (m := 6000) (Nat.le_of_ble_eq_true rfl) hR.2⟩ hJ 0 60 128 60 (by decide +kernel) (by decide +kernel) (fun H locs hJ => ?_)
  have hJ : LJ D cI cL cE cP A H0 o0 YU14 8 5 H locs := hJ
  refine lv_bipush (v := 60) hx hb dL_many_199 (by decide) ?_
  refine lv_icmp_ne (tgt := 248) hx hb dL_many_201 (by decide) (fun h => absurd h (by decide +kernel)) (fun _ => ?_)
  refine lv_aload_n hx hb dL_many_204 rfl (lv_at hl 0 rfl) ?_
  refine lv_iconst (v := 0) hx hb dL_many_205 (by decide) ?_
  refine sa_givenTo C gL_many_X3_givenTo dL_many_206 hl.1 (Nat.le_of_ble_eq_true rfl) ⟨Nat.le_trans (m := 800) (Nat.le_of_ble_eq_true rfl) hR.1, Nat.le_trans (m := 6000) (Nat.le_of_ble_eq_true rfl) hR.2⟩ hJ 0 7 (by decide +kernel) ((tkE_K hk_YU_YU14 _).trans (by decide +kernel)) (fun H locs hJ => ?_)
  refine lv_bipush (v := 7) hx hb dL_many_209 (by decide) ?_
  refine lv_icmp_ne (tgt := 248) hx hb dL_many_211 (by decide) (fun h => absurd h (by decide +kernel)) (fun _ => ?_)
  refine lv_aload_n hx hb dL_many_214 rfl (lv_at hl 0 rfl) ?_
  refine lv_iconst (v := 1) hx hb dL_many_215 (by decide) ?_
  refine sa_givenTo C gL_many_X3_givenTo dL_many_216 hl.1 (Nat.le_of_ble_eq_true rfl) ⟨Nat.le_trans (m := 800) (Nat.le_of_ble_eq_true rfl) hR.1, Nat.le_trans (m := 6000) (Nat.le_of_ble_eq_true rfl) hR.2⟩ hJ 1 0 (by decide +kernel) ((tkE_K hk_YU_YU14 _).trans (by decide +kernel)) (fun H locs hJ => ?_)
  refine lv_if_ne (tgt := 248) hx hb dL_many_219 (by decide) (fun h => absurd h (by decide +kernel)) (fun _ => ?_)
  exact kk H locs ls hJ hl
set_option maxHeartbeats 4000000 in
set_option maxRecDepth 100000 in
theorem sg_manyA_3 (C : CJ p l R s m args c cL_many 2 wsL_many D cI cL cE cP A H0) (hRR : 40 ≤ R.frames ∧ 3000 ≤ R.locals) (hR : 800 ≤ R.cells ∧ 6000 ≤ R.slots) (hJ : LJ D cI cL cE cP A H0 o0 YU14 8 5 H locs) (hl : lv_has ls 2 [(0, .ref o0), (1, .int 6)])
    (kk : ∀ (H : Heap) (locs : List Loc) (ls : Array Slot), LJ D cI cL cE cP A H0 o0 YU19 8 5 H locs → lv_has ls 2 [(0, .ref o0), (1, .int 5)] → W p l e R s m args below meth c H locs 183 1483 Q (F0 m 289 ls [])) : W p l e R s m args below meth c H locs 37 547 Q (F0 m 222 ls []) := by
  obtain ⟨hx, hb, hml, hown, hts, -⟩ := id C
  have hRS : 30 ≤ R.frames ∧ 2000 ≤ R.locals := ⟨Nat.le_trans (m := 40) (by decide) hRR.1, Nat.le_trans (m := 3000) (by decide) hRR.2⟩
  refine lv_aload_n hx hb dL_many_222 rfl (lv_at hl 0 rfl) ?_
  refine lv_iconst (v := 4) hx hb dL_many_223 (by decide) ?_
  refine sa_givenTo C gL_many_X3_givenTo dL_many_224 hl.1 (Nat.le_of_ble_eq_true rfl) ⟨Nat.le_trans (m := 800) (Nat.le_of_ble_eq_true rfl) hR.1, Nat.le_trans (m := 6000) (Nat.le_of_ble_eq_true rfl) hR.2⟩ hJ 4 3 (by decide +kernel) ((tkE_K hk_YU_YU14 _).trans (by decide +kernel)) (fun H locs hJ => ?_)
  refine lv_iconst (v := 3) hx hb dL_many_227 (by decide) ?_
  refine lv_icmp_ne (tgt := 248) hx hb dL_many_228 (by decide) (fun h => absurd h (by decide +kernel)) (fun _ => ?_)
  refine lv_aload_n hx hb dL_many_231 rfl (lv_at hl 0 rfl) ?_
  refine sa_whole C gL_many_X3_whole dL_many_232 hl.1 (Nat.le_of_ble_eq_true rfl) ⟨Nat.le_trans (m := 800) (Nat.le_of_ble_eq_true rfl) hR.1, Nat.le_trans (m := 6000) (Nat.le_of_ble_eq_true rfl) hR.2⟩ hJ 500 ((bwE_K hk_YU_YU14).trans (by decide +kernel)) (fun H locs hJ => ?_)
  refine lv_sipush (v := 500) hx hb dL_many_235 (by decide) ?_
  refine lv_icmp_ne (tgt := 248) hx hb dL_many_238 (by decide) (fun h => absurd h (by decide +kernel)) (fun _ => ?_)
  refine lv_aload_n hx hb dL_many_241 rfl (lv_at hl 0 rfl) ?_
  refine sl_refuses C gL_many_L_refuses dL_many_242 hl.1 (Nat.le_of_ble_eq_true rfl) ⟨Nat.le_trans (m := 800) (Nat.le_of_ble_eq_true rfl) hR.1, Nat.le_trans (m := 6000) (Nat.le_of_ble_eq_true rfl) hR.2⟩ hRR hJ (fun H locs hJ => ?_)
  refine lv_if_ne (tgt := 250) hx hb dL_many_245 (by decide) (fun _ => ?_) (fun h => absurd h (by decide +kernel))
  refine lv_iconst (v := 0) hx hb dL_many_250 (by decide) ?_
  refine lv_istore_n (lv' := [(1, .int 0), (0, .ref o0)]) hx hb dL_many_251 rfl hl (by decide) rfl (fun ls hl => ?_)
  refine lv_iload_n hx hb dL_many_252 rfl (lv_at hl 0 rfl) ?_
  refine lv_iconst (v := 5) hx hb dL_many_253 (by decide) ?_
  refine lv_icmp_ge (tgt := 279) hx hb dL_many_254 (by decide) (fun h => absurd h (by decide +kernel)) (fun _ => ?_)
  refine lv_aload_n hx hb dL_many_257 rfl (lv_at hl 1 rfl) ?_
  refine lv_iload_n hx hb dL_many_258 rfl (lv_at hl 0 rfl) ?_
  refine lv_bipush (v := 50) hx hb dL_many_259 (by decide) ?_
  refine lv_bipush (v := 9) hx hb dL_many_261 (by decide) ?_
  refine sa_setPiece C gL_many_X3_setPiece dL_many_263 hl.1 (Nat.le_of_ble_eq_true rfl) ⟨Nat.le_trans (m := 800) (Nat.le_of_ble_eq_true rfl) hR.1, Nat.le_trans (m := 6000) (Nat.le_of_ble_eq_true rfl) hR.2⟩ hJ 0 50 9 60 (by decide +kernel) (by decide +kernel) (fun H locs hJ => ?_)
  have hJ : LJ D cI cL cE cP A H0 o0 YU15 8 5 H locs := hJ
  refine lv_bipush (v := 60) hx hb dL_many_266 (by decide) ?_
  refine lv_icmp_eq (tgt := 273) hx hb dL_many_268 (by decide) (fun _ => ?_) (fun h => absurd h (by decide +kernel))
  refine lv_iinc (v := 1) (lv' := [(1, .int 1), (0, .ref o0)]) hx hb dL_many_273 hl (k := 0) rfl (by decide +kernel) (by decide) rfl (fun ls hl => ?_)
  refine lv_goto (tgt := 252) hx hb dL_many_276 (by decide) ?_
  refine lv_iload_n hx hb dL_many_252 rfl (lv_at hl 0 rfl) ?_
  refine lv_iconst (v := 5) hx hb dL_many_253 (by decide) ?_
  refine lv_icmp_ge (tgt := 279) hx hb dL_many_254 (by decide) (fun h => absurd h (by decide +kernel)) (fun _ => ?_)
  refine lv_aload_n hx hb dL_many_257 rfl (lv_at hl 1 rfl) ?_
  refine lv_iload_n hx hb dL_many_258 rfl (lv_at hl 0 rfl) ?_
  refine lv_bipush (v := 50) hx hb dL_many_259 (by decide) ?_
  refine lv_bipush (v := 9) hx hb dL_many_261 (by decide) ?_
  refine sa_setPiece C gL_many_X3_setPiece dL_many_263 hl.1 (Nat.le_of_ble_eq_true rfl) ⟨Nat.le_trans (m := 800) (Nat.le_of_ble_eq_true rfl) hR.1, Nat.le_trans (m := 6000) (Nat.le_of_ble_eq_true rfl) hR.2⟩ hJ 1 50 9 60 (by decide +kernel) (by decide +kernel) (fun H locs hJ => ?_)
  have hJ : LJ D cI cL cE cP A H0 o0 YU16 8 5 H locs := hJ
  refine lv_bipush (v := 60) hx hb dL_many_266 (by decide) ?_
  refine lv_icmp_eq (tgt := 273) hx hb dL_many_268 (by decide) (fun _ => ?_) (fun h => absurd h (by decide +kernel))
  refine lv_iinc (v := 2) (lv' := [(1, .int 2), (0, .ref o0)]) hx hb dL_many_273 hl (k := 0) rfl (by decide +kernel) (by decide) rfl (fun ls hl => ?_)
  refine lv_goto (tgt := 252) hx hb dL_many_276 (by decide) ?_
  refine lv_iload_n hx hb dL_many_252 rfl (lv_at hl 0 rfl) ?_
  refine lv_iconst (v := 5) hx hb dL_many_253 (by decide) ?_
  refine lv_icmp_ge (tgt := 279) hx hb dL_many_254 (by decide) (fun h => absurd h (by decide +kernel)) (fun _ => ?_)
  refine lv_aload_n hx hb dL_many_257 rfl (lv_at hl 1 rfl) ?_
  refine lv_iload_n hx hb dL_many_258 rfl (lv_at hl 0 rfl) ?_
  refine lv_bipush (v := 50) hx hb dL_many_259 (by decide) ?_
  refine lv_bipush (v := 9) hx hb dL_many_261 (by decide) ?_
  refine sa_setPiece C gL_many_X3_setPiece dL_many_263 hl.1 (Nat.le_of_ble_eq_true rfl) ⟨Nat.le_trans (m := 800) (Nat.le_of_ble_eq_true rfl) hR.1, Nat.le_trans (m := 6000) (Nat.le_of_ble_eq_true rfl) hR.2⟩ hJ 2 50 9 60 (by decide +kernel) (by decide +kernel) (fun H locs hJ => ?_)
  have hJ : LJ D cI cL cE cP A H0 o0 YU17 8 5 H locs := hJ
  refine lv_bipush (v := 60) hx hb dL_many_266 (by decide) ?_
  refine lv_icmp_eq (tgt := 273) hx hb dL_many_268 (by decide) (fun _ => ?_) (fun h => absurd h (by decide +kernel))
  refine lv_iinc (v := 3) (lv' := [(1, .int 3), (0, .ref o0)]) hx hb dL_many_273 hl (k := 0) rfl (by decide +kernel) (by decide) rfl (fun ls hl => ?_)
  refine lv_goto (tgt := 252) hx hb dL_many_276 (by decide) ?_
  refine lv_iload_n hx hb dL_many_252 rfl (lv_at hl 0 rfl) ?_
  refine lv_iconst (v := 5) hx hb dL_many_253 (by decide) ?_
  refine lv_icmp_ge (tgt := 279) hx hb dL_many_254 (by decide) (fun h => absurd h (by decide +kernel)) (fun _ => ?_)
  refine lv_aload_n hx hb dL_many_257 rfl (lv_at hl 1 rfl) ?_
  refine lv_iload_n hx hb dL_many_258 rfl (lv_at hl 0 rfl) ?_
  refine lv_bipush (v := 50) hx hb dL_many_259 (by decide) ?_
  refine lv_bipush (v := 9) hx hb dL_many_261 (by decide) ?_
  refine sa_setPiece C gL_many_X3_setPiece dL_many_263 hl.1 (Nat.le_of_ble_eq_true rfl) ⟨Nat.le_trans (m := 800) (Nat.le_of_ble_eq_true rfl) hR.1, Nat.le_trans (m := 6000) (Nat.le_of_ble_eq_true rfl) hR.2⟩ hJ 3 50 9 60 (by decide +kernel) (by decide +kernel) (fun H locs hJ => ?_)
  have hJ : LJ D cI cL cE cP A H0 o0 YU18 8 5 H locs := hJ
  refine lv_bipush (v := 60) hx hb dL_many_266 (by decide) ?_
  refine lv_icmp_eq (tgt := 273) hx hb dL_many_268 (by decide) (fun _ => ?_) (fun h => absurd h (by decide +kernel))
  refine lv_iinc (v := 4) (lv' := [(1, .int 4), (0, .ref o0)]) hx hb dL_many_273 hl (k := 0) rfl (by decide +kernel) (by decide) rfl (fun ls hl => ?_)
  refine lv_goto (tgt := 252) hx hb dL_many_276 (by decide) ?_
  refine lv_iload_n hx hb dL_many_252 rfl (lv_at hl 0 rfl) ?_
  refine lv_iconst (v := 5) hx hb dL_many_253 (by decide) ?_
  refine lv_icmp_ge (tgt := 279) hx hb dL_many_254 (by decide) (fun h => absurd h (by decide +kernel)) (fun _ => ?_)
  refine lv_aload_n hx hb dL_many_257 rfl (lv_at hl 1 rfl) ?_
  refine lv_iload_n hx hb dL_many_258 rfl (lv_at hl 0 rfl) ?_
  refine lv_bipush (v := 50) hx hb dL_many_259 (by decide) ?_
  refine lv_bipush (v := 9) hx hb dL_many_261 (by decide) ?_
  refine sa_setPiece C gL_many_X3_setPiece dL_many_263 hl.1 (Nat.le_of_ble_eq_true rfl) ⟨Nat.le_trans (m := 800) (Nat.le_of_ble_eq_true rfl) hR.1, Nat.le_trans (m := 6000) (Nat.le_of_ble_eq_true rfl) hR.2⟩ hJ 4 50 9 60 (by decide +kernel) (by decide +kernel) (fun H locs hJ => ?_)
  have hJ : LJ D cI cL cE cP A H0 o0 YU19 8 5 H locs := hJ
  refine lv_bipush (v := 60) hx hb dL_many_266 (by decide) ?_
  refine lv_icmp_eq (tgt := 273) hx hb dL_many_268 (by decide) (fun _ => ?_) (fun h => absurd h (by decide +kernel))
  refine lv_iinc (v := 5) (lv' := [(1, .int 5), (0, .ref o0)]) hx hb dL_many_273 hl (k := 0) rfl (by decide +kernel) (by decide) rfl (fun ls hl => ?_)
  refine lv_goto (tgt := 252) hx hb dL_many_276 (by decide) ?_
  refine lv_iload_n hx hb dL_many_252 rfl (lv_at hl 0 rfl) ?_
  refine lv_iconst (v := 5) hx hb dL_many_253 (by decide) ?_
  refine lv_icmp_ge (tgt := 279) hx hb dL_many_254 (by decide) (fun _ => ?_) (fun h => absurd h (by decide +kernel))
  refine lv_aload_n hx hb dL_many_279 rfl (lv_at hl 1 rfl) ?_
  refine sa_whole C gL_many_X3_whole dL_many_280 hl.1 (Nat.le_of_ble_eq_true rfl) ⟨Nat.le_trans (m := 800) (Nat.le_of_ble_eq_true rfl) hR.1, Nat.le_trans (m := 6000) (Nat.le_of_ble_eq_true rfl) hR.2⟩ hJ 600 ((bwE_K hk_YU_YU19).trans (by decide +kernel)) (fun H locs hJ => ?_)
  refine lv_sipush (v := 600) hx hb dL_many_283 (by decide) ?_
  refine lv_icmp_ne (tgt := 347) hx hb dL_many_286 (by decide) (fun h => absurd h (by decide +kernel)) (fun _ => ?_)
  exact kk H locs ls hJ (lv_sub hl [1, 0] rfl)
set_option maxHeartbeats 4000000 in
set_option maxRecDepth 100000 in
theorem sg_manyA_4 (C : CJ p l R s m args c cL_many 2 wsL_many D cI cL cE cP A H0) (hRR : 40 ≤ R.frames ∧ 3000 ≤ R.locals) (hR : 800 ≤ R.cells ∧ 6000 ≤ R.slots) (hJ : LJ D cI cL cE cP A H0 o0 YU19 8 5 H locs) (hl : lv_has ls 2 [(0, .ref o0), (1, .int 5)])
    (kk : ∀ (H : Heap) (locs : List Loc) (ls : Array Slot), LJ D cI cL cE cP A H0 o0 YU19 8 5 H locs → lv_has ls 2 [(0, .ref o0), (1, .int 5)] → W p l e R s m args below meth c H locs 190 1525 Q (F0 m 349 ls [])) : W p l e R s m args below meth c H locs 183 1483 Q (F0 m 289 ls []) := by
  obtain ⟨hx, hb, hml, hown, hts, -⟩ := id C
  have hRS : 30 ≤ R.frames ∧ 2000 ≤ R.locals := ⟨Nat.le_trans (m := 40) (by decide) hRR.1, Nat.le_trans (m := 3000) (by decide) hRR.2⟩
  refine lv_aload_n hx hb dL_many_289 rfl (lv_at hl 0 rfl) ?_
  refine lv_iconst (v := 0) hx hb dL_many_290 (by decide) ?_
  refine sa_givenTo C gL_many_X3_givenTo dL_many_291 hl.1 (Nat.le_of_ble_eq_true rfl) ⟨Nat.le_trans (m := 800) (Nat.le_of_ble_eq_true rfl) hR.1, Nat.le_trans (m := 6000) (Nat.le_of_ble_eq_true rfl) hR.2⟩ hJ 0 0 (by decide +kernel) ((tkE_K hk_YU_YU19 _).trans (by decide +kernel)) (fun H locs hJ => ?_)
  refine lv_if_ne (tgt := 347) hx hb dL_many_294 (by decide) (fun h => absurd h (by decide +kernel)) (fun _ => ?_)
  refine lv_aload_n hx hb dL_many_297 rfl (lv_at hl 0 rfl) ?_
  refine lv_iconst (v := 1) hx hb dL_many_298 (by decide) ?_
  refine sa_givenTo C gL_many_X3_givenTo dL_many_299 hl.1 (Nat.le_of_ble_eq_true rfl) ⟨Nat.le_trans (m := 800) (Nat.le_of_ble_eq_true rfl) hR.1, Nat.le_trans (m := 6000) (Nat.le_of_ble_eq_true rfl) hR.2⟩ hJ 1 0 (by decide +kernel) ((tkE_K hk_YU_YU19 _).trans (by decide +kernel)) (fun H locs hJ => ?_)
  refine lv_if_ne (tgt := 347) hx hb dL_many_302 (by decide) (fun h => absurd h (by decide +kernel)) (fun _ => ?_)
  refine lv_aload_n hx hb dL_many_305 rfl (lv_at hl 0 rfl) ?_
  refine lv_iconst (v := 2) hx hb dL_many_306 (by decide) ?_
  refine sa_givenTo C gL_many_X3_givenTo dL_many_307 hl.1 (Nat.le_of_ble_eq_true rfl) ⟨Nat.le_trans (m := 800) (Nat.le_of_ble_eq_true rfl) hR.1, Nat.le_trans (m := 6000) (Nat.le_of_ble_eq_true rfl) hR.2⟩ hJ 2 0 (by decide +kernel) ((tkE_K hk_YU_YU19 _).trans (by decide +kernel)) (fun H locs hJ => ?_)
  refine lv_if_ne (tgt := 347) hx hb dL_many_310 (by decide) (fun h => absurd h (by decide +kernel)) (fun _ => ?_)
  refine lv_aload_n hx hb dL_many_313 rfl (lv_at hl 0 rfl) ?_
  refine lv_iconst (v := 3) hx hb dL_many_314 (by decide) ?_
  refine sa_givenTo C gL_many_X3_givenTo dL_many_315 hl.1 (Nat.le_of_ble_eq_true rfl) ⟨Nat.le_trans (m := 800) (Nat.le_of_ble_eq_true rfl) hR.1, Nat.le_trans (m := 6000) (Nat.le_of_ble_eq_true rfl) hR.2⟩ hJ 3 3 (by decide +kernel) ((tkE_K hk_YU_YU19 _).trans (by decide +kernel)) (fun H locs hJ => ?_)
  refine lv_iconst (v := 3) hx hb dL_many_318 (by decide) ?_
  refine lv_icmp_ne (tgt := 347) hx hb dL_many_319 (by decide) (fun h => absurd h (by decide +kernel)) (fun _ => ?_)
  refine lv_aload_n hx hb dL_many_322 rfl (lv_at hl 0 rfl) ?_
  refine lv_iconst (v := 4) hx hb dL_many_323 (by decide) ?_
  refine sa_givenTo C gL_many_X3_givenTo dL_many_324 hl.1 (Nat.le_of_ble_eq_true rfl) ⟨Nat.le_trans (m := 800) (Nat.le_of_ble_eq_true rfl) hR.1, Nat.le_trans (m := 6000) (Nat.le_of_ble_eq_true rfl) hR.2⟩ hJ 4 3 (by decide +kernel) ((tkE_K hk_YU_YU19 _).trans (by decide +kernel)) (fun H locs hJ => ?_)
  refine lv_iconst (v := 3) hx hb dL_many_327 (by decide) ?_
  refine lv_icmp_ne (tgt := 347) hx hb dL_many_328 (by decide) (fun h => absurd h (by decide +kernel)) (fun _ => ?_)
  refine lv_aload_n hx hb dL_many_331 rfl (lv_at hl 0 rfl) ?_
  refine lv_iconst (v := 4) hx hb dL_many_332 (by decide) ?_
  refine sa_worth C gL_many_X3_worth dL_many_333 hl.1 (Nat.le_of_ble_eq_true rfl) ⟨Nat.le_trans (m := 800) (Nat.le_of_ble_eq_true rfl) hR.1, Nat.le_trans (m := 6000) (Nat.le_of_ble_eq_true rfl) hR.2⟩ hJ 4 0 (by decide +kernel) (by rw [woE_K2 (p := 4) (by decide) (by decide) (by decide +kernel) hw_YU_YU19_4, bwE_K hk_YU_YU19]; decide +kernel) (fun H locs hJ => ?_)
  refine lv_if_ne (tgt := 347) hx hb dL_many_336 (by decide) (fun h => absurd h (by decide +kernel)) (fun _ => ?_)
  refine lv_aload_n hx hb dL_many_339 rfl (lv_at hl 0 rfl) ?_
  refine lv_iconst (v := 0) hx hb dL_many_340 (by decide) ?_
  refine sa_worth C gL_many_X3_worth dL_many_341 hl.1 (Nat.le_of_ble_eq_true rfl) ⟨Nat.le_trans (m := 800) (Nat.le_of_ble_eq_true rfl) hR.1, Nat.le_trans (m := 6000) (Nat.le_of_ble_eq_true rfl) hR.2⟩ hJ 0 0 (by decide +kernel) (by rw [woE_K2 (p := 0) (by decide) (by decide) (by decide +kernel) hw_YU_YU19_0, bwE_K hk_YU_YU19]; decide +kernel) (fun H locs hJ => ?_)
  refine lv_if_eq (tgt := 349) hx hb dL_many_344 (by decide) (fun _ => ?_) (fun h => absurd h (by decide +kernel))
  exact kk H locs ls hJ hl
end S_manyA
section S_manyB
variable {p : Program} {l : Launch} {e : Env} {R : Room} {s : State} {m : MethodId} {args : Array Value} {below : List Frame} {meth : Method} {c : Code} {H : Heap} {locs : List Loc} {Q : State → Prop} {ls : Array Slot} {D : va_G} {cI cL cE cP : ClassId} {A : Nat → Prop} {H0 : Heap} {o0 : Nat}
set_option maxHeartbeats 4000000 in
set_option maxRecDepth 100000 in
theorem sg_manyB_0 (C : CJ p l R s m args c cL_many 2 wsL_many D cI cL cE cP A H0) (hRR : 40 ≤ R.frames ∧ 3000 ≤ R.locals) (hR : 800 ≤ R.cells ∧ 6000 ≤ R.slots) (hJ : LJ D cI cL cE cP A H0 o0 g0 0 0 H locs) (hl : lv_has ls 2 [(1, .ref o0)])
    (kk : ∀ (H : Heap) (locs : List Loc) (ls : Array Slot), LJ D cI cL cE cP A H0 o0 YV3 1 1 H locs → lv_has ls 2 [(1, .ref o0)] → W p l e R s m args below meth c H locs 207 1936 Q (F0 m 465 ls [])) : W p l e R s m args below meth c H locs 201 1898 Q (F0 m 357 ls []) := by
  obtain ⟨hx, hb, hml, hown, hts, -⟩ := id C
  have hRS : 30 ≤ R.frames ∧ 2000 ≤ R.locals := ⟨Nat.le_trans (m := 40) (by decide) hRR.1, Nat.le_trans (m := 3000) (by decide) hRR.2⟩
  refine lv_aload_n hx hb dL_many_357 rfl (lv_at hl 0 rfl) ?_
  refine lv_iconst (v := 0) hx hb dL_many_358 (by decide) ?_
  refine lv_iconst (v := 0) hx hb dL_many_359 (by decide) ?_
  refine lv_ldc (v := 10000000) hx hb hown (hts (.constant RL 123 (10000000)) (by decide +kernel)) dL_many_360 ?_
  refine lv_ldc (v := 10000000) hx hb hown (hts (.constant RL 123 (10000000)) (by decide +kernel)) dL_many_362 ?_
  refine lv_iconst (v := 0) hx hb dL_many_364 (by decide) ?_
  refine lv_sipush (v := 3650) hx hb dL_many_365 (by decide) ?_
  refine sa_addExposure C gL_many_X3_addExposure dL_many_368 hl.1 (Nat.le_of_ble_eq_true rfl) ⟨Nat.le_trans (m := 800) (Nat.le_of_ble_eq_true rfl) hR.1, Nat.le_trans (m := 6000) (Nat.le_of_ble_eq_true rfl) hR.2⟩ hJ 0 0 10000000 10000000 0 3650 0 (by decide +kernel) (by decide +kernel) (fun H locs hJ => ?_)
  have hJ : LJ D cI cL cE cP A H0 o0 YV1 1 0 H locs := hJ
  refine lv_if_ne (tgt := 520) hx hb dL_many_371 (by decide) (fun h => absurd h (by decide +kernel)) (fun _ => ?_)
  refine lv_aload_n hx hb dL_many_374 rfl (lv_at hl 0 rfl) ?_
  refine lv_iconst (v := 0) hx hb dL_many_375 (by decide) ?_
  refine sa_amount C gL_many_X3_amount dL_many_376 hl.1 (Nat.le_of_ble_eq_true rfl) ⟨Nat.le_trans (m := 800) (Nat.le_of_ble_eq_true rfl) hR.1, Nat.le_trans (m := 6000) (Nat.le_of_ble_eq_true rfl) hR.2⟩ hJ 0 14000000 (by decide +kernel) (by decide +kernel) (fun H locs hJ => ?_)
  refine lv_ldc (v := 14000000) hx hb hown (hts (.constant RL 124 (14000000)) (by decide +kernel)) dL_many_379 ?_
  refine lv_icmp_ne (tgt := 520) hx hb dL_many_381 (by decide) (fun h => absurd h (by decide +kernel)) (fun _ => ?_)
  refine lv_aload_n hx hb dL_many_384 rfl (lv_at hl 0 rfl) ?_
  refine lv_iconst (v := 0) hx hb dL_many_385 (by decide) ?_
  refine lv_sipush (v := 400) hx hb dL_many_386 (by decide) ?_
  refine lv_sipush (v := 400) hx hb dL_many_389 (by decide) ?_
  refine sa_setWeights C gL_many_X3_setWeights dL_many_392 hl.1 (Nat.le_of_ble_eq_true rfl) ⟨Nat.le_trans (m := 800) (Nat.le_of_ble_eq_true rfl) hR.1, Nat.le_trans (m := 6000) (Nat.le_of_ble_eq_true rfl) hR.2⟩ hJ 0 400 400 0 (by decide +kernel) (by decide +kernel) (fun H locs hJ => ?_)
  have hJ : LJ D cI cL cE cP A H0 o0 YV2 1 0 H locs := hJ
  refine lv_if_ne (tgt := 520) hx hb dL_many_395 (by decide) (fun h => absurd h (by decide +kernel)) (fun _ => ?_)
  refine lv_aload_n hx hb dL_many_398 rfl (lv_at hl 0 rfl) ?_
  refine lv_ldc (v := 56000000) hx hb hown (hts (.constant RL 125 (56000000)) (by decide +kernel)) dL_many_399 ?_
  refine lv_ldc (v := 56000000) hx hb hown (hts (.constant RL 125 (56000000)) (by decide +kernel)) dL_many_401 ?_
  refine lv_ldc (v := 56000000) hx hb hown (hts (.constant RL 125 (56000000)) (by decide +kernel)) dL_many_403 ?_
  refine sl_sums C gL_many_L_sums dL_many_405 hl.1 (Nat.le_of_ble_eq_true rfl) ⟨Nat.le_trans (m := 800) (Nat.le_of_ble_eq_true rfl) hR.1, Nat.le_trans (m := 6000) (Nat.le_of_ble_eq_true rfl) hR.2⟩ hRS hJ 56000000 56000000 56000000 ((bwE_K hk_YV_YV2).trans (by decide +kernel)) (by decide +kernel) (by rw [bwE_K hk_YV_YV2]; decide +kernel) (fun H locs hJ => ?_)
  refine lv_if_eq (tgt := 520) hx hb dL_many_408 (by decide) (fun h => absurd h (by decide +kernel)) (fun _ => ?_)
  refine lv_aload_n hx hb dL_many_411 rfl (lv_at hl 0 rfl) ?_
  refine lv_ldc (v := 10000000) hx hb hown (hts (.constant RL 123 (10000000)) (by decide +kernel)) dL_many_412 ?_
  refine lv_iconst (v := 0) hx hb dL_many_414 (by decide) ?_
  refine lv_iconst (v := 1) hx hb dL_many_415 (by decide) ?_
  refine lv_sipush (v := 3649) hx hb dL_many_416 (by decide) ?_
  refine lv_iconst (v := 1) hx hb dL_many_419 (by decide) ?_
  refine sa_addPiece C gL_many_X3_addPiece dL_many_420 hl.1 (Nat.le_of_ble_eq_true rfl) ⟨Nat.le_trans (m := 800) (Nat.le_of_ble_eq_true rfl) hR.1, Nat.le_trans (m := 6000) (Nat.le_of_ble_eq_true rfl) hR.2⟩ hJ 10000000 0 1 3649 1 0 (by decide +kernel) (by decide +kernel) (fun H locs hJ => ?_)
  have hJ : LJ D cI cL cE cP A H0 o0 YV3 1 1 H locs := hJ
  refine lv_if_ne (tgt := 520) hx hb dL_many_423 (by decide) (fun h => absurd h (by decide +kernel)) (fun _ => ?_)
  refine lv_aload_n hx hb dL_many_426 rfl (lv_at hl 0 rfl) ?_
  refine lv_iconst (v := 0) hx hb dL_many_427 (by decide) ?_
  refine lv_iconst (v := 0) hx hb dL_many_428 (by decide) ?_
  refine sa_value C gL_many_X3_value dL_many_429 hl.1 (Nat.le_of_ble_eq_true rfl) ⟨Nat.le_trans (m := 800) (Nat.le_of_ble_eq_true rfl) hR.1, Nat.le_trans (m := 6000) (Nat.le_of_ble_eq_true rfl) hR.2⟩ hJ 0 0 9197479 (by decide +kernel) (by decide +kernel) (fun H locs hJ => ?_)
  refine lv_ldc (v := 9197479) hx hb hown (hts (.constant RL 126 (9197479)) (by decide +kernel)) dL_many_432 ?_
  refine lv_icmp_ne (tgt := 520) hx hb dL_many_434 (by decide) (fun h => absurd h (by decide +kernel)) (fun _ => ?_)
  refine lv_aload_n hx hb dL_many_437 rfl (lv_at hl 0 rfl) ?_
  refine lv_iconst (v := 0) hx hb dL_many_438 (by decide) ?_
  refine sa_bare C gL_many_X3_bare dL_many_439 hl.1 (Nat.le_of_ble_eq_true rfl) ⟨Nat.le_trans (m := 800) (Nat.le_of_ble_eq_true rfl) hR.1, Nat.le_trans (m := 6000) (Nat.le_of_ble_eq_true rfl) hR.2⟩ hJ 0 4802521 (by decide +kernel) (by rw [gsL_K hk_YV_YV3]; decide +kernel) (fun H locs hJ => ?_)
  refine lv_ldc (v := 4802521) hx hb hown (hts (.constant RL 127 (4802521)) (by decide +kernel)) dL_many_442 ?_
  refine lv_icmp_ne (tgt := 520) hx hb dL_many_444 (by decide) (fun h => absurd h (by decide +kernel)) (fun _ => ?_)
  refine lv_aload_n hx hb dL_many_447 rfl (lv_at hl 0 rfl) ?_
  refine sa_whole C gL_many_X3_whole dL_many_448 hl.1 (Nat.le_of_ble_eq_true rfl) ⟨Nat.le_trans (m := 800) (Nat.le_of_ble_eq_true rfl) hR.1, Nat.le_trans (m := 6000) (Nat.le_of_ble_eq_true rfl) hR.2⟩ hJ 19210084 ((bwE_K hk_YV_YV3).trans (by decide +kernel)) (fun H locs hJ => ?_)
  refine lv_ldc (v := 19210084) hx hb hown (hts (.constant RL 128 (19210084)) (by decide +kernel)) dL_many_451 ?_
  refine lv_icmp_ne (tgt := 520) hx hb dL_many_453 (by decide) (fun h => absurd h (by decide +kernel)) (fun _ => ?_)
  refine lv_aload_n hx hb dL_many_456 rfl (lv_at hl 0 rfl) ?_
  refine sa_required C gL_many_X3_required dL_many_457 hl.1 (Nat.le_of_ble_eq_true rfl) ⟨Nat.le_trans (m := 800) (Nat.le_of_ble_eq_true rfl) hR.1, Nat.le_trans (m := 6000) (Nat.le_of_ble_eq_true rfl) hR.2⟩ hJ 39200000 (by rw [bwE_K hk_YV_YV3]; decide +kernel) (fun H locs hJ => ?_)
  refine lv_ldc (v := 39200000) hx hb hown (hts (.constant RL 129 (39200000)) (by decide +kernel)) dL_many_460 ?_
  refine lv_icmp_ne (tgt := 520) hx hb dL_many_462 (by decide) (fun h => absurd h (by decide +kernel)) (fun _ => ?_)
  exact kk H locs ls hJ hl
set_option maxHeartbeats 4000000 in
set_option maxRecDepth 100000 in
theorem sg_manyB_1 (C : CJ p l R s m args c cL_many 2 wsL_many D cI cL cE cP A H0) (hRR : 40 ≤ R.frames ∧ 3000 ≤ R.locals) (hR : 800 ≤ R.cells ∧ 6000 ≤ R.slots) (hJ : LJ D cI cL cE cP A H0 o0 YV3 1 1 H locs) (hl : lv_has ls 2 [(1, .ref o0)])
    (kk : ∀ (H : Heap) (locs : List Loc) (ls : Array Slot), LJ D cI cL cE cP A H0 o0 YV6 1 1 H locs → lv_has ls 2 [(1, .ref o0)] → W p l e R s m args below meth c H locs 351 2860 Q (F0 m 544 ls [.int 1])) : W p l e R s m args below meth c H locs 207 1936 Q (F0 m 465 ls []) := by
  obtain ⟨hx, hb, hml, hown, hts, -⟩ := id C
  have hRS : 30 ≤ R.frames ∧ 2000 ≤ R.locals := ⟨Nat.le_trans (m := 40) (by decide) hRR.1, Nat.le_trans (m := 3000) (by decide) hRR.2⟩
  refine lv_aload_n hx hb dL_many_465 rfl (lv_at hl 0 rfl) ?_
  refine lv_iconst (v := 0) hx hb dL_many_466 (by decide) ?_
  refine lv_iconst (v := 1) hx hb dL_many_467 (by decide) ?_
  refine lv_ldc (v := 10000000) hx hb hown (hts (.constant RL 123 (10000000)) (by decide +kernel)) dL_many_468 ?_
  refine sa_guarantee C gL_many_X3_guarantee dL_many_470 hl.1 (Nat.le_of_ble_eq_true rfl) ⟨Nat.le_trans (m := 800) (Nat.le_of_ble_eq_true rfl) hR.1, Nat.le_trans (m := 6000) (Nat.le_of_ble_eq_true rfl) hR.2⟩ hJ 0 1 10000000 0 (by decide +kernel) (by decide +kernel) (fun H locs hJ => ?_)
  have hJ : LJ D cI cL cE cP A H0 o0 YV4 1 1 H locs := hJ
  refine lv_if_ne (tgt := 520) hx hb dL_many_473 (by decide) (fun h => absurd h (by decide +kernel)) (fun _ => ?_)
  refine lv_aload_n hx hb dL_many_476 rfl (lv_at hl 0 rfl) ?_
  refine sa_whole C gL_many_X3_whole dL_many_477 hl.1 (Nat.le_of_ble_eq_true rfl) ⟨Nat.le_trans (m := 800) (Nat.le_of_ble_eq_true rfl) hR.1, Nat.le_trans (m := 6000) (Nat.le_of_ble_eq_true rfl) hR.2⟩ hJ 960504 ((bwE_K hk_YV_YV4).trans (by decide +kernel)) (fun H locs hJ => ?_)
  refine lv_ldc (v := 960504) hx hb hown (hts (.constant RL 130 (960504)) (by decide +kernel)) dL_many_480 ?_
  refine lv_icmp_ne (tgt := 520) hx hb dL_many_482 (by decide) (fun h => absurd h (by decide +kernel)) (fun _ => ?_)
  refine lv_aload_n hx hb dL_many_485 rfl (lv_at hl 0 rfl) ?_
  refine lv_ldc (v := 1000000000) hx hb hown (hts (.constant RL 131 (1000000000)) (by decide +kernel)) dL_many_486 ?_
  refine sa_setCapital C gL_many_X3_setCapital dL_many_488 hl.1 (Nat.le_of_ble_eq_true rfl) ⟨Nat.le_trans (m := 800) (Nat.le_of_ble_eq_true rfl) hR.1, Nat.le_trans (m := 6000) (Nat.le_of_ble_eq_true rfl) hR.2⟩ hJ 1000000000 0 (by decide +kernel) (by decide +kernel) (fun H locs hJ => ?_)
  have hJ : LJ D cI cL cE cP A H0 o0 YV5 1 1 H locs := hJ
  refine lv_if_ne (tgt := 520) hx hb dL_many_491 (by decide) (fun h => absurd h (by decide +kernel)) (fun _ => ?_)
  refine lv_aload_n hx hb dL_many_494 rfl (lv_at hl 0 rfl) ?_
  refine sa_tooLarge C gL_many_X3_tooLarge dL_many_495 hl.1 (Nat.le_of_ble_eq_true rfl) ⟨Nat.le_trans (m := 800) (Nat.le_of_ble_eq_true rfl) hR.1, Nat.le_trans (m := 6000) (Nat.le_of_ble_eq_true rfl) hR.2⟩ hJ 0 ((tlL_K hk_YV_YV5 4).trans (by decide +kernel)) (fun H locs hJ => ?_)
  refine lv_if_ne (tgt := 520) hx hb dL_many_498 (by decide) (fun h => absurd h (by decide +kernel)) (fun _ => ?_)
  refine lv_aload_n hx hb dL_many_501 rfl (lv_at hl 0 rfl) ?_
  refine lv_iconst (v := 0) hx hb dL_many_502 (by decide) ?_
  refine sa_setFloor C gL_many_X3_setFloor dL_many_503 hl.1 (Nat.le_of_ble_eq_true rfl) ⟨Nat.le_trans (m := 800) (Nat.le_of_ble_eq_true rfl) hR.1, Nat.le_trans (m := 6000) (Nat.le_of_ble_eq_true rfl) hR.2⟩ hJ 0 70 (by decide +kernel) (by decide +kernel) (fun H locs hJ => ?_)
  have hJ : LJ D cI cL cE cP A H0 o0 YV6 1 1 H locs := hJ
  refine lv_bipush (v := 70) hx hb dL_many_506 (by decide) ?_
  refine lv_icmp_ne (tgt := 520) hx hb dL_many_508 (by decide) (fun h => absurd h (by decide +kernel)) (fun _ => ?_)
  refine lv_aload_n hx hb dL_many_511 rfl (lv_at hl 0 rfl) ?_
  refine sa_required C gL_many_X3_required dL_many_512 hl.1 (Nat.le_of_ble_eq_true rfl) ⟨Nat.le_trans (m := 800) (Nat.le_of_ble_eq_true rfl) hR.1, Nat.le_trans (m := 6000) (Nat.le_of_ble_eq_true rfl) hR.2⟩ hJ 960504 (by rw [bwE_K hk_YV_YV6]; decide +kernel) (fun H locs hJ => ?_)
  refine lv_ldc (v := 960504) hx hb hown (hts (.constant RL 130 (960504)) (by decide +kernel)) dL_many_515 ?_
  refine lv_icmp_eq (tgt := 522) hx hb dL_many_517 (by decide) (fun _ => ?_) (fun h => absurd h (by decide +kernel))
  refine lv_aload_n hx hb dL_many_522 rfl (lv_at hl 0 rfl) ?_
  refine lv_iconst (v := 0) hx hb dL_many_523 (by decide) ?_
  refine sa_worth C gL_many_X3_worth dL_many_524 hl.1 (Nat.le_of_ble_eq_true rfl) ⟨Nat.le_trans (m := 800) (Nat.le_of_ble_eq_true rfl) hR.1, Nat.le_trans (m := 6000) (Nat.le_of_ble_eq_true rfl) hR.2⟩ hJ 0 17039496 (by decide +kernel) (by rw [woE_K2 (p := 0) (by decide) (by decide) (by decide +kernel) hw_YV_YV6_0, bwE_K hk_YV_YV6]; decide +kernel) (fun H locs hJ => ?_)
  refine lv_ldc (v := 17039496) hx hb hown (hts (.constant RL 132 (17039496)) (by decide +kernel)) dL_many_527 ?_
  refine lv_icmp_ne (tgt := 543) hx hb dL_many_529 (by decide) (fun h => absurd h (by decide +kernel)) (fun _ => ?_)
  refine lv_aload_n hx hb dL_many_532 rfl (lv_at hl 0 rfl) ?_
  refine sl_refuses C gL_many_L_refuses dL_many_533 hl.1 (Nat.le_of_ble_eq_true rfl) ⟨Nat.le_trans (m := 800) (Nat.le_of_ble_eq_true rfl) hR.1, Nat.le_trans (m := 6000) (Nat.le_of_ble_eq_true rfl) hR.2⟩ hRR hJ (fun H locs hJ => ?_)
  refine lv_if_eq (tgt := 543) hx hb dL_many_536 (by decide) (fun h => absurd h (by decide +kernel)) (fun _ => ?_)
  refine lv_iconst (v := 1) hx hb dL_many_539 (by decide) ?_
  refine lv_goto (tgt := 544) hx hb dL_many_540 (by decide) ?_
  exact kk H locs ls hJ hl
end S_manyB
set_option maxHeartbeats 4000000 in
set_option maxRecDepth 100000 in
theorem zL_many (l : Launch) (hfl : l.stackTraces = false) (D : va_G) (cI cL cE cP : ClassId) (sz : Nat) : Met l yL_many wsL_many ({ frames := 50, cells := 800, slots := 6000, locals := 4000 }) (zPy D cI cL cE cP [] sz []) (va_Qi (fun (r : Int32) (_ : Unit) => r = 1) (fun _ t => zB D [] sz [] t) (va_A [] sz)) 800 6000 (va_A [] sz) := by
  refine Met.ofW (cc := cL_many) (maxL := 2) (ret := (some .boolean)) (by decide) rfl ?_
  intro p e s m args below meth c s₁ B hml hv
  obtain ⟨rfl, hsz, hE, hP, hD0, hX, hU0, hN, hO0, hO1⟩ := hv
  subst hsz
  obtain ⟨A, hAe⟩ : ∃ A, A = va_A [] s.heap.size := ⟨_, rfl⟩
  have hA : ∀ q : Nat, s.heap.size ≤ q → A q := fun q h => by rw [hAe]; exact Or.inr h
  have hU : zU A s s.heap := by rw [hAe]; exact hU0
  have hx := B.exec
  have hb := B.bytes
  have hr := B.returns
  have hts := atoms_spec (ws := wsL_many) B.pre
  have hown : s.vm.findClass RL = some m.cls := findClass_of_methodNamed B.named
  have hlocks := B.notSynchronized
  have C : CJ p l ({ frames := 50, cells := 800, slots := 6000, locals := 4000 }) s m _ c cL_many 2 wsL_many D cI cL cE cP A s.heap := ⟨hx, hb, hml, hown, hts, hE, hX, hN, hU, hA, hfl, Nat.le_of_ble_eq_true rfl, Nat.le_of_ble_eq_true rfl, hO0, hO1⟩
  have hRR : 40 ≤ ({ frames := 50, cells := 800, slots := 6000, locals := 4000 } : Room).frames ∧ 3000 ≤ ({ frames := 50, cells := 800, slots := 6000, locals := 4000 } : Room).locals := ⟨Nat.le_of_ble_eq_true rfl, Nat.le_of_ble_eq_true rfl⟩
  have hR : 800 ≤ ({ frames := 50, cells := 800, slots := 6000, locals := 4000 } : Room).cells ∧ 6000 ≤ ({ frames := 50, cells := 800, slots := 6000, locals := 4000 } : Room).slots := ⟨Nat.le_refl _, Nat.le_refl _⟩
  have hl := lv_entry ([] : List Value) (n := 2) (Nat.le_of_ble_eq_true rfl)
  rw [lg_entry_eq]
  generalize (lg_sl ([] : List Value) ++ List.replicate (2 - (lg_sl ([] : List Value)).length) Slot.unset).toArray = ls at hl ⊢
  have hl : lv_has ls 2 [] := hl
  refine sn_new C (by decide +kernel) (by decide +kernel) (by decide +kernel) (by decide +kernel) (by decide +kernel) (by decide +kernel) gL_many_X3_init dL_many_0 dL_many_3 dL_many_4 hl.1 (Nat.le_of_ble_eq_true rfl) ⟨Nat.le_of_ble_eq_true rfl, Nat.le_of_ble_eq_true rfl⟩ va_S.rf (fun o0 H locs hJ => ?_)
  refine lv_astore_n (lv' := [(0, .ref o0)]) hx hb dL_many_7 rfl hl (by decide) rfl (fun ls hl => ?_)
  refine sg_manyA_0 C hRR hR hJ hl (fun H locs ls hJ hl => ?_)
  refine sg_manyA_1 C hRR hR hJ hl (fun H locs ls hJ hl => ?_)
  refine sg_manyA_2 C hRR hR hJ hl (fun H locs ls hJ hl => ?_)
  refine sg_manyA_3 C hRR hR hJ hl (fun H locs ls hJ hl => ?_)
  refine sg_manyA_4 C hRR hR hJ hl (fun H locs ls hJ hl => ?_)
  obtain ⟨-, -, u9, hu9, hP9, hD9, hS9⟩ := hJ
  refine sn_new C (by decide +kernel) (by decide +kernel) (by decide +kernel) (by decide +kernel) (by decide +kernel) (by decide +kernel) gL_many_X3_init dL_many_349 dL_many_352 dL_many_353 hl.1 (Nat.le_of_ble_eq_true rfl) ⟨Nat.le_of_ble_eq_true rfl, Nat.le_of_ble_eq_true rfl⟩ hS9 (fun q0 H locs hJ => ?_)
  refine lv_astore_n (lv' := [(1, .ref q0), (0, .ref o0)]) hx hb dL_many_356 rfl hl (by decide) rfl (fun ls hl => ?_)
  have hl : lv_has ls 2 [(1, .ref q0)] := lv_sub hl [0] rfl
  refine sg_manyB_0 C hRR hR hJ hl (fun H locs ls hJ hl => ?_)
  refine sg_manyB_1 C hRR hR hJ hl (fun H locs ls hJ hl => ?_)
  refine W.widen (k := 800) (n := 6000) (Nat.le_of_ble_eq_true rfl) (Nat.le_of_ble_eq_true rfl) ?_
  obtain ⟨-, -, u, hu, hP, hD, hS⟩ := hJ
  exact le_ret0 hx hb hr hlocks hAe hS dL_many_544
