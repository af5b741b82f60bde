/-! THE LAW'S WALK -/
def lA (s : State) : Nat → Prop := fun q => s.heap.size ≤ q
def LC (p : Program) (s : State) (m : MethodId) (meth : Method) (c : Code) (b L : Nat) (xs : Nat → Int32) (D : va_G) (cI cL cE cP : ClassId) (l : Launch) : Prop := lw_At p s m meth c b L xs ∧ CJ p l room_1 s m #[Value.ref b] c cL_law 5 wsL_law D cI cL cE cP (lA s) s.heap
theorem zroomL {x y : Nat} (h1 : x ≤ 631891) (h2 : y ≤ 7206098) : x ≤ room_1.cells ∧ y ≤ room_1.slots := ⟨h1, h2⟩
section SLZ
variable {p : Program} {l : Launch} {e : Env} {R : Room} {s : State} {m : MethodId} {args : Array Value} {below : List Frame} {meth : Method} {c : Code} {H : Heap} {locs : List Loc} {cells slots : Nat} {Q : State → Prop} {cc : ByteArray} {nL pc : Nat} {ls : Array Slot} {rest : List Value} {Ts : List Cond} {D : va_G} {cI cL cE cP : ClassId} {A : Nat → Prop} {H0 : Heap}
theorem sl_two (C : CJ p l R s m args c cc nL Ts D cI cL cE cP A H0) (hg : GoodIn Ts (va_wsS RL 133 yL_two wsL_two)) (hdg : decode cc pc = .ok (.invokestatic 133, 3)) (hls : ls.size = nL) (hW : (rest.map fun v => v.category).sum ≤ 8) (hf : cells + 800 ≤ R.cells ∧ slots + 6000 ≤ R.slots) (hRR : 60 ≤ R.frames ∧ 5000 ≤ R.locals) (hS : va_S A H0 H locs)
    (kk : ∀ (H1 : Heap) (locs1 : List Loc), va_S A H0 H1 locs1 → W p l e R s m args below meth c H1 locs1 (cells + 800) (slots + 6000) Q (F0 m (pc + 3) ls (.int 1 :: rest))) : W p l e R s m args below meth c H locs cells slots Q (F0 m pc ls rest) := by
  obtain ⟨hx, hb, hml, hown, hts, hE, hX, hN, hU0, hA, hfl, hR1, hR2, hO0, hO1⟩ := C
  have hP : va_P D vwCl [] H := fun k q h => by simp at h
  have hD : va_D A [] := ⟨fun i j p q h => by simp at h, fun k q h => by simp at h⟩
  have hU : zU (va_A [] H.size) s H := (hU0.kept hS.2.1).narrow (va_A_in hD hS hA)
  exact va_calli (va_runS (As := []) (rest := rest) ⟨hx, hb, hml, hown, hts⟩ (zL_two l hfl D cI cL cE cP H.size) (va_cwS 0 hts hg rfl rfl rfl (by decide +kernel) ⟨Nat.le_trans (m := 60) (Nat.le_of_ble_eq_true rfl) hRR.1, Nat.le_trans (m := 5000) (Nat.le_of_ble_eq_true rfl) hRR.2⟩) ⟨zPy_blind, zPy_mk hE hP hD hX hU hN hO0 hO1⟩ rfl rfl hls rfl (lv_room hW) hdg hf) hS (fun q _ h => va_A_in hD hS hA q h) (va_A_in hD hS hA) (fun r u t H1 locs1 ht hvm hp hB hz hk hS1 => by
    obtain rfl := hp
    exact kk H1 locs1 hS1)
theorem sl_many (C : CJ p l R s m args c cc nL Ts D cI cL cE cP A H0) (hg : GoodIn Ts (va_wsS RL 137 yL_many wsL_many)) (hdg : decode cc pc = .ok (.invokestatic 137, 3)) (hls : ls.size = nL) (hW : (rest.map fun v => v.category).sum ≤ 8) (hf : cells + 800 ≤ R.cells ∧ slots + 6000 ≤ R.slots) (hRR : 60 ≤ R.frames ∧ 5000 ≤ R.locals) (hS : va_S A H0 H locs)
    (kk : ∀ (H1 : Heap) (locs1 : List Loc), va_S A H0 H1 locs1 → W p l e R s m args below meth c H1 locs1 (cells + 800) (slots + 6000) Q (F0 m (pc + 3) ls (.int 1 :: rest))) : W p l e R s m args below meth c H locs cells slots Q (F0 m pc ls rest) := by
  obtain ⟨hx, hb, hml, hown, hts, hE, hX, hN, hU0, hA, hfl, hR1, hR2, hO0, hO1⟩ := C
  have hP : va_P D vwCl [] H := fun k q h => by simp at h
  have hD : va_D A [] := ⟨fun i j p q h => by simp at h, fun k q h => by simp at h⟩
  have hU : zU (va_A [] H.size) s H := (hU0.kept hS.2.1).narrow (va_A_in hD hS hA)
  exact va_calli (va_runS (As := []) (rest := rest) ⟨hx, hb, hml, hown, hts⟩ (zL_many l hfl D cI cL cE cP H.size) (va_cwS 0 hts hg rfl rfl rfl (by decide +kernel) ⟨Nat.le_trans (m := 60) (Nat.le_of_ble_eq_true rfl) hRR.1, Nat.le_trans (m := 5000) (Nat.le_of_ble_eq_true rfl) hRR.2⟩) ⟨zPy_blind, zPy_mk hE hP hD hX hU hN hO0 hO1⟩ rfl rfl hls rfl (lv_room hW) hdg hf) hS (fun q _ h => va_A_in hD hS hA q h) (va_A_in hD hS hA) (fun r u t H1 locs1 ht hvm hp hB hz hk hS1 => by
    obtain rfl := hp
    exact kk H1 locs1 hS1)
end SLZ
section LW
variable {p : Program} {e : Env} {s : State} {m : MethodId} {below : List Frame} {meth : Method} {c : Code} {l : Launch} {b L : Nat} {xs : Nat → Int32} {D : va_G} {cI cL cE cP : ClassId} {H : Heap} {locs : List Loc} {ls : Array Slot} {cells slots : Nat} {Q : State → Prop} {o0 j : Nat} {g : Nat → Nat → Int32} {n k X : Nat}
set_option maxHeartbeats 4000000 in
set_option maxRecDepth 100000 in
theorem law_x (C : LC p s m meth c b L xs D cI cL cE cP l) (hL : L ≤ 260) (hj : j < 8) (hJ : LJ D cI cL cE cP (lA s) s.heap o0 g n k H locs) (hl : lv_has ls 5 [(0, .ref b), (1, .ref o0), (2, .int (nI j))])
    (kk : ∀ (X : Nat) (ls : Array Slot), X < 16777216 → lv_has ls 5 [(3, .int (nI X)), (0, .ref b), (1, .ref o0), (2, .int (nI j))] → W p l e room_1 s m #[Value.ref b] below meth c H locs cells slots Q (F0 m 52 ls [])) : W p l e room_1 s m #[Value.ref b] below meth c H locs cells slots Q (F0 m 24 ls []) := by
  obtain ⟨⟨hx, hb, hr, hml, hown0, hts0, hX0, hbl, hlocks, hgv⟩, hC⟩ := C
  have hown : s.vm.findClass RL = some m.cls := hown0
  have hts : ∀ w ∈ wsL_law, w.before #[Value.ref b] s = true := fun w h => hts0 w (wsL_law_in w h)
  have hbA : ¬ lA s b := Nat.not_le.mpr hbl
  have hS : va_S (lA s) s.heap H locs := by obtain ⟨_, _, _, _, _, _, hS⟩ := hJ; exact hS
  refine lv_iload_n hx hb dL_law_24 rfl (lv_at hl 2 rfl) ?_
  refine lv_bipush (v := 8) hx hb dL_law_25 (by decide) ?_
  refine lv_icmp_ge (tgt := 202) hx hb dL_law_27 (by decide) (fun h => absurd h (fun h => by have := (nI_leI (a := 8) (b := j) (by omega) (by omega)).mp h; omega)) (fun _ => ?_)
  refine lv_aload_n hx hb dL_law_30 rfl (lv_at hl 0 rfl) ?_
  refine va_slen hx hb hX0 hbl hbA hS dL_law_31 ?_
  refine lv_if_ne (tgt := 42) hx hb dL_law_32 (by decide) (fun h0 => ?_) (fun _ => ?_)
  · have hL0 : 0 < L := Nat.pos_of_ne_zero (fun e => h0 (by rw [e]; rfl))
    refine lv_aload_n hx hb dL_law_42 rfl (lv_at hl 0 rfl) ?_
    refine lv_iload_n hx hb dL_law_43 rfl (lv_at hl 2 rfl) ?_
    refine lv_aload_n hx hb dL_law_44 rfl (lv_at hl 0 rfl) ?_
    refine va_slen hx hb hX0 hbl hbA hS dL_law_45 ?_
    refine lv_irem hx hb dL_law_46 h0 ?_
    rw [show (nI j - nI j / Int32.ofNat L * Int32.ofNat L : Int32) = nI (j % L) from zrem (d := L) rfl (by omega) hL0 (by omega)]
    refine va_sld hx hb hX0 hbl hbA hS (vp_in_nI (Nat.mod_lt _ hL0) (by omega)) dL_law_47 ?_
    obtain ⟨X, hX, eX⟩ := x_shr (xs (nI (j % L)).toNatClampNeg)
    refine lv_bipush (v := 8) hx hb dL_law_48 (by decide) ?_
    refine lv_iushr hx hb dL_law_50 eX ?_
    refine lv_istore_n (lv' := [(3, .int (nI X)), (0, .ref b), (1, .ref o0), (2, .int (nI j))]) hx hb dL_law_51 rfl hl (by decide) rfl (fun ls hl => ?_)
    exact kk X ls hX hl
  · refine lv_bipush (v := 31) hx hb dL_law_35 (by decide) ?_
    refine lv_iload_n hx hb dL_law_37 rfl (lv_at hl 2 rfl) ?_
    refine lv_imul hx hb dL_law_38 ?_
    rw [show (31 : Int32) = nI 31 from by decide +kernel, pk_mul]
    refine lv_goto (tgt := 51) hx hb dL_law_39 (by decide) ?_
    refine lv_istore_n (lv' := [(3, .int (nI (31 * j))), (0, .ref b), (1, .ref o0), (2, .int (nI j))]) hx hb dL_law_51 rfl hl (by decide) rfl (fun ls hl => ?_)
    exact kk (31 * j) ls (by omega) hl
set_option maxHeartbeats 4000000 in
set_option maxRecDepth 100000 in
theorem law_a (C : LC p s m meth c b L xs D cI cL cE cP l) (hj : j < 8) (hX : X < 16777216) (hc : cells ≤ 600000) (hs : slots ≤ 7000000) (hJ : LJ D cI cL cE cP (lA s) s.heap o0 g j k H locs) (hl : lv_has ls 5 [(3, .int (nI X)), (0, .ref b), (1, .ref o0), (2, .int (nI j))])
    (kk : ∀ (H : Heap) (locs : List Loc) (ls : Array Slot), LJ D cI cL cE cP (lA s) s.heap o0 (gAE g j (nI (X % 4)) (nI (X / 4 % 4)) (nI (X % 10000001)) (nI (X / 3 % 10000001)) (nI (X % 3)) (nI (1 + X % 3650))) (j + 1) k H locs → lv_has ls 5 [(0, .ref b), (1, .ref o0), (2, .int (nI j)), (3, .int (nI X))] → W p l e room_1 s m #[Value.ref b] below meth c H locs (cells + 2) (slots + 14) Q (F0 m 102 ls [])) : W p l e room_1 s m #[Value.ref b] below meth c H locs cells slots Q (F0 m 52 ls []) := by
  obtain ⟨⟨hx, hb, hr, hml, hown0, hts0, hX0, hbl, hlocks, hgv⟩, hC⟩ := C
  have hown : s.vm.findClass RL = some m.cls := hown0
  have hts : ∀ w ∈ wsL_law, w.before #[Value.ref b] s = true := fun w h => hts0 w (wsL_law_in w h)
  have hbA : ¬ lA s b := Nat.not_le.mpr hbl
  refine lv_iload_n hx hb dL_law_52 rfl (lv_at hl 0 rfl) ?_
  refine lv_ldc (v := 10000001) hx hb hown (hts (.constant RL 85 (10000001)) (by decide +kernel)) dL_law_53 ?_
  refine lv_irem hx hb dL_law_55 (by decide) ?_
  rw [zrem (X := X) (d := 10000001) (y := 10000001) (by decide +kernel) (by omega) (by decide) (by decide)]
  refine lv_istore (lv' := [(4, .int (nI (X % 10000001))), (3, .int (nI X)), (0, .ref b), (1, .ref o0), (2, .int (nI j))]) hx hb dL_law_56 hl (by decide) rfl (fun ls hl => ?_)
  refine lv_aload_n hx hb dL_law_58 rfl (lv_at hl 3 rfl) ?_
  refine lv_iload_n hx hb dL_law_59 rfl (lv_at hl 1 rfl) ?_
  refine lv_iconst (v := 4) hx hb dL_law_60 (by decide) ?_
  refine lv_irem hx hb dL_law_61 (by decide) ?_
  rw [zrem (X := X) (d := 4) (y := 4) (by decide +kernel) (by omega) (by decide) (by decide)]
  refine lv_iload_n hx hb dL_law_62 rfl (lv_at hl 1 rfl) ?_
  refine lv_iconst (v := 4) hx hb dL_law_63 (by decide) ?_
  refine lv_idiv hx hb dL_law_64 (by decide) ?_
  rw [zdv (X := X) (d := 4) (y := 4) (by decide +kernel) (by omega) (by decide) (by decide)]
  refine lv_iconst (v := 4) hx hb dL_law_65 (by decide) ?_
  refine lv_irem hx hb dL_law_66 (by decide) ?_
  rw [zrem (X := (X / 4)) (d := 4) (y := 4) (by decide +kernel) (by omega) (by decide) (by decide)]
  refine lv_iload hx hb dL_law_67 (lv_at hl 0 rfl) ?_
  refine lv_iload_n hx hb dL_law_69 rfl (lv_at hl 1 rfl) ?_
  refine lv_iconst (v := 3) hx hb dL_law_70 (by decide) ?_
  refine lv_idiv hx hb dL_law_71 (by decide) ?_
  rw [zdv (X := X) (d := 3) (y := 3) (by decide +kernel) (by omega) (by decide) (by decide)]
  refine lv_ldc (v := 10000001) hx hb hown (hts (.constant RL 85 (10000001)) (by decide +kernel)) dL_law_72 ?_
  refine lv_irem hx hb dL_law_74 (by decide) ?_
  rw [zrem (X := (X / 3)) (d := 10000001) (y := 10000001) (by decide +kernel) (by omega) (by decide) (by decide)]
  refine lv_iload_n hx hb dL_law_75 rfl (lv_at hl 1 rfl) ?_
  refine lv_iconst (v := 3) hx hb dL_law_76 (by decide) ?_
  refine lv_irem hx hb dL_law_77 (by decide) ?_
  rw [zrem (X := X) (d := 3) (y := 3) (by decide +kernel) (by omega) (by decide) (by decide)]
  refine lv_iconst (v := 1) hx hb dL_law_78 (by decide) ?_
  refine lv_iload_n hx hb dL_law_79 rfl (lv_at hl 1 rfl) ?_
  refine lv_sipush (v := 3650) hx hb dL_law_80 (by decide) ?_
  refine lv_irem hx hb dL_law_83 (by decide) ?_
  rw [zrem (X := X) (d := 3650) (y := 3650) (by decide +kernel) (by omega) (by decide) (by decide)]
  refine lv_iadd hx hb dL_law_84 ?_
  rw [zadd1]
  refine sa_addExposure hC gL_law_X3_addExposure dL_law_85 hl.1 (Nat.le_of_ble_eq_true rfl) (zroomL (by omega) (by omega)) hJ (nI (X % 4)) (nI (X / 4 % 4)) (nI (X % 10000001)) (nI (X / 3 % 10000001)) (nI (X % 3)) (nI (1 + X % 3650)) (nI j) (T_ae hj) rfl (fun H locs hJ => ?_)
  refine lv_iload_n hx hb dL_law_88 rfl (lv_at hl 4 rfl) ?_
  refine lv_icmp_ne (tgt := 194) hx hb dL_law_89 (by decide) (fun h => absurd rfl h) (fun _ => ?_)
  refine lv_aload_n hx hb dL_law_92 rfl (lv_at hl 3 rfl) ?_
  refine lv_iload_n hx hb dL_law_93 rfl (lv_at hl 4 rfl) ?_
  refine sa_amount hC gL_law_X3_amount dL_law_94 hl.1 (Nat.le_of_ble_eq_true rfl) (zroomL (by omega) (by omega)) hJ (nI j) (nI (X % 10000001 + X / 3 % 10000001 * 40 / 100)) (T_am (by omega) (by omega)) (amt_new (by omega) (by omega) (by omega)) (fun H locs hJ => ?_)
  refine lv_iload hx hb dL_law_97 (lv_at hl 0 rfl) ?_
  refine lv_icmp_lt (tgt := 194) hx hb dL_law_99 (by decide) (fun h => absurd h (fun h => by have := (nI_ltI (by omega) (by omega)).mp h; omega)) (fun _ => ?_)
  exact kk H locs ls hJ (lv_sub hl [2, 3, 4, 1] rfl)
set_option maxHeartbeats 4000000 in
set_option maxRecDepth 100000 in
theorem law_b (C : LC p s m meth c b L xs D cI cL cE cP l) (hj : j < 5) (hX : X < 16777216) (hc : cells ≤ 600000) (hs : slots ≤ 7000000) (hJ : LJ D cI cL cE cP (lA s) s.heap o0 g (j + 1) j H locs) (hl : lv_has ls 5 [(0, .ref b), (1, .ref o0), (2, .int (nI j)), (3, .int (nI X))])
    (kk : ∀ (H : Heap) (locs : List Loc) (ls : Array Slot), LJ D cI cL cE cP (lA s) s.heap o0 (gAP g j (nI (1 + X % 9999)) (nI (X % 101)) (nI (X / 7 % 3)) (nI (1 + X / 5 % 3650)) (nI (X % 256))) (j + 1) (j + 1) H locs → lv_has ls 5 [(0, .ref b), (1, .ref o0), (2, .int (nI j)), (3, .int (nI X))] → W p l e room_1 s m #[Value.ref b] below meth c H locs (cells + 2) (slots + 12) Q (F0 m 162 ls [])) : W p l e room_1 s m #[Value.ref b] below meth c H locs cells slots Q (F0 m 102 ls []) := by
  obtain ⟨⟨hx, hb, hr, hml, hown0, hts0, hX0, hbl, hlocks, hgv⟩, hC⟩ := C
  have hown : s.vm.findClass RL = some m.cls := hown0
  have hts : ∀ w ∈ wsL_law, w.before #[Value.ref b] s = true := fun w h => hts0 w (wsL_law_in w h)
  have hbA : ¬ lA s b := Nat.not_le.mpr hbl
  refine lv_iload_n hx hb dL_law_102 rfl (lv_at hl 2 rfl) ?_
  refine lv_iconst (v := 5) hx hb dL_law_103 (by decide) ?_
  refine lv_icmp_ge (tgt := 162) hx hb dL_law_104 (by decide) (fun h => absurd h (fun h => by have := (nI_leI (a := 5) (b := j) (by omega) (by omega)).mp h; omega)) (fun _ => ?_)
  refine lv_aload_n hx hb dL_law_107 rfl (lv_at hl 1 rfl) ?_
  refine lv_iconst (v := 1) hx hb dL_law_108 (by decide) ?_
  refine lv_iload_n hx hb dL_law_109 rfl (lv_at hl 3 rfl) ?_
  refine lv_sipush (v := 9999) hx hb dL_law_110 (by decide) ?_
  refine lv_irem hx hb dL_law_113 (by decide) ?_
  rw [zrem (X := X) (d := 9999) (y := 9999) (by decide +kernel) (by omega) (by decide) (by decide)]
  refine lv_iadd hx hb dL_law_114 ?_
  rw [zadd1]
  refine lv_iload_n hx hb dL_law_115 rfl (lv_at hl 3 rfl) ?_
  refine lv_bipush (v := 101) hx hb dL_law_116 (by decide) ?_
  refine lv_irem hx hb dL_law_118 (by decide) ?_
  rw [zrem (X := X) (d := 101) (y := 101) (by decide +kernel) (by omega) (by decide) (by decide)]
  refine lv_iload_n hx hb dL_law_119 rfl (lv_at hl 3 rfl) ?_
  refine lv_bipush (v := 7) hx hb dL_law_120 (by decide) ?_
  refine lv_idiv hx hb dL_law_122 (by decide) ?_
  rw [zdv (X := X) (d := 7) (y := 7) (by decide +kernel) (by omega) (by decide) (by decide)]
  refine lv_iconst (v := 3) hx hb dL_law_123 (by decide) ?_
  refine lv_irem hx hb dL_law_124 (by decide) ?_
  rw [zrem (X := (X / 7)) (d := 3) (y := 3) (by decide +kernel) (by omega) (by decide) (by decide)]
  refine lv_iconst (v := 1) hx hb dL_law_125 (by decide) ?_
  refine lv_iload_n hx hb dL_law_126 rfl (lv_at hl 3 rfl) ?_
  refine lv_iconst (v := 5) hx hb dL_law_127 (by decide) ?_
  refine lv_idiv hx hb dL_law_128 (by decide) ?_
  rw [zdv (X := X) (d := 5) (y := 5) (by decide +kernel) (by omega) (by decide) (by decide)]
  refine lv_sipush (v := 3650) hx hb dL_law_129 (by decide) ?_
  refine lv_irem hx hb dL_law_132 (by decide) ?_
  rw [zrem (X := (X / 5)) (d := 3650) (y := 3650) (by decide +kernel) (by omega) (by decide) (by decide)]
  refine lv_iadd hx hb dL_law_133 ?_
  rw [zadd1]
  refine lv_iload_n hx hb dL_law_134 rfl (lv_at hl 3 rfl) ?_
  refine lv_sipush (v := 256) hx hb dL_law_135 (by decide) ?_
  refine lv_irem hx hb dL_law_138 (by decide) ?_
  rw [zrem (X := X) (d := 256) (y := 256) (by decide +kernel) (by omega) (by decide) (by decide)]
  refine sa_addPiece hC gL_law_X3_addPiece dL_law_139 hl.1 (Nat.le_of_ble_eq_true rfl) (zroomL (by omega) (by omega)) hJ (nI (1 + X % 9999)) (nI (X % 101)) (nI (X / 7 % 3)) (nI (1 + X / 5 % 3650)) (nI (X % 256)) (nI j) (T_ap hj) rfl (fun H locs hJ => ?_)
  refine lv_iload_n hx hb dL_law_142 rfl (lv_at hl 2 rfl) ?_
  refine lv_icmp_ne (tgt := 194) hx hb dL_law_143 (by decide) (fun h => absurd rfl h) (fun _ => ?_)
  refine lv_aload_n hx hb dL_law_146 rfl (lv_at hl 1 rfl) ?_
  refine lv_iload_n hx hb dL_law_147 rfl (lv_at hl 2 rfl) ?_
  refine lv_iload_n hx hb dL_law_148 rfl (lv_at hl 2 rfl) ?_
  obtain ⟨v, hv, ev⟩ := zvl2 (g := (gAP g j (nI (1 + X % 9999)) (nI (X % 101)) (nI (X / 7 % 3)) (nI (1 + X / 5 % 3650)) (nI (X % 256)))) (i := j) (j := j) (m := 1 + X % 9999) hJ.1 (by omega) (by omega) (show upd (g 11) j (nI (1 + X % 9999)) j = _ from upd_at) (by omega)
  refine sa_value hC gL_law_X3_value dL_law_149 hl.1 (Nat.le_of_ble_eq_true rfl) (zroomL (by omega) (by omega)) hJ (nI j) (nI j) (nI v) (T_va (by omega) (by omega) (by omega) (by omega)) (by rw [nI_clamp (by omega)]; exact ev) (fun H locs hJ => ?_)
  refine lv_iconst (v := 1) hx hb dL_law_152 (by decide) ?_
  refine lv_iload_n hx hb dL_law_153 rfl (lv_at hl 3 rfl) ?_
  refine lv_sipush (v := 9999) hx hb dL_law_154 (by decide) ?_
  refine lv_irem hx hb dL_law_157 (by decide) ?_
  rw [zrem (X := X) (d := 9999) (y := 9999) (by decide +kernel) (by omega) (by decide) (by decide)]
  refine lv_iadd hx hb dL_law_158 ?_
  rw [zadd1]
  refine lv_icmp_gt (tgt := 194) hx hb dL_law_159 (by decide) (fun h => absurd h (fun h => by have := (nI_ltI (by omega) (by omega)).mp h; omega)) (fun _ => ?_)
  exact kk H locs ls hJ hl
set_option maxHeartbeats 4000000 in
set_option maxRecDepth 100000 in
theorem law_c (C : LC p s m meth c b L xs D cI cL cE cP l) (hj : j < 8) (hk : 0 < k) (hc : cells ≤ 600000) (hs : slots ≤ 7000000) (hJ : LJ D cI cL cE cP (lA s) s.heap o0 g n k H locs) (hl : lv_has ls 5 [(0, .ref b), (1, .ref o0), (2, .int (nI j)), (3, .int (nI X))])
    (kk : ∀ (H : Heap) (locs : List Loc) (ls : Array Slot), LJ D cI cL cE cP (lA s) s.heap o0 g n k H locs → lv_has ls 5 [(0, .ref b), (1, .ref o0), (2, .int (nI j)), (3, .int (nI X))] → W p l e room_1 s m #[Value.ref b] below meth c H locs (cells + 141) (slots + 906) Q (F0 m 196 ls [])) : W p l e room_1 s m #[Value.ref b] below meth c H locs cells slots Q (F0 m 162 ls []) := by
  obtain ⟨⟨hx, hb, hr, hml, hown0, hts0, hX0, hbl, hlocks, hgv⟩, hC⟩ := C
  have hown : s.vm.findClass RL = some m.cls := hown0
  have hts : ∀ w ∈ wsL_law, w.before #[Value.ref b] s = true := fun w h => hts0 w (wsL_law_in w h)
  have hbA : ¬ lA s b := Nat.not_le.mpr hbl
  have hk8 : k ≤ 8 := Nat.le_trans hJ.1.k (by decide)
  refine lv_aload_n hx hb dL_law_162 rfl (lv_at hl 1 rfl) ?_
  refine sa_required hC gL_law_X3_required dL_law_163 hl.1 (Nat.le_of_ble_eq_true rfl) (zroomL (by omega) (by omega)) hJ (if bwE (KE g n k) k < pct (plL g n) (g 2 0) then pct (plL g n) (g 2 0) else bwE (KE g n k) k) rfl (fun H locs hJ => ?_)
  refine lv_aload_n hx hb dL_law_166 rfl (lv_at hl 1 rfl) ?_
  refine sa_whole hC gL_law_X3_whole dL_law_167 hl.1 (Nat.le_of_ble_eq_true rfl) (zroomL (by omega) (by omega)) hJ (bwE (KE g n k) k) rfl (fun H locs hJ => ?_)
  refine lv_icmp_lt (tgt := 194) hx hb dL_law_170 (by decide) (fun h => absurd h req_ge) (fun _ => ?_)
  refine lv_aload_n hx hb dL_law_173 rfl (lv_at hl 1 rfl) ?_
  refine lv_iconst (v := 0) hx hb dL_law_174 (by decide) ?_
  obtain ⟨v, hv, ev⟩ := worth_nn hJ.1 hk
  refine sa_worth hC gL_law_X3_worth dL_law_175 hl.1 (Nat.le_of_ble_eq_true rfl) (zroomL (by omega) (by omega)) hJ 0 (nI v) (by have := T_am (n := k) (i := 0) hk8 hk; rw [nI_0] at this; exact this) ev (fun H locs hJ => ?_)
  refine lv_if_lt (tgt := 194) hx hb dL_law_178 (by decide) (fun h => absurd h (nI_pos (by omega))) (fun _ => ?_)
  refine lv_iload_n hx hb dL_law_181 rfl (lv_at hl 2 rfl) ?_
  refine lv_iconst (v := 3) hx hb dL_law_182 (by decide) ?_
  refine lv_irem hx hb dL_law_183 (by decide) ?_
  rw [zrem (X := j) (d := 3) (y := 3) (by decide +kernel) (by omega) (by decide) (by decide)]
  refine lv_if_ne (tgt := 196) hx hb dL_law_184 (by decide) (fun _ => ?_) (fun _ => ?_)
  · exact W.widen (k := cells + 141) (n := slots + 906) (by omega) (by omega) (kk H locs ls hJ hl)
  · refine lv_aload_n hx hb dL_law_187 rfl (lv_at hl 1 rfl) ?_
    refine sl_refuses hC gL_law_L_refuses dL_law_188 hl.1 (Nat.le_of_ble_eq_true rfl) (zroomL (by omega) (by omega)) ⟨Nat.le_of_ble_eq_true rfl, Nat.le_of_ble_eq_true rfl⟩ hJ (fun H locs hJ => ?_)
    refine lv_if_ne (tgt := 196) hx hb dL_law_191 (by decide) (fun _ => ?_) (fun h => absurd h (by decide +kernel))
    exact W.widen (k := cells + 141) (n := slots + 906) (by omega) (by omega) (kk H locs ls hJ hl)
set_option maxHeartbeats 4000000 in
set_option maxRecDepth 100000 in
theorem law_loop (C : LC p s m meth c b L xs D cI cL cE cP l) (hL : L ≤ 260) : ∀ (d j : Nat), j + d = 8 → ∀ (g : Nat → Nat → Int32) (H : Heap) (locs : List Loc) (ls : Array Slot), LJ D cI cL cE cP (lA s) s.heap o0 g j (min j 5) H locs → lv_has ls 5 [(0, .ref b), (1, .ref o0), (2, .int (nI j))] → W p l e room_1 s m #[Value.ref b] below meth c H locs (1611 + 145 * j) (12373 + 932 * j) (lw_Z below #[Value.ref b] s) (F0 m 24 ls []) := by
  obtain ⟨⟨hx, hb, hr, hml, hown0, hts0, hX0, hbl, hlocks, hgv⟩, hC⟩ := id C
  have hown : s.vm.findClass RL = some m.cls := hown0
  have hts : ∀ w ∈ wsL_law, w.before #[Value.ref b] s = true := fun w h => hts0 w (wsL_law_in w h)
  intro d
  induction d with
  | zero =>
    intro j hj g H locs ls hJ hl
    have hj : j = 8 := by omega
    subst hj
    refine lv_iload_n hx hb dL_law_24 rfl (lv_at hl 2 rfl) ?_
    refine lv_bipush (v := 8) hx hb dL_law_25 (by decide) ?_
    refine lv_icmp_ge (tgt := 202) hx hb dL_law_27 (by decide) (fun _ => ?_) (fun h => absurd (show (8 : Int32) ≤ nI 8 by decide +kernel) h)
    refine lv_aload_n hx hb dL_law_202 rfl (lv_at hl 1 rfl) ?_
    refine sa_whole hC gL_law_X3_whole dL_law_203 hl.1 (Nat.le_of_ble_eq_true rfl) (zroomL (by omega) (by omega)) hJ (bwE (KE g 8 (min 8 5)) (min 8 5)) rfl (fun H locs hJ => ?_)
    refine lv_aload_n hx hb dL_law_206 rfl (lv_at hl 1 rfl) ?_
    refine sa_wholeByTrying hC gL_law_X3_wholeByTrying dL_law_207 hl.1 (Nat.le_of_ble_eq_true rfl) (zroomL (by omega) (by omega)) hJ (bwE (KE g 8 (min 8 5)) (min 8 5)) rfl (fun H locs hJ => ?_)
    refine lv_icmp_ne (tgt := 217) hx hb dL_law_210 (by decide) (fun h => absurd rfl h) (fun _ => ?_)
    refine lv_iconst (v := 1) hx hb dL_law_213 (by decide) ?_
    refine lv_goto (tgt := 218) hx hb dL_law_214 (by decide) ?_
    have hS : va_S (lA s) s.heap H locs := by obtain ⟨_, _, _, _, _, _, hS⟩ := hJ; exact hS
    refine va_forget (fun q hq => hS.2.2 q hq) ?_
    refine W.widen (k := 631891) (n := 7206098) (by omega) (by omega) ?_
    exact lw_ret hx hb hr hlocks dL_law_218
  | succ d ih =>
    intro j hj g H locs ls hJ hl
    have hj8 : j < 8 := by omega
    refine law_x C hL hj8 hJ hl (fun X ls hX hl => ?_)
    refine law_a C hj8 hX (by omega) (by omega) hJ hl (fun H locs ls hJ hl => ?_)
    have turn : ∀ (g : Nat → Nat → Int32) (H : Heap) (locs : List Loc) (ls : Array Slot), LJ D cI cL cE cP (lA s) s.heap o0 g (j + 1) (min (j + 1) 5) H locs → lv_has ls 5 [(0, .ref b), (1, .ref o0), (2, .int (nI j)), (3, .int (nI X))] → W p l e room_1 s m #[Value.ref b] below meth c H locs (1611 + 145 * j + 4) (12373 + 932 * j + 26) (lw_Z below #[Value.ref b] s) (F0 m 162 ls []) := by
      intro g H locs ls hJ hl
      refine law_c C hj8 (by omega) (by omega) (by omega) hJ hl (fun H locs ls hJ hl => ?_)
      refine lv_iinc (v := nI (j + 1)) (lv' := [(2, .int (nI (j + 1))), (0, .ref b), (1, .ref o0), (3, .int (nI X))]) hx hb dL_law_196 hl (k := 2) rfl (zinc j) (by decide) rfl (fun ls hl => ?_)
      refine lv_goto (tgt := 24) hx hb dL_law_199 (by decide) ?_
      refine W.widen (k := 1611 + 145 * (j + 1)) (n := 12373 + 932 * (j + 1)) (by omega) (by omega) ?_
      exact ih (j + 1) (by omega) g H locs ls hJ (lv_sub hl [1, 2, 0] rfl)
    by_cases h5 : j < 5
    · rw [show min j 5 = j by omega] at hJ
      refine law_b C h5 hX (by omega) (by omega) hJ hl (fun H locs ls hJ hl => ?_)
      refine W.widen (k := 1611 + 145 * j + 4) (n := 12373 + 932 * j + 26) (by omega) (by omega) ?_
      exact turn _ H locs ls (by rw [show min (j + 1) 5 = j + 1 by omega]; exact hJ) hl
    · refine lv_iload_n hx hb dL_law_102 rfl (lv_at hl 2 rfl) ?_
      refine lv_iconst (v := 5) hx hb dL_law_103 (by decide) ?_
      refine lv_icmp_ge (tgt := 162) hx hb dL_law_104 (by decide) (fun _ => ?_) (fun h => absurd ((nI_leI (a := 5) (b := j) (by omega) (by omega)).mpr (by omega)) h)
      refine W.widen (k := 1611 + 145 * j + 4) (n := 12373 + 932 * j + 26) (by omega) (by omega) ?_
      exact turn _ H locs ls (by rw [show min (j + 1) 5 = min j 5 by omega]; exact hJ) hl
end LW
