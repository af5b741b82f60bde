/-! two -/
section S_two
variable {p : Program} {l : Launch} {e : Env} {R : Room} {s : State} {m : MethodId} {args : Array Value} {below : List Frame} {meth : Method} {c : Code} {H : Heap} {locs : List Loc} {Q : State → Prop} {ls : Array Slot} {D : va_G} {cI cL cE cP : ClassId} {A : Nat → Prop} {H0 : Heap} {o0 : Nat}
set_option maxHeartbeats 4000000 in
set_option maxRecDepth 100000 in
theorem sg_two_0 (C : CJ p l R s m args c cL_two 2 wsL_two D cI cL cE cP A H0) (hRR : 40 ≤ R.frames ∧ 3000 ≤ R.locals) (hR : 800 ≤ R.cells ∧ 6000 ≤ R.slots) (hJ : LJ D cI cL cE cP A H0 o0 g0 0 0 H locs) (hl : lv_has ls 2 [(0, .ref o0)])
    (kk : ∀ (H : Heap) (locs : List Loc) (ls : Array Slot), LJ D cI cL cE cP A H0 o0 YT2 2 0 H locs → lv_has ls 2 [(0, .ref o0), (1, .int (-900000003))] → W p l e R s m args below meth c H locs 156 1307 Q (F0 m 117 ls [])) : W p l e R s m args below meth c H locs 11 373 Q (F0 m 8 ls []) := by
  obtain ⟨hx, hb, hml, hown, hts, -⟩ := id C
  have hRS : 30 ≤ R.frames ∧ 2000 ≤ R.locals := ⟨Nat.le_trans (m := 40) (by decide) hRR.1, Nat.le_trans (m := 3000) (by decide) hRR.2⟩
  refine lv_ldc (v := (-900000003)) hx hb hown (hts (.constant RL 21 (-900000003)) (by decide +kernel)) dL_two_8 ?_
  refine lv_istore_n (lv' := [(1, .int (-900000003)), (0, .ref o0)]) hx hb dL_two_10 rfl hl (by decide) rfl (fun ls hl => ?_)
  refine lv_aload_n hx hb dL_two_11 rfl (lv_at hl 1 rfl) ?_
  refine lv_iconst (v := 0) hx hb dL_two_12 (by decide) ?_
  refine lv_iconst (v := 0) hx hb dL_two_13 (by decide) ?_
  refine lv_iconst (v := 0) hx hb dL_two_14 (by decide) ?_
  refine sl_sums C gL_two_L_sums dL_two_15 hl.1 (Nat.le_of_ble_eq_true rfl) ⟨Nat.le_trans (m := 800) (Nat.le_of_ble_eq_true rfl) hR.1, Nat.le_trans (m := 6000) (Nat.le_of_ble_eq_true rfl) hR.2⟩ hRS hJ 0 0 0 ((bwE_K hk_YT_g0).trans (by decide +kernel)) (by decide +kernel) (by rw [bwE_K hk_YT_g0]; decide +kernel) (fun H locs hJ => ?_)
  refine lv_if_eq (tgt := 288) hx hb dL_two_18 (by decide) (fun h => absurd h (by decide +kernel)) (fun _ => ?_)
  refine lv_aload_n hx hb dL_two_21 rfl (lv_at hl 1 rfl) ?_
  refine sa_tooLarge C gL_two_X3_tooLarge dL_two_22 hl.1 (Nat.le_of_ble_eq_true rfl) ⟨Nat.le_trans (m := 800) (Nat.le_of_ble_eq_true rfl) hR.1, Nat.le_trans (m := 6000) (Nat.le_of_ble_eq_true rfl) hR.2⟩ hJ 0 ((tlL_K hk_YT_g0 4).trans (by decide +kernel)) (fun H locs hJ => ?_)
  refine lv_if_ne (tgt := 288) hx hb dL_two_25 (by decide) (fun h => absurd h (by decide +kernel)) (fun _ => ?_)
  refine lv_aload_n hx hb dL_two_28 rfl (lv_at hl 1 rfl) ?_
  refine lv_iconst (v := 3) hx hb dL_two_29 (by decide) ?_
  refine sa_partyBare C gL_two_X3_partyBare dL_two_30 hl.1 (Nat.le_of_ble_eq_true rfl) ⟨Nat.le_trans (m := 800) (Nat.le_of_ble_eq_true rfl) hR.1, Nat.le_trans (m := 6000) (Nat.le_of_ble_eq_true rfl) hR.2⟩ hJ 3 0 (by decide +kernel) ((bpL_K hk_YT_g0 _ _).trans (by decide +kernel)) (fun H locs hJ => ?_)
  refine lv_if_ne (tgt := 288) hx hb dL_two_33 (by decide) (fun h => absurd h (by decide +kernel)) (fun _ => ?_)
  refine lv_aload_n hx hb dL_two_36 rfl (lv_at hl 1 rfl) ?_
  refine sl_refuses C gL_two_L_refuses dL_two_37 hl.1 (Nat.le_of_ble_eq_true rfl) ⟨Nat.le_trans (m := 800) (Nat.le_of_ble_eq_true rfl) hR.1, Nat.le_trans (m := 6000) (Nat.le_of_ble_eq_true rfl) hR.2⟩ hRR hJ (fun H locs hJ => ?_)
  refine lv_if_eq (tgt := 288) hx hb dL_two_40 (by decide) (fun h => absurd h (by decide +kernel)) (fun _ => ?_)
  refine lv_aload_n hx hb dL_two_43 rfl (lv_at hl 1 rfl) ?_
  refine lv_iconst (v := 3) hx hb dL_two_44 (by decide) ?_
  refine lv_iconst (v := 0) hx hb dL_two_45 (by decide) ?_
  refine lv_sipush (v := 1000) hx hb dL_two_46 (by decide) ?_
  refine lv_iconst (v := 0) hx hb dL_two_49 (by decide) ?_
  refine lv_iconst (v := 0) hx hb dL_two_50 (by decide) ?_
  refine lv_bipush (v := 100) hx hb dL_two_51 (by decide) ?_
  refine sa_addExposure C gL_two_X3_addExposure dL_two_53 hl.1 (Nat.le_of_ble_eq_true rfl) ⟨Nat.le_trans (m := 800) (Nat.le_of_ble_eq_true rfl) hR.1, Nat.le_trans (m := 6000) (Nat.le_of_ble_eq_true rfl) hR.2⟩ hJ 3 0 1000 0 0 100 0 (by decide +kernel) (by decide +kernel) (fun H locs hJ => ?_)
  have hJ : LJ D cI cL cE cP A H0 o0 YT1 1 0 H locs := hJ
  refine lv_if_ne (tgt := 288) hx hb dL_two_56 (by decide) (fun h => absurd h (by decide +kernel)) (fun _ => ?_)
  refine lv_aload_n hx hb dL_two_59 rfl (lv_at hl 1 rfl) ?_
  refine lv_iconst (v := 2) hx hb dL_two_60 (by decide) ?_
  refine lv_iconst (v := 1) hx hb dL_two_61 (by decide) ?_
  refine lv_sipush (v := 1000) hx hb dL_two_62 (by decide) ?_
  refine lv_sipush (v := 500) hx hb dL_two_65 (by decide) ?_
  refine lv_iconst (v := 1) hx hb dL_two_68 (by decide) ?_
  refine lv_sipush (v := 200) hx hb dL_two_69 (by decide) ?_
  refine sa_addExposure C gL_two_X3_addExposure dL_two_72 hl.1 (Nat.le_of_ble_eq_true rfl) ⟨Nat.le_trans (m := 800) (Nat.le_of_ble_eq_true rfl) hR.1, Nat.le_trans (m := 6000) (Nat.le_of_ble_eq_true rfl) hR.2⟩ hJ 2 1 1000 500 1 200 1 (by decide +kernel) (by decide +kernel) (fun H locs hJ => ?_)
  have hJ : LJ D cI cL cE cP A H0 o0 YT2 2 0 H locs := hJ
  refine lv_iconst (v := 1) hx hb dL_two_75 (by decide) ?_
  refine lv_icmp_ne (tgt := 288) hx hb dL_two_76 (by decide) (fun h => absurd h (by decide +kernel)) (fun _ => ?_)
  refine lv_aload_n hx hb dL_two_79 rfl (lv_at hl 1 rfl) ?_
  refine lv_iconst (v := 0) hx hb dL_two_80 (by decide) ?_
  refine sa_amount C gL_two_X3_amount dL_two_81 hl.1 (Nat.le_of_ble_eq_true rfl) ⟨Nat.le_trans (m := 800) (Nat.le_of_ble_eq_true rfl) hR.1, Nat.le_trans (m := 6000) (Nat.le_of_ble_eq_true rfl) hR.2⟩ hJ 0 1000 (by decide +kernel) (by decide +kernel) (fun H locs hJ => ?_)
  refine lv_sipush (v := 1000) hx hb dL_two_84 (by decide) ?_
  refine lv_icmp_ne (tgt := 288) hx hb dL_two_87 (by decide) (fun h => absurd h (by decide +kernel)) (fun _ => ?_)
  refine lv_aload_n hx hb dL_two_90 rfl (lv_at hl 1 rfl) ?_
  refine lv_iconst (v := 1) hx hb dL_two_91 (by decide) ?_
  refine sa_amount C gL_two_X3_amount dL_two_92 hl.1 (Nat.le_of_ble_eq_true rfl) ⟨Nat.le_trans (m := 800) (Nat.le_of_ble_eq_true rfl) hR.1, Nat.le_trans (m := 6000) (Nat.le_of_ble_eq_true rfl) hR.2⟩ hJ 1 1200 (by decide +kernel) (by decide +kernel) (fun H locs hJ => ?_)
  refine lv_sipush (v := 1200) hx hb dL_two_95 (by decide) ?_
  refine lv_icmp_ne (tgt := 288) hx hb dL_two_98 (by decide) (fun h => absurd h (by decide +kernel)) (fun _ => ?_)
  refine lv_aload_n hx hb dL_two_101 rfl (lv_at hl 1 rfl) ?_
  refine lv_sipush (v := 1600) hx hb dL_two_102 (by decide) ?_
  refine lv_sipush (v := 2200) hx hb dL_two_105 (by decide) ?_
  refine lv_sipush (v := 1600) hx hb dL_two_108 (by decide) ?_
  refine sl_sums C gL_two_L_sums dL_two_111 hl.1 (Nat.le_of_ble_eq_true rfl) ⟨Nat.le_trans (m := 800) (Nat.le_of_ble_eq_true rfl) hR.1, Nat.le_trans (m := 6000) (Nat.le_of_ble_eq_true rfl) hR.2⟩ hRS hJ 1600 2200 1600 ((bwE_K hk_YT_YT2).trans (by decide +kernel)) (by decide +kernel) (by rw [bwE_K hk_YT_YT2]; decide +kernel) (fun H locs hJ => ?_)
  refine lv_if_eq (tgt := 288) hx hb dL_two_114 (by decide) (fun h => absurd h (by decide +kernel)) (fun _ => ?_)
  exact kk H locs ls hJ (lv_sub hl [1, 0] rfl)
set_option maxHeartbeats 4000000 in
set_option maxRecDepth 100000 in
theorem sg_two_1 (C : CJ p l R s m args c cL_two 2 wsL_two D cI cL cE cP A H0) (hRR : 40 ≤ R.frames ∧ 3000 ≤ R.locals) (hR : 800 ≤ R.cells ∧ 6000 ≤ R.slots) (hJ : LJ D cI cL cE cP A H0 o0 YT2 2 0 H locs) (hl : lv_has ls 2 [(0, .ref o0), (1, .int (-900000003))])
    (kk : ∀ (H : Heap) (locs : List Loc) (ls : Array Slot), LJ D cI cL cE cP A H0 o0 YT3 2 1 H locs → lv_has ls 2 [(0, .ref o0), (1, .int (-900000003))] → W p l e R s m args below meth c H locs 165 1361 Q (F0 m 228 ls [])) : W p l e R s m args below meth c H locs 156 1307 Q (F0 m 117 ls []) := by
  obtain ⟨hx, hb, hml, hown, hts, -⟩ := id C
  have hRS : 30 ≤ R.frames ∧ 2000 ≤ R.locals := ⟨Nat.le_trans (m := 40) (by decide) hRR.1, Nat.le_trans (m := 3000) (by decide) hRR.2⟩
  refine lv_aload_n hx hb dL_two_117 rfl (lv_at hl 0 rfl) ?_
  refine lv_iconst (v := 1) hx hb dL_two_118 (by decide) ?_
  refine lv_sipush (v := 1200) hx hb dL_two_119 (by decide) ?_
  refine lv_sipush (v := 600) hx hb dL_two_122 (by decide) ?_
  refine sl_at C gL_two_L_at dL_two_125 hl.1 (Nat.le_of_ble_eq_true rfl) ⟨Nat.le_trans (m := 800) (Nat.le_of_ble_eq_true rfl) hR.1, Nat.le_trans (m := 6000) (Nat.le_of_ble_eq_true rfl) hR.2⟩ hRS hJ 1 1200 600 (by decide +kernel) (by rw [gsL_K hk_YT_YT2]; decide +kernel) (by rw [gsL_K hk_YT_YT2]; decide +kernel) (fun H locs hJ => ?_)
  refine lv_if_eq (tgt := 288) hx hb dL_two_128 (by decide) (fun h => absurd h (by decide +kernel)) (fun _ => ?_)
  refine lv_aload_n hx hb dL_two_131 rfl (lv_at hl 0 rfl) ?_
  refine sa_tooLarge C gL_two_X3_tooLarge dL_two_132 hl.1 (Nat.le_of_ble_eq_true rfl) ⟨Nat.le_trans (m := 800) (Nat.le_of_ble_eq_true rfl) hR.1, Nat.le_trans (m := 6000) (Nat.le_of_ble_eq_true rfl) hR.2⟩ hJ 3 ((tlL_K hk_YT_YT2 4).trans (by decide +kernel)) (fun H locs hJ => ?_)
  refine lv_iconst (v := 3) hx hb dL_two_135 (by decide) ?_
  refine lv_icmp_ne (tgt := 288) hx hb dL_two_136 (by decide) (fun h => absurd h (by decide +kernel)) (fun _ => ?_)
  refine lv_aload_n hx hb dL_two_139 rfl (lv_at hl 0 rfl) ?_
  refine lv_sipush (v := 500) hx hb dL_two_140 (by decide) ?_
  refine lv_bipush (v := 20) hx hb dL_two_143 (by decide) ?_
  refine lv_iconst (v := 0) hx hb dL_two_145 (by decide) ?_
  refine lv_bipush (v := 100) hx hb dL_two_146 (by decide) ?_
  refine lv_iconst (v := 3) hx hb dL_two_148 (by decide) ?_
  refine sa_addPiece C gL_two_X3_addPiece dL_two_149 hl.1 (Nat.le_of_ble_eq_true rfl) ⟨Nat.le_trans (m := 800) (Nat.le_of_ble_eq_true rfl) hR.1, Nat.le_trans (m := 6000) (Nat.le_of_ble_eq_true rfl) hR.2⟩ hJ 500 20 0 100 3 0 (by decide +kernel) (by decide +kernel) (fun H locs hJ => ?_)
  have hJ : LJ D cI cL cE cP A H0 o0 YT3 2 1 H locs := hJ
  refine lv_if_ne (tgt := 288) hx hb dL_two_152 (by decide) (fun h => absurd h (by decide +kernel)) (fun _ => ?_)
  refine lv_aload_n hx hb dL_two_155 rfl (lv_at hl 0 rfl) ?_
  refine lv_iconst (v := 0) hx hb dL_two_156 (by decide) ?_
  refine lv_iconst (v := 0) hx hb dL_two_157 (by decide) ?_
  refine sa_value C gL_two_X3_value dL_two_158 hl.1 (Nat.le_of_ble_eq_true rfl) ⟨Nat.le_trans (m := 800) (Nat.le_of_ble_eq_true rfl) hR.1, Nat.le_trans (m := 6000) (Nat.le_of_ble_eq_true rfl) hR.2⟩ hJ 0 0 400 (by decide +kernel) (by decide +kernel) (fun H locs hJ => ?_)
  refine lv_sipush (v := 400) hx hb dL_two_161 (by decide) ?_
  refine lv_icmp_ne (tgt := 288) hx hb dL_two_164 (by decide) (fun h => absurd h (by decide +kernel)) (fun _ => ?_)
  refine lv_aload_n hx hb dL_two_167 rfl (lv_at hl 0 rfl) ?_
  refine lv_iconst (v := 0) hx hb dL_two_168 (by decide) ?_
  refine lv_iconst (v := 1) hx hb dL_two_169 (by decide) ?_
  refine sa_value C gL_two_X3_value dL_two_170 hl.1 (Nat.le_of_ble_eq_true rfl) ⟨Nat.le_trans (m := 800) (Nat.le_of_ble_eq_true rfl) hR.1, Nat.le_trans (m := 6000) (Nat.le_of_ble_eq_true rfl) hR.2⟩ hJ 0 1 184 (by decide +kernel) (by decide +kernel) (fun H locs hJ => ?_)
  refine lv_sipush (v := 184) hx hb dL_two_173 (by decide) ?_
  refine lv_icmp_ne (tgt := 288) hx hb dL_two_176 (by decide) (fun h => absurd h (by decide +kernel)) (fun _ => ?_)
  refine lv_aload_n hx hb dL_two_179 rfl (lv_at hl 0 rfl) ?_
  refine lv_iconst (v := 0) hx hb dL_two_180 (by decide) ?_
  refine sa_givenTo C gL_two_X3_givenTo dL_two_181 hl.1 (Nat.le_of_ble_eq_true rfl) ⟨Nat.le_trans (m := 800) (Nat.le_of_ble_eq_true rfl) hR.1, Nat.le_trans (m := 6000) (Nat.le_of_ble_eq_true rfl) hR.2⟩ hJ 0 0 (by decide +kernel) ((tkE_K hk_YT_YT3 _).trans (by decide +kernel)) (fun H locs hJ => ?_)
  refine lv_if_ne (tgt := 288) hx hb dL_two_184 (by decide) (fun h => absurd h (by decide +kernel)) (fun _ => ?_)
  refine lv_aload_n hx hb dL_two_187 rfl (lv_at hl 0 rfl) ?_
  refine lv_sipush (v := 1200) hx hb dL_two_188 (by decide) ?_
  refine lv_sipush (v := 2200) hx hb dL_two_191 (by decide) ?_
  refine lv_sipush (v := 1540) hx hb dL_two_194 (by decide) ?_
  refine sl_sums C gL_two_L_sums dL_two_197 hl.1 (Nat.le_of_ble_eq_true rfl) ⟨Nat.le_trans (m := 800) (Nat.le_of_ble_eq_true rfl) hR.1, Nat.le_trans (m := 6000) (Nat.le_of_ble_eq_true rfl) hR.2⟩ hRS hJ 1200 2200 1540 ((bwE_K hk_YT_YT3).trans (by decide +kernel)) (by decide +kernel) (by rw [bwE_K hk_YT_YT3]; decide +kernel) (fun H locs hJ => ?_)
  refine lv_if_eq (tgt := 288) hx hb dL_two_200 (by decide) (fun h => absurd h (by decide +kernel)) (fun _ => ?_)
  refine lv_aload_n hx hb dL_two_203 rfl (lv_at hl 0 rfl) ?_
  refine lv_iconst (v := 0) hx hb dL_two_204 (by decide) ?_
  refine lv_sipush (v := 600) hx hb dL_two_205 (by decide) ?_
  refine lv_sipush (v := 600) hx hb dL_two_208 (by decide) ?_
  refine sl_at C gL_two_L_at dL_two_211 hl.1 (Nat.le_of_ble_eq_true rfl) ⟨Nat.le_trans (m := 800) (Nat.le_of_ble_eq_true rfl) hR.1, Nat.le_trans (m := 6000) (Nat.le_of_ble_eq_true rfl) hR.2⟩ hRS hJ 0 600 600 (by decide +kernel) (by rw [gsL_K hk_YT_YT3]; decide +kernel) (by rw [gsL_K hk_YT_YT3]; decide +kernel) (fun H locs hJ => ?_)
  refine lv_if_eq (tgt := 288) hx hb dL_two_214 (by decide) (fun h => absurd h (by decide +kernel)) (fun _ => ?_)
  refine lv_aload_n hx hb dL_two_217 rfl (lv_at hl 0 rfl) ?_
  refine lv_iconst (v := 0) hx hb dL_two_218 (by decide) ?_
  refine sa_worth C gL_two_X3_worth dL_two_219 hl.1 (Nat.le_of_ble_eq_true rfl) ⟨Nat.le_trans (m := 800) (Nat.le_of_ble_eq_true rfl) hR.1, Nat.le_trans (m := 6000) (Nat.le_of_ble_eq_true rfl) hR.2⟩ hJ 0 400 (by decide +kernel) (by rw [woE_K2 (p := 0) (by decide) (by decide) (by decide +kernel) hw_YT_YT3_0, bwE_K hk_YT_YT3]; decide +kernel) (fun H locs hJ => ?_)
  refine lv_sipush (v := 400) hx hb dL_two_222 (by decide) ?_
  refine lv_icmp_ne (tgt := 288) hx hb dL_two_225 (by decide) (fun h => absurd h (by decide +kernel)) (fun _ => ?_)
  exact kk H locs ls hJ hl
set_option maxHeartbeats 4000000 in
set_option maxRecDepth 100000 in
theorem sg_two_2 (C : CJ p l R s m args c cL_two 2 wsL_two D cI cL cE cP A H0) (hRR : 40 ≤ R.frames ∧ 3000 ≤ R.locals) (hR : 800 ≤ R.cells ∧ 6000 ≤ R.slots) (hJ : LJ D cI cL cE cP A H0 o0 YT3 2 1 H locs) (hl : lv_has ls 2 [(0, .ref o0), (1, .int (-900000003))])
    (kk : ∀ (H : Heap) (locs : List Loc) (ls : Array Slot), LJ D cI cL cE cP A H0 o0 YT5 2 2 H locs → lv_has ls 2 [(0, .ref o0), (1, .int (-900000003))] → W p l e R s m args below meth c H locs 312 2303 Q (F0 m 347 ls [])) : W p l e R s m args below meth c H locs 165 1361 Q (F0 m 228 ls []) := by
  obtain ⟨hx, hb, hml, hown, hts, -⟩ := id C
  have hRS : 30 ≤ R.frames ∧ 2000 ≤ R.locals := ⟨Nat.le_trans (m := 40) (by decide) hRR.1, Nat.le_trans (m := 3000) (by decide) hRR.2⟩
  refine lv_aload_n hx hb dL_two_228 rfl (lv_at hl 0 rfl) ?_
  refine lv_iconst (v := 0) hx hb dL_two_229 (by decide) ?_
  refine lv_iconst (v := 1) hx hb dL_two_230 (by decide) ?_
  refine lv_sipush (v := 300) hx hb dL_two_231 (by decide) ?_
  refine sa_guarantee C gL_two_X3_guarantee dL_two_234 hl.1 (Nat.le_of_ble_eq_true rfl) ⟨Nat.le_trans (m := 800) (Nat.le_of_ble_eq_true rfl) hR.1, Nat.le_trans (m := 6000) (Nat.le_of_ble_eq_true rfl) hR.2⟩ hJ 0 1 300 0 (by decide +kernel) (by decide +kernel) (fun H locs hJ => ?_)
  have hJ : LJ D cI cL cE cP A H0 o0 YT4 2 1 H locs := hJ
  refine lv_if_ne (tgt := 288) hx hb dL_two_237 (by decide) (fun h => absurd h (by decide +kernel)) (fun _ => ?_)
  refine lv_aload_n hx hb dL_two_240 rfl (lv_at hl 0 rfl) ?_
  refine lv_sipush (v := 960) hx hb dL_two_241 (by decide) ?_
  refine lv_sipush (v := 2200) hx hb dL_two_244 (by decide) ?_
  refine lv_sipush (v := 1540) hx hb dL_two_247 (by decide) ?_
  refine sl_sums C gL_two_L_sums dL_two_250 hl.1 (Nat.le_of_ble_eq_true rfl) ⟨Nat.le_trans (m := 800) (Nat.le_of_ble_eq_true rfl) hR.1, Nat.le_trans (m := 6000) (Nat.le_of_ble_eq_true rfl) hR.2⟩ hRS hJ 960 2200 1540 ((bwE_K hk_YT_YT4).trans (by decide +kernel)) (by decide +kernel) (by rw [bwE_K hk_YT_YT4]; decide +kernel) (fun H locs hJ => ?_)
  refine lv_if_eq (tgt := 288) hx hb dL_two_253 (by decide) (fun h => absurd h (by decide +kernel)) (fun _ => ?_)
  refine lv_aload_n hx hb dL_two_256 rfl (lv_at hl 0 rfl) ?_
  refine lv_iconst (v := 0) hx hb dL_two_257 (by decide) ?_
  refine lv_sipush (v := 600) hx hb dL_two_258 (by decide) ?_
  refine lv_sipush (v := 360) hx hb dL_two_261 (by decide) ?_
  refine sl_at C gL_two_L_at dL_two_264 hl.1 (Nat.le_of_ble_eq_true rfl) ⟨Nat.le_trans (m := 800) (Nat.le_of_ble_eq_true rfl) hR.1, Nat.le_trans (m := 6000) (Nat.le_of_ble_eq_true rfl) hR.2⟩ hRS hJ 0 600 360 (by decide +kernel) (by rw [gsL_K hk_YT_YT4]; decide +kernel) (by rw [gsL_K hk_YT_YT4]; decide +kernel) (fun H locs hJ => ?_)
  refine lv_if_eq (tgt := 288) hx hb dL_two_267 (by decide) (fun h => absurd h (by decide +kernel)) (fun _ => ?_)
  refine lv_aload_n hx hb dL_two_270 rfl (lv_at hl 0 rfl) ?_
  refine lv_iconst (v := 0) hx hb dL_two_271 (by decide) ?_
  refine sa_worth C gL_two_X3_worth dL_two_272 hl.1 (Nat.le_of_ble_eq_true rfl) ⟨Nat.le_trans (m := 800) (Nat.le_of_ble_eq_true rfl) hR.1, Nat.le_trans (m := 6000) (Nat.le_of_ble_eq_true rfl) hR.2⟩ hJ 0 400 (by decide +kernel) (by rw [woE_K2 (p := 0) (by decide) (by decide) (by decide +kernel) hw_YT_YT4_0, bwE_K hk_YT_YT4]; decide +kernel) (fun H locs hJ => ?_)
  refine lv_sipush (v := 400) hx hb dL_two_275 (by decide) ?_
  refine lv_icmp_ne (tgt := 288) hx hb dL_two_278 (by decide) (fun h => absurd h (by decide +kernel)) (fun _ => ?_)
  refine lv_aload_n hx hb dL_two_281 rfl (lv_at hl 0 rfl) ?_
  refine sl_refuses C gL_two_L_refuses dL_two_282 hl.1 (Nat.le_of_ble_eq_true rfl) ⟨Nat.le_trans (m := 800) (Nat.le_of_ble_eq_true rfl) hR.1, Nat.le_trans (m := 6000) (Nat.le_of_ble_eq_true rfl) hR.2⟩ hRR hJ (fun H locs hJ => ?_)
  refine lv_if_ne (tgt := 290) hx hb dL_two_285 (by decide) (fun _ => ?_) (fun h => absurd h (by decide +kernel))
  refine lv_aload_n hx hb dL_two_290 rfl (lv_at hl 0 rfl) ?_
  refine lv_sipush (v := 700) hx hb dL_two_291 (by decide) ?_
  refine lv_iconst (v := 0) hx hb dL_two_294 (by decide) ?_
  refine lv_iconst (v := 1) hx hb dL_two_295 (by decide) ?_
  refine lv_sipush (v := 365) hx hb dL_two_296 (by decide) ?_
  refine lv_iconst (v := 3) hx hb dL_two_299 (by decide) ?_
  refine sa_addPiece C gL_two_X3_addPiece dL_two_300 hl.1 (Nat.le_of_ble_eq_true rfl) ⟨Nat.le_trans (m := 800) (Nat.le_of_ble_eq_true rfl) hR.1, Nat.le_trans (m := 6000) (Nat.le_of_ble_eq_true rfl) hR.2⟩ hJ 700 0 1 365 3 1 (by decide +kernel) (by decide +kernel) (fun H locs hJ => ?_)
  have hJ : LJ D cI cL cE cP A H0 o0 YT5 2 2 H locs := hJ
  refine lv_iconst (v := 1) hx hb dL_two_303 (by decide) ?_
  refine lv_icmp_ne (tgt := 616) hx hb dL_two_304 (by decide) (fun h => absurd h (by decide +kernel)) (fun _ => ?_)
  refine lv_aload_n hx hb dL_two_307 rfl (lv_at hl 0 rfl) ?_
  refine lv_iconst (v := 1) hx hb dL_two_308 (by decide) ?_
  refine lv_iconst (v := 0) hx hb dL_two_309 (by decide) ?_
  refine sa_value C gL_two_X3_value dL_two_310 hl.1 (Nat.le_of_ble_eq_true rfl) ⟨Nat.le_trans (m := 800) (Nat.le_of_ble_eq_true rfl) hR.1, Nat.le_trans (m := 6000) (Nat.le_of_ble_eq_true rfl) hR.2⟩ hJ 1 0 644 (by decide +kernel) (by decide +kernel) (fun H locs hJ => ?_)
  refine lv_sipush (v := 644) hx hb dL_two_313 (by decide) ?_
  refine lv_icmp_ne (tgt := 616) hx hb dL_two_316 (by decide) (fun h => absurd h (by decide +kernel)) (fun _ => ?_)
  refine lv_aload_n hx hb dL_two_319 rfl (lv_at hl 0 rfl) ?_
  refine lv_iconst (v := 1) hx hb dL_two_320 (by decide) ?_
  refine lv_iconst (v := 1) hx hb dL_two_321 (by decide) ?_
  refine sa_value C gL_two_X3_value dL_two_322 hl.1 (Nat.le_of_ble_eq_true rfl) ⟨Nat.le_trans (m := 800) (Nat.le_of_ble_eq_true rfl) hR.1, Nat.le_trans (m := 6000) (Nat.le_of_ble_eq_true rfl) hR.2⟩ hJ 1 1 700 (by decide +kernel) (by decide +kernel) (fun H locs hJ => ?_)
  refine lv_sipush (v := 700) hx hb dL_two_325 (by decide) ?_
  refine lv_icmp_ne (tgt := 616) hx hb dL_two_328 (by decide) (fun h => absurd h (by decide +kernel)) (fun _ => ?_)
  refine lv_aload_n hx hb dL_two_331 rfl (lv_at hl 0 rfl) ?_
  refine lv_sipush (v := 600) hx hb dL_two_332 (by decide) ?_
  refine lv_sipush (v := 2200) hx hb dL_two_335 (by decide) ?_
  refine lv_sipush (v := 1540) hx hb dL_two_338 (by decide) ?_
  refine sl_sums C gL_two_L_sums dL_two_341 hl.1 (Nat.le_of_ble_eq_true rfl) ⟨Nat.le_trans (m := 800) (Nat.le_of_ble_eq_true rfl) hR.1, Nat.le_trans (m := 6000) (Nat.le_of_ble_eq_true rfl) hR.2⟩ hRS hJ 600 2200 1540 ((bwE_K hk_YT_YT5).trans (by decide +kernel)) (by decide +kernel) (by rw [bwE_K hk_YT_YT5]; decide +kernel) (fun H locs hJ => ?_)
  refine lv_if_eq (tgt := 616) hx hb dL_two_344 (by decide) (fun h => absurd h (by decide +kernel)) (fun _ => ?_)
  exact kk H locs ls hJ hl
set_option maxHeartbeats 4000000 in
set_option maxRecDepth 100000 in
theorem sg_two_3 (C : CJ p l R s m args c cL_two 2 wsL_two D cI cL cE cP A H0) (hRR : 40 ≤ R.frames ∧ 3000 ≤ R.locals) (hR : 800 ≤ R.cells ∧ 6000 ≤ R.slots) (hJ : LJ D cI cL cE cP A H0 o0 YT5 2 2 H locs) (hl : lv_has ls 2 [(0, .ref o0), (1, .int (-900000003))])
    (kk : ∀ (H : Heap) (locs : List Loc) (ls : Array Slot), LJ D cI cL cE cP A H0 o0 YT6 2 2 H locs → lv_has ls 2 [(0, .ref o0), (1, .int (-900000003))] → W p l e R s m args below meth c H locs 322 2363 Q (F0 m 442 ls [])) : W p l e R s m args below meth c H locs 312 2303 Q (F0 m 347 ls []) := by
  obtain ⟨hx, hb, hml, hown, hts, -⟩ := id C
  have hRS : 30 ≤ R.frames ∧ 2000 ≤ R.locals := ⟨Nat.le_trans (m := 40) (by decide) hRR.1, Nat.le_trans (m := 3000) (by decide) hRR.2⟩
  refine lv_aload_n hx hb dL_two_347 rfl (lv_at hl 0 rfl) ?_
  refine lv_iconst (v := 0) hx hb dL_two_348 (by decide) ?_
  refine sa_givenTo C gL_two_X3_givenTo dL_two_349 hl.1 (Nat.le_of_ble_eq_true rfl) ⟨Nat.le_trans (m := 800) (Nat.le_of_ble_eq_true rfl) hR.1, Nat.le_trans (m := 6000) (Nat.le_of_ble_eq_true rfl) hR.2⟩ hJ 0 0 (by decide +kernel) ((tkE_K hk_YT_YT5 _).trans (by decide +kernel)) (fun H locs hJ => ?_)
  refine lv_if_ne (tgt := 616) hx hb dL_two_352 (by decide) (fun h => absurd h (by decide +kernel)) (fun _ => ?_)
  refine lv_aload_n hx hb dL_two_355 rfl (lv_at hl 0 rfl) ?_
  refine lv_iconst (v := 1) hx hb dL_two_356 (by decide) ?_
  refine sa_givenTo C gL_two_X3_givenTo dL_two_357 hl.1 (Nat.le_of_ble_eq_true rfl) ⟨Nat.le_trans (m := 800) (Nat.le_of_ble_eq_true rfl) hR.1, Nat.le_trans (m := 6000) (Nat.le_of_ble_eq_true rfl) hR.2⟩ hJ 1 0 (by decide +kernel) ((tkE_K hk_YT_YT5 _).trans (by decide +kernel)) (fun H locs hJ => ?_)
  refine lv_if_ne (tgt := 616) hx hb dL_two_360 (by decide) (fun h => absurd h (by decide +kernel)) (fun _ => ?_)
  refine lv_aload_n hx hb dL_two_363 rfl (lv_at hl 0 rfl) ?_
  refine lv_iconst (v := 0) hx hb dL_two_364 (by decide) ?_
  refine lv_iconst (v := 0) hx hb dL_two_365 (by decide) ?_
  refine lv_iconst (v := 0) hx hb dL_two_366 (by decide) ?_
  refine sl_at C gL_two_L_at dL_two_367 hl.1 (Nat.le_of_ble_eq_true rfl) ⟨Nat.le_trans (m := 800) (Nat.le_of_ble_eq_true rfl) hR.1, Nat.le_trans (m := 6000) (Nat.le_of_ble_eq_true rfl) hR.2⟩ hRS hJ 0 0 0 (by decide +kernel) (by rw [gsL_K hk_YT_YT5]; decide +kernel) (by rw [gsL_K hk_YT_YT5]; decide +kernel) (fun H locs hJ => ?_)
  refine lv_if_eq (tgt := 616) hx hb dL_two_370 (by decide) (fun h => absurd h (by decide +kernel)) (fun _ => ?_)
  refine lv_aload_n hx hb dL_two_373 rfl (lv_at hl 0 rfl) ?_
  refine lv_iconst (v := 1) hx hb dL_two_374 (by decide) ?_
  refine lv_sipush (v := 1200) hx hb dL_two_375 (by decide) ?_
  refine lv_sipush (v := 600) hx hb dL_two_378 (by decide) ?_
  refine sl_at C gL_two_L_at dL_two_381 hl.1 (Nat.le_of_ble_eq_true rfl) ⟨Nat.le_trans (m := 800) (Nat.le_of_ble_eq_true rfl) hR.1, Nat.le_trans (m := 6000) (Nat.le_of_ble_eq_true rfl) hR.2⟩ hRS hJ 1 1200 600 (by decide +kernel) (by rw [gsL_K hk_YT_YT5]; decide +kernel) (by rw [gsL_K hk_YT_YT5]; decide +kernel) (fun H locs hJ => ?_)
  refine lv_if_eq (tgt := 616) hx hb dL_two_384 (by decide) (fun h => absurd h (by decide +kernel)) (fun _ => ?_)
  refine lv_aload_n hx hb dL_two_387 rfl (lv_at hl 0 rfl) ?_
  refine lv_iconst (v := 0) hx hb dL_two_388 (by decide) ?_
  refine sa_worth C gL_two_X3_worth dL_two_389 hl.1 (Nat.le_of_ble_eq_true rfl) ⟨Nat.le_trans (m := 800) (Nat.le_of_ble_eq_true rfl) hR.1, Nat.le_trans (m := 6000) (Nat.le_of_ble_eq_true rfl) hR.2⟩ hJ 0 116 (by decide +kernel) (by rw [woE_K2 (p := 0) (by decide) (by decide) (by decide +kernel) hw_YT_YT5_0, bwE_K hk_YT_YT5]; decide +kernel) (fun H locs hJ => ?_)
  refine lv_bipush (v := 116) hx hb dL_two_392 (by decide) ?_
  refine lv_icmp_ne (tgt := 616) hx hb dL_two_394 (by decide) (fun h => absurd h (by decide +kernel)) (fun _ => ?_)
  refine lv_aload_n hx hb dL_two_397 rfl (lv_at hl 0 rfl) ?_
  refine lv_iconst (v := 1) hx hb dL_two_398 (by decide) ?_
  refine sa_worth C gL_two_X3_worth dL_two_399 hl.1 (Nat.le_of_ble_eq_true rfl) ⟨Nat.le_trans (m := 800) (Nat.le_of_ble_eq_true rfl) hR.1, Nat.le_trans (m := 6000) (Nat.le_of_ble_eq_true rfl) hR.2⟩ hJ 1 360 (by decide +kernel) (by rw [woE_K2 (p := 1) (by decide) (by decide) (by decide +kernel) hw_YT_YT5_1, bwE_K hk_YT_YT5]; decide +kernel) (fun H locs hJ => ?_)
  refine lv_sipush (v := 360) hx hb dL_two_402 (by decide) ?_
  refine lv_icmp_ne (tgt := 616) hx hb dL_two_405 (by decide) (fun h => absurd h (by decide +kernel)) (fun _ => ?_)
  refine lv_aload_n hx hb dL_two_408 rfl (lv_at hl 0 rfl) ?_
  refine lv_iconst (v := 1) hx hb dL_two_409 (by decide) ?_
  refine lv_iconst (v := 3) hx hb dL_two_410 (by decide) ?_
  refine sa_setClass C gL_two_X3_setClass dL_two_411 hl.1 (Nat.le_of_ble_eq_true rfl) ⟨Nat.le_trans (m := 800) (Nat.le_of_ble_eq_true rfl) hR.1, Nat.le_trans (m := 6000) (Nat.le_of_ble_eq_true rfl) hR.2⟩ hJ 1 3 2 (by decide +kernel) (by decide +kernel) (fun H locs hJ => ?_)
  have hJ : LJ D cI cL cE cP A H0 o0 YT6 2 2 H locs := hJ
  refine lv_iconst (v := 2) hx hb dL_two_414 (by decide) ?_
  refine lv_icmp_ne (tgt := 616) hx hb dL_two_415 (by decide) (fun h => absurd h (by decide +kernel)) (fun _ => ?_)
  refine lv_aload_n hx hb dL_two_418 rfl (lv_at hl 0 rfl) ?_
  refine lv_sipush (v := 860) hx hb dL_two_419 (by decide) ?_
  refine lv_sipush (v := 2200) hx hb dL_two_422 (by decide) ?_
  refine lv_sipush (v := 1540) hx hb dL_two_425 (by decide) ?_
  refine sl_sums C gL_two_L_sums dL_two_428 hl.1 (Nat.le_of_ble_eq_true rfl) ⟨Nat.le_trans (m := 800) (Nat.le_of_ble_eq_true rfl) hR.1, Nat.le_trans (m := 6000) (Nat.le_of_ble_eq_true rfl) hR.2⟩ hRS hJ 860 2200 1540 ((bwE_K hk_YT_YT6).trans (by decide +kernel)) (by decide +kernel) (by rw [bwE_K hk_YT_YT6]; decide +kernel) (fun H locs hJ => ?_)
  refine lv_if_eq (tgt := 616) hx hb dL_two_431 (by decide) (fun h => absurd h (by decide +kernel)) (fun _ => ?_)
  refine lv_aload_n hx hb dL_two_434 rfl (lv_at hl 0 rfl) ?_
  refine lv_iconst (v := 0) hx hb dL_two_435 (by decide) ?_
  refine sa_givenTo C gL_two_X3_givenTo dL_two_436 hl.1 (Nat.le_of_ble_eq_true rfl) ⟨Nat.le_trans (m := 800) (Nat.le_of_ble_eq_true rfl) hR.1, Nat.le_trans (m := 6000) (Nat.le_of_ble_eq_true rfl) hR.2⟩ hJ 0 0 (by decide +kernel) ((tkE_K hk_YT_YT6 _).trans (by decide +kernel)) (fun H locs hJ => ?_)
  refine lv_if_ne (tgt := 616) hx hb dL_two_439 (by decide) (fun h => absurd h (by decide +kernel)) (fun _ => ?_)
  exact kk H locs ls hJ hl
set_option maxHeartbeats 4000000 in
set_option maxRecDepth 100000 in
theorem sg_two_4 (C : CJ p l R s m args c cL_two 2 wsL_two D cI cL cE cP A H0) (hRR : 40 ≤ R.frames ∧ 3000 ≤ R.locals) (hR : 800 ≤ R.cells ∧ 6000 ≤ R.slots) (hJ : LJ D cI cL cE cP A H0 o0 YT6 2 2 H locs) (hl : lv_has ls 2 [(0, .ref o0), (1, .int (-900000003))])
    (kk : ∀ (H : Heap) (locs : List Loc) (ls : Array Slot), LJ D cI cL cE cP A H0 o0 YT8 2 3 H locs → lv_has ls 2 [(0, .ref o0), (1, .int (-900000003))] → W p l e R s m args below meth c H locs 332 2423 Q (F0 m 547 ls [])) : W p l e R s m args below meth c H locs 322 2363 Q (F0 m 442 ls []) := by
  obtain ⟨hx, hb, hml, hown, hts, -⟩ := id C
  have hRS : 30 ≤ R.frames ∧ 2000 ≤ R.locals := ⟨Nat.le_trans (m := 40) (by decide) hRR.1, Nat.le_trans (m := 3000) (by decide) hRR.2⟩
  refine lv_aload_n hx hb dL_two_442 rfl (lv_at hl 0 rfl) ?_
  refine lv_iconst (v := 1) hx hb dL_two_443 (by decide) ?_
  refine sa_givenTo C gL_two_X3_givenTo dL_two_444 hl.1 (Nat.le_of_ble_eq_true rfl) ⟨Nat.le_trans (m := 800) (Nat.le_of_ble_eq_true rfl) hR.1, Nat.le_trans (m := 6000) (Nat.le_of_ble_eq_true rfl) hR.2⟩ hJ 1 1 (by decide +kernel) ((tkE_K hk_YT_YT6 _).trans (by decide +kernel)) (fun H locs hJ => ?_)
  refine lv_iconst (v := 1) hx hb dL_two_447 (by decide) ?_
  refine lv_icmp_ne (tgt := 616) hx hb dL_two_448 (by decide) (fun h => absurd h (by decide +kernel)) (fun _ => ?_)
  refine lv_aload_n hx hb dL_two_451 rfl (lv_at hl 0 rfl) ?_
  refine lv_iconst (v := 0) hx hb dL_two_452 (by decide) ?_
  refine lv_sipush (v := 600) hx hb dL_two_453 (by decide) ?_
  refine lv_sipush (v := 360) hx hb dL_two_456 (by decide) ?_
  refine sl_at C gL_two_L_at dL_two_459 hl.1 (Nat.le_of_ble_eq_true rfl) ⟨Nat.le_trans (m := 800) (Nat.le_of_ble_eq_true rfl) hR.1, Nat.le_trans (m := 6000) (Nat.le_of_ble_eq_true rfl) hR.2⟩ hRS hJ 0 600 360 (by decide +kernel) (by rw [gsL_K hk_YT_YT6]; decide +kernel) (by rw [gsL_K hk_YT_YT6]; decide +kernel) (fun H locs hJ => ?_)
  refine lv_if_eq (tgt := 616) hx hb dL_two_462 (by decide) (fun h => absurd h (by decide +kernel)) (fun _ => ?_)
  refine lv_aload_n hx hb dL_two_465 rfl (lv_at hl 0 rfl) ?_
  refine lv_iconst (v := 1) hx hb dL_two_466 (by decide) ?_
  refine lv_sipush (v := 500) hx hb dL_two_467 (by decide) ?_
  refine lv_sipush (v := 500) hx hb dL_two_470 (by decide) ?_
  refine sl_at C gL_two_L_at dL_two_473 hl.1 (Nat.le_of_ble_eq_true rfl) ⟨Nat.le_trans (m := 800) (Nat.le_of_ble_eq_true rfl) hR.1, Nat.le_trans (m := 6000) (Nat.le_of_ble_eq_true rfl) hR.2⟩ hRS hJ 1 500 500 (by decide +kernel) (by rw [gsL_K hk_YT_YT6]; decide +kernel) (by rw [gsL_K hk_YT_YT6]; decide +kernel) (fun H locs hJ => ?_)
  refine lv_if_eq (tgt := 616) hx hb dL_two_476 (by decide) (fun h => absurd h (by decide +kernel)) (fun _ => ?_)
  refine lv_aload_n hx hb dL_two_479 rfl (lv_at hl 0 rfl) ?_
  refine lv_bipush (v := 30) hx hb dL_two_480 (by decide) ?_
  refine sa_setFloor C gL_two_X3_setFloor dL_two_482 hl.1 (Nat.le_of_ble_eq_true rfl) ⟨Nat.le_trans (m := 800) (Nat.le_of_ble_eq_true rfl) hR.1, Nat.le_trans (m := 6000) (Nat.le_of_ble_eq_true rfl) hR.2⟩ hJ 30 70 (by decide +kernel) (by decide +kernel) (fun H locs hJ => ?_)
  have hJ : LJ D cI cL cE cP A H0 o0 YT7 2 2 H locs := hJ
  refine lv_bipush (v := 70) hx hb dL_two_485 (by decide) ?_
  refine lv_icmp_ne (tgt := 616) hx hb dL_two_487 (by decide) (fun h => absurd h (by decide +kernel)) (fun _ => ?_)
  refine lv_aload_n hx hb dL_two_490 rfl (lv_at hl 0 rfl) ?_
  refine lv_sipush (v := 860) hx hb dL_two_491 (by decide) ?_
  refine lv_sipush (v := 2200) hx hb dL_two_494 (by decide) ?_
  refine lv_sipush (v := 860) hx hb dL_two_497 (by decide) ?_
  refine sl_sums C gL_two_L_sums dL_two_500 hl.1 (Nat.le_of_ble_eq_true rfl) ⟨Nat.le_trans (m := 800) (Nat.le_of_ble_eq_true rfl) hR.1, Nat.le_trans (m := 6000) (Nat.le_of_ble_eq_true rfl) hR.2⟩ hRS hJ 860 2200 860 ((bwE_K hk_YT_YT7).trans (by decide +kernel)) (by decide +kernel) (by rw [bwE_K hk_YT_YT7]; decide +kernel) (fun H locs hJ => ?_)
  refine lv_if_eq (tgt := 616) hx hb dL_two_503 (by decide) (fun h => absurd h (by decide +kernel)) (fun _ => ?_)
  refine lv_aload_n hx hb dL_two_506 rfl (lv_at hl 0 rfl) ?_
  refine lv_iconst (v := 1) hx hb dL_two_507 (by decide) ?_
  refine lv_bipush (v := 100) hx hb dL_two_508 (by decide) ?_
  refine lv_iconst (v := 0) hx hb dL_two_510 (by decide) ?_
  refine lv_iconst (v := 1) hx hb dL_two_511 (by decide) ?_
  refine lv_sipush (v := 255) hx hb dL_two_512 (by decide) ?_
  refine sa_addPiece C gL_two_X3_addPiece dL_two_515 hl.1 (Nat.le_of_ble_eq_true rfl) ⟨Nat.le_trans (m := 800) (Nat.le_of_ble_eq_true rfl) hR.1, Nat.le_trans (m := 6000) (Nat.le_of_ble_eq_true rfl) hR.2⟩ hJ 1 100 0 1 255 2 (by decide +kernel) (by decide +kernel) (fun H locs hJ => ?_)
  have hJ : LJ D cI cL cE cP A H0 o0 YT8 2 3 H locs := hJ
  refine lv_iconst (v := 2) hx hb dL_two_518 (by decide) ?_
  refine lv_icmp_ne (tgt := 616) hx hb dL_two_519 (by decide) (fun h => absurd h (by decide +kernel)) (fun _ => ?_)
  refine lv_aload_n hx hb dL_two_522 rfl (lv_at hl 0 rfl) ?_
  refine lv_iconst (v := 2) hx hb dL_two_523 (by decide) ?_
  refine lv_iconst (v := 1) hx hb dL_two_524 (by decide) ?_
  refine sa_value C gL_two_X3_value dL_two_525 hl.1 (Nat.le_of_ble_eq_true rfl) ⟨Nat.le_trans (m := 800) (Nat.le_of_ble_eq_true rfl) hR.1, Nat.le_trans (m := 6000) (Nat.le_of_ble_eq_true rfl) hR.2⟩ hJ 2 1 0 (by decide +kernel) (by decide +kernel) (fun H locs hJ => ?_)
  refine lv_if_ne (tgt := 616) hx hb dL_two_528 (by decide) (fun h => absurd h (by decide +kernel)) (fun _ => ?_)
  refine lv_aload_n hx hb dL_two_531 rfl (lv_at hl 0 rfl) ?_
  refine lv_iconst (v := 2) hx hb dL_two_532 (by decide) ?_
  refine sa_givenTo C gL_two_X3_givenTo dL_two_533 hl.1 (Nat.le_of_ble_eq_true rfl) ⟨Nat.le_trans (m := 800) (Nat.le_of_ble_eq_true rfl) hR.1, Nat.le_trans (m := 6000) (Nat.le_of_ble_eq_true rfl) hR.2⟩ hJ 2 0 (by decide +kernel) ((tkE_K hk_YT_YT8 _).trans (by decide +kernel)) (fun H locs hJ => ?_)
  refine lv_if_ne (tgt := 616) hx hb dL_two_536 (by decide) (fun h => absurd h (by decide +kernel)) (fun _ => ?_)
  refine lv_aload_n hx hb dL_two_539 rfl (lv_at hl 0 rfl) ?_
  refine lv_iconst (v := 2) hx hb dL_two_540 (by decide) ?_
  refine sa_worth C gL_two_X3_worth dL_two_541 hl.1 (Nat.le_of_ble_eq_true rfl) ⟨Nat.le_trans (m := 800) (Nat.le_of_ble_eq_true rfl) hR.1, Nat.le_trans (m := 6000) (Nat.le_of_ble_eq_true rfl) hR.2⟩ hJ 2 0 (by decide +kernel) (by rw [woE_K2 (p := 2) (by decide) (by decide) (by decide +kernel) hw_YT_YT8_2, bwE_K hk_YT_YT8]; decide +kernel) (fun H locs hJ => ?_)
  refine lv_if_ne (tgt := 616) hx hb dL_two_544 (by decide) (fun h => absurd h (by decide +kernel)) (fun _ => ?_)
  exact kk H locs ls hJ hl
set_option maxHeartbeats 4000000 in
set_option maxRecDepth 100000 in
theorem sg_two_5 (C : CJ p l R s m args c cL_two 2 wsL_two D cI cL cE cP A H0) (hRR : 40 ≤ R.frames ∧ 3000 ≤ R.locals) (hR : 800 ≤ R.cells ∧ 6000 ≤ R.slots) (hJ : LJ D cI cL cE cP A H0 o0 YT8 2 3 H locs) (hl : lv_has ls 2 [(0, .ref o0), (1, .int (-900000003))])
    (kk : ∀ (H : Heap) (locs : List Loc) (ls : Array Slot), LJ D cI cL cE cP A H0 o0 YT11 2 3 H locs → lv_has ls 2 [(0, .ref o0), (1, .int (-900000003))] → W p l e R s m args below meth c H locs 480 3371 Q (F0 m 640 ls [])) : W p l e R s m args below meth c H locs 332 2423 Q (F0 m 547 ls []) := by
  obtain ⟨hx, hb, hml, hown, hts, -⟩ := id C
  have hRS : 30 ≤ R.frames ∧ 2000 ≤ R.locals := ⟨Nat.le_trans (m := 40) (by decide) hRR.1, Nat.le_trans (m := 3000) (by decide) hRR.2⟩
  refine lv_aload_n hx hb dL_two_547 rfl (lv_at hl 0 rfl) ?_
  refine lv_iconst (v := 2) hx hb dL_two_548 (by decide) ?_
  refine lv_iconst (v := 1) hx hb dL_two_549 (by decide) ?_
  refine lv_iconst (v := 2) hx hb dL_two_550 (by decide) ?_
  refine sa_setPiece C gL_two_X3_setPiece dL_two_551 hl.1 (Nat.le_of_ble_eq_true rfl) ⟨Nat.le_trans (m := 800) (Nat.le_of_ble_eq_true rfl) hR.1, Nat.le_trans (m := 6000) (Nat.le_of_ble_eq_true rfl) hR.2⟩ hJ 2 1 2 1 (by decide +kernel) (by decide +kernel) (fun H locs hJ => ?_)
  have hJ : LJ D cI cL cE cP A H0 o0 YT9 2 3 H locs := hJ
  refine lv_iconst (v := 1) hx hb dL_two_554 (by decide) ?_
  refine lv_icmp_ne (tgt := 616) hx hb dL_two_555 (by decide) (fun h => absurd h (by decide +kernel)) (fun _ => ?_)
  refine lv_aload_n hx hb dL_two_558 rfl (lv_at hl 0 rfl) ?_
  refine lv_iconst (v := 2) hx hb dL_two_559 (by decide) ?_
  refine sa_givenTo C gL_two_X3_givenTo dL_two_560 hl.1 (Nat.le_of_ble_eq_true rfl) ⟨Nat.le_trans (m := 800) (Nat.le_of_ble_eq_true rfl) hR.1, Nat.le_trans (m := 6000) (Nat.le_of_ble_eq_true rfl) hR.2⟩ hJ 2 1 (by decide +kernel) ((tkE_K hk_YT_YT9 _).trans (by decide +kernel)) (fun H locs hJ => ?_)
  refine lv_iconst (v := 1) hx hb dL_two_563 (by decide) ?_
  refine lv_icmp_ne (tgt := 616) hx hb dL_two_564 (by decide) (fun h => absurd h (by decide +kernel)) (fun _ => ?_)
  refine lv_aload_n hx hb dL_two_567 rfl (lv_at hl 0 rfl) ?_
  refine lv_iconst (v := 2) hx hb dL_two_568 (by decide) ?_
  refine lv_iconst (v := 5) hx hb dL_two_569 (by decide) ?_
  refine lv_sipush (v := 252) hx hb dL_two_570 (by decide) ?_
  refine sa_setPiece C gL_two_X3_setPiece dL_two_573 hl.1 (Nat.le_of_ble_eq_true rfl) ⟨Nat.le_trans (m := 800) (Nat.le_of_ble_eq_true rfl) hR.1, Nat.le_trans (m := 6000) (Nat.le_of_ble_eq_true rfl) hR.2⟩ hJ 2 5 252 1 (by decide +kernel) (by decide +kernel) (fun H locs hJ => ?_)
  have hJ : LJ D cI cL cE cP A H0 o0 YT10 2 3 H locs := hJ
  refine lv_iconst (v := 1) hx hb dL_two_576 (by decide) ?_
  refine lv_icmp_ne (tgt := 616) hx hb dL_two_577 (by decide) (fun h => absurd h (by decide +kernel)) (fun _ => ?_)
  refine lv_aload_n hx hb dL_two_580 rfl (lv_at hl 0 rfl) ?_
  refine lv_iconst (v := 2) hx hb dL_two_581 (by decide) ?_
  refine sa_givenTo C gL_two_X3_givenTo dL_two_582 hl.1 (Nat.le_of_ble_eq_true rfl) ⟨Nat.le_trans (m := 800) (Nat.le_of_ble_eq_true rfl) hR.1, Nat.le_trans (m := 6000) (Nat.le_of_ble_eq_true rfl) hR.2⟩ hJ 2 (-1) (by decide +kernel) ((tkE_K hk_YT_YT10 _).trans (by decide +kernel)) (fun H locs hJ => ?_)
  refine lv_iconst (v := (-1)) hx hb dL_two_585 (by decide) ?_
  refine lv_icmp_ne (tgt := 616) hx hb dL_two_586 (by decide) (fun h => absurd h (by decide +kernel)) (fun _ => ?_)
  refine lv_aload_n hx hb dL_two_589 rfl (lv_at hl 0 rfl) ?_
  refine lv_iconst (v := 2) hx hb dL_two_590 (by decide) ?_
  refine lv_iconst (v := 1) hx hb dL_two_591 (by decide) ?_
  refine lv_iconst (v := 0) hx hb dL_two_592 (by decide) ?_
  refine sa_setPiece C gL_two_X3_setPiece dL_two_593 hl.1 (Nat.le_of_ble_eq_true rfl) ⟨Nat.le_trans (m := 800) (Nat.le_of_ble_eq_true rfl) hR.1, Nat.le_trans (m := 6000) (Nat.le_of_ble_eq_true rfl) hR.2⟩ hJ 2 1 0 5 (by decide +kernel) (by decide +kernel) (fun H locs hJ => ?_)
  have hJ : LJ D cI cL cE cP A H0 o0 YT11 2 3 H locs := hJ
  refine lv_iconst (v := 5) hx hb dL_two_596 (by decide) ?_
  refine lv_icmp_ne (tgt := 616) hx hb dL_two_597 (by decide) (fun h => absurd h (by decide +kernel)) (fun _ => ?_)
  refine lv_aload_n hx hb dL_two_600 rfl (lv_at hl 0 rfl) ?_
  refine lv_iconst (v := 2) hx hb dL_two_601 (by decide) ?_
  refine sa_givenTo C gL_two_X3_givenTo dL_two_602 hl.1 (Nat.le_of_ble_eq_true rfl) ⟨Nat.le_trans (m := 800) (Nat.le_of_ble_eq_true rfl) hR.1, Nat.le_trans (m := 6000) (Nat.le_of_ble_eq_true rfl) hR.2⟩ hJ 2 (-1) (by decide +kernel) ((tkE_K hk_YT_YT11 _).trans (by decide +kernel)) (fun H locs hJ => ?_)
  refine lv_iconst (v := (-1)) hx hb dL_two_605 (by decide) ?_
  refine lv_icmp_ne (tgt := 616) hx hb dL_two_606 (by decide) (fun h => absurd h (by decide +kernel)) (fun _ => ?_)
  refine lv_aload_n hx hb dL_two_609 rfl (lv_at hl 0 rfl) ?_
  refine sl_refuses C gL_two_L_refuses dL_two_610 hl.1 (Nat.le_of_ble_eq_true rfl) ⟨Nat.le_trans (m := 800) (Nat.le_of_ble_eq_true rfl) hR.1, Nat.le_trans (m := 6000) (Nat.le_of_ble_eq_true rfl) hR.2⟩ hRR hJ (fun H locs hJ => ?_)
  refine lv_if_ne (tgt := 618) hx hb dL_two_613 (by decide) (fun _ => ?_) (fun h => absurd h (by decide +kernel))
  refine lv_aload_n hx hb dL_two_618 rfl (lv_at hl 0 rfl) ?_
  refine lv_iconst (v := 0) hx hb dL_two_619 (by decide) ?_
  refine sa_partyBare C gL_two_X3_partyBare dL_two_620 hl.1 (Nat.le_of_ble_eq_true rfl) ⟨Nat.le_trans (m := 800) (Nat.le_of_ble_eq_true rfl) hR.1, Nat.le_trans (m := 6000) (Nat.le_of_ble_eq_true rfl) hR.2⟩ hJ 0 600 (by decide +kernel) ((bpL_K hk_YT_YT11 _ _).trans (by decide +kernel)) (fun H locs hJ => ?_)
  refine lv_sipush (v := 600) hx hb dL_two_623 (by decide) ?_
  refine lv_icmp_ne (tgt := 960) hx hb dL_two_626 (by decide) (fun h => absurd h (by decide +kernel)) (fun _ => ?_)
  refine lv_aload_n hx hb dL_two_629 rfl (lv_at hl 0 rfl) ?_
  refine lv_iconst (v := 1) hx hb dL_two_630 (by decide) ?_
  refine sa_partyBare C gL_two_X3_partyBare dL_two_631 hl.1 (Nat.le_of_ble_eq_true rfl) ⟨Nat.le_trans (m := 800) (Nat.le_of_ble_eq_true rfl) hR.1, Nat.le_trans (m := 6000) (Nat.le_of_ble_eq_true rfl) hR.2⟩ hJ 1 500 (by decide +kernel) ((bpL_K hk_YT_YT11 _ _).trans (by decide +kernel)) (fun H locs hJ => ?_)
  refine lv_sipush (v := 500) hx hb dL_two_634 (by decide) ?_
  refine lv_icmp_ne (tgt := 960) hx hb dL_two_637 (by decide) (fun h => absurd h (by decide +kernel)) (fun _ => ?_)
  exact kk H locs ls hJ hl
set_option maxHeartbeats 4000000 in
set_option maxRecDepth 100000 in
theorem sg_two_6 (C : CJ p l R s m args c cL_two 2 wsL_two D cI cL cE cP A H0) (hRR : 40 ≤ R.frames ∧ 3000 ≤ R.locals) (hR : 800 ≤ R.cells ∧ 6000 ≤ R.slots) (hJ : LJ D cI cL cE cP A H0 o0 YT11 2 3 H locs) (hl : lv_has ls 2 [(0, .ref o0), (1, .int (-900000003))])
    (kk : ∀ (H : Heap) (locs : List Loc) (ls : Array Slot), LJ D cI cL cE cP A H0 o0 YT16 2 3 H locs → lv_has ls 2 [(0, .ref o0), (1, .int (-900000003))] → W p l e R s m args below meth c H locs 486 3407 Q (F0 m 738 ls [])) : W p l e R s m args below meth c H locs 480 3371 Q (F0 m 640 ls []) := by
  obtain ⟨hx, hb, hml, hown, hts, -⟩ := id C
  have hRS : 30 ≤ R.frames ∧ 2000 ≤ R.locals := ⟨Nat.le_trans (m := 40) (by decide) hRR.1, Nat.le_trans (m := 3000) (by decide) hRR.2⟩
  refine lv_aload_n hx hb dL_two_640 rfl (lv_at hl 0 rfl) ?_
  refine lv_sipush (v := 2400) hx hb dL_two_641 (by decide) ?_
  refine sa_setCapital C gL_two_X3_setCapital dL_two_644 hl.1 (Nat.le_of_ble_eq_true rfl) ⟨Nat.le_trans (m := 800) (Nat.le_of_ble_eq_true rfl) hR.1, Nat.le_trans (m := 6000) (Nat.le_of_ble_eq_true rfl) hR.2⟩ hJ 2400 0 (by decide +kernel) (by decide +kernel) (fun H locs hJ => ?_)
  have hJ : LJ D cI cL cE cP A H0 o0 YT12 2 3 H locs := hJ
  refine lv_if_ne (tgt := 960) hx hb dL_two_647 (by decide) (fun h => absurd h (by decide +kernel)) (fun _ => ?_)
  refine lv_aload_n hx hb dL_two_650 rfl (lv_at hl 0 rfl) ?_
  refine sa_tooLarge C gL_two_X3_tooLarge dL_two_651 hl.1 (Nat.le_of_ble_eq_true rfl) ⟨Nat.le_trans (m := 800) (Nat.le_of_ble_eq_true rfl) hR.1, Nat.le_trans (m := 6000) (Nat.le_of_ble_eq_true rfl) hR.2⟩ hJ 0 ((tlL_K hk_YT_YT12 4).trans (by decide +kernel)) (fun H locs hJ => ?_)
  refine lv_if_ne (tgt := 960) hx hb dL_two_654 (by decide) (fun h => absurd h (by decide +kernel)) (fun _ => ?_)
  refine lv_aload_n hx hb dL_two_657 rfl (lv_at hl 0 rfl) ?_
  refine lv_sipush (v := 2399) hx hb dL_two_658 (by decide) ?_
  refine sa_setCapital C gL_two_X3_setCapital dL_two_661 hl.1 (Nat.le_of_ble_eq_true rfl) ⟨Nat.le_trans (m := 800) (Nat.le_of_ble_eq_true rfl) hR.1, Nat.le_trans (m := 6000) (Nat.le_of_ble_eq_true rfl) hR.2⟩ hJ 2399 2400 (by decide +kernel) (by decide +kernel) (fun H locs hJ => ?_)
  have hJ : LJ D cI cL cE cP A H0 o0 YT13 2 3 H locs := hJ
  refine lv_sipush (v := 2400) hx hb dL_two_664 (by decide) ?_
  refine lv_icmp_ne (tgt := 960) hx hb dL_two_667 (by decide) (fun h => absurd h (by decide +kernel)) (fun _ => ?_)
  refine lv_aload_n hx hb dL_two_670 rfl (lv_at hl 0 rfl) ?_
  refine sa_tooLarge C gL_two_X3_tooLarge dL_two_671 hl.1 (Nat.le_of_ble_eq_true rfl) ⟨Nat.le_trans (m := 800) (Nat.le_of_ble_eq_true rfl) hR.1, Nat.le_trans (m := 6000) (Nat.le_of_ble_eq_true rfl) hR.2⟩ hJ 1 ((tlL_K hk_YT_YT13 4).trans (by decide +kernel)) (fun H locs hJ => ?_)
  refine lv_iconst (v := 1) hx hb dL_two_674 (by decide) ?_
  refine lv_icmp_ne (tgt := 960) hx hb dL_two_675 (by decide) (fun h => absurd h (by decide +kernel)) (fun _ => ?_)
  refine lv_aload_n hx hb dL_two_678 rfl (lv_at hl 0 rfl) ?_
  refine lv_sipush (v := 1999) hx hb dL_two_679 (by decide) ?_
  refine sa_setCapital C gL_two_X3_setCapital dL_two_682 hl.1 (Nat.le_of_ble_eq_true rfl) ⟨Nat.le_trans (m := 800) (Nat.le_of_ble_eq_true rfl) hR.1, Nat.le_trans (m := 6000) (Nat.le_of_ble_eq_true rfl) hR.2⟩ hJ 1999 2399 (by decide +kernel) (by decide +kernel) (fun H locs hJ => ?_)
  have hJ : LJ D cI cL cE cP A H0 o0 YT14 2 3 H locs := hJ
  refine lv_sipush (v := 2399) hx hb dL_two_685 (by decide) ?_
  refine lv_icmp_ne (tgt := 960) hx hb dL_two_688 (by decide) (fun h => absurd h (by decide +kernel)) (fun _ => ?_)
  refine lv_aload_n hx hb dL_two_691 rfl (lv_at hl 0 rfl) ?_
  refine sa_tooLarge C gL_two_X3_tooLarge dL_two_692 hl.1 (Nat.le_of_ble_eq_true rfl) ⟨Nat.le_trans (m := 800) (Nat.le_of_ble_eq_true rfl) hR.1, Nat.le_trans (m := 6000) (Nat.le_of_ble_eq_true rfl) hR.2⟩ hJ 3 ((tlL_K hk_YT_YT14 4).trans (by decide +kernel)) (fun H locs hJ => ?_)
  refine lv_iconst (v := 3) hx hb dL_two_695 (by decide) ?_
  refine lv_icmp_ne (tgt := 960) hx hb dL_two_696 (by decide) (fun h => absurd h (by decide +kernel)) (fun _ => ?_)
  refine lv_aload_n hx hb dL_two_699 rfl (lv_at hl 0 rfl) ?_
  refine lv_iconst (v := 1) hx hb dL_two_700 (by decide) ?_
  refine lv_sipush (v := 300) hx hb dL_two_701 (by decide) ?_
  refine sa_draw C gL_two_X3_draw dL_two_704 hl.1 (Nat.le_of_ble_eq_true rfl) ⟨Nat.le_trans (m := 800) (Nat.le_of_ble_eq_true rfl) hR.1, Nat.le_trans (m := 6000) (Nat.le_of_ble_eq_true rfl) hR.2⟩ hJ 1 300 1300 (by decide +kernel) (by decide +kernel) (fun H locs hJ => ?_)
  have hJ : LJ D cI cL cE cP A H0 o0 YT15 2 3 H locs := hJ
  refine lv_sipush (v := 1300) hx hb dL_two_707 (by decide) ?_
  refine lv_icmp_ne (tgt := 960) hx hb dL_two_710 (by decide) (fun h => absurd h (by decide +kernel)) (fun _ => ?_)
  refine lv_aload_n hx hb dL_two_713 rfl (lv_at hl 0 rfl) ?_
  refine lv_iconst (v := 1) hx hb dL_two_714 (by decide) ?_
  refine sa_amount C gL_two_X3_amount dL_two_715 hl.1 (Nat.le_of_ble_eq_true rfl) ⟨Nat.le_trans (m := 800) (Nat.le_of_ble_eq_true rfl) hR.1, Nat.le_trans (m := 6000) (Nat.le_of_ble_eq_true rfl) hR.2⟩ hJ 1 1380 (by decide +kernel) (by decide +kernel) (fun H locs hJ => ?_)
  refine lv_sipush (v := 1380) hx hb dL_two_718 (by decide) ?_
  refine lv_icmp_ne (tgt := 960) hx hb dL_two_721 (by decide) (fun h => absurd h (by decide +kernel)) (fun _ => ?_)
  refine lv_aload_n hx hb dL_two_724 rfl (lv_at hl 0 rfl) ?_
  refine lv_iconst (v := 1) hx hb dL_two_725 (by decide) ?_
  refine lv_bipush (v := 100) hx hb dL_two_726 (by decide) ?_
  refine lv_bipush (v := 50) hx hb dL_two_728 (by decide) ?_
  refine sa_setWeights C gL_two_X3_setWeights dL_two_730 hl.1 (Nat.le_of_ble_eq_true rfl) ⟨Nat.le_trans (m := 800) (Nat.le_of_ble_eq_true rfl) hR.1, Nat.le_trans (m := 6000) (Nat.le_of_ble_eq_true rfl) hR.2⟩ hJ 1 100 50 20 (by decide +kernel) (by decide +kernel) (fun H locs hJ => ?_)
  have hJ : LJ D cI cL cE cP A H0 o0 YT16 2 3 H locs := hJ
  refine lv_bipush (v := 20) hx hb dL_two_733 (by decide) ?_
  refine lv_icmp_ne (tgt := 960) hx hb dL_two_735 (by decide) (fun h => absurd h (by decide +kernel)) (fun _ => ?_)
  exact kk H locs ls hJ hl
set_option maxHeartbeats 4000000 in
set_option maxRecDepth 100000 in
theorem sg_two_7 (C : CJ p l R s m args c cL_two 2 wsL_two D cI cL cE cP A H0) (hRR : 40 ≤ R.frames ∧ 3000 ≤ R.locals) (hR : 800 ≤ R.cells ∧ 6000 ≤ R.slots) (hJ : LJ D cI cL cE cP A H0 o0 YT16 2 3 H locs) (hl : lv_has ls 2 [(0, .ref o0), (1, .int (-900000003))])
    (kk : ∀ (H : Heap) (locs : List Loc) (ls : Array Slot), LJ D cI cL cE cP A H0 o0 YT20 2 3 H locs → lv_has ls 2 [(0, .ref o0), (1, .int (-900000003))] → W p l e R s m args below meth c H locs 498 3479 Q (F0 m 855 ls [])) : W p l e R s m args below meth c H locs 486 3407 Q (F0 m 738 ls []) := by
  obtain ⟨hx, hb, hml, hown, hts, -⟩ := id C
  have hRS : 30 ≤ R.frames ∧ 2000 ≤ R.locals := ⟨Nat.le_trans (m := 40) (by decide) hRR.1, Nat.le_trans (m := 3000) (by decide) hRR.2⟩
  refine lv_aload_n hx hb dL_two_738 rfl (lv_at hl 0 rfl) ?_
  refine lv_iconst (v := 0) hx hb dL_two_739 (by decide) ?_
  refine lv_sipush (v := 600) hx hb dL_two_740 (by decide) ?_
  refine lv_sipush (v := 600) hx hb dL_two_743 (by decide) ?_
  refine sl_at C gL_two_L_at dL_two_746 hl.1 (Nat.le_of_ble_eq_true rfl) ⟨Nat.le_trans (m := 800) (Nat.le_of_ble_eq_true rfl) hR.1, Nat.le_trans (m := 6000) (Nat.le_of_ble_eq_true rfl) hR.2⟩ hRS hJ 0 600 600 (by decide +kernel) (by rw [gsL_K hk_YT_YT16]; decide +kernel) (by rw [gsL_K hk_YT_YT16]; decide +kernel) (fun H locs hJ => ?_)
  refine lv_if_eq (tgt := 960) hx hb dL_two_749 (by decide) (fun h => absurd h (by decide +kernel)) (fun _ => ?_)
  refine lv_aload_n hx hb dL_two_752 rfl (lv_at hl 0 rfl) ?_
  refine lv_iconst (v := 1) hx hb dL_two_753 (by decide) ?_
  refine lv_bipush (v := 99) hx hb dL_two_754 (by decide) ?_
  refine lv_bipush (v := 50) hx hb dL_two_756 (by decide) ?_
  refine sa_setWeights C gL_two_X3_setWeights dL_two_758 hl.1 (Nat.le_of_ble_eq_true rfl) ⟨Nat.le_trans (m := 800) (Nat.le_of_ble_eq_true rfl) hR.1, Nat.le_trans (m := 6000) (Nat.le_of_ble_eq_true rfl) hR.2⟩ hJ 1 99 50 100 (by decide +kernel) (by decide +kernel) (fun H locs hJ => ?_)
  have hJ : LJ D cI cL cE cP A H0 o0 YT17 2 3 H locs := hJ
  refine lv_bipush (v := 100) hx hb dL_two_761 (by decide) ?_
  refine lv_icmp_ne (tgt := 960) hx hb dL_two_763 (by decide) (fun h => absurd h (by decide +kernel)) (fun _ => ?_)
  refine lv_aload_n hx hb dL_two_766 rfl (lv_at hl 0 rfl) ?_
  refine lv_iconst (v := 0) hx hb dL_two_767 (by decide) ?_
  refine lv_sipush (v := 600) hx hb dL_two_768 (by decide) ?_
  refine lv_sipush (v := 597) hx hb dL_two_771 (by decide) ?_
  refine sl_at C gL_two_L_at dL_two_774 hl.1 (Nat.le_of_ble_eq_true rfl) ⟨Nat.le_trans (m := 800) (Nat.le_of_ble_eq_true rfl) hR.1, Nat.le_trans (m := 6000) (Nat.le_of_ble_eq_true rfl) hR.2⟩ hRS hJ 0 600 597 (by decide +kernel) (by rw [gsL_K hk_YT_YT17]; decide +kernel) (by rw [gsL_K hk_YT_YT17]; decide +kernel) (fun H locs hJ => ?_)
  refine lv_if_eq (tgt := 960) hx hb dL_two_777 (by decide) (fun h => absurd h (by decide +kernel)) (fun _ => ?_)
  refine lv_aload_n hx hb dL_two_780 rfl (lv_at hl 0 rfl) ?_
  refine lv_iconst (v := 0) hx hb dL_two_781 (by decide) ?_
  refine lv_iconst (v := 3) hx hb dL_two_782 (by decide) ?_
  refine lv_bipush (v := 50) hx hb dL_two_783 (by decide) ?_
  refine sa_guarantee C gL_two_X3_guarantee dL_two_785 hl.1 (Nat.le_of_ble_eq_true rfl) ⟨Nat.le_trans (m := 800) (Nat.le_of_ble_eq_true rfl) hR.1, Nat.le_trans (m := 6000) (Nat.le_of_ble_eq_true rfl) hR.2⟩ hJ 0 3 50 300 (by decide +kernel) (by decide +kernel) (fun H locs hJ => ?_)
  have hJ : LJ D cI cL cE cP A H0 o0 YT18 2 3 H locs := hJ
  refine lv_sipush (v := 300) hx hb dL_two_788 (by decide) ?_
  refine lv_icmp_ne (tgt := 960) hx hb dL_two_791 (by decide) (fun h => absurd h (by decide +kernel)) (fun _ => ?_)
  refine lv_aload_n hx hb dL_two_794 rfl (lv_at hl 0 rfl) ?_
  refine lv_iconst (v := 0) hx hb dL_two_795 (by decide) ?_
  refine lv_sipush (v := 600) hx hb dL_two_796 (by decide) ?_
  refine lv_sipush (v := 600) hx hb dL_two_799 (by decide) ?_
  refine sl_at C gL_two_L_at dL_two_802 hl.1 (Nat.le_of_ble_eq_true rfl) ⟨Nat.le_trans (m := 800) (Nat.le_of_ble_eq_true rfl) hR.1, Nat.le_trans (m := 6000) (Nat.le_of_ble_eq_true rfl) hR.2⟩ hRS hJ 0 600 600 (by decide +kernel) (by rw [gsL_K hk_YT_YT18]; decide +kernel) (by rw [gsL_K hk_YT_YT18]; decide +kernel) (fun H locs hJ => ?_)
  refine lv_if_eq (tgt := 960) hx hb dL_two_805 (by decide) (fun h => absurd h (by decide +kernel)) (fun _ => ?_)
  refine lv_aload_n hx hb dL_two_808 rfl (lv_at hl 0 rfl) ?_
  refine lv_iconst (v := 0) hx hb dL_two_809 (by decide) ?_
  refine lv_iconst (v := 0) hx hb dL_two_810 (by decide) ?_
  refine lv_iconst (v := 0) hx hb dL_two_811 (by decide) ?_
  refine sa_guarantee C gL_two_X3_guarantee dL_two_812 hl.1 (Nat.le_of_ble_eq_true rfl) ⟨Nat.le_trans (m := 800) (Nat.le_of_ble_eq_true rfl) hR.1, Nat.le_trans (m := 6000) (Nat.le_of_ble_eq_true rfl) hR.2⟩ hJ 0 0 0 50 (by decide +kernel) (by decide +kernel) (fun H locs hJ => ?_)
  have hJ : LJ D cI cL cE cP A H0 o0 YT19 2 3 H locs := hJ
  refine lv_bipush (v := 50) hx hb dL_two_815 (by decide) ?_
  refine lv_icmp_ne (tgt := 960) hx hb dL_two_817 (by decide) (fun h => absurd h (by decide +kernel)) (fun _ => ?_)
  refine lv_aload_n hx hb dL_two_820 rfl (lv_at hl 0 rfl) ?_
  refine lv_iconst (v := 0) hx hb dL_two_821 (by decide) ?_
  refine lv_sipush (v := 600) hx hb dL_two_822 (by decide) ?_
  refine lv_sipush (v := 600) hx hb dL_two_825 (by decide) ?_
  refine sl_at C gL_two_L_at dL_two_828 hl.1 (Nat.le_of_ble_eq_true rfl) ⟨Nat.le_trans (m := 800) (Nat.le_of_ble_eq_true rfl) hR.1, Nat.le_trans (m := 6000) (Nat.le_of_ble_eq_true rfl) hR.2⟩ hRS hJ 0 600 600 (by decide +kernel) (by rw [gsL_K hk_YT_YT19]; decide +kernel) (by rw [gsL_K hk_YT_YT19]; decide +kernel) (fun H locs hJ => ?_)
  refine lv_if_eq (tgt := 960) hx hb dL_two_831 (by decide) (fun h => absurd h (by decide +kernel)) (fun _ => ?_)
  refine lv_aload_n hx hb dL_two_834 rfl (lv_at hl 0 rfl) ?_
  refine lv_iconst (v := 3) hx hb dL_two_835 (by decide) ?_
  refine lv_sipush (v := 400) hx hb dL_two_836 (by decide) ?_
  refine lv_iconst (v := 0) hx hb dL_two_839 (by decide) ?_
  refine sa_setWeights C gL_two_X3_setWeights dL_two_840 hl.1 (Nat.le_of_ble_eq_true rfl) ⟨Nat.le_trans (m := 800) (Nat.le_of_ble_eq_true rfl) hR.1, Nat.le_trans (m := 6000) (Nat.le_of_ble_eq_true rfl) hR.2⟩ hJ 3 400 0 100 (by decide +kernel) (by decide +kernel) (fun H locs hJ => ?_)
  have hJ : LJ D cI cL cE cP A H0 o0 YT20 2 3 H locs := hJ
  refine lv_bipush (v := 100) hx hb dL_two_843 (by decide) ?_
  refine lv_icmp_ne (tgt := 960) hx hb dL_two_845 (by decide) (fun h => absurd h (by decide +kernel)) (fun _ => ?_)
  refine lv_aload_n hx hb dL_two_848 rfl (lv_at hl 0 rfl) ?_
  refine sa_plain C gL_two_X3_plain dL_two_849 hl.1 (Nat.le_of_ble_eq_true rfl) ⟨Nat.le_trans (m := 800) (Nat.le_of_ble_eq_true rfl) hR.1, Nat.le_trans (m := 6000) (Nat.le_of_ble_eq_true rfl) hR.2⟩ hJ 0 (by decide +kernel) ?_
  refine lv_if_ne (tgt := 960) hx hb dL_two_852 (by decide) (fun h => absurd h (by decide +kernel)) (fun _ => ?_)
  exact kk H locs ls hJ hl
set_option maxHeartbeats 4000000 in
set_option maxRecDepth 100000 in
theorem sg_two_8 (C : CJ p l R s m args c cL_two 2 wsL_two D cI cL cE cP A H0) (hRR : 40 ≤ R.frames ∧ 3000 ≤ R.locals) (hR : 800 ≤ R.cells ∧ 6000 ≤ R.slots) (hJ : LJ D cI cL cE cP A H0 o0 YT20 2 3 H locs) (hl : lv_has ls 2 [(0, .ref o0), (1, .int (-900000003))])
    (kk : ∀ (H : Heap) (locs : List Loc) (ls : Array Slot), LJ D cI cL cE cP A H0 o0 YT22 2 3 H locs → lv_has ls 2 [(0, .ref o0), (1, .int (-900000003))] → W p l e R s m args below meth c H locs 505 3521 Q (F0 m 941 ls [])) : W p l e R s m args below meth c H locs 498 3479 Q (F0 m 855 ls []) := by
  obtain ⟨hx, hb, hml, hown, hts, -⟩ := id C
  have hRS : 30 ≤ R.frames ∧ 2000 ≤ R.locals := ⟨Nat.le_trans (m := 40) (by decide) hRR.1, Nat.le_trans (m := 3000) (by decide) hRR.2⟩
  refine lv_aload_n hx hb dL_two_855 rfl (lv_at hl 0 rfl) ?_
  refine sa_required C gL_two_X3_required dL_two_856 hl.1 (Nat.le_of_ble_eq_true rfl) ⟨Nat.le_trans (m := 800) (Nat.le_of_ble_eq_true rfl) hR.1, Nat.le_trans (m := 6000) (Nat.le_of_ble_eq_true rfl) hR.2⟩ hJ 5120 (by rw [bwE_K hk_YT_YT20]; decide +kernel) (fun H locs hJ => ?_)
  refine lv_aload_n hx hb dL_two_859 rfl (lv_at hl 0 rfl) ?_
  refine sa_whole C gL_two_X3_whole dL_two_860 hl.1 (Nat.le_of_ble_eq_true rfl) ⟨Nat.le_trans (m := 800) (Nat.le_of_ble_eq_true rfl) hR.1, Nat.le_trans (m := 6000) (Nat.le_of_ble_eq_true rfl) hR.2⟩ hJ 5120 ((bwE_K hk_YT_YT20).trans (by decide +kernel)) (fun H locs hJ => ?_)
  refine lv_icmp_ne (tgt := 960) hx hb dL_two_863 (by decide) (fun h => absurd h (by decide +kernel)) (fun _ => ?_)
  refine lv_aload_n hx hb dL_two_866 rfl (lv_at hl 0 rfl) ?_
  refine lv_iconst (v := 3) hx hb dL_two_867 (by decide) ?_
  refine lv_iconst (v := 1) hx hb dL_two_868 (by decide) ?_
  refine lv_sipush (v := 201) hx hb dL_two_869 (by decide) ?_
  refine lv_iconst (v := 0) hx hb dL_two_872 (by decide) ?_
  refine sl_act_3_3 C gL_two_L_act dL_two_873 hl.1 (Nat.le_of_ble_eq_true rfl) ⟨Nat.le_trans (m := 800) (Nat.le_of_ble_eq_true rfl) hR.1, Nat.le_trans (m := 6000) (Nat.le_of_ble_eq_true rfl) hR.2⟩ hRS hJ 1 201 0 (by decide +kernel) (fun H locs hJ => ?_)
  refine lv_iload_n hx hb dL_two_876 rfl (lv_at hl 1 rfl) ?_
  refine lv_icmp_ne (tgt := 960) hx hb dL_two_877 (by decide) (fun h => absurd h (by decide +kernel)) (fun _ => ?_)
  refine lv_aload_n hx hb dL_two_880 rfl (lv_at hl 0 rfl) ?_
  refine lv_iconst (v := 3) hx hb dL_two_881 (by decide) ?_
  refine lv_iconst (v := 1) hx hb dL_two_882 (by decide) ?_
  refine lv_sipush (v := (-1301)) hx hb dL_two_883 (by decide) ?_
  refine lv_iconst (v := 0) hx hb dL_two_886 (by decide) ?_
  refine sl_act_3_3 C gL_two_L_act dL_two_887 hl.1 (Nat.le_of_ble_eq_true rfl) ⟨Nat.le_trans (m := 800) (Nat.le_of_ble_eq_true rfl) hR.1, Nat.le_trans (m := 6000) (Nat.le_of_ble_eq_true rfl) hR.2⟩ hRS hJ 1 (-1301) 0 (by decide +kernel) (fun H locs hJ => ?_)
  refine lv_iload_n hx hb dL_two_890 rfl (lv_at hl 1 rfl) ?_
  refine lv_icmp_ne (tgt := 960) hx hb dL_two_891 (by decide) (fun h => absurd h (by decide +kernel)) (fun _ => ?_)
  refine lv_aload_n hx hb dL_two_894 rfl (lv_at hl 0 rfl) ?_
  refine lv_iconst (v := 1) hx hb dL_two_895 (by decide) ?_
  refine lv_sipush (v := (-1300)) hx hb dL_two_896 (by decide) ?_
  refine sa_draw C gL_two_X3_draw dL_two_899 hl.1 (Nat.le_of_ble_eq_true rfl) ⟨Nat.le_trans (m := 800) (Nat.le_of_ble_eq_true rfl) hR.1, Nat.le_trans (m := 6000) (Nat.le_of_ble_eq_true rfl) hR.2⟩ hJ 1 (-1300) 0 (by decide +kernel) (by decide +kernel) (fun H locs hJ => ?_)
  have hJ : LJ D cI cL cE cP A H0 o0 YT21 2 3 H locs := hJ
  refine lv_if_ne (tgt := 960) hx hb dL_two_902 (by decide) (fun h => absurd h (by decide +kernel)) (fun _ => ?_)
  refine lv_aload_n hx hb dL_two_905 rfl (lv_at hl 0 rfl) ?_
  refine lv_iconst (v := 1) hx hb dL_two_906 (by decide) ?_
  refine sa_amount C gL_two_X3_amount dL_two_907 hl.1 (Nat.le_of_ble_eq_true rfl) ⟨Nat.le_trans (m := 800) (Nat.le_of_ble_eq_true rfl) hR.1, Nat.le_trans (m := 6000) (Nat.le_of_ble_eq_true rfl) hR.2⟩ hJ 1 600 (by decide +kernel) (by decide +kernel) (fun H locs hJ => ?_)
  refine lv_sipush (v := 600) hx hb dL_two_910 (by decide) ?_
  refine lv_icmp_ne (tgt := 960) hx hb dL_two_913 (by decide) (fun h => absurd h (by decide +kernel)) (fun _ => ?_)
  refine lv_aload_n hx hb dL_two_916 rfl (lv_at hl 0 rfl) ?_
  refine lv_iconst (v := 1) hx hb dL_two_917 (by decide) ?_
  refine lv_iconst (v := 0) hx hb dL_two_918 (by decide) ?_
  refine sa_draw C gL_two_X3_draw dL_two_919 hl.1 (Nat.le_of_ble_eq_true rfl) ⟨Nat.le_trans (m := 800) (Nat.le_of_ble_eq_true rfl) hR.1, Nat.le_trans (m := 6000) (Nat.le_of_ble_eq_true rfl) hR.2⟩ hJ 1 0 0 (by decide +kernel) (by decide +kernel) (fun H locs hJ => ?_)
  have hJ : LJ D cI cL cE cP A H0 o0 YT22 2 3 H locs := hJ
  refine lv_if_ne (tgt := 960) hx hb dL_two_922 (by decide) (fun h => absurd h (by decide +kernel)) (fun _ => ?_)
  refine lv_aload_n hx hb dL_two_925 rfl (lv_at hl 0 rfl) ?_
  refine lv_iconst (v := 0) hx hb dL_two_926 (by decide) ?_
  refine sa_givenTo C gL_two_X3_givenTo dL_two_927 hl.1 (Nat.le_of_ble_eq_true rfl) ⟨Nat.le_trans (m := 800) (Nat.le_of_ble_eq_true rfl) hR.1, Nat.le_trans (m := 6000) (Nat.le_of_ble_eq_true rfl) hR.2⟩ hJ 0 0 (by decide +kernel) ((tkE_K hk_YT_YT22 _).trans (by decide +kernel)) (fun H locs hJ => ?_)
  refine lv_if_ne (tgt := 960) hx hb dL_two_930 (by decide) (fun h => absurd h (by decide +kernel)) (fun _ => ?_)
  refine lv_aload_n hx hb dL_two_933 rfl (lv_at hl 0 rfl) ?_
  refine lv_iconst (v := 1) hx hb dL_two_934 (by decide) ?_
  refine sa_givenTo C gL_two_X3_givenTo dL_two_935 hl.1 (Nat.le_of_ble_eq_true rfl) ⟨Nat.le_trans (m := 800) (Nat.le_of_ble_eq_true rfl) hR.1, Nat.le_trans (m := 6000) (Nat.le_of_ble_eq_true rfl) hR.2⟩ hJ 1 0 (by decide +kernel) ((tkE_K hk_YT_YT22 _).trans (by decide +kernel)) (fun H locs hJ => ?_)
  refine lv_if_ne (tgt := 960) hx hb dL_two_938 (by decide) (fun h => absurd h (by decide +kernel)) (fun _ => ?_)
  exact kk H locs ls hJ hl
set_option maxHeartbeats 4000000 in
set_option maxRecDepth 100000 in
theorem sg_two_9 (C : CJ p l R s m args c cL_two 2 wsL_two D cI cL cE cP A H0) (hRR : 40 ≤ R.frames ∧ 3000 ≤ R.locals) (hR : 800 ≤ R.cells ∧ 6000 ≤ R.slots) (hJ : LJ D cI cL cE cP A H0 o0 YT22 2 3 H locs) (hl : lv_has ls 2 [(0, .ref o0), (1, .int (-900000003))])
    (kk : ∀ (H : Heap) (locs : List Loc) (ls : Array Slot), LJ D cI cL cE cP A H0 o0 YT22 2 3 H locs → lv_has ls 2 [(0, .ref o0), (1, .int (-900000003))] → W p l e R s m args below meth c H locs 646 4427 Q (F0 m 961 ls [.int 1])) : W p l e R s m args below meth c H locs 505 3521 Q (F0 m 941 ls []) := by
  obtain ⟨hx, hb, hml, hown, hts, -⟩ := id C
  have hRS : 30 ≤ R.frames ∧ 2000 ≤ R.locals := ⟨Nat.le_trans (m := 40) (by decide) hRR.1, Nat.le_trans (m := 3000) (by decide) hRR.2⟩
  refine lv_aload_n hx hb dL_two_941 rfl (lv_at hl 0 rfl) ?_
  refine lv_iconst (v := 0) hx hb dL_two_942 (by decide) ?_
  refine sa_bare C gL_two_X3_bare dL_two_943 hl.1 (Nat.le_of_ble_eq_true rfl) ⟨Nat.le_trans (m := 800) (Nat.le_of_ble_eq_true rfl) hR.1, Nat.le_trans (m := 6000) (Nat.le_of_ble_eq_true rfl) hR.2⟩ hJ 0 0 (by decide +kernel) (by rw [gsL_K hk_YT_YT22]; decide +kernel) (fun H locs hJ => ?_)
  refine lv_if_ne (tgt := 960) hx hb dL_two_946 (by decide) (fun h => absurd h (by decide +kernel)) (fun _ => ?_)
  refine lv_aload_n hx hb dL_two_949 rfl (lv_at hl 0 rfl) ?_
  refine sl_refuses C gL_two_L_refuses dL_two_950 hl.1 (Nat.le_of_ble_eq_true rfl) ⟨Nat.le_trans (m := 800) (Nat.le_of_ble_eq_true rfl) hR.1, Nat.le_trans (m := 6000) (Nat.le_of_ble_eq_true rfl) hR.2⟩ hRR hJ (fun H locs hJ => ?_)
  refine lv_if_eq (tgt := 960) hx hb dL_two_953 (by decide) (fun h => absurd h (by decide +kernel)) (fun _ => ?_)
  refine lv_iconst (v := 1) hx hb dL_two_956 (by decide) ?_
  refine lv_goto (tgt := 961) hx hb dL_two_957 (by decide) ?_
  exact kk H locs ls hJ hl
end S_two
set_option maxHeartbeats 4000000 in
set_option maxRecDepth 100000 in
theorem zL_two (l : Launch) (hfl : l.stackTraces = false) (D : va_G) (cI cL cE cP : ClassId) (sz : Nat) : Met l yL_two wsL_two ({ frames := 50, cells := 800, slots := 6000, locals := 4000 }) (zPy D cI cL cE cP [] sz []) (va_Qi (fun (r : Int32) (_ : Unit) => r = 1) (fun _ t => zB D [] sz [] t) (va_A [] sz)) 800 6000 (va_A [] sz) := by
  refine Met.ofW (cc := cL_two) (maxL := 2) (ret := (some .boolean)) (by decide) rfl ?_
  intro p e s m args below meth c s₁ B hml hv
  obtain ⟨rfl, hsz, hE, hP, hD0, hX, hU0, hN, hO0, hO1⟩ := hv
  subst hsz
  obtain ⟨A, hAe⟩ : ∃ A, A = va_A [] s.heap.size := ⟨_, rfl⟩
  have hA : ∀ q : Nat, s.heap.size ≤ q → A q := fun q h => by rw [hAe]; exact Or.inr h
  have hU : zU A s s.heap := by rw [hAe]; exact hU0
  have hx := B.exec
  have hb := B.bytes
  have hr := B.returns
  have hts := atoms_spec (ws := wsL_two) B.pre
  have hown : s.vm.findClass RL = some m.cls := findClass_of_methodNamed B.named
  have hlocks := B.notSynchronized
  have C : CJ p l ({ frames := 50, cells := 800, slots := 6000, locals := 4000 }) s m _ c cL_two 2 wsL_two D cI cL cE cP A s.heap := ⟨hx, hb, hml, hown, hts, hE, hX, hN, hU, hA, hfl, Nat.le_of_ble_eq_true rfl, Nat.le_of_ble_eq_true rfl, hO0, hO1⟩
  have hRR : 40 ≤ ({ frames := 50, cells := 800, slots := 6000, locals := 4000 } : Room).frames ∧ 3000 ≤ ({ frames := 50, cells := 800, slots := 6000, locals := 4000 } : Room).locals := ⟨Nat.le_of_ble_eq_true rfl, Nat.le_of_ble_eq_true rfl⟩
  have hR : 800 ≤ ({ frames := 50, cells := 800, slots := 6000, locals := 4000 } : Room).cells ∧ 6000 ≤ ({ frames := 50, cells := 800, slots := 6000, locals := 4000 } : Room).slots := ⟨Nat.le_refl _, Nat.le_refl _⟩
  have hl := lv_entry ([] : List Value) (n := 2) (Nat.le_of_ble_eq_true rfl)
  rw [lg_entry_eq]
  generalize (lg_sl ([] : List Value) ++ List.replicate (2 - (lg_sl ([] : List Value)).length) Slot.unset).toArray = ls at hl ⊢
  have hl : lv_has ls 2 [] := hl
  refine sn_new C (by decide +kernel) (by decide +kernel) (by decide +kernel) (by decide +kernel) (by decide +kernel) (by decide +kernel) gL_two_X3_init dL_two_0 dL_two_3 dL_two_4 hl.1 (Nat.le_of_ble_eq_true rfl) ⟨Nat.le_of_ble_eq_true rfl, Nat.le_of_ble_eq_true rfl⟩ va_S.rf (fun o0 H locs hJ => ?_)
  refine lv_astore_n (lv' := [(0, .ref o0)]) hx hb dL_two_7 rfl hl (by decide) rfl (fun ls hl => ?_)
  refine sg_two_0 C hRR hR hJ hl (fun H locs ls hJ hl => ?_)
  refine sg_two_1 C hRR hR hJ hl (fun H locs ls hJ hl => ?_)
  refine sg_two_2 C hRR hR hJ hl (fun H locs ls hJ hl => ?_)
  refine sg_two_3 C hRR hR hJ hl (fun H locs ls hJ hl => ?_)
  refine sg_two_4 C hRR hR hJ hl (fun H locs ls hJ hl => ?_)
  refine sg_two_5 C hRR hR hJ hl (fun H locs ls hJ hl => ?_)
  refine sg_two_6 C hRR hR hJ hl (fun H locs ls hJ hl => ?_)
  refine sg_two_7 C hRR hR hJ hl (fun H locs ls hJ hl => ?_)
  refine sg_two_8 C hRR hR hJ hl (fun H locs ls hJ hl => ?_)
  refine sg_two_9 C hRR hR hJ hl (fun H locs ls hJ hl => ?_)
  refine W.widen (k := 800) (n := 6000) (Nat.le_of_ble_eq_true rfl) (Nat.le_of_ble_eq_true rfl) ?_
  obtain ⟨-, -, u, hu, hP, hD, hS⟩ := hJ
  exact le_ret0 hx hb hr hlocks hAe hS dL_two_961
