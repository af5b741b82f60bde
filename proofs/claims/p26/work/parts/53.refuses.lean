/-! what there is not is refused -/
theorem zex_ng {n : Nat} {x : Int32} (hn : n ≤ 8) (h : x < 0) : zex n x = false := zex_f hn (fun i hi e => by subst e; exact nI_pos (by omega) h)
theorem zex_big {n : Nat} {x : Int32} (hn : n ≤ 8) (h : nI 8 ≤ x) : zex n x = false := zex_f hn (fun i hi e => by subst e; have := (nI_leI (a := 8) (b := i) (by omega) (by omega)).mp h; omega)
theorem zex_self {n : Nat} (hn : n ≤ 8) : zex n (nI n) = false := zex_f hn (fun i hi e => by have := (nI_eq (by omega) (by omega)).mp e; omega)
theorem zex_0 {n : Nat} (hn : n ≤ 8) (h : ¬ nI n = 0) : zex n 0 = true := zex_t (i := 0) hn (Nat.pos_of_ne_zero (fun e => h (by subst e; exact nI_0))) nI_0.symm
section RF
variable {p : Program} {l : Launch} {e : Env} {R : Room} {s : State} {m : MethodId} {args : Array Value} {below : List Frame} {meth : Method} {c : Code} {H : Heap} {locs : List Loc} {Q : State → Prop} {ls : Array Slot} {D : va_G} {cI cL cE cP : ClassId} {A : Nat → Prop} {H0 : Heap} {o0 : Nat} {g : Nat → Nat → Int32} {n k : Nat}
set_option maxHeartbeats 4000000 in
set_option maxRecDepth 100000 in
theorem rf_0_0 (C : CJ p l R s m args c cL_refuses 20 wsL_refuses D cI cL cE cP A H0) (hRR : 30 ≤ R.frames ∧ 2000 ≤ R.locals) (hR : 140 ≤ R.cells ∧ 900 ≤ R.slots) (hJ : LJ D cI cL cE cP A H0 o0 g n k H locs) (hl : lv_has ls 20 [(0, .ref o0), (1, .int (nI n)), (2, .int (nI k)), (3, .int (bwE (KE g n k) k)), (4, .int (plL g n)), (5, .int (-900000001)), (6, .int (-900000002)), (7, .int 2147483647), (8, .int 0)])
    (kk : ∀ (H : Heap) (locs : List Loc) (ls : Array Slot), LJ D cI cL cE cP A H0 o0 g n k H locs → lv_has ls 20 [(0, .ref o0), (1, .int (nI n)), (2, .int (nI k)), (3, .int (bwE (KE g n k) k)), (4, .int (plL g n)), (5, .int (-900000001)), (6, .int (-900000002)), (7, .int 2147483647), (8, .int 0), (9, .int (-1)), (10, .int (-1)), (11, .int (-1)), (12, .int (-1)), (13, .int 0), (14, .int (-1)), (15, .int 0), (16, .int (-1)), (17, .int (-1)), (18, .int (-1))] → W p l e R s m args below meth c H locs 0 0 Q (F0 m 209 ls [])) : W p l e R s m args below meth c H locs 0 0 Q (F0 m 36 ls []) := by
  obtain ⟨hx, hb, hml, hown, hts, -⟩ := id C
  have hn := hJ.1.n; have hk8 : k ≤ 8 := Nat.le_trans hJ.1.k (by decide)
  refine lv_iload hx hb dL_refuses_36 (lv_at hl 8 rfl) ?_
  refine lv_iconst (v := 4) hx hb dL_refuses_38 (by decide) ?_
  refine lv_icmp_ge (tgt := 811) hx hb dL_refuses_39 (by decide) (fun h => absurd h (by decide +kernel)) (fun _ => ?_)
  refine lv_iload hx hb dL_refuses_42 (lv_at hl 8 rfl) ?_
  refine lv_if_ne (tgt := 51) hx hb dL_refuses_44 (by decide) (fun h => absurd h (by decide +kernel)) (fun _ => ?_)
  refine lv_iconst (v := (-1)) hx hb dL_refuses_47 (by decide) ?_
  refine lv_goto (tgt := 67) hx hb dL_refuses_48 (by decide) ?_
  refine lv_istore (lv' := [(9, .int (-1)), (0, .ref o0), (1, .int (nI n)), (2, .int (nI k)), (3, .int (bwE (KE g n k) k)), (4, .int (plL g n)), (5, .int (-900000001)), (6, .int (-900000002)), (7, .int 2147483647), (8, .int 0)]) hx hb dL_refuses_67 hl (by decide) rfl (fun ls hl => ?_)
  refine lv_iload hx hb dL_refuses_69 (lv_at hl 9 rfl) ?_
  refine lv_iconst (v := 1) hx hb dL_refuses_71 (by decide) ?_
  refine lv_icmp_ne (tgt := 79) hx hb dL_refuses_72 (by decide) (fun _ => ?_) (fun h => absurd h (by decide +kernel))
  refine lv_iload hx hb dL_refuses_79 (lv_at hl 0 rfl) ?_
  refine lv_istore (lv' := [(10, .int (-1)), (9, .int (-1)), (0, .ref o0), (1, .int (nI n)), (2, .int (nI k)), (3, .int (bwE (KE g n k) k)), (4, .int (plL g n)), (5, .int (-900000001)), (6, .int (-900000002)), (7, .int 2147483647), (8, .int 0)]) hx hb dL_refuses_81 hl (by decide) rfl (fun ls hl => ?_)
  refine lv_iload hx hb dL_refuses_83 (lv_at hl 10 rfl) ?_
  refine lv_iconst (v := 1) hx hb dL_refuses_85 (by decide) ?_
  refine lv_icmp_ne (tgt := 94) hx hb dL_refuses_86 (by decide) (fun _ => ?_) (fun h => absurd h (by decide +kernel))
  refine lv_iload hx hb dL_refuses_94 (lv_at hl 1 rfl) ?_
  refine lv_istore (lv' := [(11, .int (-1)), (10, .int (-1)), (9, .int (-1)), (0, .ref o0), (1, .int (nI n)), (2, .int (nI k)), (3, .int (bwE (KE g n k) k)), (4, .int (plL g n)), (5, .int (-900000001)), (6, .int (-900000002)), (7, .int 2147483647), (8, .int 0)]) hx hb dL_refuses_96 hl (by decide) rfl (fun ls hl => ?_)
  refine lv_iload hx hb dL_refuses_98 (lv_at hl 11 rfl) ?_
  refine lv_iconst (v := 1) hx hb dL_refuses_100 (by decide) ?_
  refine lv_icmp_ne (tgt := 109) hx hb dL_refuses_101 (by decide) (fun _ => ?_) (fun h => absurd h (by decide +kernel))
  refine lv_iload hx hb dL_refuses_109 (lv_at hl 2 rfl) ?_
  refine lv_istore (lv' := [(12, .int (-1)), (11, .int (-1)), (10, .int (-1)), (9, .int (-1)), (0, .ref o0), (1, .int (nI n)), (2, .int (nI k)), (3, .int (bwE (KE g n k) k)), (4, .int (plL g n)), (5, .int (-900000001)), (6, .int (-900000002)), (7, .int 2147483647), (8, .int 0)]) hx hb dL_refuses_111 hl (by decide) rfl (fun ls hl => ?_)
  refine lv_iload hx hb dL_refuses_113 (lv_at hl 12 rfl) ?_
  refine lv_if_ne (tgt := 122) hx hb dL_refuses_115 (by decide) (fun h => absurd h (by decide +kernel)) (fun _ => ?_)
  refine lv_iconst (v := 0) hx hb dL_refuses_118 (by decide) ?_
  refine lv_goto (tgt := 136) hx hb dL_refuses_119 (by decide) ?_
  refine lv_istore (lv' := [(13, .int 0), (12, .int (-1)), (11, .int (-1)), (10, .int (-1)), (9, .int (-1)), (0, .ref o0), (1, .int (nI n)), (2, .int (nI k)), (3, .int (bwE (KE g n k) k)), (4, .int (plL g n)), (5, .int (-900000001)), (6, .int (-900000002)), (7, .int 2147483647), (8, .int 0)]) hx hb dL_refuses_136 hl (by decide) rfl (fun ls hl => ?_)
  refine lv_iload hx hb dL_refuses_138 (lv_at hl 13 rfl) ?_
  refine lv_iconst (v := 1) hx hb dL_refuses_140 (by decide) ?_
  refine lv_icmp_ne (tgt := 148) hx hb dL_refuses_141 (by decide) (fun _ => ?_) (fun h => absurd h (by decide +kernel))
  refine lv_iload hx hb dL_refuses_148 (lv_at hl 4 rfl) ?_
  refine lv_istore (lv' := [(14, .int (-1)), (13, .int 0), (12, .int (-1)), (11, .int (-1)), (10, .int (-1)), (9, .int (-1)), (0, .ref o0), (1, .int (nI n)), (2, .int (nI k)), (3, .int (bwE (KE g n k) k)), (4, .int (plL g n)), (5, .int (-900000001)), (6, .int (-900000002)), (7, .int 2147483647), (8, .int 0)]) hx hb dL_refuses_150 hl (by decide) rfl (fun ls hl => ?_)
  refine lv_iload hx hb dL_refuses_152 (lv_at hl 14 rfl) ?_
  refine lv_if_ne (tgt := 161) hx hb dL_refuses_154 (by decide) (fun h => absurd h (by decide +kernel)) (fun _ => ?_)
  refine lv_iconst (v := 0) hx hb dL_refuses_157 (by decide) ?_
  refine lv_goto (tgt := 163) hx hb dL_refuses_158 (by decide) ?_
  refine lv_istore (lv' := [(15, .int 0), (14, .int (-1)), (13, .int 0), (12, .int (-1)), (11, .int (-1)), (10, .int (-1)), (9, .int (-1)), (0, .ref o0), (1, .int (nI n)), (2, .int (nI k)), (3, .int (bwE (KE g n k) k)), (4, .int (plL g n)), (5, .int (-900000001)), (6, .int (-900000002)), (7, .int 2147483647), (8, .int 0)]) hx hb dL_refuses_163 hl (by decide) rfl (fun ls hl => ?_)
  refine lv_iload hx hb dL_refuses_165 (lv_at hl 15 rfl) ?_
  refine lv_iconst (v := 1) hx hb dL_refuses_167 (by decide) ?_
  refine lv_icmp_ne (tgt := 177) hx hb dL_refuses_168 (by decide) (fun _ => ?_) (fun h => absurd h (by decide +kernel))
  refine lv_iload hx hb dL_refuses_177 (lv_at hl 6 rfl) ?_
  refine lv_istore (lv' := [(16, .int (-1)), (15, .int 0), (14, .int (-1)), (13, .int 0), (12, .int (-1)), (11, .int (-1)), (10, .int (-1)), (9, .int (-1)), (0, .ref o0), (1, .int (nI n)), (2, .int (nI k)), (3, .int (bwE (KE g n k) k)), (4, .int (plL g n)), (5, .int (-900000001)), (6, .int (-900000002)), (7, .int 2147483647), (8, .int 0)]) hx hb dL_refuses_179 hl (by decide) rfl (fun ls hl => ?_)
  refine lv_iload hx hb dL_refuses_181 (lv_at hl 16 rfl) ?_
  refine lv_iconst (v := 1) hx hb dL_refuses_183 (by decide) ?_
  refine lv_icmp_ne (tgt := 191) hx hb dL_refuses_184 (by decide) (fun _ => ?_) (fun h => absurd h (by decide +kernel))
  refine lv_iload hx hb dL_refuses_191 (lv_at hl 7 rfl) ?_
  refine lv_istore (lv' := [(17, .int (-1)), (16, .int (-1)), (15, .int 0), (14, .int (-1)), (13, .int 0), (12, .int (-1)), (11, .int (-1)), (10, .int (-1)), (9, .int (-1)), (0, .ref o0), (1, .int (nI n)), (2, .int (nI k)), (3, .int (bwE (KE g n k) k)), (4, .int (plL g n)), (5, .int (-900000001)), (6, .int (-900000002)), (7, .int 2147483647), (8, .int 0)]) hx hb dL_refuses_193 hl (by decide) rfl (fun ls hl => ?_)
  refine lv_iload hx hb dL_refuses_195 (lv_at hl 17 rfl) ?_
  refine lv_iconst (v := 1) hx hb dL_refuses_197 (by decide) ?_
  refine lv_icmp_ne (tgt := 205) hx hb dL_refuses_198 (by decide) (fun _ => ?_) (fun h => absurd h (by decide +kernel))
  refine lv_iload hx hb dL_refuses_205 (lv_at hl 8 rfl) ?_
  refine lv_istore (lv' := [(18, .int (-1)), (17, .int (-1)), (16, .int (-1)), (15, .int 0), (14, .int (-1)), (13, .int 0), (12, .int (-1)), (11, .int (-1)), (10, .int (-1)), (9, .int (-1)), (0, .ref o0), (1, .int (nI n)), (2, .int (nI k)), (3, .int (bwE (KE g n k) k)), (4, .int (plL g n)), (5, .int (-900000001)), (6, .int (-900000002)), (7, .int 2147483647), (8, .int 0)]) hx hb dL_refuses_207 hl (by decide) rfl (fun ls hl => ?_)
  exact kk H locs ls hJ (lv_sub hl [10, 11, 12, 13, 14, 15, 16, 17, 18, 9, 8, 7, 6, 5, 4, 3, 2, 1, 0] rfl)
set_option maxHeartbeats 4000000 in
set_option maxRecDepth 100000 in
theorem rf_0_1 (C : CJ p l R s m args c cL_refuses 20 wsL_refuses D cI cL cE cP A H0) (hRR : 30 ≤ R.frames ∧ 2000 ≤ R.locals) (hR : 140 ≤ R.cells ∧ 900 ≤ R.slots) (hJ : LJ D cI cL cE cP A H0 o0 g n k H locs) (hl : lv_has ls 20 [(0, .ref o0), (1, .int (nI n)), (2, .int (nI k)), (3, .int (bwE (KE g n k) k)), (4, .int (plL g n)), (5, .int (-900000001)), (6, .int (-900000002)), (7, .int 2147483647), (8, .int 0), (9, .int (-1)), (10, .int (-1)), (11, .int (-1)), (12, .int (-1)), (13, .int 0), (14, .int (-1)), (15, .int 0), (16, .int (-1)), (17, .int (-1)), (18, .int (-1))])
    (kk : ∀ (H : Heap) (locs : List Loc) (ls : Array Slot), LJ D cI cL cE cP A H0 o0 g n k H locs → lv_has ls 20 [(0, .ref o0), (1, .int (nI n)), (2, .int (nI k)), (3, .int (bwE (KE g n k) k)), (4, .int (plL g n)), (5, .int (-900000001)), (6, .int (-900000002)), (7, .int 2147483647), (8, .int 0), (9, .int (-1)), (10, .int (-1)), (11, .int (-1)), (12, .int (-1)), (13, .int 0), (14, .int (-1)), (15, .int 0), (16, .int (-1)), (17, .int (-1)), (18, .int (-1))] → W p l e R s m args below meth c H locs 5 30 Q (F0 m 314 ls [])) : W p l e R s m args below meth c H locs 0 0 Q (F0 m 209 ls []) := by
  obtain ⟨hx, hb, hml, hown, hts, -⟩ := id C
  have hn := hJ.1.n; have hk8 : k ≤ 8 := Nat.le_trans hJ.1.k (by decide)
  refine lv_aload_n hx hb dL_refuses_209 rfl (lv_at hl 0 rfl) ?_
  refine lv_iconst (v := 0) hx hb dL_refuses_210 (by decide) ?_
  refine lv_iload hx hb dL_refuses_211 (lv_at hl 10 rfl) ?_
  refine lv_iconst (v := (-1)) hx hb dL_refuses_213 (by decide) ?_
  refine lv_iconst (v := (-1)) hx hb dL_refuses_214 (by decide) ?_
  refine sl_act_0_1 C gL_refuses_L_act dL_refuses_215 hl.1 (Nat.le_of_ble_eq_true rfl) ⟨Nat.le_trans (m := 140) (Nat.le_of_ble_eq_true rfl) hR.1, Nat.le_trans (m := 900) (Nat.le_of_ble_eq_true rfl) hR.2⟩ hRR hJ (-1) (-1) (-1) (by decide +kernel) (fun H locs hJ => ?_)
  refine lv_iload hx hb dL_refuses_218 (lv_at hl 5 rfl) ?_
  refine lv_icmp_ne (tgt := 414) hx hb dL_refuses_220 (by decide) (fun h => absurd h (by decide +kernel)) (fun _ => ?_)
  refine lv_aload_n hx hb dL_refuses_223 rfl (lv_at hl 0 rfl) ?_
  refine lv_iconst (v := 0) hx hb dL_refuses_224 (by decide) ?_
  refine lv_iconst (v := 0) hx hb dL_refuses_225 (by decide) ?_
  refine lv_iload hx hb dL_refuses_226 (lv_at hl 8 rfl) ?_
  refine lv_iconst (v := 1) hx hb dL_refuses_228 (by decide) ?_
  refine lv_icmp_ne (tgt := 238) hx hb dL_refuses_229 (by decide) (fun _ => ?_) (fun h => absurd h (by decide +kernel))
  refine lv_iload hx hb dL_refuses_238 (lv_at hl 9 rfl) ?_
  refine lv_iconst (v := 0) hx hb dL_refuses_240 (by decide) ?_
  refine sl_act_0_2 C gL_refuses_L_act dL_refuses_241 hl.1 (Nat.le_of_ble_eq_true rfl) ⟨Nat.le_trans (m := 140) (Nat.le_of_ble_eq_true rfl) hR.1, Nat.le_trans (m := 900) (Nat.le_of_ble_eq_true rfl) hR.2⟩ hRR hJ 0 (-1) 0 (by decide +kernel) (fun H locs hJ => ?_)
  refine lv_iload hx hb dL_refuses_244 (lv_at hl 6 rfl) ?_
  refine lv_icmp_ne (tgt := 414) hx hb dL_refuses_246 (by decide) (fun h => absurd h (by decide +kernel)) (fun _ => ?_)
  refine lv_aload_n hx hb dL_refuses_249 rfl (lv_at hl 0 rfl) ?_
  refine lv_iconst (v := 0) hx hb dL_refuses_250 (by decide) ?_
  refine lv_iconst (v := 0) hx hb dL_refuses_251 (by decide) ?_
  refine lv_iconst (v := 0) hx hb dL_refuses_252 (by decide) ?_
  refine lv_iload hx hb dL_refuses_253 (lv_at hl 8 rfl) ?_
  refine lv_iconst (v := 1) hx hb dL_refuses_255 (by decide) ?_
  refine lv_icmp_ne (tgt := 265) hx hb dL_refuses_256 (by decide) (fun _ => ?_) (fun h => absurd h (by decide +kernel))
  refine lv_iload hx hb dL_refuses_265 (lv_at hl 9 rfl) ?_
  refine sl_act_0_2 C gL_refuses_L_act dL_refuses_267 hl.1 (Nat.le_of_ble_eq_true rfl) ⟨Nat.le_trans (m := 140) (Nat.le_of_ble_eq_true rfl) hR.1, Nat.le_trans (m := 900) (Nat.le_of_ble_eq_true rfl) hR.2⟩ hRR hJ 0 0 (-1) (by decide +kernel) (fun H locs hJ => ?_)
  refine lv_iload hx hb dL_refuses_270 (lv_at hl 6 rfl) ?_
  refine lv_icmp_ne (tgt := 414) hx hb dL_refuses_272 (by decide) (fun h => absurd h (by decide +kernel)) (fun _ => ?_)
  refine lv_aload_n hx hb dL_refuses_275 rfl (lv_at hl 0 rfl) ?_
  refine lv_iconst (v := 1) hx hb dL_refuses_276 (by decide) ?_
  refine lv_iload hx hb dL_refuses_277 (lv_at hl 11 rfl) ?_
  refine lv_iconst (v := 0) hx hb dL_refuses_279 (by decide) ?_
  refine lv_iconst (v := 0) hx hb dL_refuses_280 (by decide) ?_
  refine sl_act_1_1 C gL_refuses_L_act dL_refuses_281 hl.1 (Nat.le_of_ble_eq_true rfl) ⟨Nat.le_trans (m := 140) (Nat.le_of_ble_eq_true rfl) hR.1, Nat.le_trans (m := 900) (Nat.le_of_ble_eq_true rfl) hR.2⟩ hRR hJ (-1) 0 0 (by decide +kernel) (fun H locs hJ => ?_)
  refine lv_iload hx hb dL_refuses_284 (lv_at hl 6 rfl) ?_
  refine lv_icmp_ne (tgt := 414) hx hb dL_refuses_286 (by decide) (fun h => absurd h (by decide +kernel)) (fun _ => ?_)
  refine lv_aload_n hx hb dL_refuses_289 rfl (lv_at hl 0 rfl) ?_
  refine lv_iconst (v := 2) hx hb dL_refuses_290 (by decide) ?_
  refine lv_iload hx hb dL_refuses_291 (lv_at hl 8 rfl) ?_
  refine lv_iconst (v := 1) hx hb dL_refuses_293 (by decide) ?_
  refine lv_icmp_ne (tgt := 302) hx hb dL_refuses_294 (by decide) (fun _ => ?_) (fun h => absurd h (by decide +kernel))
  refine lv_iload hx hb dL_refuses_302 (lv_at hl 9 rfl) ?_
  refine lv_iconst (v := 0) hx hb dL_refuses_304 (by decide) ?_
  refine lv_iconst (v := 0) hx hb dL_refuses_305 (by decide) ?_
  refine sl_act_2_1 C gL_refuses_L_act dL_refuses_306 hl.1 (Nat.le_of_ble_eq_true rfl) ⟨Nat.le_trans (m := 140) (Nat.le_of_ble_eq_true rfl) hR.1, Nat.le_trans (m := 900) (Nat.le_of_ble_eq_true rfl) hR.2⟩ hRR hJ (-1) 0 0 (by decide +kernel) (fun H locs hJ => ?_)
  refine lv_iload hx hb dL_refuses_309 (lv_at hl 6 rfl) ?_
  refine lv_icmp_ne (tgt := 414) hx hb dL_refuses_311 (by decide) (fun h => absurd h (by decide +kernel)) (fun _ => ?_)
  exact kk H locs ls hJ (lv_sub hl [0, 1, 2, 3, 4, 5, 6, 7, 8, 9, 10, 11, 12, 13, 14, 15, 16, 17, 18] rfl)
set_option maxHeartbeats 4000000 in
set_option maxRecDepth 100000 in
theorem rf_0_2 (C : CJ p l R s m args c cL_refuses 20 wsL_refuses D cI cL cE cP A H0) (hRR : 30 ≤ R.frames ∧ 2000 ≤ R.locals) (hR : 140 ≤ R.cells ∧ 900 ≤ R.slots) (hJ : LJ D cI cL cE cP A H0 o0 g n k H locs) (hl : lv_has ls 20 [(0, .ref o0), (1, .int (nI n)), (2, .int (nI k)), (3, .int (bwE (KE g n k) k)), (4, .int (plL g n)), (5, .int (-900000001)), (6, .int (-900000002)), (7, .int 2147483647), (8, .int 0), (9, .int (-1)), (10, .int (-1)), (11, .int (-1)), (12, .int (-1)), (13, .int 0), (14, .int (-1)), (15, .int 0), (16, .int (-1)), (17, .int (-1)), (18, .int (-1))])
    (kk : ∀ (H : Heap) (locs : List Loc) (ls : Array Slot), LJ D cI cL cE cP A H0 o0 g n k H locs → lv_has ls 20 [(0, .ref o0), (1, .int (nI n)), (2, .int (nI k)), (3, .int (bwE (KE g n k) k)), (4, .int (plL g n)), (5, .int (-900000001)), (6, .int (-900000002)), (7, .int 2147483647), (8, .int 0), (9, .int (-1)), (10, .int (-1)), (11, .int (-1)), (12, .int (-1)), (13, .int 0), (14, .int (-1)), (15, .int 0), (16, .int (-1)), (17, .int (-1)), (18, .int (-1)), (19, .int 1)] → W p l e R s m args below meth c H locs 11 78 Q (F0 m 417 ls [])) : W p l e R s m args below meth c H locs 5 30 Q (F0 m 314 ls []) := by
  obtain ⟨hx, hb, hml, hown, hts, -⟩ := id C
  have hn := hJ.1.n; have hk8 : k ≤ 8 := Nat.le_trans hJ.1.k (by decide)
  refine lv_aload_n hx hb dL_refuses_314 rfl (lv_at hl 0 rfl) ?_
  refine lv_iload hx hb dL_refuses_315 (lv_at hl 10 rfl) ?_
  refine lv_iconst (v := 0) hx hb dL_refuses_317 (by decide) ?_
  refine lv_iconst (v := (-1)) hx hb dL_refuses_318 (by decide) ?_
  refine lv_iconst (v := 0) hx hb dL_refuses_319 (by decide) ?_
  refine lv_iconst (v := 0) hx hb dL_refuses_320 (by decide) ?_
  refine lv_iconst (v := 0) hx hb dL_refuses_321 (by decide) ?_
  refine sl_expose_1 C gL_refuses_L_expose dL_refuses_322 hl.1 (Nat.le_of_ble_eq_true rfl) ⟨Nat.le_trans (m := 140) (Nat.le_of_ble_eq_true rfl) hR.1, Nat.le_trans (m := 900) (Nat.le_of_ble_eq_true rfl) hR.2⟩ hRR hJ (-1) 0 (-1) 0 0 0 (by unfold T_addExposure; rw [if_pos (by decide +kernel)]) (fun H locs hJ => ?_)
  refine lv_iload hx hb dL_refuses_325 (lv_at hl 5 rfl) ?_
  refine lv_icmp_ne (tgt := 414) hx hb dL_refuses_327 (by decide) (fun h => absurd h (by decide +kernel)) (fun _ => ?_)
  refine lv_aload_n hx hb dL_refuses_330 rfl (lv_at hl 0 rfl) ?_
  refine lv_iconst (v := 0) hx hb dL_refuses_331 (by decide) ?_
  refine lv_iload hx hb dL_refuses_332 (lv_at hl 10 rfl) ?_
  refine lv_iconst (v := (-1)) hx hb dL_refuses_334 (by decide) ?_
  refine lv_iconst (v := 0) hx hb dL_refuses_335 (by decide) ?_
  refine lv_iconst (v := 0) hx hb dL_refuses_336 (by decide) ?_
  refine lv_iconst (v := 0) hx hb dL_refuses_337 (by decide) ?_
  refine sl_expose_1 C gL_refuses_L_expose dL_refuses_338 hl.1 (Nat.le_of_ble_eq_true rfl) ⟨Nat.le_trans (m := 140) (Nat.le_of_ble_eq_true rfl) hR.1, Nat.le_trans (m := 900) (Nat.le_of_ble_eq_true rfl) hR.2⟩ hRR hJ 0 (-1) (-1) 0 0 0 (by unfold T_addExposure; rw [if_pos (by decide +kernel)]) (fun H locs hJ => ?_)
  refine lv_iload hx hb dL_refuses_341 (lv_at hl 5 rfl) ?_
  refine lv_icmp_ne (tgt := 414) hx hb dL_refuses_343 (by decide) (fun h => absurd h (by decide +kernel)) (fun _ => ?_)
  refine lv_aload_n hx hb dL_refuses_346 rfl (lv_at hl 0 rfl) ?_
  refine lv_iconst (v := 0) hx hb dL_refuses_347 (by decide) ?_
  refine lv_iconst (v := 0) hx hb dL_refuses_348 (by decide) ?_
  refine lv_iload hx hb dL_refuses_349 (lv_at hl 12 rfl) ?_
  refine lv_iconst (v := 0) hx hb dL_refuses_351 (by decide) ?_
  refine lv_iconst (v := 0) hx hb dL_refuses_352 (by decide) ?_
  refine lv_iconst (v := 1) hx hb dL_refuses_353 (by decide) ?_
  refine sl_expose_2 C gL_refuses_L_expose dL_refuses_354 hl.1 (Nat.le_of_ble_eq_true rfl) ⟨Nat.le_trans (m := 140) (Nat.le_of_ble_eq_true rfl) hR.1, Nat.le_trans (m := 900) (Nat.le_of_ble_eq_true rfl) hR.2⟩ hRR hJ 0 0 (-1) 0 0 1 (by unfold T_addExposure; rw [if_neg (by decide +kernel), if_pos (by decide +kernel)]) (fun H locs hJ => ?_)
  refine lv_iload hx hb dL_refuses_357 (lv_at hl 6 rfl) ?_
  refine lv_icmp_ne (tgt := 414) hx hb dL_refuses_359 (by decide) (fun h => absurd h (by decide +kernel)) (fun _ => ?_)
  refine lv_aload_n hx hb dL_refuses_362 rfl (lv_at hl 0 rfl) ?_
  refine lv_iconst (v := 0) hx hb dL_refuses_363 (by decide) ?_
  refine lv_iconst (v := 0) hx hb dL_refuses_364 (by decide) ?_
  refine lv_iconst (v := 0) hx hb dL_refuses_365 (by decide) ?_
  refine lv_iload hx hb dL_refuses_366 (lv_at hl 12 rfl) ?_
  refine lv_iconst (v := 0) hx hb dL_refuses_368 (by decide) ?_
  refine lv_iconst (v := 1) hx hb dL_refuses_369 (by decide) ?_
  refine sl_expose_2 C gL_refuses_L_expose dL_refuses_370 hl.1 (Nat.le_of_ble_eq_true rfl) ⟨Nat.le_trans (m := 140) (Nat.le_of_ble_eq_true rfl) hR.1, Nat.le_trans (m := 900) (Nat.le_of_ble_eq_true rfl) hR.2⟩ hRR hJ 0 0 0 (-1) 0 1 (by unfold T_addExposure; rw [if_neg (by decide +kernel), if_pos (by decide +kernel)]) (fun H locs hJ => ?_)
  refine lv_iload hx hb dL_refuses_373 (lv_at hl 6 rfl) ?_
  refine lv_icmp_ne (tgt := 414) hx hb dL_refuses_375 (by decide) (fun h => absurd h (by decide +kernel)) (fun _ => ?_)
  refine lv_aload_n hx hb dL_refuses_378 rfl (lv_at hl 0 rfl) ?_
  refine lv_iconst (v := 0) hx hb dL_refuses_379 (by decide) ?_
  refine lv_iconst (v := 0) hx hb dL_refuses_380 (by decide) ?_
  refine lv_iconst (v := 0) hx hb dL_refuses_381 (by decide) ?_
  refine lv_iconst (v := 0) hx hb dL_refuses_382 (by decide) ?_
  refine lv_iload hx hb dL_refuses_383 (lv_at hl 14 rfl) ?_
  refine lv_iconst (v := 1) hx hb dL_refuses_385 (by decide) ?_
  refine sl_expose_2 C gL_refuses_L_expose dL_refuses_386 hl.1 (Nat.le_of_ble_eq_true rfl) ⟨Nat.le_trans (m := 140) (Nat.le_of_ble_eq_true rfl) hR.1, Nat.le_trans (m := 900) (Nat.le_of_ble_eq_true rfl) hR.2⟩ hRR hJ 0 0 0 0 (-1) 1 (by unfold T_addExposure; rw [if_neg (by decide +kernel), if_pos (by decide +kernel)]) (fun H locs hJ => ?_)
  refine lv_iload hx hb dL_refuses_389 (lv_at hl 6 rfl) ?_
  refine lv_icmp_ne (tgt := 414) hx hb dL_refuses_391 (by decide) (fun h => absurd h (by decide +kernel)) (fun _ => ?_)
  refine lv_aload_n hx hb dL_refuses_394 rfl (lv_at hl 0 rfl) ?_
  refine lv_iconst (v := 0) hx hb dL_refuses_395 (by decide) ?_
  refine lv_iconst (v := 0) hx hb dL_refuses_396 (by decide) ?_
  refine lv_iconst (v := 0) hx hb dL_refuses_397 (by decide) ?_
  refine lv_iconst (v := 0) hx hb dL_refuses_398 (by decide) ?_
  refine lv_iconst (v := 0) hx hb dL_refuses_399 (by decide) ?_
  refine lv_iload hx hb dL_refuses_400 (lv_at hl 13 rfl) ?_
  refine sl_expose_2 C gL_refuses_L_expose dL_refuses_402 hl.1 (Nat.le_of_ble_eq_true rfl) ⟨Nat.le_trans (m := 140) (Nat.le_of_ble_eq_true rfl) hR.1, Nat.le_trans (m := 900) (Nat.le_of_ble_eq_true rfl) hR.2⟩ hRR hJ 0 0 0 0 0 0 (by unfold T_addExposure; rw [if_neg (by decide +kernel), if_pos (by decide +kernel)]) (fun H locs hJ => ?_)
  refine lv_iload hx hb dL_refuses_405 (lv_at hl 6 rfl) ?_
  refine lv_icmp_ne (tgt := 414) hx hb dL_refuses_407 (by decide) (fun h => absurd h (by decide +kernel)) (fun _ => ?_)
  refine lv_iconst (v := 1) hx hb dL_refuses_410 (by decide) ?_
  refine lv_goto (tgt := 415) hx hb dL_refuses_411 (by decide) ?_
  refine lv_istore (lv' := [(19, .int 1), (0, .ref o0), (1, .int (nI n)), (2, .int (nI k)), (3, .int (bwE (KE g n k) k)), (4, .int (plL g n)), (5, .int (-900000001)), (6, .int (-900000002)), (7, .int 2147483647), (8, .int 0), (9, .int (-1)), (10, .int (-1)), (11, .int (-1)), (12, .int (-1)), (13, .int 0), (14, .int (-1)), (15, .int 0), (16, .int (-1)), (17, .int (-1)), (18, .int (-1))]) hx hb dL_refuses_415 hl (by decide) rfl (fun ls hl => ?_)
  exact kk H locs ls hJ (lv_sub hl [1, 2, 3, 4, 5, 6, 7, 8, 9, 10, 11, 12, 13, 14, 15, 16, 17, 18, 19, 0] rfl)
set_option maxHeartbeats 4000000 in
set_option maxRecDepth 100000 in
theorem rf_0_3 (C : CJ p l R s m args c cL_refuses 20 wsL_refuses D cI cL cE cP A H0) (hRR : 30 ≤ R.frames ∧ 2000 ≤ R.locals) (hR : 140 ≤ R.cells ∧ 900 ≤ R.slots) (hJ : LJ D cI cL cE cP A H0 o0 g n k H locs) (hl : lv_has ls 20 [(0, .ref o0), (1, .int (nI n)), (2, .int (nI k)), (3, .int (bwE (KE g n k) k)), (4, .int (plL g n)), (5, .int (-900000001)), (6, .int (-900000002)), (7, .int 2147483647), (8, .int 0), (9, .int (-1)), (10, .int (-1)), (11, .int (-1)), (12, .int (-1)), (13, .int 0), (14, .int (-1)), (15, .int 0), (16, .int (-1)), (17, .int (-1)), (18, .int (-1)), (19, .int 1)])
    (kk : ∀ (H : Heap) (locs : List Loc) (ls : Array Slot), LJ D cI cL cE cP A H0 o0 g n k H locs → lv_has ls 20 [(0, .ref o0), (1, .int (nI n)), (2, .int (nI k)), (3, .int (bwE (KE g n k) k)), (4, .int (plL g n)), (5, .int (-900000001)), (6, .int (-900000002)), (7, .int 2147483647), (8, .int 0), (9, .int (-1)), (10, .int (-1)), (11, .int (-1)), (12, .int (-1)), (13, .int 0), (14, .int (-1)), (15, .int 0), (16, .int (-1)), (17, .int (-1)), (18, .int (-1)), (19, .int 1)] → W p l e R s m args below meth c H locs 16 108 Q (F0 m 497 ls [])) : W p l e R s m args below meth c H locs 11 78 Q (F0 m 417 ls []) := by
  obtain ⟨hx, hb, hml, hown, hts, -⟩ := id C
  have hn := hJ.1.n; have hk8 : k ≤ 8 := Nat.le_trans hJ.1.k (by decide)
  refine lv_iload hx hb dL_refuses_417 (lv_at hl 19 rfl) ?_
  refine lv_if_eq (tgt := 707) hx hb dL_refuses_419 (by decide) (fun h => absurd h (by decide +kernel)) (fun _ => ?_)
  refine lv_aload_n hx hb dL_refuses_422 rfl (lv_at hl 0 rfl) ?_
  refine lv_iload hx hb dL_refuses_423 (lv_at hl 15 rfl) ?_
  refine lv_iconst (v := 5) hx hb dL_refuses_425 (by decide) ?_
  refine lv_iconst (v := 0) hx hb dL_refuses_426 (by decide) ?_
  refine lv_iconst (v := 5) hx hb dL_refuses_427 (by decide) ?_
  refine lv_iconst (v := 5) hx hb dL_refuses_428 (by decide) ?_
  refine sl_piece_1 C gL_refuses_L_piece dL_refuses_429 hl.1 (Nat.le_of_ble_eq_true rfl) ⟨Nat.le_trans (m := 140) (Nat.le_of_ble_eq_true rfl) hR.1, Nat.le_trans (m := 900) (Nat.le_of_ble_eq_true rfl) hR.2⟩ hRR hJ 0 5 0 5 5 (by unfold T_addPiece; rw [if_pos (by decide +kernel)]) (fun H locs hJ => ?_)
  refine lv_iload hx hb dL_refuses_432 (lv_at hl 6 rfl) ?_
  refine lv_icmp_ne (tgt := 707) hx hb dL_refuses_434 (by decide) (fun h => absurd h (by decide +kernel)) (fun _ => ?_)
  refine lv_aload_n hx hb dL_refuses_437 rfl (lv_at hl 0 rfl) ?_
  refine lv_iconst (v := 5) hx hb dL_refuses_438 (by decide) ?_
  refine lv_iload hx hb dL_refuses_439 (lv_at hl 11 rfl) ?_
  refine lv_iconst (v := 0) hx hb dL_refuses_441 (by decide) ?_
  refine lv_iconst (v := 5) hx hb dL_refuses_442 (by decide) ?_
  refine lv_iconst (v := 5) hx hb dL_refuses_443 (by decide) ?_
  refine sl_piece_1 C gL_refuses_L_piece dL_refuses_444 hl.1 (Nat.le_of_ble_eq_true rfl) ⟨Nat.le_trans (m := 140) (Nat.le_of_ble_eq_true rfl) hR.1, Nat.le_trans (m := 900) (Nat.le_of_ble_eq_true rfl) hR.2⟩ hRR hJ 5 (-1) 0 5 5 (by unfold T_addPiece; rw [if_pos (by decide +kernel)]) (fun H locs hJ => ?_)
  refine lv_iload hx hb dL_refuses_447 (lv_at hl 6 rfl) ?_
  refine lv_icmp_ne (tgt := 707) hx hb dL_refuses_449 (by decide) (fun h => absurd h (by decide +kernel)) (fun _ => ?_)
  refine lv_aload_n hx hb dL_refuses_452 rfl (lv_at hl 0 rfl) ?_
  refine lv_iconst (v := 5) hx hb dL_refuses_453 (by decide) ?_
  refine lv_iconst (v := 5) hx hb dL_refuses_454 (by decide) ?_
  refine lv_iload hx hb dL_refuses_455 (lv_at hl 14 rfl) ?_
  refine lv_iconst (v := 5) hx hb dL_refuses_457 (by decide) ?_
  refine lv_iconst (v := 5) hx hb dL_refuses_458 (by decide) ?_
  refine sl_piece_1 C gL_refuses_L_piece dL_refuses_459 hl.1 (Nat.le_of_ble_eq_true rfl) ⟨Nat.le_trans (m := 140) (Nat.le_of_ble_eq_true rfl) hR.1, Nat.le_trans (m := 900) (Nat.le_of_ble_eq_true rfl) hR.2⟩ hRR hJ 5 5 (-1) 5 5 (by unfold T_addPiece; rw [if_pos (by decide +kernel)]) (fun H locs hJ => ?_)
  refine lv_iload hx hb dL_refuses_462 (lv_at hl 6 rfl) ?_
  refine lv_icmp_ne (tgt := 707) hx hb dL_refuses_464 (by decide) (fun h => absurd h (by decide +kernel)) (fun _ => ?_)
  refine lv_aload_n hx hb dL_refuses_467 rfl (lv_at hl 0 rfl) ?_
  refine lv_iconst (v := 5) hx hb dL_refuses_468 (by decide) ?_
  refine lv_iconst (v := 5) hx hb dL_refuses_469 (by decide) ?_
  refine lv_iconst (v := 0) hx hb dL_refuses_470 (by decide) ?_
  refine lv_iload hx hb dL_refuses_471 (lv_at hl 13 rfl) ?_
  refine lv_iconst (v := 5) hx hb dL_refuses_473 (by decide) ?_
  refine sl_piece_1 C gL_refuses_L_piece dL_refuses_474 hl.1 (Nat.le_of_ble_eq_true rfl) ⟨Nat.le_trans (m := 140) (Nat.le_of_ble_eq_true rfl) hR.1, Nat.le_trans (m := 900) (Nat.le_of_ble_eq_true rfl) hR.2⟩ hRR hJ 5 5 0 0 5 (by unfold T_addPiece; rw [if_pos (by decide +kernel)]) (fun H locs hJ => ?_)
  refine lv_iload hx hb dL_refuses_477 (lv_at hl 6 rfl) ?_
  refine lv_icmp_ne (tgt := 707) hx hb dL_refuses_479 (by decide) (fun h => absurd h (by decide +kernel)) (fun _ => ?_)
  refine lv_aload_n hx hb dL_refuses_482 rfl (lv_at hl 0 rfl) ?_
  refine lv_iconst (v := 5) hx hb dL_refuses_483 (by decide) ?_
  refine lv_iconst (v := 5) hx hb dL_refuses_484 (by decide) ?_
  refine lv_iconst (v := 0) hx hb dL_refuses_485 (by decide) ?_
  refine lv_iconst (v := 5) hx hb dL_refuses_486 (by decide) ?_
  refine lv_iload hx hb dL_refuses_487 (lv_at hl 16 rfl) ?_
  refine sl_piece_1 C gL_refuses_L_piece dL_refuses_489 hl.1 (Nat.le_of_ble_eq_true rfl) ⟨Nat.le_trans (m := 140) (Nat.le_of_ble_eq_true rfl) hR.1, Nat.le_trans (m := 900) (Nat.le_of_ble_eq_true rfl) hR.2⟩ hRR hJ 5 5 0 5 (-1) (by unfold T_addPiece; rw [if_pos (by decide +kernel)]) (fun H locs hJ => ?_)
  refine lv_iload hx hb dL_refuses_492 (lv_at hl 6 rfl) ?_
  refine lv_icmp_ne (tgt := 707) hx hb dL_refuses_494 (by decide) (fun h => absurd h (by decide +kernel)) (fun _ => ?_)
  exact kk H locs ls hJ (lv_sub hl [0, 1, 2, 3, 4, 5, 6, 7, 8, 9, 10, 11, 12, 13, 14, 15, 16, 17, 18, 19] rfl)
set_option maxHeartbeats 4000000 in
set_option maxRecDepth 100000 in
theorem rf_0_4 (C : CJ p l R s m args c cL_refuses 20 wsL_refuses D cI cL cE cP A H0) (hRR : 30 ≤ R.frames ∧ 2000 ≤ R.locals) (hR : 140 ≤ R.cells ∧ 900 ≤ R.slots) (hJ : LJ D cI cL cE cP A H0 o0 g n k H locs) (hl : lv_has ls 20 [(0, .ref o0), (1, .int (nI n)), (2, .int (nI k)), (3, .int (bwE (KE g n k) k)), (4, .int (plL g n)), (5, .int (-900000001)), (6, .int (-900000002)), (7, .int 2147483647), (8, .int 0), (9, .int (-1)), (10, .int (-1)), (11, .int (-1)), (12, .int (-1)), (13, .int 0), (14, .int (-1)), (15, .int 0), (16, .int (-1)), (17, .int (-1)), (18, .int (-1)), (19, .int 1)])
    (kk : ∀ (H : Heap) (locs : List Loc) (ls : Array Slot), LJ D cI cL cE cP A H0 o0 g n k H locs → lv_has ls 20 [(0, .ref o0), (1, .int (nI n)), (2, .int (nI k)), (3, .int (bwE (KE g n k) k)), (4, .int (plL g n)), (5, .int (-900000001)), (6, .int (-900000002)), (7, .int 2147483647), (8, .int 0), (9, .int (-1)), (10, .int (-1)), (11, .int (-1)), (12, .int (-1)), (13, .int 0), (14, .int (-1)), (15, .int 0), (16, .int (-1)), (17, .int (-1)), (18, .int (-1)), (19, .int 1)] → W p l e R s m args below meth c H locs 23 150 Q (F0 m 598 ls [])) : W p l e R s m args below meth c H locs 16 108 Q (F0 m 497 ls []) := by
  obtain ⟨hx, hb, hml, hown, hts, -⟩ := id C
  have hn := hJ.1.n; have hk8 : k ≤ 8 := Nat.le_trans hJ.1.k (by decide)
  refine lv_aload_n hx hb dL_refuses_497 rfl (lv_at hl 0 rfl) ?_
  refine lv_iconst (v := 3) hx hb dL_refuses_498 (by decide) ?_
  refine lv_iload hx hb dL_refuses_499 (lv_at hl 17 rfl) ?_
  refine lv_iload hx hb dL_refuses_501 (lv_at hl 7 rfl) ?_
  refine lv_iconst (v := 0) hx hb dL_refuses_503 (by decide) ?_
  refine sl_act_3_1 C gL_refuses_L_act dL_refuses_504 hl.1 (Nat.le_of_ble_eq_true rfl) ⟨Nat.le_trans (m := 140) (Nat.le_of_ble_eq_true rfl) hR.1, Nat.le_trans (m := 900) (Nat.le_of_ble_eq_true rfl) hR.2⟩ hRR hJ (-1) 2147483647 0 (by unfold T_draw; rw [if_pos (zex_ng hn (by decide +kernel))]) (fun H locs hJ => ?_)
  refine lv_iload hx hb dL_refuses_507 (lv_at hl 5 rfl) ?_
  refine lv_icmp_ne (tgt := 707) hx hb dL_refuses_509 (by decide) (fun h => absurd h (by decide +kernel)) (fun _ => ?_)
  refine lv_aload_n hx hb dL_refuses_512 rfl (lv_at hl 0 rfl) ?_
  refine lv_iconst (v := 4) hx hb dL_refuses_513 (by decide) ?_
  refine lv_iload hx hb dL_refuses_514 (lv_at hl 17 rfl) ?_
  refine lv_iconst (v := 0) hx hb dL_refuses_516 (by decide) ?_
  refine lv_iconst (v := 0) hx hb dL_refuses_517 (by decide) ?_
  refine sl_act_4_1 C gL_refuses_L_act dL_refuses_518 hl.1 (Nat.le_of_ble_eq_true rfl) ⟨Nat.le_trans (m := 140) (Nat.le_of_ble_eq_true rfl) hR.1, Nat.le_trans (m := 900) (Nat.le_of_ble_eq_true rfl) hR.2⟩ hRR hJ (-1) 0 0 (by unfold T_setClass; rw [if_pos (by rw [(zex_ng hn (by decide +kernel))]; rfl)]) (fun H locs hJ => ?_)
  refine lv_iload hx hb dL_refuses_521 (lv_at hl 5 rfl) ?_
  refine lv_icmp_ne (tgt := 707) hx hb dL_refuses_523 (by decide) (fun h => absurd h (by decide +kernel)) (fun _ => ?_)
  refine lv_aload_n hx hb dL_refuses_526 rfl (lv_at hl 0 rfl) ?_
  refine lv_iconst (v := 4) hx hb dL_refuses_527 (by decide) ?_
  refine lv_iconst (v := 0) hx hb dL_refuses_528 (by decide) ?_
  refine lv_iload hx hb dL_refuses_529 (lv_at hl 10 rfl) ?_
  refine lv_iconst (v := 0) hx hb dL_refuses_531 (by decide) ?_
  refine sl_act_4_1 C gL_refuses_L_act dL_refuses_532 hl.1 (Nat.le_of_ble_eq_true rfl) ⟨Nat.le_trans (m := 140) (Nat.le_of_ble_eq_true rfl) hR.1, Nat.le_trans (m := 900) (Nat.le_of_ble_eq_true rfl) hR.2⟩ hRR hJ 0 (-1) 0 (by unfold T_setClass; rw [if_pos (by rw [show zwi (-1) 0 3 = false from by decide +kernel, Bool.and_false])]) (fun H locs hJ => ?_)
  refine lv_iload hx hb dL_refuses_535 (lv_at hl 5 rfl) ?_
  refine lv_icmp_ne (tgt := 707) hx hb dL_refuses_537 (by decide) (fun h => absurd h (by decide +kernel)) (fun _ => ?_)
  refine lv_aload_n hx hb dL_refuses_540 rfl (lv_at hl 0 rfl) ?_
  refine lv_iconst (v := 5) hx hb dL_refuses_541 (by decide) ?_
  refine lv_iload hx hb dL_refuses_542 (lv_at hl 17 rfl) ?_
  refine lv_iconst (v := 0) hx hb dL_refuses_544 (by decide) ?_
  refine lv_iconst (v := (-1)) hx hb dL_refuses_545 (by decide) ?_
  refine sl_act_5_1 C gL_refuses_L_act dL_refuses_546 hl.1 (Nat.le_of_ble_eq_true rfl) ⟨Nat.le_trans (m := 140) (Nat.le_of_ble_eq_true rfl) hR.1, Nat.le_trans (m := 900) (Nat.le_of_ble_eq_true rfl) hR.2⟩ hRR hJ (-1) 0 (-1) (by unfold T_guarantee; rw [if_pos (by rw [(zex_ng hn (by decide +kernel))]; rfl)]) (fun H locs hJ => ?_)
  refine lv_iload hx hb dL_refuses_549 (lv_at hl 5 rfl) ?_
  refine lv_icmp_ne (tgt := 707) hx hb dL_refuses_551 (by decide) (fun h => absurd h (by decide +kernel)) (fun _ => ?_)
  refine lv_aload_n hx hb dL_refuses_554 rfl (lv_at hl 0 rfl) ?_
  refine lv_iconst (v := 5) hx hb dL_refuses_555 (by decide) ?_
  refine lv_iconst (v := 0) hx hb dL_refuses_556 (by decide) ?_
  refine lv_iload hx hb dL_refuses_557 (lv_at hl 10 rfl) ?_
  refine lv_iconst (v := (-1)) hx hb dL_refuses_559 (by decide) ?_
  refine sl_act_5_1 C gL_refuses_L_act dL_refuses_560 hl.1 (Nat.le_of_ble_eq_true rfl) ⟨Nat.le_trans (m := 140) (Nat.le_of_ble_eq_true rfl) hR.1, Nat.le_trans (m := 900) (Nat.le_of_ble_eq_true rfl) hR.2⟩ hRR hJ 0 (-1) (-1) (by unfold T_guarantee; rw [if_pos (by rw [show zwi (-1) 0 3 = false from by decide +kernel, Bool.and_false])]) (fun H locs hJ => ?_)
  refine lv_iload hx hb dL_refuses_563 (lv_at hl 5 rfl) ?_
  refine lv_icmp_ne (tgt := 707) hx hb dL_refuses_565 (by decide) (fun h => absurd h (by decide +kernel)) (fun _ => ?_)
  refine lv_aload_n hx hb dL_refuses_568 rfl (lv_at hl 0 rfl) ?_
  refine lv_bipush (v := 6) hx hb dL_refuses_569 (by decide) ?_
  refine lv_iload hx hb dL_refuses_571 (lv_at hl 17 rfl) ?_
  refine lv_iconst (v := 0) hx hb dL_refuses_573 (by decide) ?_
  refine lv_iconst (v := 0) hx hb dL_refuses_574 (by decide) ?_
  refine sl_act_6_1 C gL_refuses_L_act dL_refuses_575 hl.1 (Nat.le_of_ble_eq_true rfl) ⟨Nat.le_trans (m := 140) (Nat.le_of_ble_eq_true rfl) hR.1, Nat.le_trans (m := 900) (Nat.le_of_ble_eq_true rfl) hR.2⟩ hRR hJ (-1) 0 0 (by unfold T_amount; rw [if_pos (zex_ng hn (by decide +kernel))]) (fun H locs hJ => ?_)
  refine lv_iload hx hb dL_refuses_578 (lv_at hl 5 rfl) ?_
  refine lv_icmp_ne (tgt := 707) hx hb dL_refuses_580 (by decide) (fun h => absurd h (by decide +kernel)) (fun _ => ?_)
  refine lv_aload_n hx hb dL_refuses_583 rfl (lv_at hl 0 rfl) ?_
  refine lv_bipush (v := 7) hx hb dL_refuses_584 (by decide) ?_
  refine lv_iload hx hb dL_refuses_586 (lv_at hl 18 rfl) ?_
  refine lv_iconst (v := 0) hx hb dL_refuses_588 (by decide) ?_
  refine lv_iconst (v := 0) hx hb dL_refuses_589 (by decide) ?_
  refine sl_act_7_1 C gL_refuses_L_act dL_refuses_590 hl.1 (Nat.le_of_ble_eq_true rfl) ⟨Nat.le_trans (m := 140) (Nat.le_of_ble_eq_true rfl) hR.1, Nat.le_trans (m := 900) (Nat.le_of_ble_eq_true rfl) hR.2⟩ hRR hJ (-1) 0 0 (by unfold T_setPiece; rw [if_pos (zex_ng hk8 (by decide +kernel))]) (fun H locs hJ => ?_)
  refine lv_iload hx hb dL_refuses_593 (lv_at hl 5 rfl) ?_
  refine lv_icmp_ne (tgt := 707) hx hb dL_refuses_595 (by decide) (fun h => absurd h (by decide +kernel)) (fun _ => ?_)
  exact kk H locs ls hJ (lv_sub hl [0, 1, 2, 3, 4, 5, 6, 7, 8, 9, 10, 11, 12, 13, 14, 15, 16, 17, 18, 19] rfl)
set_option maxHeartbeats 4000000 in
set_option maxRecDepth 100000 in
theorem rf_0_5 (C : CJ p l R s m args c cL_refuses 20 wsL_refuses D cI cL cE cP A H0) (hRR : 30 ≤ R.frames ∧ 2000 ≤ R.locals) (hR : 140 ≤ R.cells ∧ 900 ≤ R.slots) (hJ : LJ D cI cL cE cP A H0 o0 g n k H locs) (hl : lv_has ls 20 [(0, .ref o0), (1, .int (nI n)), (2, .int (nI k)), (3, .int (bwE (KE g n k) k)), (4, .int (plL g n)), (5, .int (-900000001)), (6, .int (-900000002)), (7, .int 2147483647), (8, .int 0), (9, .int (-1)), (10, .int (-1)), (11, .int (-1)), (12, .int (-1)), (13, .int 0), (14, .int (-1)), (15, .int 0), (16, .int (-1)), (17, .int (-1)), (18, .int (-1)), (19, .int 1)])
    (kk : ∀ (H : Heap) (locs : List Loc) (ls : Array Slot), LJ D cI cL cE cP A H0 o0 g n k H locs → lv_has ls 20 [(0, .ref o0), (1, .int (nI n)), (2, .int (nI k)), (3, .int (bwE (KE g n k) k)), (4, .int (plL g n)), (5, .int (-900000001)), (6, .int (-900000002)), (7, .int 2147483647), (8, .int 0), (9, .int (-1)), (10, .int (-1)), (11, .int (-1)), (12, .int (-1)), (13, .int 0), (14, .int (-1)), (15, .int 0), (16, .int (-1)), (17, .int (-1)), (18, .int (-1)), (19, .int 1)] → W p l e R s m args below meth c H locs 30 192 Q (F0 m 710 ls [])) : W p l e R s m args below meth c H locs 23 150 Q (F0 m 598 ls []) := by
  obtain ⟨hx, hb, hml, hown, hts, -⟩ := id C
  have hn := hJ.1.n; have hk8 : k ≤ 8 := Nat.le_trans hJ.1.k (by decide)
  refine lv_aload_n hx hb dL_refuses_598 rfl (lv_at hl 0 rfl) ?_
  refine lv_bipush (v := 8) hx hb dL_refuses_599 (by decide) ?_
  refine lv_iload hx hb dL_refuses_601 (lv_at hl 18 rfl) ?_
  refine lv_iconst (v := 0) hx hb dL_refuses_603 (by decide) ?_
  refine lv_iconst (v := 0) hx hb dL_refuses_604 (by decide) ?_
  refine sl_act_8_1 C gL_refuses_L_act dL_refuses_605 hl.1 (Nat.le_of_ble_eq_true rfl) ⟨Nat.le_trans (m := 140) (Nat.le_of_ble_eq_true rfl) hR.1, Nat.le_trans (m := 900) (Nat.le_of_ble_eq_true rfl) hR.2⟩ hRR hJ (-1) 0 0 (by unfold T_value; rw [if_pos (by rw [(zex_ng hk8 (by decide +kernel))]; rfl)]) (fun H locs hJ => ?_)
  refine lv_iload hx hb dL_refuses_608 (lv_at hl 5 rfl) ?_
  refine lv_icmp_ne (tgt := 707) hx hb dL_refuses_610 (by decide) (fun h => absurd h (by decide +kernel)) (fun _ => ?_)
  refine lv_aload_n hx hb dL_refuses_613 rfl (lv_at hl 0 rfl) ?_
  refine lv_bipush (v := 8) hx hb dL_refuses_614 (by decide) ?_
  refine lv_iconst (v := 0) hx hb dL_refuses_616 (by decide) ?_
  refine lv_iload hx hb dL_refuses_617 (lv_at hl 17 rfl) ?_
  refine lv_iconst (v := 0) hx hb dL_refuses_619 (by decide) ?_
  refine sl_act_8_1 C gL_refuses_L_act dL_refuses_620 hl.1 (Nat.le_of_ble_eq_true rfl) ⟨Nat.le_trans (m := 140) (Nat.le_of_ble_eq_true rfl) hR.1, Nat.le_trans (m := 900) (Nat.le_of_ble_eq_true rfl) hR.2⟩ hRR hJ 0 (-1) 0 (by unfold T_value; rw [if_pos (by rw [(zex_ng hn (by decide +kernel)), Bool.and_false])]) (fun H locs hJ => ?_)
  refine lv_iload hx hb dL_refuses_623 (lv_at hl 5 rfl) ?_
  refine lv_icmp_ne (tgt := 707) hx hb dL_refuses_625 (by decide) (fun h => absurd h (by decide +kernel)) (fun _ => ?_)
  refine lv_aload_n hx hb dL_refuses_628 rfl (lv_at hl 0 rfl) ?_
  refine lv_bipush (v := 9) hx hb dL_refuses_629 (by decide) ?_
  refine lv_iload hx hb dL_refuses_631 (lv_at hl 18 rfl) ?_
  refine lv_iconst (v := 0) hx hb dL_refuses_633 (by decide) ?_
  refine lv_iconst (v := 0) hx hb dL_refuses_634 (by decide) ?_
  refine sl_act_9_1 C gL_refuses_L_act dL_refuses_635 hl.1 (Nat.le_of_ble_eq_true rfl) ⟨Nat.le_trans (m := 140) (Nat.le_of_ble_eq_true rfl) hR.1, Nat.le_trans (m := 900) (Nat.le_of_ble_eq_true rfl) hR.2⟩ hRR hJ (-1) 0 0 (by unfold T_amount; rw [if_pos (zex_ng hk8 (by decide +kernel))]) (fun H locs hJ => ?_)
  refine lv_iload hx hb dL_refuses_638 (lv_at hl 5 rfl) ?_
  refine lv_icmp_ne (tgt := 707) hx hb dL_refuses_640 (by decide) (fun h => absurd h (by decide +kernel)) (fun _ => ?_)
  refine lv_aload_n hx hb dL_refuses_643 rfl (lv_at hl 0 rfl) ?_
  refine lv_bipush (v := 10) hx hb dL_refuses_644 (by decide) ?_
  refine lv_iload hx hb dL_refuses_646 (lv_at hl 17 rfl) ?_
  refine lv_iconst (v := 0) hx hb dL_refuses_648 (by decide) ?_
  refine lv_iconst (v := 0) hx hb dL_refuses_649 (by decide) ?_
  refine sl_act_10_1 C gL_refuses_L_act dL_refuses_650 hl.1 (Nat.le_of_ble_eq_true rfl) ⟨Nat.le_trans (m := 140) (Nat.le_of_ble_eq_true rfl) hR.1, Nat.le_trans (m := 900) (Nat.le_of_ble_eq_true rfl) hR.2⟩ hRR hJ (-1) 0 0 (by unfold T_amount; rw [if_pos (zex_ng hn (by decide +kernel))]) (fun H locs hJ => ?_)
  refine lv_iload hx hb dL_refuses_653 (lv_at hl 5 rfl) ?_
  refine lv_icmp_ne (tgt := 707) hx hb dL_refuses_655 (by decide) (fun h => absurd h (by decide +kernel)) (fun _ => ?_)
  refine lv_aload_n hx hb dL_refuses_658 rfl (lv_at hl 0 rfl) ?_
  refine lv_bipush (v := 11) hx hb dL_refuses_659 (by decide) ?_
  refine lv_iload hx hb dL_refuses_661 (lv_at hl 17 rfl) ?_
  refine lv_iconst (v := 0) hx hb dL_refuses_663 (by decide) ?_
  refine lv_iconst (v := 0) hx hb dL_refuses_664 (by decide) ?_
  refine sl_act_11_1 C gL_refuses_L_act dL_refuses_665 hl.1 (Nat.le_of_ble_eq_true rfl) ⟨Nat.le_trans (m := 140) (Nat.le_of_ble_eq_true rfl) hR.1, Nat.le_trans (m := 900) (Nat.le_of_ble_eq_true rfl) hR.2⟩ hRR hJ (-1) 0 0 (by unfold T_amount; rw [if_pos (zex_ng hn (by decide +kernel))]) (fun H locs hJ => ?_)
  refine lv_iload hx hb dL_refuses_668 (lv_at hl 5 rfl) ?_
  refine lv_icmp_ne (tgt := 707) hx hb dL_refuses_670 (by decide) (fun h => absurd h (by decide +kernel)) (fun _ => ?_)
  refine lv_aload_n hx hb dL_refuses_673 rfl (lv_at hl 0 rfl) ?_
  refine lv_bipush (v := 12) hx hb dL_refuses_674 (by decide) ?_
  refine lv_iload hx hb dL_refuses_676 (lv_at hl 18 rfl) ?_
  refine lv_iconst (v := 0) hx hb dL_refuses_678 (by decide) ?_
  refine lv_iconst (v := 0) hx hb dL_refuses_679 (by decide) ?_
  refine sl_act_12_1 C gL_refuses_L_act dL_refuses_680 hl.1 (Nat.le_of_ble_eq_true rfl) ⟨Nat.le_trans (m := 140) (Nat.le_of_ble_eq_true rfl) hR.1, Nat.le_trans (m := 900) (Nat.le_of_ble_eq_true rfl) hR.2⟩ hRR hJ (-1) 0 0 (by unfold T_amount; rw [if_pos (zex_ng hk8 (by decide +kernel))]) (fun H locs hJ => ?_)
  refine lv_iload hx hb dL_refuses_683 (lv_at hl 5 rfl) ?_
  refine lv_icmp_ne (tgt := 707) hx hb dL_refuses_685 (by decide) (fun h => absurd h (by decide +kernel)) (fun _ => ?_)
  refine lv_aload_n hx hb dL_refuses_688 rfl (lv_at hl 0 rfl) ?_
  refine lv_bipush (v := 13) hx hb dL_refuses_689 (by decide) ?_
  refine lv_iload hx hb dL_refuses_691 (lv_at hl 10 rfl) ?_
  refine lv_iconst (v := 0) hx hb dL_refuses_693 (by decide) ?_
  refine lv_iconst (v := 0) hx hb dL_refuses_694 (by decide) ?_
  refine sl_act_13_1 C gL_refuses_L_act dL_refuses_695 hl.1 (Nat.le_of_ble_eq_true rfl) ⟨Nat.le_trans (m := 140) (Nat.le_of_ble_eq_true rfl) hR.1, Nat.le_trans (m := 900) (Nat.le_of_ble_eq_true rfl) hR.2⟩ hRR hJ (-1) 0 0 (by decide +kernel) (fun H locs hJ => ?_)
  refine lv_iload hx hb dL_refuses_698 (lv_at hl 5 rfl) ?_
  refine lv_icmp_ne (tgt := 707) hx hb dL_refuses_700 (by decide) (fun h => absurd h (by decide +kernel)) (fun _ => ?_)
  refine lv_iconst (v := 1) hx hb dL_refuses_703 (by decide) ?_
  refine lv_goto (tgt := 708) hx hb dL_refuses_704 (by decide) ?_
  refine lv_istore (lv' := [(19, .int 1), (0, .ref o0), (1, .int (nI n)), (2, .int (nI k)), (3, .int (bwE (KE g n k) k)), (4, .int (plL g n)), (5, .int (-900000001)), (6, .int (-900000002)), (7, .int 2147483647), (8, .int 0), (9, .int (-1)), (10, .int (-1)), (11, .int (-1)), (12, .int (-1)), (13, .int 0), (14, .int (-1)), (15, .int 0), (16, .int (-1)), (17, .int (-1)), (18, .int (-1))]) hx hb dL_refuses_708 hl (by decide) rfl (fun ls hl => ?_)
  exact kk H locs ls hJ (lv_sub hl [1, 2, 3, 4, 5, 6, 7, 8, 9, 10, 11, 12, 13, 14, 15, 16, 17, 18, 19, 0] rfl)
set_option maxHeartbeats 4000000 in
set_option maxRecDepth 100000 in
theorem rf_0_6 (C : CJ p l R s m args c cL_refuses 20 wsL_refuses D cI cL cE cP A H0) (hRR : 30 ≤ R.frames ∧ 2000 ≤ R.locals) (hR : 140 ≤ R.cells ∧ 900 ≤ R.slots) (hJ : LJ D cI cL cE cP A H0 o0 g n k H locs) (hl : lv_has ls 20 [(0, .ref o0), (1, .int (nI n)), (2, .int (nI k)), (3, .int (bwE (KE g n k) k)), (4, .int (plL g n)), (5, .int (-900000001)), (6, .int (-900000002)), (7, .int 2147483647), (8, .int 0), (9, .int (-1)), (10, .int (-1)), (11, .int (-1)), (12, .int (-1)), (13, .int 0), (14, .int (-1)), (15, .int 0), (16, .int (-1)), (17, .int (-1)), (18, .int (-1)), (19, .int 1)])
    (kk : ∀ (H : Heap) (locs : List Loc) (ls : Array Slot), LJ D cI cL cE cP A H0 o0 g n k H locs → lv_has ls 20 [(0, .ref o0), (1, .int (nI n)), (2, .int (nI k)), (3, .int (bwE (KE g n k) k)), (4, .int (plL g n)), (5, .int (-900000001)), (6, .int (-900000002)), (7, .int 2147483647), (8, .int 0), (9, .int (-1)), (10, .int (-1)), (11, .int (-1)), (12, .int (-1)), (13, .int 0), (14, .int (-1)), (15, .int 0), (16, .int (-1)), (17, .int (-1)), (18, .int (-1)), (19, .int 1)] → W p l e R s m args below meth c H locs 32 204 Q (F0 m 757 ls [])) : W p l e R s m args below meth c H locs 30 192 Q (F0 m 710 ls []) := by
  obtain ⟨hx, hb, hml, hown, hts, -⟩ := id C
  have hn := hJ.1.n; have hk8 : k ≤ 8 := Nat.le_trans hJ.1.k (by decide)
  refine lv_iload hx hb dL_refuses_710 (lv_at hl 19 rfl) ?_
  refine lv_if_eq (tgt := 795) hx hb dL_refuses_712 (by decide) (fun h => absurd h (by decide +kernel)) (fun _ => ?_)
  refine lv_iload_n hx hb dL_refuses_715 rfl (lv_at hl 1 rfl) ?_
  refine lv_if_eq (tgt := 757) hx hb dL_refuses_716 (by decide) (fun _ => ?_) (fun hz => ?_)
  · exact W.widen (k := 32) (n := 204) (Nat.le_of_ble_eq_true rfl) (Nat.le_of_ble_eq_true rfl) (kk H locs ls hJ (lv_sub hl [0, 1, 2, 3, 4, 5, 6, 7, 8, 9, 10, 11, 12, 13, 14, 15, 16, 17, 18, 19] rfl))
  · have hz := zex_0 hn hz
    refine lv_aload_n hx hb dL_refuses_719 rfl (lv_at hl 0 rfl) ?_
    refine lv_iconst (v := 3) hx hb dL_refuses_720 (by decide) ?_
    refine lv_iconst (v := 0) hx hb dL_refuses_721 (by decide) ?_
    refine lv_iload hx hb dL_refuses_722 (lv_at hl 8 rfl) ?_
    refine lv_if_ne (tgt := 732) hx hb dL_refuses_724 (by decide) (fun h => absurd h (by decide +kernel)) (fun _ => ?_)
    refine lv_ldc (v := (-10000001)) hx hb hown (hts (.constant RL 101 (-10000001)) (by decide +kernel)) dL_refuses_727 ?_
    refine lv_goto (tgt := 734) hx hb dL_refuses_729 (by decide) ?_
    refine lv_iconst (v := 0) hx hb dL_refuses_734 (by decide) ?_
    refine sl_act_3_2 C gL_refuses_L_act dL_refuses_735 hl.1 (Nat.le_of_ble_eq_true rfl) ⟨Nat.le_trans (m := 140) (Nat.le_of_ble_eq_true rfl) hR.1, Nat.le_trans (m := 900) (Nat.le_of_ble_eq_true rfl) hR.2⟩ hRR hJ 0 (-10000001) 0 (by unfold T_draw; rw [if_neg (by rw [hz]; decide), if_pos (by decide +kernel)]) (fun H locs hJ => ?_)
    refine lv_iload hx hb dL_refuses_738 (lv_at hl 6 rfl) ?_
    refine lv_icmp_ne (tgt := 795) hx hb dL_refuses_740 (by decide) (fun h => absurd h (by decide +kernel)) (fun _ => ?_)
    refine lv_aload_n hx hb dL_refuses_743 rfl (lv_at hl 0 rfl) ?_
    refine lv_iconst (v := 5) hx hb dL_refuses_744 (by decide) ?_
    refine lv_iconst (v := 0) hx hb dL_refuses_745 (by decide) ?_
    refine lv_iconst (v := 0) hx hb dL_refuses_746 (by decide) ?_
    refine lv_iload hx hb dL_refuses_747 (lv_at hl 12 rfl) ?_
    refine sl_act_5_2 C gL_refuses_L_act dL_refuses_749 hl.1 (Nat.le_of_ble_eq_true rfl) ⟨Nat.le_trans (m := 140) (Nat.le_of_ble_eq_true rfl) hR.1, Nat.le_trans (m := 900) (Nat.le_of_ble_eq_true rfl) hR.2⟩ hRR hJ 0 0 (-1) (by unfold T_guarantee; rw [if_neg (by rw [hz]; decide +kernel), if_pos (by decide +kernel)]) (fun H locs hJ => ?_)
    refine lv_iload hx hb dL_refuses_752 (lv_at hl 6 rfl) ?_
    refine lv_icmp_ne (tgt := 795) hx hb dL_refuses_754 (by decide) (fun h => absurd h (by decide +kernel)) (fun _ => ?_)
    exact kk H locs ls hJ (lv_sub hl [0, 1, 2, 3, 4, 5, 6, 7, 8, 9, 10, 11, 12, 13, 14, 15, 16, 17, 18, 19] rfl)
set_option maxHeartbeats 4000000 in
set_option maxRecDepth 100000 in
theorem rf_0_7 (C : CJ p l R s m args c cL_refuses 20 wsL_refuses D cI cL cE cP A H0) (hRR : 30 ≤ R.frames ∧ 2000 ≤ R.locals) (hR : 140 ≤ R.cells ∧ 900 ≤ R.slots) (hJ : LJ D cI cL cE cP A H0 o0 g n k H locs) (hl : lv_has ls 20 [(0, .ref o0), (1, .int (nI n)), (2, .int (nI k)), (3, .int (bwE (KE g n k) k)), (4, .int (plL g n)), (5, .int (-900000001)), (6, .int (-900000002)), (7, .int 2147483647), (8, .int 0), (9, .int (-1)), (10, .int (-1)), (11, .int (-1)), (12, .int (-1)), (13, .int 0), (14, .int (-1)), (15, .int 0), (16, .int (-1)), (17, .int (-1)), (18, .int (-1)), (19, .int 1)])
    (kk : ∀ (H : Heap) (locs : List Loc) (ls : Array Slot), LJ D cI cL cE cP A H0 o0 g n k H locs → lv_has ls 20 [(0, .ref o0), (1, .int (nI n)), (2, .int (nI k)), (3, .int (bwE (KE g n k) k)), (4, .int (plL g n)), (5, .int (-900000001)), (6, .int (-900000002)), (7, .int 2147483647), (8, .int 1)] → W p l e R s m args below meth c H locs 34 216 Q (F0 m 36 ls [])) : W p l e R s m args below meth c H locs 32 204 Q (F0 m 757 ls []) := by
  obtain ⟨hx, hb, hml, hown, hts, -⟩ := id C
  have hn := hJ.1.n; have hk8 : k ≤ 8 := Nat.le_trans hJ.1.k (by decide)
  refine lv_iload_n hx hb dL_refuses_757 rfl (lv_at hl 2 rfl) ?_
  refine lv_if_eq (tgt := 791) hx hb dL_refuses_758 (by decide) (fun _ => ?_) (fun hz => ?_)
  · refine lv_iconst (v := 1) hx hb dL_refuses_791 (by decide) ?_
    refine lv_goto (tgt := 796) hx hb dL_refuses_792 (by decide) ?_
    refine lv_istore (lv' := [(19, .int 1), (0, .ref o0), (1, .int (nI n)), (2, .int (nI k)), (3, .int (bwE (KE g n k) k)), (4, .int (plL g n)), (5, .int (-900000001)), (6, .int (-900000002)), (7, .int 2147483647), (8, .int 0), (9, .int (-1)), (10, .int (-1)), (11, .int (-1)), (12, .int (-1)), (13, .int 0), (14, .int (-1)), (15, .int 0), (16, .int (-1)), (17, .int (-1)), (18, .int (-1))]) hx hb dL_refuses_796 hl (by decide) rfl (fun ls hl => ?_)
    refine lv_iload hx hb dL_refuses_798 (lv_at hl 0 rfl) ?_
    refine lv_if_ne (tgt := 805) hx hb dL_refuses_800 (by decide) (fun _ => ?_) (fun h => absurd h (by decide +kernel))
    refine lv_iinc (v := 1) (lv' := [(8, .int 1), (19, .int 1), (0, .ref o0), (1, .int (nI n)), (2, .int (nI k)), (3, .int (bwE (KE g n k) k)), (4, .int (plL g n)), (5, .int (-900000001)), (6, .int (-900000002)), (7, .int 2147483647), (9, .int (-1)), (10, .int (-1)), (11, .int (-1)), (12, .int (-1)), (13, .int 0), (14, .int (-1)), (15, .int 0), (16, .int (-1)), (17, .int (-1)), (18, .int (-1))]) hx hb dL_refuses_805 hl (k := 9) rfl (by decide +kernel) (by decide) rfl (fun ls hl => ?_)
    refine lv_goto (tgt := 36) hx hb dL_refuses_808 (by decide) ?_
    exact W.widen (k := 34) (n := 216) (Nat.le_of_ble_eq_true rfl) (Nat.le_of_ble_eq_true rfl) (kk H locs ls hJ (lv_sub hl [2, 3, 4, 5, 6, 7, 8, 9, 0] rfl))
  · have hz := zex_0 hk8 hz
    refine lv_aload_n hx hb dL_refuses_761 rfl (lv_at hl 0 rfl) ?_
    refine lv_bipush (v := 7) hx hb dL_refuses_762 (by decide) ?_
    refine lv_iconst (v := 0) hx hb dL_refuses_764 (by decide) ?_
    refine lv_iload hx hb dL_refuses_765 (lv_at hl 15 rfl) ?_
    refine lv_iconst (v := 0) hx hb dL_refuses_767 (by decide) ?_
    refine sl_act_7_2 C gL_refuses_L_act dL_refuses_768 hl.1 (Nat.le_of_ble_eq_true rfl) ⟨Nat.le_trans (m := 140) (Nat.le_of_ble_eq_true rfl) hR.1, Nat.le_trans (m := 900) (Nat.le_of_ble_eq_true rfl) hR.2⟩ hRR hJ 0 0 0 (by unfold T_setPiece; rw [if_neg (by rw [hz]; decide), if_pos (by decide +kernel)]) (fun H locs hJ => ?_)
    refine lv_iload hx hb dL_refuses_771 (lv_at hl 6 rfl) ?_
    refine lv_icmp_ne (tgt := 795) hx hb dL_refuses_773 (by decide) (fun h => absurd h (by decide +kernel)) (fun _ => ?_)
    refine lv_aload_n hx hb dL_refuses_776 rfl (lv_at hl 0 rfl) ?_
    refine lv_bipush (v := 7) hx hb dL_refuses_777 (by decide) ?_
    refine lv_iconst (v := 0) hx hb dL_refuses_779 (by decide) ?_
    refine lv_iconst (v := 5) hx hb dL_refuses_780 (by decide) ?_
    refine lv_iload hx hb dL_refuses_781 (lv_at hl 16 rfl) ?_
    refine sl_act_7_2 C gL_refuses_L_act dL_refuses_783 hl.1 (Nat.le_of_ble_eq_true rfl) ⟨Nat.le_trans (m := 140) (Nat.le_of_ble_eq_true rfl) hR.1, Nat.le_trans (m := 900) (Nat.le_of_ble_eq_true rfl) hR.2⟩ hRR hJ 0 5 (-1) (by unfold T_setPiece; rw [if_neg (by rw [hz]; decide), if_pos (by decide +kernel)]) (fun H locs hJ => ?_)
    refine lv_iload hx hb dL_refuses_786 (lv_at hl 6 rfl) ?_
    refine lv_icmp_ne (tgt := 795) hx hb dL_refuses_788 (by decide) (fun h => absurd h (by decide +kernel)) (fun _ => ?_)
    refine lv_iconst (v := 1) hx hb dL_refuses_791 (by decide) ?_
    refine lv_goto (tgt := 796) hx hb dL_refuses_792 (by decide) ?_
    refine lv_istore (lv' := [(19, .int 1), (0, .ref o0), (1, .int (nI n)), (2, .int (nI k)), (3, .int (bwE (KE g n k) k)), (4, .int (plL g n)), (5, .int (-900000001)), (6, .int (-900000002)), (7, .int 2147483647), (8, .int 0), (9, .int (-1)), (10, .int (-1)), (11, .int (-1)), (12, .int (-1)), (13, .int 0), (14, .int (-1)), (15, .int 0), (16, .int (-1)), (17, .int (-1)), (18, .int (-1))]) hx hb dL_refuses_796 hl (by decide) rfl (fun ls hl => ?_)
    refine lv_iload hx hb dL_refuses_798 (lv_at hl 0 rfl) ?_
    refine lv_if_ne (tgt := 805) hx hb dL_refuses_800 (by decide) (fun _ => ?_) (fun h => absurd h (by decide +kernel))
    refine lv_iinc (v := 1) (lv' := [(8, .int 1), (19, .int 1), (0, .ref o0), (1, .int (nI n)), (2, .int (nI k)), (3, .int (bwE (KE g n k) k)), (4, .int (plL g n)), (5, .int (-900000001)), (6, .int (-900000002)), (7, .int 2147483647), (9, .int (-1)), (10, .int (-1)), (11, .int (-1)), (12, .int (-1)), (13, .int 0), (14, .int (-1)), (15, .int 0), (16, .int (-1)), (17, .int (-1)), (18, .int (-1))]) hx hb dL_refuses_805 hl (k := 9) rfl (by decide +kernel) (by decide) rfl (fun ls hl => ?_)
    refine lv_goto (tgt := 36) hx hb dL_refuses_808 (by decide) ?_
    exact kk H locs ls hJ (lv_sub hl [2, 3, 4, 5, 6, 7, 8, 9, 0] rfl)
set_option maxHeartbeats 4000000 in
set_option maxRecDepth 100000 in
theorem rf_1_0 (C : CJ p l R s m args c cL_refuses 20 wsL_refuses D cI cL cE cP A H0) (hRR : 30 ≤ R.frames ∧ 2000 ≤ R.locals) (hR : 140 ≤ R.cells ∧ 900 ≤ R.slots) (hJ : LJ D cI cL cE cP A H0 o0 g n k H locs) (hl : lv_has ls 20 [(0, .ref o0), (1, .int (nI n)), (2, .int (nI k)), (3, .int (bwE (KE g n k) k)), (4, .int (plL g n)), (5, .int (-900000001)), (6, .int (-900000002)), (7, .int 2147483647), (8, .int 1)])
    (kk : ∀ (H : Heap) (locs : List Loc) (ls : Array Slot), LJ D cI cL cE cP A H0 o0 g n k H locs → lv_has ls 20 [(0, .ref o0), (1, .int (nI n)), (2, .int (nI k)), (3, .int (bwE (KE g n k) k)), (4, .int (plL g n)), (5, .int (-900000001)), (6, .int (-900000002)), (7, .int 2147483647), (8, .int 1), (9, .int (-2147483648)), (10, .int 4), (11, .int 101), (12, .int 10000001), (13, .int 3651), (14, .int 3), (15, .int 10000001), (16, .int 256), (17, .int (nI n)), (18, .int (nI k))] → W p l e R s m args below meth c H locs 34 216 Q (F0 m 209 ls [])) : W p l e R s m args below meth c H locs 34 216 Q (F0 m 36 ls []) := by
  obtain ⟨hx, hb, hml, hown, hts, -⟩ := id C
  have hn := hJ.1.n; have hk8 : k ≤ 8 := Nat.le_trans hJ.1.k (by decide)
  refine lv_iload hx hb dL_refuses_36 (lv_at hl 8 rfl) ?_
  refine lv_iconst (v := 4) hx hb dL_refuses_38 (by decide) ?_
  refine lv_icmp_ge (tgt := 811) hx hb dL_refuses_39 (by decide) (fun h => absurd h (by decide +kernel)) (fun _ => ?_)
  refine lv_iload hx hb dL_refuses_42 (lv_at hl 8 rfl) ?_
  refine lv_if_ne (tgt := 51) hx hb dL_refuses_44 (by decide) (fun _ => ?_) (fun h => absurd h (by decide +kernel))
  refine lv_iload hx hb dL_refuses_51 (lv_at hl 8 rfl) ?_
  refine lv_iconst (v := 2) hx hb dL_refuses_53 (by decide) ?_
  refine lv_icmp_ne (tgt := 62) hx hb dL_refuses_54 (by decide) (fun _ => ?_) (fun h => absurd h (by decide +kernel))
  refine lv_iload hx hb dL_refuses_62 (lv_at hl 7 rfl) ?_
  refine lv_ineg hx hb dL_refuses_64 ?_
  rw [show (-(2147483647) : Int32) = (-2147483647) from by decide +kernel]
  refine lv_iconst (v := 1) hx hb dL_refuses_65 (by decide) ?_
  refine lv_isub hx hb dL_refuses_66 ?_
  rw [show ((-2147483647) - (1) : Int32) = (-2147483648) from by decide +kernel]
  refine lv_istore (lv' := [(9, .int (-2147483648)), (0, .ref o0), (1, .int (nI n)), (2, .int (nI k)), (3, .int (bwE (KE g n k) k)), (4, .int (plL g n)), (5, .int (-900000001)), (6, .int (-900000002)), (7, .int 2147483647), (8, .int 1)]) hx hb dL_refuses_67 hl (by decide) rfl (fun ls hl => ?_)
  refine lv_iload hx hb dL_refuses_69 (lv_at hl 9 rfl) ?_
  refine lv_iconst (v := 1) hx hb dL_refuses_71 (by decide) ?_
  refine lv_icmp_ne (tgt := 79) hx hb dL_refuses_72 (by decide) (fun h => absurd h (by decide +kernel)) (fun _ => ?_)
  refine lv_iconst (v := 4) hx hb dL_refuses_75 (by decide) ?_
  refine lv_goto (tgt := 81) hx hb dL_refuses_76 (by decide) ?_
  refine lv_istore (lv' := [(10, .int 4), (9, .int (-2147483648)), (0, .ref o0), (1, .int (nI n)), (2, .int (nI k)), (3, .int (bwE (KE g n k) k)), (4, .int (plL g n)), (5, .int (-900000001)), (6, .int (-900000002)), (7, .int 2147483647), (8, .int 1)]) hx hb dL_refuses_81 hl (by decide) rfl (fun ls hl => ?_)
  refine lv_iload hx hb dL_refuses_83 (lv_at hl 10 rfl) ?_
  refine lv_iconst (v := 1) hx hb dL_refuses_85 (by decide) ?_
  refine lv_icmp_ne (tgt := 94) hx hb dL_refuses_86 (by decide) (fun h => absurd h (by decide +kernel)) (fun _ => ?_)
  refine lv_bipush (v := 101) hx hb dL_refuses_89 (by decide) ?_
  refine lv_goto (tgt := 96) hx hb dL_refuses_91 (by decide) ?_
  refine lv_istore (lv' := [(11, .int 101), (10, .int 4), (9, .int (-2147483648)), (0, .ref o0), (1, .int (nI n)), (2, .int (nI k)), (3, .int (bwE (KE g n k) k)), (4, .int (plL g n)), (5, .int (-900000001)), (6, .int (-900000002)), (7, .int 2147483647), (8, .int 1)]) hx hb dL_refuses_96 hl (by decide) rfl (fun ls hl => ?_)
  refine lv_iload hx hb dL_refuses_98 (lv_at hl 11 rfl) ?_
  refine lv_iconst (v := 1) hx hb dL_refuses_100 (by decide) ?_
  refine lv_icmp_ne (tgt := 109) hx hb dL_refuses_101 (by decide) (fun h => absurd h (by decide +kernel)) (fun _ => ?_)
  refine lv_ldc (v := 10000001) hx hb hown (hts (.constant RL 85 (10000001)) (by decide +kernel)) dL_refuses_104 ?_
  refine lv_goto (tgt := 111) hx hb dL_refuses_106 (by decide) ?_
  refine lv_istore (lv' := [(12, .int 10000001), (11, .int 101), (10, .int 4), (9, .int (-2147483648)), (0, .ref o0), (1, .int (nI n)), (2, .int (nI k)), (3, .int (bwE (KE g n k) k)), (4, .int (plL g n)), (5, .int (-900000001)), (6, .int (-900000002)), (7, .int 2147483647), (8, .int 1)]) hx hb dL_refuses_111 hl (by decide) rfl (fun ls hl => ?_)
  refine lv_iload hx hb dL_refuses_113 (lv_at hl 12 rfl) ?_
  refine lv_if_ne (tgt := 122) hx hb dL_refuses_115 (by decide) (fun _ => ?_) (fun h => absurd h (by decide +kernel))
  refine lv_iload hx hb dL_refuses_122 (lv_at hl 12 rfl) ?_
  refine lv_iconst (v := 1) hx hb dL_refuses_124 (by decide) ?_
  refine lv_icmp_ne (tgt := 134) hx hb dL_refuses_125 (by decide) (fun h => absurd h (by decide +kernel)) (fun _ => ?_)
  refine lv_sipush (v := 3651) hx hb dL_refuses_128 (by decide) ?_
  refine lv_goto (tgt := 136) hx hb dL_refuses_131 (by decide) ?_
  refine lv_istore (lv' := [(13, .int 3651), (12, .int 10000001), (11, .int 101), (10, .int 4), (9, .int (-2147483648)), (0, .ref o0), (1, .int (nI n)), (2, .int (nI k)), (3, .int (bwE (KE g n k) k)), (4, .int (plL g n)), (5, .int (-900000001)), (6, .int (-900000002)), (7, .int 2147483647), (8, .int 1)]) hx hb dL_refuses_136 hl (by decide) rfl (fun ls hl => ?_)
  refine lv_iload hx hb dL_refuses_138 (lv_at hl 13 rfl) ?_
  refine lv_iconst (v := 1) hx hb dL_refuses_140 (by decide) ?_
  refine lv_icmp_ne (tgt := 148) hx hb dL_refuses_141 (by decide) (fun h => absurd h (by decide +kernel)) (fun _ => ?_)
  refine lv_iconst (v := 3) hx hb dL_refuses_144 (by decide) ?_
  refine lv_goto (tgt := 150) hx hb dL_refuses_145 (by decide) ?_
  refine lv_istore (lv' := [(14, .int 3), (13, .int 3651), (12, .int 10000001), (11, .int 101), (10, .int 4), (9, .int (-2147483648)), (0, .ref o0), (1, .int (nI n)), (2, .int (nI k)), (3, .int (bwE (KE g n k) k)), (4, .int (plL g n)), (5, .int (-900000001)), (6, .int (-900000002)), (7, .int 2147483647), (8, .int 1)]) hx hb dL_refuses_150 hl (by decide) rfl (fun ls hl => ?_)
  refine lv_iload hx hb dL_refuses_152 (lv_at hl 14 rfl) ?_
  refine lv_if_ne (tgt := 161) hx hb dL_refuses_154 (by decide) (fun _ => ?_) (fun h => absurd h (by decide +kernel))
  refine lv_iload hx hb dL_refuses_161 (lv_at hl 2 rfl) ?_
  refine lv_istore (lv' := [(15, .int 10000001), (14, .int 3), (13, .int 3651), (12, .int 10000001), (11, .int 101), (10, .int 4), (9, .int (-2147483648)), (0, .ref o0), (1, .int (nI n)), (2, .int (nI k)), (3, .int (bwE (KE g n k) k)), (4, .int (plL g n)), (5, .int (-900000001)), (6, .int (-900000002)), (7, .int 2147483647), (8, .int 1)]) hx hb dL_refuses_163 hl (by decide) rfl (fun ls hl => ?_)
  refine lv_iload hx hb dL_refuses_165 (lv_at hl 15 rfl) ?_
  refine lv_iconst (v := 1) hx hb dL_refuses_167 (by decide) ?_
  refine lv_icmp_ne (tgt := 177) hx hb dL_refuses_168 (by decide) (fun h => absurd h (by decide +kernel)) (fun _ => ?_)
  refine lv_sipush (v := 256) hx hb dL_refuses_171 (by decide) ?_
  refine lv_goto (tgt := 179) hx hb dL_refuses_174 (by decide) ?_
  refine lv_istore (lv' := [(16, .int 256), (15, .int 10000001), (14, .int 3), (13, .int 3651), (12, .int 10000001), (11, .int 101), (10, .int 4), (9, .int (-2147483648)), (0, .ref o0), (1, .int (nI n)), (2, .int (nI k)), (3, .int (bwE (KE g n k) k)), (4, .int (plL g n)), (5, .int (-900000001)), (6, .int (-900000002)), (7, .int 2147483647), (8, .int 1)]) hx hb dL_refuses_179 hl (by decide) rfl (fun ls hl => ?_)
  refine lv_iload hx hb dL_refuses_181 (lv_at hl 16 rfl) ?_
  refine lv_iconst (v := 1) hx hb dL_refuses_183 (by decide) ?_
  refine lv_icmp_ne (tgt := 191) hx hb dL_refuses_184 (by decide) (fun h => absurd h (by decide +kernel)) (fun _ => ?_)
  refine lv_iload_n hx hb dL_refuses_187 rfl (lv_at hl 9 rfl) ?_
  refine lv_goto (tgt := 193) hx hb dL_refuses_188 (by decide) ?_
  refine lv_istore (lv' := [(17, .int (nI n)), (16, .int 256), (15, .int 10000001), (14, .int 3), (13, .int 3651), (12, .int 10000001), (11, .int 101), (10, .int 4), (9, .int (-2147483648)), (0, .ref o0), (1, .int (nI n)), (2, .int (nI k)), (3, .int (bwE (KE g n k) k)), (4, .int (plL g n)), (5, .int (-900000001)), (6, .int (-900000002)), (7, .int 2147483647), (8, .int 1)]) hx hb dL_refuses_193 hl (by decide) rfl (fun ls hl => ?_)
  refine lv_iload hx hb dL_refuses_195 (lv_at hl 17 rfl) ?_
  refine lv_iconst (v := 1) hx hb dL_refuses_197 (by decide) ?_
  refine lv_icmp_ne (tgt := 205) hx hb dL_refuses_198 (by decide) (fun h => absurd h (by decide +kernel)) (fun _ => ?_)
  refine lv_iload_n hx hb dL_refuses_201 rfl (lv_at hl 11 rfl) ?_
  refine lv_goto (tgt := 207) hx hb dL_refuses_202 (by decide) ?_
  refine lv_istore (lv' := [(18, .int (nI k)), (17, .int (nI n)), (16, .int 256), (15, .int 10000001), (14, .int 3), (13, .int 3651), (12, .int 10000001), (11, .int 101), (10, .int 4), (9, .int (-2147483648)), (0, .ref o0), (1, .int (nI n)), (2, .int (nI k)), (3, .int (bwE (KE g n k) k)), (4, .int (plL g n)), (5, .int (-900000001)), (6, .int (-900000002)), (7, .int 2147483647), (8, .int 1)]) hx hb dL_refuses_207 hl (by decide) rfl (fun ls hl => ?_)
  exact kk H locs ls hJ (lv_sub hl [10, 11, 12, 13, 14, 15, 16, 17, 18, 9, 8, 7, 6, 5, 4, 3, 2, 1, 0] rfl)
set_option maxHeartbeats 4000000 in
set_option maxRecDepth 100000 in
theorem rf_1_1 (C : CJ p l R s m args c cL_refuses 20 wsL_refuses D cI cL cE cP A H0) (hRR : 30 ≤ R.frames ∧ 2000 ≤ R.locals) (hR : 140 ≤ R.cells ∧ 900 ≤ R.slots) (hJ : LJ D cI cL cE cP A H0 o0 g n k H locs) (hl : lv_has ls 20 [(0, .ref o0), (1, .int (nI n)), (2, .int (nI k)), (3, .int (bwE (KE g n k) k)), (4, .int (plL g n)), (5, .int (-900000001)), (6, .int (-900000002)), (7, .int 2147483647), (8, .int 1), (9, .int (-2147483648)), (10, .int 4), (11, .int 101), (12, .int 10000001), (13, .int 3651), (14, .int 3), (15, .int 10000001), (16, .int 256), (17, .int (nI n)), (18, .int (nI k))])
    (kk : ∀ (H : Heap) (locs : List Loc) (ls : Array Slot), LJ D cI cL cE cP A H0 o0 g n k H locs → lv_has ls 20 [(0, .ref o0), (1, .int (nI n)), (2, .int (nI k)), (3, .int (bwE (KE g n k) k)), (4, .int (plL g n)), (5, .int (-900000001)), (6, .int (-900000002)), (7, .int 2147483647), (8, .int 1), (9, .int (-2147483648)), (10, .int 4), (11, .int 101), (12, .int 10000001), (13, .int 3651), (14, .int 3), (15, .int 10000001), (16, .int 256), (17, .int (nI n)), (18, .int (nI k))] → W p l e R s m args below meth c H locs 39 246 Q (F0 m 314 ls [])) : W p l e R s m args below meth c H locs 34 216 Q (F0 m 209 ls []) := by
  obtain ⟨hx, hb, hml, hown, hts, -⟩ := id C
  have hn := hJ.1.n; have hk8 : k ≤ 8 := Nat.le_trans hJ.1.k (by decide)
  refine lv_aload_n hx hb dL_refuses_209 rfl (lv_at hl 0 rfl) ?_
  refine lv_iconst (v := 0) hx hb dL_refuses_210 (by decide) ?_
  refine lv_iload hx hb dL_refuses_211 (lv_at hl 10 rfl) ?_
  refine lv_iconst (v := (-1)) hx hb dL_refuses_213 (by decide) ?_
  refine lv_iconst (v := (-1)) hx hb dL_refuses_214 (by decide) ?_
  refine sl_act_0_1 C gL_refuses_L_act dL_refuses_215 hl.1 (Nat.le_of_ble_eq_true rfl) ⟨Nat.le_trans (m := 140) (Nat.le_of_ble_eq_true rfl) hR.1, Nat.le_trans (m := 900) (Nat.le_of_ble_eq_true rfl) hR.2⟩ hRR hJ 4 (-1) (-1) (by decide +kernel) (fun H locs hJ => ?_)
  refine lv_iload hx hb dL_refuses_218 (lv_at hl 5 rfl) ?_
  refine lv_icmp_ne (tgt := 414) hx hb dL_refuses_220 (by decide) (fun h => absurd h (by decide +kernel)) (fun _ => ?_)
  refine lv_aload_n hx hb dL_refuses_223 rfl (lv_at hl 0 rfl) ?_
  refine lv_iconst (v := 0) hx hb dL_refuses_224 (by decide) ?_
  refine lv_iconst (v := 0) hx hb dL_refuses_225 (by decide) ?_
  refine lv_iload hx hb dL_refuses_226 (lv_at hl 8 rfl) ?_
  refine lv_iconst (v := 1) hx hb dL_refuses_228 (by decide) ?_
  refine lv_icmp_ne (tgt := 238) hx hb dL_refuses_229 (by decide) (fun h => absurd h (by decide +kernel)) (fun _ => ?_)
  refine lv_sipush (v := 401) hx hb dL_refuses_232 (by decide) ?_
  refine lv_goto (tgt := 240) hx hb dL_refuses_235 (by decide) ?_
  refine lv_iconst (v := 0) hx hb dL_refuses_240 (by decide) ?_
  refine sl_act_0_2 C gL_refuses_L_act dL_refuses_241 hl.1 (Nat.le_of_ble_eq_true rfl) ⟨Nat.le_trans (m := 140) (Nat.le_of_ble_eq_true rfl) hR.1, Nat.le_trans (m := 900) (Nat.le_of_ble_eq_true rfl) hR.2⟩ hRR hJ 0 401 0 (by decide +kernel) (fun H locs hJ => ?_)
  refine lv_iload hx hb dL_refuses_244 (lv_at hl 6 rfl) ?_
  refine lv_icmp_ne (tgt := 414) hx hb dL_refuses_246 (by decide) (fun h => absurd h (by decide +kernel)) (fun _ => ?_)
  refine lv_aload_n hx hb dL_refuses_249 rfl (lv_at hl 0 rfl) ?_
  refine lv_iconst (v := 0) hx hb dL_refuses_250 (by decide) ?_
  refine lv_iconst (v := 0) hx hb dL_refuses_251 (by decide) ?_
  refine lv_iconst (v := 0) hx hb dL_refuses_252 (by decide) ?_
  refine lv_iload hx hb dL_refuses_253 (lv_at hl 8 rfl) ?_
  refine lv_iconst (v := 1) hx hb dL_refuses_255 (by decide) ?_
  refine lv_icmp_ne (tgt := 265) hx hb dL_refuses_256 (by decide) (fun h => absurd h (by decide +kernel)) (fun _ => ?_)
  refine lv_sipush (v := 401) hx hb dL_refuses_259 (by decide) ?_
  refine lv_goto (tgt := 267) hx hb dL_refuses_262 (by decide) ?_
  refine sl_act_0_2 C gL_refuses_L_act dL_refuses_267 hl.1 (Nat.le_of_ble_eq_true rfl) ⟨Nat.le_trans (m := 140) (Nat.le_of_ble_eq_true rfl) hR.1, Nat.le_trans (m := 900) (Nat.le_of_ble_eq_true rfl) hR.2⟩ hRR hJ 0 0 401 (by decide +kernel) (fun H locs hJ => ?_)
  refine lv_iload hx hb dL_refuses_270 (lv_at hl 6 rfl) ?_
  refine lv_icmp_ne (tgt := 414) hx hb dL_refuses_272 (by decide) (fun h => absurd h (by decide +kernel)) (fun _ => ?_)
  refine lv_aload_n hx hb dL_refuses_275 rfl (lv_at hl 0 rfl) ?_
  refine lv_iconst (v := 1) hx hb dL_refuses_276 (by decide) ?_
  refine lv_iload hx hb dL_refuses_277 (lv_at hl 11 rfl) ?_
  refine lv_iconst (v := 0) hx hb dL_refuses_279 (by decide) ?_
  refine lv_iconst (v := 0) hx hb dL_refuses_280 (by decide) ?_
  refine sl_act_1_1 C gL_refuses_L_act dL_refuses_281 hl.1 (Nat.le_of_ble_eq_true rfl) ⟨Nat.le_trans (m := 140) (Nat.le_of_ble_eq_true rfl) hR.1, Nat.le_trans (m := 900) (Nat.le_of_ble_eq_true rfl) hR.2⟩ hRR hJ 101 0 0 (by decide +kernel) (fun H locs hJ => ?_)
  refine lv_iload hx hb dL_refuses_284 (lv_at hl 6 rfl) ?_
  refine lv_icmp_ne (tgt := 414) hx hb dL_refuses_286 (by decide) (fun h => absurd h (by decide +kernel)) (fun _ => ?_)
  refine lv_aload_n hx hb dL_refuses_289 rfl (lv_at hl 0 rfl) ?_
  refine lv_iconst (v := 2) hx hb dL_refuses_290 (by decide) ?_
  refine lv_iload hx hb dL_refuses_291 (lv_at hl 8 rfl) ?_
  refine lv_iconst (v := 1) hx hb dL_refuses_293 (by decide) ?_
  refine lv_icmp_ne (tgt := 302) hx hb dL_refuses_294 (by decide) (fun h => absurd h (by decide +kernel)) (fun _ => ?_)
  refine lv_ldc (v := 1000000001) hx hb hown (hts (.constant RL 92 (1000000001)) (by decide +kernel)) dL_refuses_297 ?_
  refine lv_goto (tgt := 304) hx hb dL_refuses_299 (by decide) ?_
  refine lv_iconst (v := 0) hx hb dL_refuses_304 (by decide) ?_
  refine lv_iconst (v := 0) hx hb dL_refuses_305 (by decide) ?_
  refine sl_act_2_1 C gL_refuses_L_act dL_refuses_306 hl.1 (Nat.le_of_ble_eq_true rfl) ⟨Nat.le_trans (m := 140) (Nat.le_of_ble_eq_true rfl) hR.1, Nat.le_trans (m := 900) (Nat.le_of_ble_eq_true rfl) hR.2⟩ hRR hJ 1000000001 0 0 (by decide +kernel) (fun H locs hJ => ?_)
  refine lv_iload hx hb dL_refuses_309 (lv_at hl 6 rfl) ?_
  refine lv_icmp_ne (tgt := 414) hx hb dL_refuses_311 (by decide) (fun h => absurd h (by decide +kernel)) (fun _ => ?_)
  exact kk H locs ls hJ (lv_sub hl [0, 1, 2, 3, 4, 5, 6, 7, 8, 9, 10, 11, 12, 13, 14, 15, 16, 17, 18] rfl)
set_option maxHeartbeats 4000000 in
set_option maxRecDepth 100000 in
theorem rf_1_2 (C : CJ p l R s m args c cL_refuses 20 wsL_refuses D cI cL cE cP A H0) (hRR : 30 ≤ R.frames ∧ 2000 ≤ R.locals) (hR : 140 ≤ R.cells ∧ 900 ≤ R.slots) (hJ : LJ D cI cL cE cP A H0 o0 g n k H locs) (hl : lv_has ls 20 [(0, .ref o0), (1, .int (nI n)), (2, .int (nI k)), (3, .int (bwE (KE g n k) k)), (4, .int (plL g n)), (5, .int (-900000001)), (6, .int (-900000002)), (7, .int 2147483647), (8, .int 1), (9, .int (-2147483648)), (10, .int 4), (11, .int 101), (12, .int 10000001), (13, .int 3651), (14, .int 3), (15, .int 10000001), (16, .int 256), (17, .int (nI n)), (18, .int (nI k))])
    (kk : ∀ (H : Heap) (locs : List Loc) (ls : Array Slot), LJ D cI cL cE cP A H0 o0 g n k H locs → lv_has ls 20 [(0, .ref o0), (1, .int (nI n)), (2, .int (nI k)), (3, .int (bwE (KE g n k) k)), (4, .int (plL g n)), (5, .int (-900000001)), (6, .int (-900000002)), (7, .int 2147483647), (8, .int 1), (9, .int (-2147483648)), (10, .int 4), (11, .int 101), (12, .int 10000001), (13, .int 3651), (14, .int 3), (15, .int 10000001), (16, .int 256), (17, .int (nI n)), (18, .int (nI k)), (19, .int 1)] → W p l e R s m args below meth c H locs 45 294 Q (F0 m 417 ls [])) : W p l e R s m args below meth c H locs 39 246 Q (F0 m 314 ls []) := by
  obtain ⟨hx, hb, hml, hown, hts, -⟩ := id C
  have hn := hJ.1.n; have hk8 : k ≤ 8 := Nat.le_trans hJ.1.k (by decide)
  refine lv_aload_n hx hb dL_refuses_314 rfl (lv_at hl 0 rfl) ?_
  refine lv_iload hx hb dL_refuses_315 (lv_at hl 10 rfl) ?_
  refine lv_iconst (v := 0) hx hb dL_refuses_317 (by decide) ?_
  refine lv_iconst (v := (-1)) hx hb dL_refuses_318 (by decide) ?_
  refine lv_iconst (v := 0) hx hb dL_refuses_319 (by decide) ?_
  refine lv_iconst (v := 0) hx hb dL_refuses_320 (by decide) ?_
  refine lv_iconst (v := 0) hx hb dL_refuses_321 (by decide) ?_
  refine sl_expose_1 C gL_refuses_L_expose dL_refuses_322 hl.1 (Nat.le_of_ble_eq_true rfl) ⟨Nat.le_trans (m := 140) (Nat.le_of_ble_eq_true rfl) hR.1, Nat.le_trans (m := 900) (Nat.le_of_ble_eq_true rfl) hR.2⟩ hRR hJ 4 0 (-1) 0 0 0 (by unfold T_addExposure; rw [if_pos (by decide +kernel)]) (fun H locs hJ => ?_)
  refine lv_iload hx hb dL_refuses_325 (lv_at hl 5 rfl) ?_
  refine lv_icmp_ne (tgt := 414) hx hb dL_refuses_327 (by decide) (fun h => absurd h (by decide +kernel)) (fun _ => ?_)
  refine lv_aload_n hx hb dL_refuses_330 rfl (lv_at hl 0 rfl) ?_
  refine lv_iconst (v := 0) hx hb dL_refuses_331 (by decide) ?_
  refine lv_iload hx hb dL_refuses_332 (lv_at hl 10 rfl) ?_
  refine lv_iconst (v := (-1)) hx hb dL_refuses_334 (by decide) ?_
  refine lv_iconst (v := 0) hx hb dL_refuses_335 (by decide) ?_
  refine lv_iconst (v := 0) hx hb dL_refuses_336 (by decide) ?_
  refine lv_iconst (v := 0) hx hb dL_refuses_337 (by decide) ?_
  refine sl_expose_1 C gL_refuses_L_expose dL_refuses_338 hl.1 (Nat.le_of_ble_eq_true rfl) ⟨Nat.le_trans (m := 140) (Nat.le_of_ble_eq_true rfl) hR.1, Nat.le_trans (m := 900) (Nat.le_of_ble_eq_true rfl) hR.2⟩ hRR hJ 0 4 (-1) 0 0 0 (by unfold T_addExposure; rw [if_pos (by decide +kernel)]) (fun H locs hJ => ?_)
  refine lv_iload hx hb dL_refuses_341 (lv_at hl 5 rfl) ?_
  refine lv_icmp_ne (tgt := 414) hx hb dL_refuses_343 (by decide) (fun h => absurd h (by decide +kernel)) (fun _ => ?_)
  refine lv_aload_n hx hb dL_refuses_346 rfl (lv_at hl 0 rfl) ?_
  refine lv_iconst (v := 0) hx hb dL_refuses_347 (by decide) ?_
  refine lv_iconst (v := 0) hx hb dL_refuses_348 (by decide) ?_
  refine lv_iload hx hb dL_refuses_349 (lv_at hl 12 rfl) ?_
  refine lv_iconst (v := 0) hx hb dL_refuses_351 (by decide) ?_
  refine lv_iconst (v := 0) hx hb dL_refuses_352 (by decide) ?_
  refine lv_iconst (v := 1) hx hb dL_refuses_353 (by decide) ?_
  refine sl_expose_2 C gL_refuses_L_expose dL_refuses_354 hl.1 (Nat.le_of_ble_eq_true rfl) ⟨Nat.le_trans (m := 140) (Nat.le_of_ble_eq_true rfl) hR.1, Nat.le_trans (m := 900) (Nat.le_of_ble_eq_true rfl) hR.2⟩ hRR hJ 0 0 10000001 0 0 1 (by unfold T_addExposure; rw [if_neg (by decide +kernel), if_pos (by decide +kernel)]) (fun H locs hJ => ?_)
  refine lv_iload hx hb dL_refuses_357 (lv_at hl 6 rfl) ?_
  refine lv_icmp_ne (tgt := 414) hx hb dL_refuses_359 (by decide) (fun h => absurd h (by decide +kernel)) (fun _ => ?_)
  refine lv_aload_n hx hb dL_refuses_362 rfl (lv_at hl 0 rfl) ?_
  refine lv_iconst (v := 0) hx hb dL_refuses_363 (by decide) ?_
  refine lv_iconst (v := 0) hx hb dL_refuses_364 (by decide) ?_
  refine lv_iconst (v := 0) hx hb dL_refuses_365 (by decide) ?_
  refine lv_iload hx hb dL_refuses_366 (lv_at hl 12 rfl) ?_
  refine lv_iconst (v := 0) hx hb dL_refuses_368 (by decide) ?_
  refine lv_iconst (v := 1) hx hb dL_refuses_369 (by decide) ?_
  refine sl_expose_2 C gL_refuses_L_expose dL_refuses_370 hl.1 (Nat.le_of_ble_eq_true rfl) ⟨Nat.le_trans (m := 140) (Nat.le_of_ble_eq_true rfl) hR.1, Nat.le_trans (m := 900) (Nat.le_of_ble_eq_true rfl) hR.2⟩ hRR hJ 0 0 0 10000001 0 1 (by unfold T_addExposure; rw [if_neg (by decide +kernel), if_pos (by decide +kernel)]) (fun H locs hJ => ?_)
  refine lv_iload hx hb dL_refuses_373 (lv_at hl 6 rfl) ?_
  refine lv_icmp_ne (tgt := 414) hx hb dL_refuses_375 (by decide) (fun h => absurd h (by decide +kernel)) (fun _ => ?_)
  refine lv_aload_n hx hb dL_refuses_378 rfl (lv_at hl 0 rfl) ?_
  refine lv_iconst (v := 0) hx hb dL_refuses_379 (by decide) ?_
  refine lv_iconst (v := 0) hx hb dL_refuses_380 (by decide) ?_
  refine lv_iconst (v := 0) hx hb dL_refuses_381 (by decide) ?_
  refine lv_iconst (v := 0) hx hb dL_refuses_382 (by decide) ?_
  refine lv_iload hx hb dL_refuses_383 (lv_at hl 14 rfl) ?_
  refine lv_iconst (v := 1) hx hb dL_refuses_385 (by decide) ?_
  refine sl_expose_2 C gL_refuses_L_expose dL_refuses_386 hl.1 (Nat.le_of_ble_eq_true rfl) ⟨Nat.le_trans (m := 140) (Nat.le_of_ble_eq_true rfl) hR.1, Nat.le_trans (m := 900) (Nat.le_of_ble_eq_true rfl) hR.2⟩ hRR hJ 0 0 0 0 3 1 (by unfold T_addExposure; rw [if_neg (by decide +kernel), if_pos (by decide +kernel)]) (fun H locs hJ => ?_)
  refine lv_iload hx hb dL_refuses_389 (lv_at hl 6 rfl) ?_
  refine lv_icmp_ne (tgt := 414) hx hb dL_refuses_391 (by decide) (fun h => absurd h (by decide +kernel)) (fun _ => ?_)
  refine lv_aload_n hx hb dL_refuses_394 rfl (lv_at hl 0 rfl) ?_
  refine lv_iconst (v := 0) hx hb dL_refuses_395 (by decide) ?_
  refine lv_iconst (v := 0) hx hb dL_refuses_396 (by decide) ?_
  refine lv_iconst (v := 0) hx hb dL_refuses_397 (by decide) ?_
  refine lv_iconst (v := 0) hx hb dL_refuses_398 (by decide) ?_
  refine lv_iconst (v := 0) hx hb dL_refuses_399 (by decide) ?_
  refine lv_iload hx hb dL_refuses_400 (lv_at hl 13 rfl) ?_
  refine sl_expose_2 C gL_refuses_L_expose dL_refuses_402 hl.1 (Nat.le_of_ble_eq_true rfl) ⟨Nat.le_trans (m := 140) (Nat.le_of_ble_eq_true rfl) hR.1, Nat.le_trans (m := 900) (Nat.le_of_ble_eq_true rfl) hR.2⟩ hRR hJ 0 0 0 0 0 3651 (by unfold T_addExposure; rw [if_neg (by decide +kernel), if_pos (by decide +kernel)]) (fun H locs hJ => ?_)
  refine lv_iload hx hb dL_refuses_405 (lv_at hl 6 rfl) ?_
  refine lv_icmp_ne (tgt := 414) hx hb dL_refuses_407 (by decide) (fun h => absurd h (by decide +kernel)) (fun _ => ?_)
  refine lv_iconst (v := 1) hx hb dL_refuses_410 (by decide) ?_
  refine lv_goto (tgt := 415) hx hb dL_refuses_411 (by decide) ?_
  refine lv_istore (lv' := [(19, .int 1), (0, .ref o0), (1, .int (nI n)), (2, .int (nI k)), (3, .int (bwE (KE g n k) k)), (4, .int (plL g n)), (5, .int (-900000001)), (6, .int (-900000002)), (7, .int 2147483647), (8, .int 1), (9, .int (-2147483648)), (10, .int 4), (11, .int 101), (12, .int 10000001), (13, .int 3651), (14, .int 3), (15, .int 10000001), (16, .int 256), (17, .int (nI n)), (18, .int (nI k))]) hx hb dL_refuses_415 hl (by decide) rfl (fun ls hl => ?_)
  exact kk H locs ls hJ (lv_sub hl [1, 2, 3, 4, 5, 6, 7, 8, 9, 10, 11, 12, 13, 14, 15, 16, 17, 18, 19, 0] rfl)
set_option maxHeartbeats 4000000 in
set_option maxRecDepth 100000 in
theorem rf_1_3 (C : CJ p l R s m args c cL_refuses 20 wsL_refuses D cI cL cE cP A H0) (hRR : 30 ≤ R.frames ∧ 2000 ≤ R.locals) (hR : 140 ≤ R.cells ∧ 900 ≤ R.slots) (hJ : LJ D cI cL cE cP A H0 o0 g n k H locs) (hl : lv_has ls 20 [(0, .ref o0), (1, .int (nI n)), (2, .int (nI k)), (3, .int (bwE (KE g n k) k)), (4, .int (plL g n)), (5, .int (-900000001)), (6, .int (-900000002)), (7, .int 2147483647), (8, .int 1), (9, .int (-2147483648)), (10, .int 4), (11, .int 101), (12, .int 10000001), (13, .int 3651), (14, .int 3), (15, .int 10000001), (16, .int 256), (17, .int (nI n)), (18, .int (nI k)), (19, .int 1)])
    (kk : ∀ (H : Heap) (locs : List Loc) (ls : Array Slot), LJ D cI cL cE cP A H0 o0 g n k H locs → lv_has ls 20 [(0, .ref o0), (1, .int (nI n)), (2, .int (nI k)), (3, .int (bwE (KE g n k) k)), (4, .int (plL g n)), (5, .int (-900000001)), (6, .int (-900000002)), (7, .int 2147483647), (8, .int 1), (9, .int (-2147483648)), (10, .int 4), (11, .int 101), (12, .int 10000001), (13, .int 3651), (14, .int 3), (15, .int 10000001), (16, .int 256), (17, .int (nI n)), (18, .int (nI k)), (19, .int 1)] → W p l e R s m args below meth c H locs 50 324 Q (F0 m 497 ls [])) : W p l e R s m args below meth c H locs 45 294 Q (F0 m 417 ls []) := by
  obtain ⟨hx, hb, hml, hown, hts, -⟩ := id C
  have hn := hJ.1.n; have hk8 : k ≤ 8 := Nat.le_trans hJ.1.k (by decide)
  refine lv_iload hx hb dL_refuses_417 (lv_at hl 19 rfl) ?_
  refine lv_if_eq (tgt := 707) hx hb dL_refuses_419 (by decide) (fun h => absurd h (by decide +kernel)) (fun _ => ?_)
  refine lv_aload_n hx hb dL_refuses_422 rfl (lv_at hl 0 rfl) ?_
  refine lv_iload hx hb dL_refuses_423 (lv_at hl 15 rfl) ?_
  refine lv_iconst (v := 5) hx hb dL_refuses_425 (by decide) ?_
  refine lv_iconst (v := 0) hx hb dL_refuses_426 (by decide) ?_
  refine lv_iconst (v := 5) hx hb dL_refuses_427 (by decide) ?_
  refine lv_iconst (v := 5) hx hb dL_refuses_428 (by decide) ?_
  refine sl_piece_1 C gL_refuses_L_piece dL_refuses_429 hl.1 (Nat.le_of_ble_eq_true rfl) ⟨Nat.le_trans (m := 140) (Nat.le_of_ble_eq_true rfl) hR.1, Nat.le_trans (m := 900) (Nat.le_of_ble_eq_true rfl) hR.2⟩ hRR hJ 10000001 5 0 5 5 (by unfold T_addPiece; rw [if_pos (by decide +kernel)]) (fun H locs hJ => ?_)
  refine lv_iload hx hb dL_refuses_432 (lv_at hl 6 rfl) ?_
  refine lv_icmp_ne (tgt := 707) hx hb dL_refuses_434 (by decide) (fun h => absurd h (by decide +kernel)) (fun _ => ?_)
  refine lv_aload_n hx hb dL_refuses_437 rfl (lv_at hl 0 rfl) ?_
  refine lv_iconst (v := 5) hx hb dL_refuses_438 (by decide) ?_
  refine lv_iload hx hb dL_refuses_439 (lv_at hl 11 rfl) ?_
  refine lv_iconst (v := 0) hx hb dL_refuses_441 (by decide) ?_
  refine lv_iconst (v := 5) hx hb dL_refuses_442 (by decide) ?_
  refine lv_iconst (v := 5) hx hb dL_refuses_443 (by decide) ?_
  refine sl_piece_1 C gL_refuses_L_piece dL_refuses_444 hl.1 (Nat.le_of_ble_eq_true rfl) ⟨Nat.le_trans (m := 140) (Nat.le_of_ble_eq_true rfl) hR.1, Nat.le_trans (m := 900) (Nat.le_of_ble_eq_true rfl) hR.2⟩ hRR hJ 5 101 0 5 5 (by unfold T_addPiece; rw [if_pos (by decide +kernel)]) (fun H locs hJ => ?_)
  refine lv_iload hx hb dL_refuses_447 (lv_at hl 6 rfl) ?_
  refine lv_icmp_ne (tgt := 707) hx hb dL_refuses_449 (by decide) (fun h => absurd h (by decide +kernel)) (fun _ => ?_)
  refine lv_aload_n hx hb dL_refuses_452 rfl (lv_at hl 0 rfl) ?_
  refine lv_iconst (v := 5) hx hb dL_refuses_453 (by decide) ?_
  refine lv_iconst (v := 5) hx hb dL_refuses_454 (by decide) ?_
  refine lv_iload hx hb dL_refuses_455 (lv_at hl 14 rfl) ?_
  refine lv_iconst (v := 5) hx hb dL_refuses_457 (by decide) ?_
  refine lv_iconst (v := 5) hx hb dL_refuses_458 (by decide) ?_
  refine sl_piece_1 C gL_refuses_L_piece dL_refuses_459 hl.1 (Nat.le_of_ble_eq_true rfl) ⟨Nat.le_trans (m := 140) (Nat.le_of_ble_eq_true rfl) hR.1, Nat.le_trans (m := 900) (Nat.le_of_ble_eq_true rfl) hR.2⟩ hRR hJ 5 5 3 5 5 (by unfold T_addPiece; rw [if_pos (by decide +kernel)]) (fun H locs hJ => ?_)
  refine lv_iload hx hb dL_refuses_462 (lv_at hl 6 rfl) ?_
  refine lv_icmp_ne (tgt := 707) hx hb dL_refuses_464 (by decide) (fun h => absurd h (by decide +kernel)) (fun _ => ?_)
  refine lv_aload_n hx hb dL_refuses_467 rfl (lv_at hl 0 rfl) ?_
  refine lv_iconst (v := 5) hx hb dL_refuses_468 (by decide) ?_
  refine lv_iconst (v := 5) hx hb dL_refuses_469 (by decide) ?_
  refine lv_iconst (v := 0) hx hb dL_refuses_470 (by decide) ?_
  refine lv_iload hx hb dL_refuses_471 (lv_at hl 13 rfl) ?_
  refine lv_iconst (v := 5) hx hb dL_refuses_473 (by decide) ?_
  refine sl_piece_1 C gL_refuses_L_piece dL_refuses_474 hl.1 (Nat.le_of_ble_eq_true rfl) ⟨Nat.le_trans (m := 140) (Nat.le_of_ble_eq_true rfl) hR.1, Nat.le_trans (m := 900) (Nat.le_of_ble_eq_true rfl) hR.2⟩ hRR hJ 5 5 0 3651 5 (by unfold T_addPiece; rw [if_pos (by decide +kernel)]) (fun H locs hJ => ?_)
  refine lv_iload hx hb dL_refuses_477 (lv_at hl 6 rfl) ?_
  refine lv_icmp_ne (tgt := 707) hx hb dL_refuses_479 (by decide) (fun h => absurd h (by decide +kernel)) (fun _ => ?_)
  refine lv_aload_n hx hb dL_refuses_482 rfl (lv_at hl 0 rfl) ?_
  refine lv_iconst (v := 5) hx hb dL_refuses_483 (by decide) ?_
  refine lv_iconst (v := 5) hx hb dL_refuses_484 (by decide) ?_
  refine lv_iconst (v := 0) hx hb dL_refuses_485 (by decide) ?_
  refine lv_iconst (v := 5) hx hb dL_refuses_486 (by decide) ?_
  refine lv_iload hx hb dL_refuses_487 (lv_at hl 16 rfl) ?_
  refine sl_piece_1 C gL_refuses_L_piece dL_refuses_489 hl.1 (Nat.le_of_ble_eq_true rfl) ⟨Nat.le_trans (m := 140) (Nat.le_of_ble_eq_true rfl) hR.1, Nat.le_trans (m := 900) (Nat.le_of_ble_eq_true rfl) hR.2⟩ hRR hJ 5 5 0 5 256 (by unfold T_addPiece; rw [if_pos (by decide +kernel)]) (fun H locs hJ => ?_)
  refine lv_iload hx hb dL_refuses_492 (lv_at hl 6 rfl) ?_
  refine lv_icmp_ne (tgt := 707) hx hb dL_refuses_494 (by decide) (fun h => absurd h (by decide +kernel)) (fun _ => ?_)
  exact kk H locs ls hJ (lv_sub hl [0, 1, 2, 3, 4, 5, 6, 7, 8, 9, 10, 11, 12, 13, 14, 15, 16, 17, 18, 19] rfl)
set_option maxHeartbeats 4000000 in
set_option maxRecDepth 100000 in
theorem rf_1_4 (C : CJ p l R s m args c cL_refuses 20 wsL_refuses D cI cL cE cP A H0) (hRR : 30 ≤ R.frames ∧ 2000 ≤ R.locals) (hR : 140 ≤ R.cells ∧ 900 ≤ R.slots) (hJ : LJ D cI cL cE cP A H0 o0 g n k H locs) (hl : lv_has ls 20 [(0, .ref o0), (1, .int (nI n)), (2, .int (nI k)), (3, .int (bwE (KE g n k) k)), (4, .int (plL g n)), (5, .int (-900000001)), (6, .int (-900000002)), (7, .int 2147483647), (8, .int 1), (9, .int (-2147483648)), (10, .int 4), (11, .int 101), (12, .int 10000001), (13, .int 3651), (14, .int 3), (15, .int 10000001), (16, .int 256), (17, .int (nI n)), (18, .int (nI k)), (19, .int 1)])
    (kk : ∀ (H : Heap) (locs : List Loc) (ls : Array Slot), LJ D cI cL cE cP A H0 o0 g n k H locs → lv_has ls 20 [(0, .ref o0), (1, .int (nI n)), (2, .int (nI k)), (3, .int (bwE (KE g n k) k)), (4, .int (plL g n)), (5, .int (-900000001)), (6, .int (-900000002)), (7, .int 2147483647), (8, .int 1), (9, .int (-2147483648)), (10, .int 4), (11, .int 101), (12, .int 10000001), (13, .int 3651), (14, .int 3), (15, .int 10000001), (16, .int 256), (17, .int (nI n)), (18, .int (nI k)), (19, .int 1)] → W p l e R s m args below meth c H locs 57 366 Q (F0 m 598 ls [])) : W p l e R s m args below meth c H locs 50 324 Q (F0 m 497 ls []) := by
  obtain ⟨hx, hb, hml, hown, hts, -⟩ := id C
  have hn := hJ.1.n; have hk8 : k ≤ 8 := Nat.le_trans hJ.1.k (by decide)
  refine lv_aload_n hx hb dL_refuses_497 rfl (lv_at hl 0 rfl) ?_
  refine lv_iconst (v := 3) hx hb dL_refuses_498 (by decide) ?_
  refine lv_iload hx hb dL_refuses_499 (lv_at hl 17 rfl) ?_
  refine lv_iload hx hb dL_refuses_501 (lv_at hl 7 rfl) ?_
  refine lv_iconst (v := 0) hx hb dL_refuses_503 (by decide) ?_
  refine sl_act_3_1 C gL_refuses_L_act dL_refuses_504 hl.1 (Nat.le_of_ble_eq_true rfl) ⟨Nat.le_trans (m := 140) (Nat.le_of_ble_eq_true rfl) hR.1, Nat.le_trans (m := 900) (Nat.le_of_ble_eq_true rfl) hR.2⟩ hRR hJ (nI n) 2147483647 0 (by unfold T_draw; rw [if_pos (zex_self hn)]) (fun H locs hJ => ?_)
  refine lv_iload hx hb dL_refuses_507 (lv_at hl 5 rfl) ?_
  refine lv_icmp_ne (tgt := 707) hx hb dL_refuses_509 (by decide) (fun h => absurd h (by decide +kernel)) (fun _ => ?_)
  refine lv_aload_n hx hb dL_refuses_512 rfl (lv_at hl 0 rfl) ?_
  refine lv_iconst (v := 4) hx hb dL_refuses_513 (by decide) ?_
  refine lv_iload hx hb dL_refuses_514 (lv_at hl 17 rfl) ?_
  refine lv_iconst (v := 0) hx hb dL_refuses_516 (by decide) ?_
  refine lv_iconst (v := 0) hx hb dL_refuses_517 (by decide) ?_
  refine sl_act_4_1 C gL_refuses_L_act dL_refuses_518 hl.1 (Nat.le_of_ble_eq_true rfl) ⟨Nat.le_trans (m := 140) (Nat.le_of_ble_eq_true rfl) hR.1, Nat.le_trans (m := 900) (Nat.le_of_ble_eq_true rfl) hR.2⟩ hRR hJ (nI n) 0 0 (by unfold T_setClass; rw [if_pos (by rw [(zex_self hn)]; rfl)]) (fun H locs hJ => ?_)
  refine lv_iload hx hb dL_refuses_521 (lv_at hl 5 rfl) ?_
  refine lv_icmp_ne (tgt := 707) hx hb dL_refuses_523 (by decide) (fun h => absurd h (by decide +kernel)) (fun _ => ?_)
  refine lv_aload_n hx hb dL_refuses_526 rfl (lv_at hl 0 rfl) ?_
  refine lv_iconst (v := 4) hx hb dL_refuses_527 (by decide) ?_
  refine lv_iconst (v := 0) hx hb dL_refuses_528 (by decide) ?_
  refine lv_iload hx hb dL_refuses_529 (lv_at hl 10 rfl) ?_
  refine lv_iconst (v := 0) hx hb dL_refuses_531 (by decide) ?_
  refine sl_act_4_1 C gL_refuses_L_act dL_refuses_532 hl.1 (Nat.le_of_ble_eq_true rfl) ⟨Nat.le_trans (m := 140) (Nat.le_of_ble_eq_true rfl) hR.1, Nat.le_trans (m := 900) (Nat.le_of_ble_eq_true rfl) hR.2⟩ hRR hJ 0 4 0 (by unfold T_setClass; rw [if_pos (by rw [show zwi 4 0 3 = false from by decide +kernel, Bool.and_false])]) (fun H locs hJ => ?_)
  refine lv_iload hx hb dL_refuses_535 (lv_at hl 5 rfl) ?_
  refine lv_icmp_ne (tgt := 707) hx hb dL_refuses_537 (by decide) (fun h => absurd h (by decide +kernel)) (fun _ => ?_)
  refine lv_aload_n hx hb dL_refuses_540 rfl (lv_at hl 0 rfl) ?_
  refine lv_iconst (v := 5) hx hb dL_refuses_541 (by decide) ?_
  refine lv_iload hx hb dL_refuses_542 (lv_at hl 17 rfl) ?_
  refine lv_iconst (v := 0) hx hb dL_refuses_544 (by decide) ?_
  refine lv_iconst (v := (-1)) hx hb dL_refuses_545 (by decide) ?_
  refine sl_act_5_1 C gL_refuses_L_act dL_refuses_546 hl.1 (Nat.le_of_ble_eq_true rfl) ⟨Nat.le_trans (m := 140) (Nat.le_of_ble_eq_true rfl) hR.1, Nat.le_trans (m := 900) (Nat.le_of_ble_eq_true rfl) hR.2⟩ hRR hJ (nI n) 0 (-1) (by unfold T_guarantee; rw [if_pos (by rw [(zex_self hn)]; rfl)]) (fun H locs hJ => ?_)
  refine lv_iload hx hb dL_refuses_549 (lv_at hl 5 rfl) ?_
  refine lv_icmp_ne (tgt := 707) hx hb dL_refuses_551 (by decide) (fun h => absurd h (by decide +kernel)) (fun _ => ?_)
  refine lv_aload_n hx hb dL_refuses_554 rfl (lv_at hl 0 rfl) ?_
  refine lv_iconst (v := 5) hx hb dL_refuses_555 (by decide) ?_
  refine lv_iconst (v := 0) hx hb dL_refuses_556 (by decide) ?_
  refine lv_iload hx hb dL_refuses_557 (lv_at hl 10 rfl) ?_
  refine lv_iconst (v := (-1)) hx hb dL_refuses_559 (by decide) ?_
  refine sl_act_5_1 C gL_refuses_L_act dL_refuses_560 hl.1 (Nat.le_of_ble_eq_true rfl) ⟨Nat.le_trans (m := 140) (Nat.le_of_ble_eq_true rfl) hR.1, Nat.le_trans (m := 900) (Nat.le_of_ble_eq_true rfl) hR.2⟩ hRR hJ 0 4 (-1) (by unfold T_guarantee; rw [if_pos (by rw [show zwi 4 0 3 = false from by decide +kernel, Bool.and_false])]) (fun H locs hJ => ?_)
  refine lv_iload hx hb dL_refuses_563 (lv_at hl 5 rfl) ?_
  refine lv_icmp_ne (tgt := 707) hx hb dL_refuses_565 (by decide) (fun h => absurd h (by decide +kernel)) (fun _ => ?_)
  refine lv_aload_n hx hb dL_refuses_568 rfl (lv_at hl 0 rfl) ?_
  refine lv_bipush (v := 6) hx hb dL_refuses_569 (by decide) ?_
  refine lv_iload hx hb dL_refuses_571 (lv_at hl 17 rfl) ?_
  refine lv_iconst (v := 0) hx hb dL_refuses_573 (by decide) ?_
  refine lv_iconst (v := 0) hx hb dL_refuses_574 (by decide) ?_
  refine sl_act_6_1 C gL_refuses_L_act dL_refuses_575 hl.1 (Nat.le_of_ble_eq_true rfl) ⟨Nat.le_trans (m := 140) (Nat.le_of_ble_eq_true rfl) hR.1, Nat.le_trans (m := 900) (Nat.le_of_ble_eq_true rfl) hR.2⟩ hRR hJ (nI n) 0 0 (by unfold T_amount; rw [if_pos (zex_self hn)]) (fun H locs hJ => ?_)
  refine lv_iload hx hb dL_refuses_578 (lv_at hl 5 rfl) ?_
  refine lv_icmp_ne (tgt := 707) hx hb dL_refuses_580 (by decide) (fun h => absurd h (by decide +kernel)) (fun _ => ?_)
  refine lv_aload_n hx hb dL_refuses_583 rfl (lv_at hl 0 rfl) ?_
  refine lv_bipush (v := 7) hx hb dL_refuses_584 (by decide) ?_
  refine lv_iload hx hb dL_refuses_586 (lv_at hl 18 rfl) ?_
  refine lv_iconst (v := 0) hx hb dL_refuses_588 (by decide) ?_
  refine lv_iconst (v := 0) hx hb dL_refuses_589 (by decide) ?_
  refine sl_act_7_1 C gL_refuses_L_act dL_refuses_590 hl.1 (Nat.le_of_ble_eq_true rfl) ⟨Nat.le_trans (m := 140) (Nat.le_of_ble_eq_true rfl) hR.1, Nat.le_trans (m := 900) (Nat.le_of_ble_eq_true rfl) hR.2⟩ hRR hJ (nI k) 0 0 (by unfold T_setPiece; rw [if_pos (zex_self hk8)]) (fun H locs hJ => ?_)
  refine lv_iload hx hb dL_refuses_593 (lv_at hl 5 rfl) ?_
  refine lv_icmp_ne (tgt := 707) hx hb dL_refuses_595 (by decide) (fun h => absurd h (by decide +kernel)) (fun _ => ?_)
  exact kk H locs ls hJ (lv_sub hl [0, 1, 2, 3, 4, 5, 6, 7, 8, 9, 10, 11, 12, 13, 14, 15, 16, 17, 18, 19] rfl)
set_option maxHeartbeats 4000000 in
set_option maxRecDepth 100000 in
theorem rf_1_5 (C : CJ p l R s m args c cL_refuses 20 wsL_refuses D cI cL cE cP A H0) (hRR : 30 ≤ R.frames ∧ 2000 ≤ R.locals) (hR : 140 ≤ R.cells ∧ 900 ≤ R.slots) (hJ : LJ D cI cL cE cP A H0 o0 g n k H locs) (hl : lv_has ls 20 [(0, .ref o0), (1, .int (nI n)), (2, .int (nI k)), (3, .int (bwE (KE g n k) k)), (4, .int (plL g n)), (5, .int (-900000001)), (6, .int (-900000002)), (7, .int 2147483647), (8, .int 1), (9, .int (-2147483648)), (10, .int 4), (11, .int 101), (12, .int 10000001), (13, .int 3651), (14, .int 3), (15, .int 10000001), (16, .int 256), (17, .int (nI n)), (18, .int (nI k)), (19, .int 1)])
    (kk : ∀ (H : Heap) (locs : List Loc) (ls : Array Slot), LJ D cI cL cE cP A H0 o0 g n k H locs → lv_has ls 20 [(0, .ref o0), (1, .int (nI n)), (2, .int (nI k)), (3, .int (bwE (KE g n k) k)), (4, .int (plL g n)), (5, .int (-900000001)), (6, .int (-900000002)), (7, .int 2147483647), (8, .int 1), (9, .int (-2147483648)), (10, .int 4), (11, .int 101), (12, .int 10000001), (13, .int 3651), (14, .int 3), (15, .int 10000001), (16, .int 256), (17, .int (nI n)), (18, .int (nI k)), (19, .int 1)] → W p l e R s m args below meth c H locs 64 408 Q (F0 m 710 ls [])) : W p l e R s m args below meth c H locs 57 366 Q (F0 m 598 ls []) := by
  obtain ⟨hx, hb, hml, hown, hts, -⟩ := id C
  have hn := hJ.1.n; have hk8 : k ≤ 8 := Nat.le_trans hJ.1.k (by decide)
  refine lv_aload_n hx hb dL_refuses_598 rfl (lv_at hl 0 rfl) ?_
  refine lv_bipush (v := 8) hx hb dL_refuses_599 (by decide) ?_
  refine lv_iload hx hb dL_refuses_601 (lv_at hl 18 rfl) ?_
  refine lv_iconst (v := 0) hx hb dL_refuses_603 (by decide) ?_
  refine lv_iconst (v := 0) hx hb dL_refuses_604 (by decide) ?_
  refine sl_act_8_1 C gL_refuses_L_act dL_refuses_605 hl.1 (Nat.le_of_ble_eq_true rfl) ⟨Nat.le_trans (m := 140) (Nat.le_of_ble_eq_true rfl) hR.1, Nat.le_trans (m := 900) (Nat.le_of_ble_eq_true rfl) hR.2⟩ hRR hJ (nI k) 0 0 (by unfold T_value; rw [if_pos (by rw [(zex_self hk8)]; rfl)]) (fun H locs hJ => ?_)
  refine lv_iload hx hb dL_refuses_608 (lv_at hl 5 rfl) ?_
  refine lv_icmp_ne (tgt := 707) hx hb dL_refuses_610 (by decide) (fun h => absurd h (by decide +kernel)) (fun _ => ?_)
  refine lv_aload_n hx hb dL_refuses_613 rfl (lv_at hl 0 rfl) ?_
  refine lv_bipush (v := 8) hx hb dL_refuses_614 (by decide) ?_
  refine lv_iconst (v := 0) hx hb dL_refuses_616 (by decide) ?_
  refine lv_iload hx hb dL_refuses_617 (lv_at hl 17 rfl) ?_
  refine lv_iconst (v := 0) hx hb dL_refuses_619 (by decide) ?_
  refine sl_act_8_1 C gL_refuses_L_act dL_refuses_620 hl.1 (Nat.le_of_ble_eq_true rfl) ⟨Nat.le_trans (m := 140) (Nat.le_of_ble_eq_true rfl) hR.1, Nat.le_trans (m := 900) (Nat.le_of_ble_eq_true rfl) hR.2⟩ hRR hJ 0 (nI n) 0 (by unfold T_value; rw [if_pos (by rw [(zex_self hn), Bool.and_false])]) (fun H locs hJ => ?_)
  refine lv_iload hx hb dL_refuses_623 (lv_at hl 5 rfl) ?_
  refine lv_icmp_ne (tgt := 707) hx hb dL_refuses_625 (by decide) (fun h => absurd h (by decide +kernel)) (fun _ => ?_)
  refine lv_aload_n hx hb dL_refuses_628 rfl (lv_at hl 0 rfl) ?_
  refine lv_bipush (v := 9) hx hb dL_refuses_629 (by decide) ?_
  refine lv_iload hx hb dL_refuses_631 (lv_at hl 18 rfl) ?_
  refine lv_iconst (v := 0) hx hb dL_refuses_633 (by decide) ?_
  refine lv_iconst (v := 0) hx hb dL_refuses_634 (by decide) ?_
  refine sl_act_9_1 C gL_refuses_L_act dL_refuses_635 hl.1 (Nat.le_of_ble_eq_true rfl) ⟨Nat.le_trans (m := 140) (Nat.le_of_ble_eq_true rfl) hR.1, Nat.le_trans (m := 900) (Nat.le_of_ble_eq_true rfl) hR.2⟩ hRR hJ (nI k) 0 0 (by unfold T_amount; rw [if_pos (zex_self hk8)]) (fun H locs hJ => ?_)
  refine lv_iload hx hb dL_refuses_638 (lv_at hl 5 rfl) ?_
  refine lv_icmp_ne (tgt := 707) hx hb dL_refuses_640 (by decide) (fun h => absurd h (by decide +kernel)) (fun _ => ?_)
  refine lv_aload_n hx hb dL_refuses_643 rfl (lv_at hl 0 rfl) ?_
  refine lv_bipush (v := 10) hx hb dL_refuses_644 (by decide) ?_
  refine lv_iload hx hb dL_refuses_646 (lv_at hl 17 rfl) ?_
  refine lv_iconst (v := 0) hx hb dL_refuses_648 (by decide) ?_
  refine lv_iconst (v := 0) hx hb dL_refuses_649 (by decide) ?_
  refine sl_act_10_1 C gL_refuses_L_act dL_refuses_650 hl.1 (Nat.le_of_ble_eq_true rfl) ⟨Nat.le_trans (m := 140) (Nat.le_of_ble_eq_true rfl) hR.1, Nat.le_trans (m := 900) (Nat.le_of_ble_eq_true rfl) hR.2⟩ hRR hJ (nI n) 0 0 (by unfold T_amount; rw [if_pos (zex_self hn)]) (fun H locs hJ => ?_)
  refine lv_iload hx hb dL_refuses_653 (lv_at hl 5 rfl) ?_
  refine lv_icmp_ne (tgt := 707) hx hb dL_refuses_655 (by decide) (fun h => absurd h (by decide +kernel)) (fun _ => ?_)
  refine lv_aload_n hx hb dL_refuses_658 rfl (lv_at hl 0 rfl) ?_
  refine lv_bipush (v := 11) hx hb dL_refuses_659 (by decide) ?_
  refine lv_iload hx hb dL_refuses_661 (lv_at hl 17 rfl) ?_
  refine lv_iconst (v := 0) hx hb dL_refuses_663 (by decide) ?_
  refine lv_iconst (v := 0) hx hb dL_refuses_664 (by decide) ?_
  refine sl_act_11_1 C gL_refuses_L_act dL_refuses_665 hl.1 (Nat.le_of_ble_eq_true rfl) ⟨Nat.le_trans (m := 140) (Nat.le_of_ble_eq_true rfl) hR.1, Nat.le_trans (m := 900) (Nat.le_of_ble_eq_true rfl) hR.2⟩ hRR hJ (nI n) 0 0 (by unfold T_amount; rw [if_pos (zex_self hn)]) (fun H locs hJ => ?_)
  refine lv_iload hx hb dL_refuses_668 (lv_at hl 5 rfl) ?_
  refine lv_icmp_ne (tgt := 707) hx hb dL_refuses_670 (by decide) (fun h => absurd h (by decide +kernel)) (fun _ => ?_)
  refine lv_aload_n hx hb dL_refuses_673 rfl (lv_at hl 0 rfl) ?_
  refine lv_bipush (v := 12) hx hb dL_refuses_674 (by decide) ?_
  refine lv_iload hx hb dL_refuses_676 (lv_at hl 18 rfl) ?_
  refine lv_iconst (v := 0) hx hb dL_refuses_678 (by decide) ?_
  refine lv_iconst (v := 0) hx hb dL_refuses_679 (by decide) ?_
  refine sl_act_12_1 C gL_refuses_L_act dL_refuses_680 hl.1 (Nat.le_of_ble_eq_true rfl) ⟨Nat.le_trans (m := 140) (Nat.le_of_ble_eq_true rfl) hR.1, Nat.le_trans (m := 900) (Nat.le_of_ble_eq_true rfl) hR.2⟩ hRR hJ (nI k) 0 0 (by unfold T_amount; rw [if_pos (zex_self hk8)]) (fun H locs hJ => ?_)
  refine lv_iload hx hb dL_refuses_683 (lv_at hl 5 rfl) ?_
  refine lv_icmp_ne (tgt := 707) hx hb dL_refuses_685 (by decide) (fun h => absurd h (by decide +kernel)) (fun _ => ?_)
  refine lv_aload_n hx hb dL_refuses_688 rfl (lv_at hl 0 rfl) ?_
  refine lv_bipush (v := 13) hx hb dL_refuses_689 (by decide) ?_
  refine lv_iload hx hb dL_refuses_691 (lv_at hl 10 rfl) ?_
  refine lv_iconst (v := 0) hx hb dL_refuses_693 (by decide) ?_
  refine lv_iconst (v := 0) hx hb dL_refuses_694 (by decide) ?_
  refine sl_act_13_1 C gL_refuses_L_act dL_refuses_695 hl.1 (Nat.le_of_ble_eq_true rfl) ⟨Nat.le_trans (m := 140) (Nat.le_of_ble_eq_true rfl) hR.1, Nat.le_trans (m := 900) (Nat.le_of_ble_eq_true rfl) hR.2⟩ hRR hJ 4 0 0 (by decide +kernel) (fun H locs hJ => ?_)
  refine lv_iload hx hb dL_refuses_698 (lv_at hl 5 rfl) ?_
  refine lv_icmp_ne (tgt := 707) hx hb dL_refuses_700 (by decide) (fun h => absurd h (by decide +kernel)) (fun _ => ?_)
  refine lv_iconst (v := 1) hx hb dL_refuses_703 (by decide) ?_
  refine lv_goto (tgt := 708) hx hb dL_refuses_704 (by decide) ?_
  refine lv_istore (lv' := [(19, .int 1), (0, .ref o0), (1, .int (nI n)), (2, .int (nI k)), (3, .int (bwE (KE g n k) k)), (4, .int (plL g n)), (5, .int (-900000001)), (6, .int (-900000002)), (7, .int 2147483647), (8, .int 1), (9, .int (-2147483648)), (10, .int 4), (11, .int 101), (12, .int 10000001), (13, .int 3651), (14, .int 3), (15, .int 10000001), (16, .int 256), (17, .int (nI n)), (18, .int (nI k))]) hx hb dL_refuses_708 hl (by decide) rfl (fun ls hl => ?_)
  exact kk H locs ls hJ (lv_sub hl [1, 2, 3, 4, 5, 6, 7, 8, 9, 10, 11, 12, 13, 14, 15, 16, 17, 18, 19, 0] rfl)
set_option maxHeartbeats 4000000 in
set_option maxRecDepth 100000 in
theorem rf_1_6 (C : CJ p l R s m args c cL_refuses 20 wsL_refuses D cI cL cE cP A H0) (hRR : 30 ≤ R.frames ∧ 2000 ≤ R.locals) (hR : 140 ≤ R.cells ∧ 900 ≤ R.slots) (hJ : LJ D cI cL cE cP A H0 o0 g n k H locs) (hl : lv_has ls 20 [(0, .ref o0), (1, .int (nI n)), (2, .int (nI k)), (3, .int (bwE (KE g n k) k)), (4, .int (plL g n)), (5, .int (-900000001)), (6, .int (-900000002)), (7, .int 2147483647), (8, .int 1), (9, .int (-2147483648)), (10, .int 4), (11, .int 101), (12, .int 10000001), (13, .int 3651), (14, .int 3), (15, .int 10000001), (16, .int 256), (17, .int (nI n)), (18, .int (nI k)), (19, .int 1)])
    (kk : ∀ (H : Heap) (locs : List Loc) (ls : Array Slot), LJ D cI cL cE cP A H0 o0 g n k H locs → lv_has ls 20 [(0, .ref o0), (1, .int (nI n)), (2, .int (nI k)), (3, .int (bwE (KE g n k) k)), (4, .int (plL g n)), (5, .int (-900000001)), (6, .int (-900000002)), (7, .int 2147483647), (8, .int 1), (9, .int (-2147483648)), (10, .int 4), (11, .int 101), (12, .int 10000001), (13, .int 3651), (14, .int 3), (15, .int 10000001), (16, .int 256), (17, .int (nI n)), (18, .int (nI k)), (19, .int 1)] → W p l e R s m args below meth c H locs 66 420 Q (F0 m 757 ls [])) : W p l e R s m args below meth c H locs 64 408 Q (F0 m 710 ls []) := by
  obtain ⟨hx, hb, hml, hown, hts, -⟩ := id C
  have hn := hJ.1.n; have hk8 : k ≤ 8 := Nat.le_trans hJ.1.k (by decide)
  refine lv_iload hx hb dL_refuses_710 (lv_at hl 19 rfl) ?_
  refine lv_if_eq (tgt := 795) hx hb dL_refuses_712 (by decide) (fun h => absurd h (by decide +kernel)) (fun _ => ?_)
  refine lv_iload_n hx hb dL_refuses_715 rfl (lv_at hl 1 rfl) ?_
  refine lv_if_eq (tgt := 757) hx hb dL_refuses_716 (by decide) (fun _ => ?_) (fun hz => ?_)
  · exact W.widen (k := 66) (n := 420) (Nat.le_of_ble_eq_true rfl) (Nat.le_of_ble_eq_true rfl) (kk H locs ls hJ (lv_sub hl [0, 1, 2, 3, 4, 5, 6, 7, 8, 9, 10, 11, 12, 13, 14, 15, 16, 17, 18, 19] rfl))
  · have hz := zex_0 hn hz
    refine lv_aload_n hx hb dL_refuses_719 rfl (lv_at hl 0 rfl) ?_
    refine lv_iconst (v := 3) hx hb dL_refuses_720 (by decide) ?_
    refine lv_iconst (v := 0) hx hb dL_refuses_721 (by decide) ?_
    refine lv_iload hx hb dL_refuses_722 (lv_at hl 8 rfl) ?_
    refine lv_if_ne (tgt := 732) hx hb dL_refuses_724 (by decide) (fun _ => ?_) (fun h => absurd h (by decide +kernel))
    refine lv_iload hx hb dL_refuses_732 (lv_at hl 12 rfl) ?_
    refine lv_iconst (v := 0) hx hb dL_refuses_734 (by decide) ?_
    refine sl_act_3_2 C gL_refuses_L_act dL_refuses_735 hl.1 (Nat.le_of_ble_eq_true rfl) ⟨Nat.le_trans (m := 140) (Nat.le_of_ble_eq_true rfl) hR.1, Nat.le_trans (m := 900) (Nat.le_of_ble_eq_true rfl) hR.2⟩ hRR hJ 0 10000001 0 (by unfold T_draw; rw [if_neg (by rw [hz]; decide), if_pos (by decide +kernel)]) (fun H locs hJ => ?_)
    refine lv_iload hx hb dL_refuses_738 (lv_at hl 6 rfl) ?_
    refine lv_icmp_ne (tgt := 795) hx hb dL_refuses_740 (by decide) (fun h => absurd h (by decide +kernel)) (fun _ => ?_)
    refine lv_aload_n hx hb dL_refuses_743 rfl (lv_at hl 0 rfl) ?_
    refine lv_iconst (v := 5) hx hb dL_refuses_744 (by decide) ?_
    refine lv_iconst (v := 0) hx hb dL_refuses_745 (by decide) ?_
    refine lv_iconst (v := 0) hx hb dL_refuses_746 (by decide) ?_
    refine lv_iload hx hb dL_refuses_747 (lv_at hl 12 rfl) ?_
    refine sl_act_5_2 C gL_refuses_L_act dL_refuses_749 hl.1 (Nat.le_of_ble_eq_true rfl) ⟨Nat.le_trans (m := 140) (Nat.le_of_ble_eq_true rfl) hR.1, Nat.le_trans (m := 900) (Nat.le_of_ble_eq_true rfl) hR.2⟩ hRR hJ 0 0 10000001 (by unfold T_guarantee; rw [if_neg (by rw [hz]; decide +kernel), if_pos (by decide +kernel)]) (fun H locs hJ => ?_)
    refine lv_iload hx hb dL_refuses_752 (lv_at hl 6 rfl) ?_
    refine lv_icmp_ne (tgt := 795) hx hb dL_refuses_754 (by decide) (fun h => absurd h (by decide +kernel)) (fun _ => ?_)
    exact kk H locs ls hJ (lv_sub hl [0, 1, 2, 3, 4, 5, 6, 7, 8, 9, 10, 11, 12, 13, 14, 15, 16, 17, 18, 19] rfl)
set_option maxHeartbeats 4000000 in
set_option maxRecDepth 100000 in
theorem rf_1_7 (C : CJ p l R s m args c cL_refuses 20 wsL_refuses D cI cL cE cP A H0) (hRR : 30 ≤ R.frames ∧ 2000 ≤ R.locals) (hR : 140 ≤ R.cells ∧ 900 ≤ R.slots) (hJ : LJ D cI cL cE cP A H0 o0 g n k H locs) (hl : lv_has ls 20 [(0, .ref o0), (1, .int (nI n)), (2, .int (nI k)), (3, .int (bwE (KE g n k) k)), (4, .int (plL g n)), (5, .int (-900000001)), (6, .int (-900000002)), (7, .int 2147483647), (8, .int 1), (9, .int (-2147483648)), (10, .int 4), (11, .int 101), (12, .int 10000001), (13, .int 3651), (14, .int 3), (15, .int 10000001), (16, .int 256), (17, .int (nI n)), (18, .int (nI k)), (19, .int 1)])
    (kk : ∀ (H : Heap) (locs : List Loc) (ls : Array Slot), LJ D cI cL cE cP A H0 o0 g n k H locs → lv_has ls 20 [(0, .ref o0), (1, .int (nI n)), (2, .int (nI k)), (3, .int (bwE (KE g n k) k)), (4, .int (plL g n)), (5, .int (-900000001)), (6, .int (-900000002)), (7, .int 2147483647), (8, .int 2)] → W p l e R s m args below meth c H locs 68 432 Q (F0 m 36 ls [])) : W p l e R s m args below meth c H locs 66 420 Q (F0 m 757 ls []) := by
  obtain ⟨hx, hb, hml, hown, hts, -⟩ := id C
  have hn := hJ.1.n; have hk8 : k ≤ 8 := Nat.le_trans hJ.1.k (by decide)
  refine lv_iload_n hx hb dL_refuses_757 rfl (lv_at hl 2 rfl) ?_
  refine lv_if_eq (tgt := 791) hx hb dL_refuses_758 (by decide) (fun _ => ?_) (fun hz => ?_)
  · refine lv_iconst (v := 1) hx hb dL_refuses_791 (by decide) ?_
    refine lv_goto (tgt := 796) hx hb dL_refuses_792 (by decide) ?_
    refine lv_istore (lv' := [(19, .int 1), (0, .ref o0), (1, .int (nI n)), (2, .int (nI k)), (3, .int (bwE (KE g n k) k)), (4, .int (plL g n)), (5, .int (-900000001)), (6, .int (-900000002)), (7, .int 2147483647), (8, .int 1), (9, .int (-2147483648)), (10, .int 4), (11, .int 101), (12, .int 10000001), (13, .int 3651), (14, .int 3), (15, .int 10000001), (16, .int 256), (17, .int (nI n)), (18, .int (nI k))]) hx hb dL_refuses_796 hl (by decide) rfl (fun ls hl => ?_)
    refine lv_iload hx hb dL_refuses_798 (lv_at hl 0 rfl) ?_
    refine lv_if_ne (tgt := 805) hx hb dL_refuses_800 (by decide) (fun _ => ?_) (fun h => absurd h (by decide +kernel))
    refine lv_iinc (v := 2) (lv' := [(8, .int 2), (19, .int 1), (0, .ref o0), (1, .int (nI n)), (2, .int (nI k)), (3, .int (bwE (KE g n k) k)), (4, .int (plL g n)), (5, .int (-900000001)), (6, .int (-900000002)), (7, .int 2147483647), (9, .int (-2147483648)), (10, .int 4), (11, .int 101), (12, .int 10000001), (13, .int 3651), (14, .int 3), (15, .int 10000001), (16, .int 256), (17, .int (nI n)), (18, .int (nI k))]) hx hb dL_refuses_805 hl (k := 9) rfl (by decide +kernel) (by decide) rfl (fun ls hl => ?_)
    refine lv_goto (tgt := 36) hx hb dL_refuses_808 (by decide) ?_
    exact W.widen (k := 68) (n := 432) (Nat.le_of_ble_eq_true rfl) (Nat.le_of_ble_eq_true rfl) (kk H locs ls hJ (lv_sub hl [2, 3, 4, 5, 6, 7, 8, 9, 0] rfl))
  · have hz := zex_0 hk8 hz
    refine lv_aload_n hx hb dL_refuses_761 rfl (lv_at hl 0 rfl) ?_
    refine lv_bipush (v := 7) hx hb dL_refuses_762 (by decide) ?_
    refine lv_iconst (v := 0) hx hb dL_refuses_764 (by decide) ?_
    refine lv_iload hx hb dL_refuses_765 (lv_at hl 15 rfl) ?_
    refine lv_iconst (v := 0) hx hb dL_refuses_767 (by decide) ?_
    refine sl_act_7_2 C gL_refuses_L_act dL_refuses_768 hl.1 (Nat.le_of_ble_eq_true rfl) ⟨Nat.le_trans (m := 140) (Nat.le_of_ble_eq_true rfl) hR.1, Nat.le_trans (m := 900) (Nat.le_of_ble_eq_true rfl) hR.2⟩ hRR hJ 0 10000001 0 (by unfold T_setPiece; rw [if_neg (by rw [hz]; decide), if_pos (by decide +kernel)]) (fun H locs hJ => ?_)
    refine lv_iload hx hb dL_refuses_771 (lv_at hl 6 rfl) ?_
    refine lv_icmp_ne (tgt := 795) hx hb dL_refuses_773 (by decide) (fun h => absurd h (by decide +kernel)) (fun _ => ?_)
    refine lv_aload_n hx hb dL_refuses_776 rfl (lv_at hl 0 rfl) ?_
    refine lv_bipush (v := 7) hx hb dL_refuses_777 (by decide) ?_
    refine lv_iconst (v := 0) hx hb dL_refuses_779 (by decide) ?_
    refine lv_iconst (v := 5) hx hb dL_refuses_780 (by decide) ?_
    refine lv_iload hx hb dL_refuses_781 (lv_at hl 16 rfl) ?_
    refine sl_act_7_2 C gL_refuses_L_act dL_refuses_783 hl.1 (Nat.le_of_ble_eq_true rfl) ⟨Nat.le_trans (m := 140) (Nat.le_of_ble_eq_true rfl) hR.1, Nat.le_trans (m := 900) (Nat.le_of_ble_eq_true rfl) hR.2⟩ hRR hJ 0 5 256 (by unfold T_setPiece; rw [if_neg (by rw [hz]; decide), if_pos (by decide +kernel)]) (fun H locs hJ => ?_)
    refine lv_iload hx hb dL_refuses_786 (lv_at hl 6 rfl) ?_
    refine lv_icmp_ne (tgt := 795) hx hb dL_refuses_788 (by decide) (fun h => absurd h (by decide +kernel)) (fun _ => ?_)
    refine lv_iconst (v := 1) hx hb dL_refuses_791 (by decide) ?_
    refine lv_goto (tgt := 796) hx hb dL_refuses_792 (by decide) ?_
    refine lv_istore (lv' := [(19, .int 1), (0, .ref o0), (1, .int (nI n)), (2, .int (nI k)), (3, .int (bwE (KE g n k) k)), (4, .int (plL g n)), (5, .int (-900000001)), (6, .int (-900000002)), (7, .int 2147483647), (8, .int 1), (9, .int (-2147483648)), (10, .int 4), (11, .int 101), (12, .int 10000001), (13, .int 3651), (14, .int 3), (15, .int 10000001), (16, .int 256), (17, .int (nI n)), (18, .int (nI k))]) hx hb dL_refuses_796 hl (by decide) rfl (fun ls hl => ?_)
    refine lv_iload hx hb dL_refuses_798 (lv_at hl 0 rfl) ?_
    refine lv_if_ne (tgt := 805) hx hb dL_refuses_800 (by decide) (fun _ => ?_) (fun h => absurd h (by decide +kernel))
    refine lv_iinc (v := 2) (lv' := [(8, .int 2), (19, .int 1), (0, .ref o0), (1, .int (nI n)), (2, .int (nI k)), (3, .int (bwE (KE g n k) k)), (4, .int (plL g n)), (5, .int (-900000001)), (6, .int (-900000002)), (7, .int 2147483647), (9, .int (-2147483648)), (10, .int 4), (11, .int 101), (12, .int 10000001), (13, .int 3651), (14, .int 3), (15, .int 10000001), (16, .int 256), (17, .int (nI n)), (18, .int (nI k))]) hx hb dL_refuses_805 hl (k := 9) rfl (by decide +kernel) (by decide) rfl (fun ls hl => ?_)
    refine lv_goto (tgt := 36) hx hb dL_refuses_808 (by decide) ?_
    exact kk H locs ls hJ (lv_sub hl [2, 3, 4, 5, 6, 7, 8, 9, 0] rfl)
set_option maxHeartbeats 4000000 in
set_option maxRecDepth 100000 in
theorem rf_2_0 (C : CJ p l R s m args c cL_refuses 20 wsL_refuses D cI cL cE cP A H0) (hRR : 30 ≤ R.frames ∧ 2000 ≤ R.locals) (hR : 140 ≤ R.cells ∧ 900 ≤ R.slots) (hJ : LJ D cI cL cE cP A H0 o0 g n k H locs) (hl : lv_has ls 20 [(0, .ref o0), (1, .int (nI n)), (2, .int (nI k)), (3, .int (bwE (KE g n k) k)), (4, .int (plL g n)), (5, .int (-900000001)), (6, .int (-900000002)), (7, .int 2147483647), (8, .int 2)])
    (kk : ∀ (H : Heap) (locs : List Loc) (ls : Array Slot), LJ D cI cL cE cP A H0 o0 g n k H locs → lv_has ls 20 [(0, .ref o0), (1, .int (nI n)), (2, .int (nI k)), (3, .int (bwE (KE g n k) k)), (4, .int (plL g n)), (5, .int (-900000001)), (6, .int (-900000002)), (7, .int 2147483647), (8, .int 2), (9, .int 2147483647), (10, .int 2147483647), (11, .int 2147483647), (12, .int 2147483647), (13, .int 2147483647), (14, .int 2147483647), (15, .int 2147483647), (16, .int 2147483647), (17, .int 2147483647), (18, .int 2147483647)] → W p l e R s m args below meth c H locs 68 432 Q (F0 m 209 ls [])) : W p l e R s m args below meth c H locs 68 432 Q (F0 m 36 ls []) := by
  obtain ⟨hx, hb, hml, hown, hts, -⟩ := id C
  have hn := hJ.1.n; have hk8 : k ≤ 8 := Nat.le_trans hJ.1.k (by decide)
  refine lv_iload hx hb dL_refuses_36 (lv_at hl 8 rfl) ?_
  refine lv_iconst (v := 4) hx hb dL_refuses_38 (by decide) ?_
  refine lv_icmp_ge (tgt := 811) hx hb dL_refuses_39 (by decide) (fun h => absurd h (by decide +kernel)) (fun _ => ?_)
  refine lv_iload hx hb dL_refuses_42 (lv_at hl 8 rfl) ?_
  refine lv_if_ne (tgt := 51) hx hb dL_refuses_44 (by decide) (fun _ => ?_) (fun h => absurd h (by decide +kernel))
  refine lv_iload hx hb dL_refuses_51 (lv_at hl 8 rfl) ?_
  refine lv_iconst (v := 2) hx hb dL_refuses_53 (by decide) ?_
  refine lv_icmp_ne (tgt := 62) hx hb dL_refuses_54 (by decide) (fun h => absurd h (by decide +kernel)) (fun _ => ?_)
  refine lv_iload hx hb dL_refuses_57 (lv_at hl 7 rfl) ?_
  refine lv_goto (tgt := 67) hx hb dL_refuses_59 (by decide) ?_
  refine lv_istore (lv' := [(9, .int 2147483647), (0, .ref o0), (1, .int (nI n)), (2, .int (nI k)), (3, .int (bwE (KE g n k) k)), (4, .int (plL g n)), (5, .int (-900000001)), (6, .int (-900000002)), (7, .int 2147483647), (8, .int 2)]) hx hb dL_refuses_67 hl (by decide) rfl (fun ls hl => ?_)
  refine lv_iload hx hb dL_refuses_69 (lv_at hl 9 rfl) ?_
  refine lv_iconst (v := 1) hx hb dL_refuses_71 (by decide) ?_
  refine lv_icmp_ne (tgt := 79) hx hb dL_refuses_72 (by decide) (fun _ => ?_) (fun h => absurd h (by decide +kernel))
  refine lv_iload hx hb dL_refuses_79 (lv_at hl 0 rfl) ?_
  refine lv_istore (lv' := [(10, .int 2147483647), (9, .int 2147483647), (0, .ref o0), (1, .int (nI n)), (2, .int (nI k)), (3, .int (bwE (KE g n k) k)), (4, .int (plL g n)), (5, .int (-900000001)), (6, .int (-900000002)), (7, .int 2147483647), (8, .int 2)]) hx hb dL_refuses_81 hl (by decide) rfl (fun ls hl => ?_)
  refine lv_iload hx hb dL_refuses_83 (lv_at hl 10 rfl) ?_
  refine lv_iconst (v := 1) hx hb dL_refuses_85 (by decide) ?_
  refine lv_icmp_ne (tgt := 94) hx hb dL_refuses_86 (by decide) (fun _ => ?_) (fun h => absurd h (by decide +kernel))
  refine lv_iload hx hb dL_refuses_94 (lv_at hl 1 rfl) ?_
  refine lv_istore (lv' := [(11, .int 2147483647), (10, .int 2147483647), (9, .int 2147483647), (0, .ref o0), (1, .int (nI n)), (2, .int (nI k)), (3, .int (bwE (KE g n k) k)), (4, .int (plL g n)), (5, .int (-900000001)), (6, .int (-900000002)), (7, .int 2147483647), (8, .int 2)]) hx hb dL_refuses_96 hl (by decide) rfl (fun ls hl => ?_)
  refine lv_iload hx hb dL_refuses_98 (lv_at hl 11 rfl) ?_
  refine lv_iconst (v := 1) hx hb dL_refuses_100 (by decide) ?_
  refine lv_icmp_ne (tgt := 109) hx hb dL_refuses_101 (by decide) (fun _ => ?_) (fun h => absurd h (by decide +kernel))
  refine lv_iload hx hb dL_refuses_109 (lv_at hl 2 rfl) ?_
  refine lv_istore (lv' := [(12, .int 2147483647), (11, .int 2147483647), (10, .int 2147483647), (9, .int 2147483647), (0, .ref o0), (1, .int (nI n)), (2, .int (nI k)), (3, .int (bwE (KE g n k) k)), (4, .int (plL g n)), (5, .int (-900000001)), (6, .int (-900000002)), (7, .int 2147483647), (8, .int 2)]) hx hb dL_refuses_111 hl (by decide) rfl (fun ls hl => ?_)
  refine lv_iload hx hb dL_refuses_113 (lv_at hl 12 rfl) ?_
  refine lv_if_ne (tgt := 122) hx hb dL_refuses_115 (by decide) (fun _ => ?_) (fun h => absurd h (by decide +kernel))
  refine lv_iload hx hb dL_refuses_122 (lv_at hl 12 rfl) ?_
  refine lv_iconst (v := 1) hx hb dL_refuses_124 (by decide) ?_
  refine lv_icmp_ne (tgt := 134) hx hb dL_refuses_125 (by decide) (fun _ => ?_) (fun h => absurd h (by decide +kernel))
  refine lv_iload hx hb dL_refuses_134 (lv_at hl 3 rfl) ?_
  refine lv_istore (lv' := [(13, .int 2147483647), (12, .int 2147483647), (11, .int 2147483647), (10, .int 2147483647), (9, .int 2147483647), (0, .ref o0), (1, .int (nI n)), (2, .int (nI k)), (3, .int (bwE (KE g n k) k)), (4, .int (plL g n)), (5, .int (-900000001)), (6, .int (-900000002)), (7, .int 2147483647), (8, .int 2)]) hx hb dL_refuses_136 hl (by decide) rfl (fun ls hl => ?_)
  refine lv_iload hx hb dL_refuses_138 (lv_at hl 13 rfl) ?_
  refine lv_iconst (v := 1) hx hb dL_refuses_140 (by decide) ?_
  refine lv_icmp_ne (tgt := 148) hx hb dL_refuses_141 (by decide) (fun _ => ?_) (fun h => absurd h (by decide +kernel))
  refine lv_iload hx hb dL_refuses_148 (lv_at hl 4 rfl) ?_
  refine lv_istore (lv' := [(14, .int 2147483647), (13, .int 2147483647), (12, .int 2147483647), (11, .int 2147483647), (10, .int 2147483647), (9, .int 2147483647), (0, .ref o0), (1, .int (nI n)), (2, .int (nI k)), (3, .int (bwE (KE g n k) k)), (4, .int (plL g n)), (5, .int (-900000001)), (6, .int (-900000002)), (7, .int 2147483647), (8, .int 2)]) hx hb dL_refuses_150 hl (by decide) rfl (fun ls hl => ?_)
  refine lv_iload hx hb dL_refuses_152 (lv_at hl 14 rfl) ?_
  refine lv_if_ne (tgt := 161) hx hb dL_refuses_154 (by decide) (fun _ => ?_) (fun h => absurd h (by decide +kernel))
  refine lv_iload hx hb dL_refuses_161 (lv_at hl 2 rfl) ?_
  refine lv_istore (lv' := [(15, .int 2147483647), (14, .int 2147483647), (13, .int 2147483647), (12, .int 2147483647), (11, .int 2147483647), (10, .int 2147483647), (9, .int 2147483647), (0, .ref o0), (1, .int (nI n)), (2, .int (nI k)), (3, .int (bwE (KE g n k) k)), (4, .int (plL g n)), (5, .int (-900000001)), (6, .int (-900000002)), (7, .int 2147483647), (8, .int 2)]) hx hb dL_refuses_163 hl (by decide) rfl (fun ls hl => ?_)
  refine lv_iload hx hb dL_refuses_165 (lv_at hl 15 rfl) ?_
  refine lv_iconst (v := 1) hx hb dL_refuses_167 (by decide) ?_
  refine lv_icmp_ne (tgt := 177) hx hb dL_refuses_168 (by decide) (fun _ => ?_) (fun h => absurd h (by decide +kernel))
  refine lv_iload hx hb dL_refuses_177 (lv_at hl 6 rfl) ?_
  refine lv_istore (lv' := [(16, .int 2147483647), (15, .int 2147483647), (14, .int 2147483647), (13, .int 2147483647), (12, .int 2147483647), (11, .int 2147483647), (10, .int 2147483647), (9, .int 2147483647), (0, .ref o0), (1, .int (nI n)), (2, .int (nI k)), (3, .int (bwE (KE g n k) k)), (4, .int (plL g n)), (5, .int (-900000001)), (6, .int (-900000002)), (7, .int 2147483647), (8, .int 2)]) hx hb dL_refuses_179 hl (by decide) rfl (fun ls hl => ?_)
  refine lv_iload hx hb dL_refuses_181 (lv_at hl 16 rfl) ?_
  refine lv_iconst (v := 1) hx hb dL_refuses_183 (by decide) ?_
  refine lv_icmp_ne (tgt := 191) hx hb dL_refuses_184 (by decide) (fun _ => ?_) (fun h => absurd h (by decide +kernel))
  refine lv_iload hx hb dL_refuses_191 (lv_at hl 7 rfl) ?_
  refine lv_istore (lv' := [(17, .int 2147483647), (16, .int 2147483647), (15, .int 2147483647), (14, .int 2147483647), (13, .int 2147483647), (12, .int 2147483647), (11, .int 2147483647), (10, .int 2147483647), (9, .int 2147483647), (0, .ref o0), (1, .int (nI n)), (2, .int (nI k)), (3, .int (bwE (KE g n k) k)), (4, .int (plL g n)), (5, .int (-900000001)), (6, .int (-900000002)), (7, .int 2147483647), (8, .int 2)]) hx hb dL_refuses_193 hl (by decide) rfl (fun ls hl => ?_)
  refine lv_iload hx hb dL_refuses_195 (lv_at hl 17 rfl) ?_
  refine lv_iconst (v := 1) hx hb dL_refuses_197 (by decide) ?_
  refine lv_icmp_ne (tgt := 205) hx hb dL_refuses_198 (by decide) (fun _ => ?_) (fun h => absurd h (by decide +kernel))
  refine lv_iload hx hb dL_refuses_205 (lv_at hl 8 rfl) ?_
  refine lv_istore (lv' := [(18, .int 2147483647), (17, .int 2147483647), (16, .int 2147483647), (15, .int 2147483647), (14, .int 2147483647), (13, .int 2147483647), (12, .int 2147483647), (11, .int 2147483647), (10, .int 2147483647), (9, .int 2147483647), (0, .ref o0), (1, .int (nI n)), (2, .int (nI k)), (3, .int (bwE (KE g n k) k)), (4, .int (plL g n)), (5, .int (-900000001)), (6, .int (-900000002)), (7, .int 2147483647), (8, .int 2)]) hx hb dL_refuses_207 hl (by decide) rfl (fun ls hl => ?_)
  exact kk H locs ls hJ (lv_sub hl [10, 11, 12, 13, 14, 15, 16, 17, 18, 9, 8, 7, 6, 5, 4, 3, 2, 1, 0] rfl)
set_option maxHeartbeats 4000000 in
set_option maxRecDepth 100000 in
theorem rf_2_1 (C : CJ p l R s m args c cL_refuses 20 wsL_refuses D cI cL cE cP A H0) (hRR : 30 ≤ R.frames ∧ 2000 ≤ R.locals) (hR : 140 ≤ R.cells ∧ 900 ≤ R.slots) (hJ : LJ D cI cL cE cP A H0 o0 g n k H locs) (hl : lv_has ls 20 [(0, .ref o0), (1, .int (nI n)), (2, .int (nI k)), (3, .int (bwE (KE g n k) k)), (4, .int (plL g n)), (5, .int (-900000001)), (6, .int (-900000002)), (7, .int 2147483647), (8, .int 2), (9, .int 2147483647), (10, .int 2147483647), (11, .int 2147483647), (12, .int 2147483647), (13, .int 2147483647), (14, .int 2147483647), (15, .int 2147483647), (16, .int 2147483647), (17, .int 2147483647), (18, .int 2147483647)])
    (kk : ∀ (H : Heap) (locs : List Loc) (ls : Array Slot), LJ D cI cL cE cP A H0 o0 g n k H locs → lv_has ls 20 [(0, .ref o0), (1, .int (nI n)), (2, .int (nI k)), (3, .int (bwE (KE g n k) k)), (4, .int (plL g n)), (5, .int (-900000001)), (6, .int (-900000002)), (7, .int 2147483647), (8, .int 2), (9, .int 2147483647), (10, .int 2147483647), (11, .int 2147483647), (12, .int 2147483647), (13, .int 2147483647), (14, .int 2147483647), (15, .int 2147483647), (16, .int 2147483647), (17, .int 2147483647), (18, .int 2147483647)] → W p l e R s m args below meth c H locs 73 462 Q (F0 m 314 ls [])) : W p l e R s m args below meth c H locs 68 432 Q (F0 m 209 ls []) := by
  obtain ⟨hx, hb, hml, hown, hts, -⟩ := id C
  have hn := hJ.1.n; have hk8 : k ≤ 8 := Nat.le_trans hJ.1.k (by decide)
  refine lv_aload_n hx hb dL_refuses_209 rfl (lv_at hl 0 rfl) ?_
  refine lv_iconst (v := 0) hx hb dL_refuses_210 (by decide) ?_
  refine lv_iload hx hb dL_refuses_211 (lv_at hl 10 rfl) ?_
  refine lv_iconst (v := (-1)) hx hb dL_refuses_213 (by decide) ?_
  refine lv_iconst (v := (-1)) hx hb dL_refuses_214 (by decide) ?_
  refine sl_act_0_1 C gL_refuses_L_act dL_refuses_215 hl.1 (Nat.le_of_ble_eq_true rfl) ⟨Nat.le_trans (m := 140) (Nat.le_of_ble_eq_true rfl) hR.1, Nat.le_trans (m := 900) (Nat.le_of_ble_eq_true rfl) hR.2⟩ hRR hJ 2147483647 (-1) (-1) (by decide +kernel) (fun H locs hJ => ?_)
  refine lv_iload hx hb dL_refuses_218 (lv_at hl 5 rfl) ?_
  refine lv_icmp_ne (tgt := 414) hx hb dL_refuses_220 (by decide) (fun h => absurd h (by decide +kernel)) (fun _ => ?_)
  refine lv_aload_n hx hb dL_refuses_223 rfl (lv_at hl 0 rfl) ?_
  refine lv_iconst (v := 0) hx hb dL_refuses_224 (by decide) ?_
  refine lv_iconst (v := 0) hx hb dL_refuses_225 (by decide) ?_
  refine lv_iload hx hb dL_refuses_226 (lv_at hl 8 rfl) ?_
  refine lv_iconst (v := 1) hx hb dL_refuses_228 (by decide) ?_
  refine lv_icmp_ne (tgt := 238) hx hb dL_refuses_229 (by decide) (fun _ => ?_) (fun h => absurd h (by decide +kernel))
  refine lv_iload hx hb dL_refuses_238 (lv_at hl 9 rfl) ?_
  refine lv_iconst (v := 0) hx hb dL_refuses_240 (by decide) ?_
  refine sl_act_0_2 C gL_refuses_L_act dL_refuses_241 hl.1 (Nat.le_of_ble_eq_true rfl) ⟨Nat.le_trans (m := 140) (Nat.le_of_ble_eq_true rfl) hR.1, Nat.le_trans (m := 900) (Nat.le_of_ble_eq_true rfl) hR.2⟩ hRR hJ 0 2147483647 0 (by decide +kernel) (fun H locs hJ => ?_)
  refine lv_iload hx hb dL_refuses_244 (lv_at hl 6 rfl) ?_
  refine lv_icmp_ne (tgt := 414) hx hb dL_refuses_246 (by decide) (fun h => absurd h (by decide +kernel)) (fun _ => ?_)
  refine lv_aload_n hx hb dL_refuses_249 rfl (lv_at hl 0 rfl) ?_
  refine lv_iconst (v := 0) hx hb dL_refuses_250 (by decide) ?_
  refine lv_iconst (v := 0) hx hb dL_refuses_251 (by decide) ?_
  refine lv_iconst (v := 0) hx hb dL_refuses_252 (by decide) ?_
  refine lv_iload hx hb dL_refuses_253 (lv_at hl 8 rfl) ?_
  refine lv_iconst (v := 1) hx hb dL_refuses_255 (by decide) ?_
  refine lv_icmp_ne (tgt := 265) hx hb dL_refuses_256 (by decide) (fun _ => ?_) (fun h => absurd h (by decide +kernel))
  refine lv_iload hx hb dL_refuses_265 (lv_at hl 9 rfl) ?_
  refine sl_act_0_2 C gL_refuses_L_act dL_refuses_267 hl.1 (Nat.le_of_ble_eq_true rfl) ⟨Nat.le_trans (m := 140) (Nat.le_of_ble_eq_true rfl) hR.1, Nat.le_trans (m := 900) (Nat.le_of_ble_eq_true rfl) hR.2⟩ hRR hJ 0 0 2147483647 (by decide +kernel) (fun H locs hJ => ?_)
  refine lv_iload hx hb dL_refuses_270 (lv_at hl 6 rfl) ?_
  refine lv_icmp_ne (tgt := 414) hx hb dL_refuses_272 (by decide) (fun h => absurd h (by decide +kernel)) (fun _ => ?_)
  refine lv_aload_n hx hb dL_refuses_275 rfl (lv_at hl 0 rfl) ?_
  refine lv_iconst (v := 1) hx hb dL_refuses_276 (by decide) ?_
  refine lv_iload hx hb dL_refuses_277 (lv_at hl 11 rfl) ?_
  refine lv_iconst (v := 0) hx hb dL_refuses_279 (by decide) ?_
  refine lv_iconst (v := 0) hx hb dL_refuses_280 (by decide) ?_
  refine sl_act_1_1 C gL_refuses_L_act dL_refuses_281 hl.1 (Nat.le_of_ble_eq_true rfl) ⟨Nat.le_trans (m := 140) (Nat.le_of_ble_eq_true rfl) hR.1, Nat.le_trans (m := 900) (Nat.le_of_ble_eq_true rfl) hR.2⟩ hRR hJ 2147483647 0 0 (by decide +kernel) (fun H locs hJ => ?_)
  refine lv_iload hx hb dL_refuses_284 (lv_at hl 6 rfl) ?_
  refine lv_icmp_ne (tgt := 414) hx hb dL_refuses_286 (by decide) (fun h => absurd h (by decide +kernel)) (fun _ => ?_)
  refine lv_aload_n hx hb dL_refuses_289 rfl (lv_at hl 0 rfl) ?_
  refine lv_iconst (v := 2) hx hb dL_refuses_290 (by decide) ?_
  refine lv_iload hx hb dL_refuses_291 (lv_at hl 8 rfl) ?_
  refine lv_iconst (v := 1) hx hb dL_refuses_293 (by decide) ?_
  refine lv_icmp_ne (tgt := 302) hx hb dL_refuses_294 (by decide) (fun _ => ?_) (fun h => absurd h (by decide +kernel))
  refine lv_iload hx hb dL_refuses_302 (lv_at hl 9 rfl) ?_
  refine lv_iconst (v := 0) hx hb dL_refuses_304 (by decide) ?_
  refine lv_iconst (v := 0) hx hb dL_refuses_305 (by decide) ?_
  refine sl_act_2_1 C gL_refuses_L_act dL_refuses_306 hl.1 (Nat.le_of_ble_eq_true rfl) ⟨Nat.le_trans (m := 140) (Nat.le_of_ble_eq_true rfl) hR.1, Nat.le_trans (m := 900) (Nat.le_of_ble_eq_true rfl) hR.2⟩ hRR hJ 2147483647 0 0 (by decide +kernel) (fun H locs hJ => ?_)
  refine lv_iload hx hb dL_refuses_309 (lv_at hl 6 rfl) ?_
  refine lv_icmp_ne (tgt := 414) hx hb dL_refuses_311 (by decide) (fun h => absurd h (by decide +kernel)) (fun _ => ?_)
  exact kk H locs ls hJ (lv_sub hl [0, 1, 2, 3, 4, 5, 6, 7, 8, 9, 10, 11, 12, 13, 14, 15, 16, 17, 18] rfl)
set_option maxHeartbeats 4000000 in
set_option maxRecDepth 100000 in
theorem rf_2_2 (C : CJ p l R s m args c cL_refuses 20 wsL_refuses D cI cL cE cP A H0) (hRR : 30 ≤ R.frames ∧ 2000 ≤ R.locals) (hR : 140 ≤ R.cells ∧ 900 ≤ R.slots) (hJ : LJ D cI cL cE cP A H0 o0 g n k H locs) (hl : lv_has ls 20 [(0, .ref o0), (1, .int (nI n)), (2, .int (nI k)), (3, .int (bwE (KE g n k) k)), (4, .int (plL g n)), (5, .int (-900000001)), (6, .int (-900000002)), (7, .int 2147483647), (8, .int 2), (9, .int 2147483647), (10, .int 2147483647), (11, .int 2147483647), (12, .int 2147483647), (13, .int 2147483647), (14, .int 2147483647), (15, .int 2147483647), (16, .int 2147483647), (17, .int 2147483647), (18, .int 2147483647)])
    (kk : ∀ (H : Heap) (locs : List Loc) (ls : Array Slot), LJ D cI cL cE cP A H0 o0 g n k H locs → lv_has ls 20 [(0, .ref o0), (1, .int (nI n)), (2, .int (nI k)), (3, .int (bwE (KE g n k) k)), (4, .int (plL g n)), (5, .int (-900000001)), (6, .int (-900000002)), (7, .int 2147483647), (8, .int 2), (9, .int 2147483647), (10, .int 2147483647), (11, .int 2147483647), (12, .int 2147483647), (13, .int 2147483647), (14, .int 2147483647), (15, .int 2147483647), (16, .int 2147483647), (17, .int 2147483647), (18, .int 2147483647), (19, .int 1)] → W p l e R s m args below meth c H locs 79 510 Q (F0 m 417 ls [])) : W p l e R s m args below meth c H locs 73 462 Q (F0 m 314 ls []) := by
  obtain ⟨hx, hb, hml, hown, hts, -⟩ := id C
  have hn := hJ.1.n; have hk8 : k ≤ 8 := Nat.le_trans hJ.1.k (by decide)
  refine lv_aload_n hx hb dL_refuses_314 rfl (lv_at hl 0 rfl) ?_
  refine lv_iload hx hb dL_refuses_315 (lv_at hl 10 rfl) ?_
  refine lv_iconst (v := 0) hx hb dL_refuses_317 (by decide) ?_
  refine lv_iconst (v := (-1)) hx hb dL_refuses_318 (by decide) ?_
  refine lv_iconst (v := 0) hx hb dL_refuses_319 (by decide) ?_
  refine lv_iconst (v := 0) hx hb dL_refuses_320 (by decide) ?_
  refine lv_iconst (v := 0) hx hb dL_refuses_321 (by decide) ?_
  refine sl_expose_1 C gL_refuses_L_expose dL_refuses_322 hl.1 (Nat.le_of_ble_eq_true rfl) ⟨Nat.le_trans (m := 140) (Nat.le_of_ble_eq_true rfl) hR.1, Nat.le_trans (m := 900) (Nat.le_of_ble_eq_true rfl) hR.2⟩ hRR hJ 2147483647 0 (-1) 0 0 0 (by unfold T_addExposure; rw [if_pos (by decide +kernel)]) (fun H locs hJ => ?_)
  refine lv_iload hx hb dL_refuses_325 (lv_at hl 5 rfl) ?_
  refine lv_icmp_ne (tgt := 414) hx hb dL_refuses_327 (by decide) (fun h => absurd h (by decide +kernel)) (fun _ => ?_)
  refine lv_aload_n hx hb dL_refuses_330 rfl (lv_at hl 0 rfl) ?_
  refine lv_iconst (v := 0) hx hb dL_refuses_331 (by decide) ?_
  refine lv_iload hx hb dL_refuses_332 (lv_at hl 10 rfl) ?_
  refine lv_iconst (v := (-1)) hx hb dL_refuses_334 (by decide) ?_
  refine lv_iconst (v := 0) hx hb dL_refuses_335 (by decide) ?_
  refine lv_iconst (v := 0) hx hb dL_refuses_336 (by decide) ?_
  refine lv_iconst (v := 0) hx hb dL_refuses_337 (by decide) ?_
  refine sl_expose_1 C gL_refuses_L_expose dL_refuses_338 hl.1 (Nat.le_of_ble_eq_true rfl) ⟨Nat.le_trans (m := 140) (Nat.le_of_ble_eq_true rfl) hR.1, Nat.le_trans (m := 900) (Nat.le_of_ble_eq_true rfl) hR.2⟩ hRR hJ 0 2147483647 (-1) 0 0 0 (by unfold T_addExposure; rw [if_pos (by decide +kernel)]) (fun H locs hJ => ?_)
  refine lv_iload hx hb dL_refuses_341 (lv_at hl 5 rfl) ?_
  refine lv_icmp_ne (tgt := 414) hx hb dL_refuses_343 (by decide) (fun h => absurd h (by decide +kernel)) (fun _ => ?_)
  refine lv_aload_n hx hb dL_refuses_346 rfl (lv_at hl 0 rfl) ?_
  refine lv_iconst (v := 0) hx hb dL_refuses_347 (by decide) ?_
  refine lv_iconst (v := 0) hx hb dL_refuses_348 (by decide) ?_
  refine lv_iload hx hb dL_refuses_349 (lv_at hl 12 rfl) ?_
  refine lv_iconst (v := 0) hx hb dL_refuses_351 (by decide) ?_
  refine lv_iconst (v := 0) hx hb dL_refuses_352 (by decide) ?_
  refine lv_iconst (v := 1) hx hb dL_refuses_353 (by decide) ?_
  refine sl_expose_2 C gL_refuses_L_expose dL_refuses_354 hl.1 (Nat.le_of_ble_eq_true rfl) ⟨Nat.le_trans (m := 140) (Nat.le_of_ble_eq_true rfl) hR.1, Nat.le_trans (m := 900) (Nat.le_of_ble_eq_true rfl) hR.2⟩ hRR hJ 0 0 2147483647 0 0 1 (by unfold T_addExposure; rw [if_neg (by decide +kernel), if_pos (by decide +kernel)]) (fun H locs hJ => ?_)
  refine lv_iload hx hb dL_refuses_357 (lv_at hl 6 rfl) ?_
  refine lv_icmp_ne (tgt := 414) hx hb dL_refuses_359 (by decide) (fun h => absurd h (by decide +kernel)) (fun _ => ?_)
  refine lv_aload_n hx hb dL_refuses_362 rfl (lv_at hl 0 rfl) ?_
  refine lv_iconst (v := 0) hx hb dL_refuses_363 (by decide) ?_
  refine lv_iconst (v := 0) hx hb dL_refuses_364 (by decide) ?_
  refine lv_iconst (v := 0) hx hb dL_refuses_365 (by decide) ?_
  refine lv_iload hx hb dL_refuses_366 (lv_at hl 12 rfl) ?_
  refine lv_iconst (v := 0) hx hb dL_refuses_368 (by decide) ?_
  refine lv_iconst (v := 1) hx hb dL_refuses_369 (by decide) ?_
  refine sl_expose_2 C gL_refuses_L_expose dL_refuses_370 hl.1 (Nat.le_of_ble_eq_true rfl) ⟨Nat.le_trans (m := 140) (Nat.le_of_ble_eq_true rfl) hR.1, Nat.le_trans (m := 900) (Nat.le_of_ble_eq_true rfl) hR.2⟩ hRR hJ 0 0 0 2147483647 0 1 (by unfold T_addExposure; rw [if_neg (by decide +kernel), if_pos (by decide +kernel)]) (fun H locs hJ => ?_)
  refine lv_iload hx hb dL_refuses_373 (lv_at hl 6 rfl) ?_
  refine lv_icmp_ne (tgt := 414) hx hb dL_refuses_375 (by decide) (fun h => absurd h (by decide +kernel)) (fun _ => ?_)
  refine lv_aload_n hx hb dL_refuses_378 rfl (lv_at hl 0 rfl) ?_
  refine lv_iconst (v := 0) hx hb dL_refuses_379 (by decide) ?_
  refine lv_iconst (v := 0) hx hb dL_refuses_380 (by decide) ?_
  refine lv_iconst (v := 0) hx hb dL_refuses_381 (by decide) ?_
  refine lv_iconst (v := 0) hx hb dL_refuses_382 (by decide) ?_
  refine lv_iload hx hb dL_refuses_383 (lv_at hl 14 rfl) ?_
  refine lv_iconst (v := 1) hx hb dL_refuses_385 (by decide) ?_
  refine sl_expose_2 C gL_refuses_L_expose dL_refuses_386 hl.1 (Nat.le_of_ble_eq_true rfl) ⟨Nat.le_trans (m := 140) (Nat.le_of_ble_eq_true rfl) hR.1, Nat.le_trans (m := 900) (Nat.le_of_ble_eq_true rfl) hR.2⟩ hRR hJ 0 0 0 0 2147483647 1 (by unfold T_addExposure; rw [if_neg (by decide +kernel), if_pos (by decide +kernel)]) (fun H locs hJ => ?_)
  refine lv_iload hx hb dL_refuses_389 (lv_at hl 6 rfl) ?_
  refine lv_icmp_ne (tgt := 414) hx hb dL_refuses_391 (by decide) (fun h => absurd h (by decide +kernel)) (fun _ => ?_)
  refine lv_aload_n hx hb dL_refuses_394 rfl (lv_at hl 0 rfl) ?_
  refine lv_iconst (v := 0) hx hb dL_refuses_395 (by decide) ?_
  refine lv_iconst (v := 0) hx hb dL_refuses_396 (by decide) ?_
  refine lv_iconst (v := 0) hx hb dL_refuses_397 (by decide) ?_
  refine lv_iconst (v := 0) hx hb dL_refuses_398 (by decide) ?_
  refine lv_iconst (v := 0) hx hb dL_refuses_399 (by decide) ?_
  refine lv_iload hx hb dL_refuses_400 (lv_at hl 13 rfl) ?_
  refine sl_expose_2 C gL_refuses_L_expose dL_refuses_402 hl.1 (Nat.le_of_ble_eq_true rfl) ⟨Nat.le_trans (m := 140) (Nat.le_of_ble_eq_true rfl) hR.1, Nat.le_trans (m := 900) (Nat.le_of_ble_eq_true rfl) hR.2⟩ hRR hJ 0 0 0 0 0 2147483647 (by unfold T_addExposure; rw [if_neg (by decide +kernel), if_pos (by decide +kernel)]) (fun H locs hJ => ?_)
  refine lv_iload hx hb dL_refuses_405 (lv_at hl 6 rfl) ?_
  refine lv_icmp_ne (tgt := 414) hx hb dL_refuses_407 (by decide) (fun h => absurd h (by decide +kernel)) (fun _ => ?_)
  refine lv_iconst (v := 1) hx hb dL_refuses_410 (by decide) ?_
  refine lv_goto (tgt := 415) hx hb dL_refuses_411 (by decide) ?_
  refine lv_istore (lv' := [(19, .int 1), (0, .ref o0), (1, .int (nI n)), (2, .int (nI k)), (3, .int (bwE (KE g n k) k)), (4, .int (plL g n)), (5, .int (-900000001)), (6, .int (-900000002)), (7, .int 2147483647), (8, .int 2), (9, .int 2147483647), (10, .int 2147483647), (11, .int 2147483647), (12, .int 2147483647), (13, .int 2147483647), (14, .int 2147483647), (15, .int 2147483647), (16, .int 2147483647), (17, .int 2147483647), (18, .int 2147483647)]) hx hb dL_refuses_415 hl (by decide) rfl (fun ls hl => ?_)
  exact kk H locs ls hJ (lv_sub hl [1, 2, 3, 4, 5, 6, 7, 8, 9, 10, 11, 12, 13, 14, 15, 16, 17, 18, 19, 0] rfl)
set_option maxHeartbeats 4000000 in
set_option maxRecDepth 100000 in
theorem rf_2_3 (C : CJ p l R s m args c cL_refuses 20 wsL_refuses D cI cL cE cP A H0) (hRR : 30 ≤ R.frames ∧ 2000 ≤ R.locals) (hR : 140 ≤ R.cells ∧ 900 ≤ R.slots) (hJ : LJ D cI cL cE cP A H0 o0 g n k H locs) (hl : lv_has ls 20 [(0, .ref o0), (1, .int (nI n)), (2, .int (nI k)), (3, .int (bwE (KE g n k) k)), (4, .int (plL g n)), (5, .int (-900000001)), (6, .int (-900000002)), (7, .int 2147483647), (8, .int 2), (9, .int 2147483647), (10, .int 2147483647), (11, .int 2147483647), (12, .int 2147483647), (13, .int 2147483647), (14, .int 2147483647), (15, .int 2147483647), (16, .int 2147483647), (17, .int 2147483647), (18, .int 2147483647), (19, .int 1)])
    (kk : ∀ (H : Heap) (locs : List Loc) (ls : Array Slot), LJ D cI cL cE cP A H0 o0 g n k H locs → lv_has ls 20 [(0, .ref o0), (1, .int (nI n)), (2, .int (nI k)), (3, .int (bwE (KE g n k) k)), (4, .int (plL g n)), (5, .int (-900000001)), (6, .int (-900000002)), (7, .int 2147483647), (8, .int 2), (9, .int 2147483647), (10, .int 2147483647), (11, .int 2147483647), (12, .int 2147483647), (13, .int 2147483647), (14, .int 2147483647), (15, .int 2147483647), (16, .int 2147483647), (17, .int 2147483647), (18, .int 2147483647), (19, .int 1)] → W p l e R s m args below meth c H locs 84 540 Q (F0 m 497 ls [])) : W p l e R s m args below meth c H locs 79 510 Q (F0 m 417 ls []) := by
  obtain ⟨hx, hb, hml, hown, hts, -⟩ := id C
  have hn := hJ.1.n; have hk8 : k ≤ 8 := Nat.le_trans hJ.1.k (by decide)
  refine lv_iload hx hb dL_refuses_417 (lv_at hl 19 rfl) ?_
  refine lv_if_eq (tgt := 707) hx hb dL_refuses_419 (by decide) (fun h => absurd h (by decide +kernel)) (fun _ => ?_)
  refine lv_aload_n hx hb dL_refuses_422 rfl (lv_at hl 0 rfl) ?_
  refine lv_iload hx hb dL_refuses_423 (lv_at hl 15 rfl) ?_
  refine lv_iconst (v := 5) hx hb dL_refuses_425 (by decide) ?_
  refine lv_iconst (v := 0) hx hb dL_refuses_426 (by decide) ?_
  refine lv_iconst (v := 5) hx hb dL_refuses_427 (by decide) ?_
  refine lv_iconst (v := 5) hx hb dL_refuses_428 (by decide) ?_
  refine sl_piece_1 C gL_refuses_L_piece dL_refuses_429 hl.1 (Nat.le_of_ble_eq_true rfl) ⟨Nat.le_trans (m := 140) (Nat.le_of_ble_eq_true rfl) hR.1, Nat.le_trans (m := 900) (Nat.le_of_ble_eq_true rfl) hR.2⟩ hRR hJ 2147483647 5 0 5 5 (by unfold T_addPiece; rw [if_pos (by decide +kernel)]) (fun H locs hJ => ?_)
  refine lv_iload hx hb dL_refuses_432 (lv_at hl 6 rfl) ?_
  refine lv_icmp_ne (tgt := 707) hx hb dL_refuses_434 (by decide) (fun h => absurd h (by decide +kernel)) (fun _ => ?_)
  refine lv_aload_n hx hb dL_refuses_437 rfl (lv_at hl 0 rfl) ?_
  refine lv_iconst (v := 5) hx hb dL_refuses_438 (by decide) ?_
  refine lv_iload hx hb dL_refuses_439 (lv_at hl 11 rfl) ?_
  refine lv_iconst (v := 0) hx hb dL_refuses_441 (by decide) ?_
  refine lv_iconst (v := 5) hx hb dL_refuses_442 (by decide) ?_
  refine lv_iconst (v := 5) hx hb dL_refuses_443 (by decide) ?_
  refine sl_piece_1 C gL_refuses_L_piece dL_refuses_444 hl.1 (Nat.le_of_ble_eq_true rfl) ⟨Nat.le_trans (m := 140) (Nat.le_of_ble_eq_true rfl) hR.1, Nat.le_trans (m := 900) (Nat.le_of_ble_eq_true rfl) hR.2⟩ hRR hJ 5 2147483647 0 5 5 (by unfold T_addPiece; rw [if_pos (by decide +kernel)]) (fun H locs hJ => ?_)
  refine lv_iload hx hb dL_refuses_447 (lv_at hl 6 rfl) ?_
  refine lv_icmp_ne (tgt := 707) hx hb dL_refuses_449 (by decide) (fun h => absurd h (by decide +kernel)) (fun _ => ?_)
  refine lv_aload_n hx hb dL_refuses_452 rfl (lv_at hl 0 rfl) ?_
  refine lv_iconst (v := 5) hx hb dL_refuses_453 (by decide) ?_
  refine lv_iconst (v := 5) hx hb dL_refuses_454 (by decide) ?_
  refine lv_iload hx hb dL_refuses_455 (lv_at hl 14 rfl) ?_
  refine lv_iconst (v := 5) hx hb dL_refuses_457 (by decide) ?_
  refine lv_iconst (v := 5) hx hb dL_refuses_458 (by decide) ?_
  refine sl_piece_1 C gL_refuses_L_piece dL_refuses_459 hl.1 (Nat.le_of_ble_eq_true rfl) ⟨Nat.le_trans (m := 140) (Nat.le_of_ble_eq_true rfl) hR.1, Nat.le_trans (m := 900) (Nat.le_of_ble_eq_true rfl) hR.2⟩ hRR hJ 5 5 2147483647 5 5 (by unfold T_addPiece; rw [if_pos (by decide +kernel)]) (fun H locs hJ => ?_)
  refine lv_iload hx hb dL_refuses_462 (lv_at hl 6 rfl) ?_
  refine lv_icmp_ne (tgt := 707) hx hb dL_refuses_464 (by decide) (fun h => absurd h (by decide +kernel)) (fun _ => ?_)
  refine lv_aload_n hx hb dL_refuses_467 rfl (lv_at hl 0 rfl) ?_
  refine lv_iconst (v := 5) hx hb dL_refuses_468 (by decide) ?_
  refine lv_iconst (v := 5) hx hb dL_refuses_469 (by decide) ?_
  refine lv_iconst (v := 0) hx hb dL_refuses_470 (by decide) ?_
  refine lv_iload hx hb dL_refuses_471 (lv_at hl 13 rfl) ?_
  refine lv_iconst (v := 5) hx hb dL_refuses_473 (by decide) ?_
  refine sl_piece_1 C gL_refuses_L_piece dL_refuses_474 hl.1 (Nat.le_of_ble_eq_true rfl) ⟨Nat.le_trans (m := 140) (Nat.le_of_ble_eq_true rfl) hR.1, Nat.le_trans (m := 900) (Nat.le_of_ble_eq_true rfl) hR.2⟩ hRR hJ 5 5 0 2147483647 5 (by unfold T_addPiece; rw [if_pos (by decide +kernel)]) (fun H locs hJ => ?_)
  refine lv_iload hx hb dL_refuses_477 (lv_at hl 6 rfl) ?_
  refine lv_icmp_ne (tgt := 707) hx hb dL_refuses_479 (by decide) (fun h => absurd h (by decide +kernel)) (fun _ => ?_)
  refine lv_aload_n hx hb dL_refuses_482 rfl (lv_at hl 0 rfl) ?_
  refine lv_iconst (v := 5) hx hb dL_refuses_483 (by decide) ?_
  refine lv_iconst (v := 5) hx hb dL_refuses_484 (by decide) ?_
  refine lv_iconst (v := 0) hx hb dL_refuses_485 (by decide) ?_
  refine lv_iconst (v := 5) hx hb dL_refuses_486 (by decide) ?_
  refine lv_iload hx hb dL_refuses_487 (lv_at hl 16 rfl) ?_
  refine sl_piece_1 C gL_refuses_L_piece dL_refuses_489 hl.1 (Nat.le_of_ble_eq_true rfl) ⟨Nat.le_trans (m := 140) (Nat.le_of_ble_eq_true rfl) hR.1, Nat.le_trans (m := 900) (Nat.le_of_ble_eq_true rfl) hR.2⟩ hRR hJ 5 5 0 5 2147483647 (by unfold T_addPiece; rw [if_pos (by decide +kernel)]) (fun H locs hJ => ?_)
  refine lv_iload hx hb dL_refuses_492 (lv_at hl 6 rfl) ?_
  refine lv_icmp_ne (tgt := 707) hx hb dL_refuses_494 (by decide) (fun h => absurd h (by decide +kernel)) (fun _ => ?_)
  exact kk H locs ls hJ (lv_sub hl [0, 1, 2, 3, 4, 5, 6, 7, 8, 9, 10, 11, 12, 13, 14, 15, 16, 17, 18, 19] rfl)
set_option maxHeartbeats 4000000 in
set_option maxRecDepth 100000 in
theorem rf_2_4 (C : CJ p l R s m args c cL_refuses 20 wsL_refuses D cI cL cE cP A H0) (hRR : 30 ≤ R.frames ∧ 2000 ≤ R.locals) (hR : 140 ≤ R.cells ∧ 900 ≤ R.slots) (hJ : LJ D cI cL cE cP A H0 o0 g n k H locs) (hl : lv_has ls 20 [(0, .ref o0), (1, .int (nI n)), (2, .int (nI k)), (3, .int (bwE (KE g n k) k)), (4, .int (plL g n)), (5, .int (-900000001)), (6, .int (-900000002)), (7, .int 2147483647), (8, .int 2), (9, .int 2147483647), (10, .int 2147483647), (11, .int 2147483647), (12, .int 2147483647), (13, .int 2147483647), (14, .int 2147483647), (15, .int 2147483647), (16, .int 2147483647), (17, .int 2147483647), (18, .int 2147483647), (19, .int 1)])
    (kk : ∀ (H : Heap) (locs : List Loc) (ls : Array Slot), LJ D cI cL cE cP A H0 o0 g n k H locs → lv_has ls 20 [(0, .ref o0), (1, .int (nI n)), (2, .int (nI k)), (3, .int (bwE (KE g n k) k)), (4, .int (plL g n)), (5, .int (-900000001)), (6, .int (-900000002)), (7, .int 2147483647), (8, .int 2), (9, .int 2147483647), (10, .int 2147483647), (11, .int 2147483647), (12, .int 2147483647), (13, .int 2147483647), (14, .int 2147483647), (15, .int 2147483647), (16, .int 2147483647), (17, .int 2147483647), (18, .int 2147483647), (19, .int 1)] → W p l e R s m args below meth c H locs 91 582 Q (F0 m 598 ls [])) : W p l e R s m args below meth c H locs 84 540 Q (F0 m 497 ls []) := by
  obtain ⟨hx, hb, hml, hown, hts, -⟩ := id C
  have hn := hJ.1.n; have hk8 : k ≤ 8 := Nat.le_trans hJ.1.k (by decide)
  refine lv_aload_n hx hb dL_refuses_497 rfl (lv_at hl 0 rfl) ?_
  refine lv_iconst (v := 3) hx hb dL_refuses_498 (by decide) ?_
  refine lv_iload hx hb dL_refuses_499 (lv_at hl 17 rfl) ?_
  refine lv_iload hx hb dL_refuses_501 (lv_at hl 7 rfl) ?_
  refine lv_iconst (v := 0) hx hb dL_refuses_503 (by decide) ?_
  refine sl_act_3_1 C gL_refuses_L_act dL_refuses_504 hl.1 (Nat.le_of_ble_eq_true rfl) ⟨Nat.le_trans (m := 140) (Nat.le_of_ble_eq_true rfl) hR.1, Nat.le_trans (m := 900) (Nat.le_of_ble_eq_true rfl) hR.2⟩ hRR hJ 2147483647 2147483647 0 (by unfold T_draw; rw [if_pos (zex_big hn (by decide +kernel))]) (fun H locs hJ => ?_)
  refine lv_iload hx hb dL_refuses_507 (lv_at hl 5 rfl) ?_
  refine lv_icmp_ne (tgt := 707) hx hb dL_refuses_509 (by decide) (fun h => absurd h (by decide +kernel)) (fun _ => ?_)
  refine lv_aload_n hx hb dL_refuses_512 rfl (lv_at hl 0 rfl) ?_
  refine lv_iconst (v := 4) hx hb dL_refuses_513 (by decide) ?_
  refine lv_iload hx hb dL_refuses_514 (lv_at hl 17 rfl) ?_
  refine lv_iconst (v := 0) hx hb dL_refuses_516 (by decide) ?_
  refine lv_iconst (v := 0) hx hb dL_refuses_517 (by decide) ?_
  refine sl_act_4_1 C gL_refuses_L_act dL_refuses_518 hl.1 (Nat.le_of_ble_eq_true rfl) ⟨Nat.le_trans (m := 140) (Nat.le_of_ble_eq_true rfl) hR.1, Nat.le_trans (m := 900) (Nat.le_of_ble_eq_true rfl) hR.2⟩ hRR hJ 2147483647 0 0 (by unfold T_setClass; rw [if_pos (by rw [(zex_big hn (by decide +kernel))]; rfl)]) (fun H locs hJ => ?_)
  refine lv_iload hx hb dL_refuses_521 (lv_at hl 5 rfl) ?_
  refine lv_icmp_ne (tgt := 707) hx hb dL_refuses_523 (by decide) (fun h => absurd h (by decide +kernel)) (fun _ => ?_)
  refine lv_aload_n hx hb dL_refuses_526 rfl (lv_at hl 0 rfl) ?_
  refine lv_iconst (v := 4) hx hb dL_refuses_527 (by decide) ?_
  refine lv_iconst (v := 0) hx hb dL_refuses_528 (by decide) ?_
  refine lv_iload hx hb dL_refuses_529 (lv_at hl 10 rfl) ?_
  refine lv_iconst (v := 0) hx hb dL_refuses_531 (by decide) ?_
  refine sl_act_4_1 C gL_refuses_L_act dL_refuses_532 hl.1 (Nat.le_of_ble_eq_true rfl) ⟨Nat.le_trans (m := 140) (Nat.le_of_ble_eq_true rfl) hR.1, Nat.le_trans (m := 900) (Nat.le_of_ble_eq_true rfl) hR.2⟩ hRR hJ 0 2147483647 0 (by unfold T_setClass; rw [if_pos (by rw [show zwi 2147483647 0 3 = false from by decide +kernel, Bool.and_false])]) (fun H locs hJ => ?_)
  refine lv_iload hx hb dL_refuses_535 (lv_at hl 5 rfl) ?_
  refine lv_icmp_ne (tgt := 707) hx hb dL_refuses_537 (by decide) (fun h => absurd h (by decide +kernel)) (fun _ => ?_)
  refine lv_aload_n hx hb dL_refuses_540 rfl (lv_at hl 0 rfl) ?_
  refine lv_iconst (v := 5) hx hb dL_refuses_541 (by decide) ?_
  refine lv_iload hx hb dL_refuses_542 (lv_at hl 17 rfl) ?_
  refine lv_iconst (v := 0) hx hb dL_refuses_544 (by decide) ?_
  refine lv_iconst (v := (-1)) hx hb dL_refuses_545 (by decide) ?_
  refine sl_act_5_1 C gL_refuses_L_act dL_refuses_546 hl.1 (Nat.le_of_ble_eq_true rfl) ⟨Nat.le_trans (m := 140) (Nat.le_of_ble_eq_true rfl) hR.1, Nat.le_trans (m := 900) (Nat.le_of_ble_eq_true rfl) hR.2⟩ hRR hJ 2147483647 0 (-1) (by unfold T_guarantee; rw [if_pos (by rw [(zex_big hn (by decide +kernel))]; rfl)]) (fun H locs hJ => ?_)
  refine lv_iload hx hb dL_refuses_549 (lv_at hl 5 rfl) ?_
  refine lv_icmp_ne (tgt := 707) hx hb dL_refuses_551 (by decide) (fun h => absurd h (by decide +kernel)) (fun _ => ?_)
  refine lv_aload_n hx hb dL_refuses_554 rfl (lv_at hl 0 rfl) ?_
  refine lv_iconst (v := 5) hx hb dL_refuses_555 (by decide) ?_
  refine lv_iconst (v := 0) hx hb dL_refuses_556 (by decide) ?_
  refine lv_iload hx hb dL_refuses_557 (lv_at hl 10 rfl) ?_
  refine lv_iconst (v := (-1)) hx hb dL_refuses_559 (by decide) ?_
  refine sl_act_5_1 C gL_refuses_L_act dL_refuses_560 hl.1 (Nat.le_of_ble_eq_true rfl) ⟨Nat.le_trans (m := 140) (Nat.le_of_ble_eq_true rfl) hR.1, Nat.le_trans (m := 900) (Nat.le_of_ble_eq_true rfl) hR.2⟩ hRR hJ 0 2147483647 (-1) (by unfold T_guarantee; rw [if_pos (by rw [show zwi 2147483647 0 3 = false from by decide +kernel, Bool.and_false])]) (fun H locs hJ => ?_)
  refine lv_iload hx hb dL_refuses_563 (lv_at hl 5 rfl) ?_
  refine lv_icmp_ne (tgt := 707) hx hb dL_refuses_565 (by decide) (fun h => absurd h (by decide +kernel)) (fun _ => ?_)
  refine lv_aload_n hx hb dL_refuses_568 rfl (lv_at hl 0 rfl) ?_
  refine lv_bipush (v := 6) hx hb dL_refuses_569 (by decide) ?_
  refine lv_iload hx hb dL_refuses_571 (lv_at hl 17 rfl) ?_
  refine lv_iconst (v := 0) hx hb dL_refuses_573 (by decide) ?_
  refine lv_iconst (v := 0) hx hb dL_refuses_574 (by decide) ?_
  refine sl_act_6_1 C gL_refuses_L_act dL_refuses_575 hl.1 (Nat.le_of_ble_eq_true rfl) ⟨Nat.le_trans (m := 140) (Nat.le_of_ble_eq_true rfl) hR.1, Nat.le_trans (m := 900) (Nat.le_of_ble_eq_true rfl) hR.2⟩ hRR hJ 2147483647 0 0 (by unfold T_amount; rw [if_pos (zex_big hn (by decide +kernel))]) (fun H locs hJ => ?_)
  refine lv_iload hx hb dL_refuses_578 (lv_at hl 5 rfl) ?_
  refine lv_icmp_ne (tgt := 707) hx hb dL_refuses_580 (by decide) (fun h => absurd h (by decide +kernel)) (fun _ => ?_)
  refine lv_aload_n hx hb dL_refuses_583 rfl (lv_at hl 0 rfl) ?_
  refine lv_bipush (v := 7) hx hb dL_refuses_584 (by decide) ?_
  refine lv_iload hx hb dL_refuses_586 (lv_at hl 18 rfl) ?_
  refine lv_iconst (v := 0) hx hb dL_refuses_588 (by decide) ?_
  refine lv_iconst (v := 0) hx hb dL_refuses_589 (by decide) ?_
  refine sl_act_7_1 C gL_refuses_L_act dL_refuses_590 hl.1 (Nat.le_of_ble_eq_true rfl) ⟨Nat.le_trans (m := 140) (Nat.le_of_ble_eq_true rfl) hR.1, Nat.le_trans (m := 900) (Nat.le_of_ble_eq_true rfl) hR.2⟩ hRR hJ 2147483647 0 0 (by unfold T_setPiece; rw [if_pos (zex_big hk8 (by decide +kernel))]) (fun H locs hJ => ?_)
  refine lv_iload hx hb dL_refuses_593 (lv_at hl 5 rfl) ?_
  refine lv_icmp_ne (tgt := 707) hx hb dL_refuses_595 (by decide) (fun h => absurd h (by decide +kernel)) (fun _ => ?_)
  exact kk H locs ls hJ (lv_sub hl [0, 1, 2, 3, 4, 5, 6, 7, 8, 9, 10, 11, 12, 13, 14, 15, 16, 17, 18, 19] rfl)
set_option maxHeartbeats 4000000 in
set_option maxRecDepth 100000 in
theorem rf_2_5 (C : CJ p l R s m args c cL_refuses 20 wsL_refuses D cI cL cE cP A H0) (hRR : 30 ≤ R.frames ∧ 2000 ≤ R.locals) (hR : 140 ≤ R.cells ∧ 900 ≤ R.slots) (hJ : LJ D cI cL cE cP A H0 o0 g n k H locs) (hl : lv_has ls 20 [(0, .ref o0), (1, .int (nI n)), (2, .int (nI k)), (3, .int (bwE (KE g n k) k)), (4, .int (plL g n)), (5, .int (-900000001)), (6, .int (-900000002)), (7, .int 2147483647), (8, .int 2), (9, .int 2147483647), (10, .int 2147483647), (11, .int 2147483647), (12, .int 2147483647), (13, .int 2147483647), (14, .int 2147483647), (15, .int 2147483647), (16, .int 2147483647), (17, .int 2147483647), (18, .int 2147483647), (19, .int 1)])
    (kk : ∀ (H : Heap) (locs : List Loc) (ls : Array Slot), LJ D cI cL cE cP A H0 o0 g n k H locs → lv_has ls 20 [(0, .ref o0), (1, .int (nI n)), (2, .int (nI k)), (3, .int (bwE (KE g n k) k)), (4, .int (plL g n)), (5, .int (-900000001)), (6, .int (-900000002)), (7, .int 2147483647), (8, .int 2), (9, .int 2147483647), (10, .int 2147483647), (11, .int 2147483647), (12, .int 2147483647), (13, .int 2147483647), (14, .int 2147483647), (15, .int 2147483647), (16, .int 2147483647), (17, .int 2147483647), (18, .int 2147483647), (19, .int 1)] → W p l e R s m args below meth c H locs 98 624 Q (F0 m 710 ls [])) : W p l e R s m args below meth c H locs 91 582 Q (F0 m 598 ls []) := by
  obtain ⟨hx, hb, hml, hown, hts, -⟩ := id C
  have hn := hJ.1.n; have hk8 : k ≤ 8 := Nat.le_trans hJ.1.k (by decide)
  refine lv_aload_n hx hb dL_refuses_598 rfl (lv_at hl 0 rfl) ?_
  refine lv_bipush (v := 8) hx hb dL_refuses_599 (by decide) ?_
  refine lv_iload hx hb dL_refuses_601 (lv_at hl 18 rfl) ?_
  refine lv_iconst (v := 0) hx hb dL_refuses_603 (by decide) ?_
  refine lv_iconst (v := 0) hx hb dL_refuses_604 (by decide) ?_
  refine sl_act_8_1 C gL_refuses_L_act dL_refuses_605 hl.1 (Nat.le_of_ble_eq_true rfl) ⟨Nat.le_trans (m := 140) (Nat.le_of_ble_eq_true rfl) hR.1, Nat.le_trans (m := 900) (Nat.le_of_ble_eq_true rfl) hR.2⟩ hRR hJ 2147483647 0 0 (by unfold T_value; rw [if_pos (by rw [(zex_big hk8 (by decide +kernel))]; rfl)]) (fun H locs hJ => ?_)
  refine lv_iload hx hb dL_refuses_608 (lv_at hl 5 rfl) ?_
  refine lv_icmp_ne (tgt := 707) hx hb dL_refuses_610 (by decide) (fun h => absurd h (by decide +kernel)) (fun _ => ?_)
  refine lv_aload_n hx hb dL_refuses_613 rfl (lv_at hl 0 rfl) ?_
  refine lv_bipush (v := 8) hx hb dL_refuses_614 (by decide) ?_
  refine lv_iconst (v := 0) hx hb dL_refuses_616 (by decide) ?_
  refine lv_iload hx hb dL_refuses_617 (lv_at hl 17 rfl) ?_
  refine lv_iconst (v := 0) hx hb dL_refuses_619 (by decide) ?_
  refine sl_act_8_1 C gL_refuses_L_act dL_refuses_620 hl.1 (Nat.le_of_ble_eq_true rfl) ⟨Nat.le_trans (m := 140) (Nat.le_of_ble_eq_true rfl) hR.1, Nat.le_trans (m := 900) (Nat.le_of_ble_eq_true rfl) hR.2⟩ hRR hJ 0 2147483647 0 (by unfold T_value; rw [if_pos (by rw [(zex_big hn (by decide +kernel)), Bool.and_false])]) (fun H locs hJ => ?_)
  refine lv_iload hx hb dL_refuses_623 (lv_at hl 5 rfl) ?_
  refine lv_icmp_ne (tgt := 707) hx hb dL_refuses_625 (by decide) (fun h => absurd h (by decide +kernel)) (fun _ => ?_)
  refine lv_aload_n hx hb dL_refuses_628 rfl (lv_at hl 0 rfl) ?_
  refine lv_bipush (v := 9) hx hb dL_refuses_629 (by decide) ?_
  refine lv_iload hx hb dL_refuses_631 (lv_at hl 18 rfl) ?_
  refine lv_iconst (v := 0) hx hb dL_refuses_633 (by decide) ?_
  refine lv_iconst (v := 0) hx hb dL_refuses_634 (by decide) ?_
  refine sl_act_9_1 C gL_refuses_L_act dL_refuses_635 hl.1 (Nat.le_of_ble_eq_true rfl) ⟨Nat.le_trans (m := 140) (Nat.le_of_ble_eq_true rfl) hR.1, Nat.le_trans (m := 900) (Nat.le_of_ble_eq_true rfl) hR.2⟩ hRR hJ 2147483647 0 0 (by unfold T_amount; rw [if_pos (zex_big hk8 (by decide +kernel))]) (fun H locs hJ => ?_)
  refine lv_iload hx hb dL_refuses_638 (lv_at hl 5 rfl) ?_
  refine lv_icmp_ne (tgt := 707) hx hb dL_refuses_640 (by decide) (fun h => absurd h (by decide +kernel)) (fun _ => ?_)
  refine lv_aload_n hx hb dL_refuses_643 rfl (lv_at hl 0 rfl) ?_
  refine lv_bipush (v := 10) hx hb dL_refuses_644 (by decide) ?_
  refine lv_iload hx hb dL_refuses_646 (lv_at hl 17 rfl) ?_
  refine lv_iconst (v := 0) hx hb dL_refuses_648 (by decide) ?_
  refine lv_iconst (v := 0) hx hb dL_refuses_649 (by decide) ?_
  refine sl_act_10_1 C gL_refuses_L_act dL_refuses_650 hl.1 (Nat.le_of_ble_eq_true rfl) ⟨Nat.le_trans (m := 140) (Nat.le_of_ble_eq_true rfl) hR.1, Nat.le_trans (m := 900) (Nat.le_of_ble_eq_true rfl) hR.2⟩ hRR hJ 2147483647 0 0 (by unfold T_amount; rw [if_pos (zex_big hn (by decide +kernel))]) (fun H locs hJ => ?_)
  refine lv_iload hx hb dL_refuses_653 (lv_at hl 5 rfl) ?_
  refine lv_icmp_ne (tgt := 707) hx hb dL_refuses_655 (by decide) (fun h => absurd h (by decide +kernel)) (fun _ => ?_)
  refine lv_aload_n hx hb dL_refuses_658 rfl (lv_at hl 0 rfl) ?_
  refine lv_bipush (v := 11) hx hb dL_refuses_659 (by decide) ?_
  refine lv_iload hx hb dL_refuses_661 (lv_at hl 17 rfl) ?_
  refine lv_iconst (v := 0) hx hb dL_refuses_663 (by decide) ?_
  refine lv_iconst (v := 0) hx hb dL_refuses_664 (by decide) ?_
  refine sl_act_11_1 C gL_refuses_L_act dL_refuses_665 hl.1 (Nat.le_of_ble_eq_true rfl) ⟨Nat.le_trans (m := 140) (Nat.le_of_ble_eq_true rfl) hR.1, Nat.le_trans (m := 900) (Nat.le_of_ble_eq_true rfl) hR.2⟩ hRR hJ 2147483647 0 0 (by unfold T_amount; rw [if_pos (zex_big hn (by decide +kernel))]) (fun H locs hJ => ?_)
  refine lv_iload hx hb dL_refuses_668 (lv_at hl 5 rfl) ?_
  refine lv_icmp_ne (tgt := 707) hx hb dL_refuses_670 (by decide) (fun h => absurd h (by decide +kernel)) (fun _ => ?_)
  refine lv_aload_n hx hb dL_refuses_673 rfl (lv_at hl 0 rfl) ?_
  refine lv_bipush (v := 12) hx hb dL_refuses_674 (by decide) ?_
  refine lv_iload hx hb dL_refuses_676 (lv_at hl 18 rfl) ?_
  refine lv_iconst (v := 0) hx hb dL_refuses_678 (by decide) ?_
  refine lv_iconst (v := 0) hx hb dL_refuses_679 (by decide) ?_
  refine sl_act_12_1 C gL_refuses_L_act dL_refuses_680 hl.1 (Nat.le_of_ble_eq_true rfl) ⟨Nat.le_trans (m := 140) (Nat.le_of_ble_eq_true rfl) hR.1, Nat.le_trans (m := 900) (Nat.le_of_ble_eq_true rfl) hR.2⟩ hRR hJ 2147483647 0 0 (by unfold T_amount; rw [if_pos (zex_big hk8 (by decide +kernel))]) (fun H locs hJ => ?_)
  refine lv_iload hx hb dL_refuses_683 (lv_at hl 5 rfl) ?_
  refine lv_icmp_ne (tgt := 707) hx hb dL_refuses_685 (by decide) (fun h => absurd h (by decide +kernel)) (fun _ => ?_)
  refine lv_aload_n hx hb dL_refuses_688 rfl (lv_at hl 0 rfl) ?_
  refine lv_bipush (v := 13) hx hb dL_refuses_689 (by decide) ?_
  refine lv_iload hx hb dL_refuses_691 (lv_at hl 10 rfl) ?_
  refine lv_iconst (v := 0) hx hb dL_refuses_693 (by decide) ?_
  refine lv_iconst (v := 0) hx hb dL_refuses_694 (by decide) ?_
  refine sl_act_13_1 C gL_refuses_L_act dL_refuses_695 hl.1 (Nat.le_of_ble_eq_true rfl) ⟨Nat.le_trans (m := 140) (Nat.le_of_ble_eq_true rfl) hR.1, Nat.le_trans (m := 900) (Nat.le_of_ble_eq_true rfl) hR.2⟩ hRR hJ 2147483647 0 0 (by decide +kernel) (fun H locs hJ => ?_)
  refine lv_iload hx hb dL_refuses_698 (lv_at hl 5 rfl) ?_
  refine lv_icmp_ne (tgt := 707) hx hb dL_refuses_700 (by decide) (fun h => absurd h (by decide +kernel)) (fun _ => ?_)
  refine lv_iconst (v := 1) hx hb dL_refuses_703 (by decide) ?_
  refine lv_goto (tgt := 708) hx hb dL_refuses_704 (by decide) ?_
  refine lv_istore (lv' := [(19, .int 1), (0, .ref o0), (1, .int (nI n)), (2, .int (nI k)), (3, .int (bwE (KE g n k) k)), (4, .int (plL g n)), (5, .int (-900000001)), (6, .int (-900000002)), (7, .int 2147483647), (8, .int 2), (9, .int 2147483647), (10, .int 2147483647), (11, .int 2147483647), (12, .int 2147483647), (13, .int 2147483647), (14, .int 2147483647), (15, .int 2147483647), (16, .int 2147483647), (17, .int 2147483647), (18, .int 2147483647)]) hx hb dL_refuses_708 hl (by decide) rfl (fun ls hl => ?_)
  exact kk H locs ls hJ (lv_sub hl [1, 2, 3, 4, 5, 6, 7, 8, 9, 10, 11, 12, 13, 14, 15, 16, 17, 18, 19, 0] rfl)
set_option maxHeartbeats 4000000 in
set_option maxRecDepth 100000 in
theorem rf_2_6 (C : CJ p l R s m args c cL_refuses 20 wsL_refuses D cI cL cE cP A H0) (hRR : 30 ≤ R.frames ∧ 2000 ≤ R.locals) (hR : 140 ≤ R.cells ∧ 900 ≤ R.slots) (hJ : LJ D cI cL cE cP A H0 o0 g n k H locs) (hl : lv_has ls 20 [(0, .ref o0), (1, .int (nI n)), (2, .int (nI k)), (3, .int (bwE (KE g n k) k)), (4, .int (plL g n)), (5, .int (-900000001)), (6, .int (-900000002)), (7, .int 2147483647), (8, .int 2), (9, .int 2147483647), (10, .int 2147483647), (11, .int 2147483647), (12, .int 2147483647), (13, .int 2147483647), (14, .int 2147483647), (15, .int 2147483647), (16, .int 2147483647), (17, .int 2147483647), (18, .int 2147483647), (19, .int 1)])
    (kk : ∀ (H : Heap) (locs : List Loc) (ls : Array Slot), LJ D cI cL cE cP A H0 o0 g n k H locs → lv_has ls 20 [(0, .ref o0), (1, .int (nI n)), (2, .int (nI k)), (3, .int (bwE (KE g n k) k)), (4, .int (plL g n)), (5, .int (-900000001)), (6, .int (-900000002)), (7, .int 2147483647), (8, .int 2), (9, .int 2147483647), (10, .int 2147483647), (11, .int 2147483647), (12, .int 2147483647), (13, .int 2147483647), (14, .int 2147483647), (15, .int 2147483647), (16, .int 2147483647), (17, .int 2147483647), (18, .int 2147483647), (19, .int 1)] → W p l e R s m args below meth c H locs 100 636 Q (F0 m 757 ls [])) : W p l e R s m args below meth c H locs 98 624 Q (F0 m 710 ls []) := by
  obtain ⟨hx, hb, hml, hown, hts, -⟩ := id C
  have hn := hJ.1.n; have hk8 : k ≤ 8 := Nat.le_trans hJ.1.k (by decide)
  refine lv_iload hx hb dL_refuses_710 (lv_at hl 19 rfl) ?_
  refine lv_if_eq (tgt := 795) hx hb dL_refuses_712 (by decide) (fun h => absurd h (by decide +kernel)) (fun _ => ?_)
  refine lv_iload_n hx hb dL_refuses_715 rfl (lv_at hl 1 rfl) ?_
  refine lv_if_eq (tgt := 757) hx hb dL_refuses_716 (by decide) (fun _ => ?_) (fun hz => ?_)
  · exact W.widen (k := 100) (n := 636) (Nat.le_of_ble_eq_true rfl) (Nat.le_of_ble_eq_true rfl) (kk H locs ls hJ (lv_sub hl [0, 1, 2, 3, 4, 5, 6, 7, 8, 9, 10, 11, 12, 13, 14, 15, 16, 17, 18, 19] rfl))
  · have hz := zex_0 hn hz
    refine lv_aload_n hx hb dL_refuses_719 rfl (lv_at hl 0 rfl) ?_
    refine lv_iconst (v := 3) hx hb dL_refuses_720 (by decide) ?_
    refine lv_iconst (v := 0) hx hb dL_refuses_721 (by decide) ?_
    refine lv_iload hx hb dL_refuses_722 (lv_at hl 8 rfl) ?_
    refine lv_if_ne (tgt := 732) hx hb dL_refuses_724 (by decide) (fun _ => ?_) (fun h => absurd h (by decide +kernel))
    refine lv_iload hx hb dL_refuses_732 (lv_at hl 12 rfl) ?_
    refine lv_iconst (v := 0) hx hb dL_refuses_734 (by decide) ?_
    refine sl_act_3_2 C gL_refuses_L_act dL_refuses_735 hl.1 (Nat.le_of_ble_eq_true rfl) ⟨Nat.le_trans (m := 140) (Nat.le_of_ble_eq_true rfl) hR.1, Nat.le_trans (m := 900) (Nat.le_of_ble_eq_true rfl) hR.2⟩ hRR hJ 0 2147483647 0 (by unfold T_draw; rw [if_neg (by rw [hz]; decide), if_pos (by decide +kernel)]) (fun H locs hJ => ?_)
    refine lv_iload hx hb dL_refuses_738 (lv_at hl 6 rfl) ?_
    refine lv_icmp_ne (tgt := 795) hx hb dL_refuses_740 (by decide) (fun h => absurd h (by decide +kernel)) (fun _ => ?_)
    refine lv_aload_n hx hb dL_refuses_743 rfl (lv_at hl 0 rfl) ?_
    refine lv_iconst (v := 5) hx hb dL_refuses_744 (by decide) ?_
    refine lv_iconst (v := 0) hx hb dL_refuses_745 (by decide) ?_
    refine lv_iconst (v := 0) hx hb dL_refuses_746 (by decide) ?_
    refine lv_iload hx hb dL_refuses_747 (lv_at hl 12 rfl) ?_
    refine sl_act_5_2 C gL_refuses_L_act dL_refuses_749 hl.1 (Nat.le_of_ble_eq_true rfl) ⟨Nat.le_trans (m := 140) (Nat.le_of_ble_eq_true rfl) hR.1, Nat.le_trans (m := 900) (Nat.le_of_ble_eq_true rfl) hR.2⟩ hRR hJ 0 0 2147483647 (by unfold T_guarantee; rw [if_neg (by rw [hz]; decide +kernel), if_pos (by decide +kernel)]) (fun H locs hJ => ?_)
    refine lv_iload hx hb dL_refuses_752 (lv_at hl 6 rfl) ?_
    refine lv_icmp_ne (tgt := 795) hx hb dL_refuses_754 (by decide) (fun h => absurd h (by decide +kernel)) (fun _ => ?_)
    exact kk H locs ls hJ (lv_sub hl [0, 1, 2, 3, 4, 5, 6, 7, 8, 9, 10, 11, 12, 13, 14, 15, 16, 17, 18, 19] rfl)
set_option maxHeartbeats 4000000 in
set_option maxRecDepth 100000 in
theorem rf_2_7 (C : CJ p l R s m args c cL_refuses 20 wsL_refuses D cI cL cE cP A H0) (hRR : 30 ≤ R.frames ∧ 2000 ≤ R.locals) (hR : 140 ≤ R.cells ∧ 900 ≤ R.slots) (hJ : LJ D cI cL cE cP A H0 o0 g n k H locs) (hl : lv_has ls 20 [(0, .ref o0), (1, .int (nI n)), (2, .int (nI k)), (3, .int (bwE (KE g n k) k)), (4, .int (plL g n)), (5, .int (-900000001)), (6, .int (-900000002)), (7, .int 2147483647), (8, .int 2), (9, .int 2147483647), (10, .int 2147483647), (11, .int 2147483647), (12, .int 2147483647), (13, .int 2147483647), (14, .int 2147483647), (15, .int 2147483647), (16, .int 2147483647), (17, .int 2147483647), (18, .int 2147483647), (19, .int 1)])
    (kk : ∀ (H : Heap) (locs : List Loc) (ls : Array Slot), LJ D cI cL cE cP A H0 o0 g n k H locs → lv_has ls 20 [(0, .ref o0), (1, .int (nI n)), (2, .int (nI k)), (3, .int (bwE (KE g n k) k)), (4, .int (plL g n)), (5, .int (-900000001)), (6, .int (-900000002)), (7, .int 2147483647), (8, .int 3)] → W p l e R s m args below meth c H locs 102 648 Q (F0 m 36 ls [])) : W p l e R s m args below meth c H locs 100 636 Q (F0 m 757 ls []) := by
  obtain ⟨hx, hb, hml, hown, hts, -⟩ := id C
  have hn := hJ.1.n; have hk8 : k ≤ 8 := Nat.le_trans hJ.1.k (by decide)
  refine lv_iload_n hx hb dL_refuses_757 rfl (lv_at hl 2 rfl) ?_
  refine lv_if_eq (tgt := 791) hx hb dL_refuses_758 (by decide) (fun _ => ?_) (fun hz => ?_)
  · refine lv_iconst (v := 1) hx hb dL_refuses_791 (by decide) ?_
    refine lv_goto (tgt := 796) hx hb dL_refuses_792 (by decide) ?_
    refine lv_istore (lv' := [(19, .int 1), (0, .ref o0), (1, .int (nI n)), (2, .int (nI k)), (3, .int (bwE (KE g n k) k)), (4, .int (plL g n)), (5, .int (-900000001)), (6, .int (-900000002)), (7, .int 2147483647), (8, .int 2), (9, .int 2147483647), (10, .int 2147483647), (11, .int 2147483647), (12, .int 2147483647), (13, .int 2147483647), (14, .int 2147483647), (15, .int 2147483647), (16, .int 2147483647), (17, .int 2147483647), (18, .int 2147483647)]) hx hb dL_refuses_796 hl (by decide) rfl (fun ls hl => ?_)
    refine lv_iload hx hb dL_refuses_798 (lv_at hl 0 rfl) ?_
    refine lv_if_ne (tgt := 805) hx hb dL_refuses_800 (by decide) (fun _ => ?_) (fun h => absurd h (by decide +kernel))
    refine lv_iinc (v := 3) (lv' := [(8, .int 3), (19, .int 1), (0, .ref o0), (1, .int (nI n)), (2, .int (nI k)), (3, .int (bwE (KE g n k) k)), (4, .int (plL g n)), (5, .int (-900000001)), (6, .int (-900000002)), (7, .int 2147483647), (9, .int 2147483647), (10, .int 2147483647), (11, .int 2147483647), (12, .int 2147483647), (13, .int 2147483647), (14, .int 2147483647), (15, .int 2147483647), (16, .int 2147483647), (17, .int 2147483647), (18, .int 2147483647)]) hx hb dL_refuses_805 hl (k := 9) rfl (by decide +kernel) (by decide) rfl (fun ls hl => ?_)
    refine lv_goto (tgt := 36) hx hb dL_refuses_808 (by decide) ?_
    exact W.widen (k := 102) (n := 648) (Nat.le_of_ble_eq_true rfl) (Nat.le_of_ble_eq_true rfl) (kk H locs ls hJ (lv_sub hl [2, 3, 4, 5, 6, 7, 8, 9, 0] rfl))
  · have hz := zex_0 hk8 hz
    refine lv_aload_n hx hb dL_refuses_761 rfl (lv_at hl 0 rfl) ?_
    refine lv_bipush (v := 7) hx hb dL_refuses_762 (by decide) ?_
    refine lv_iconst (v := 0) hx hb dL_refuses_764 (by decide) ?_
    refine lv_iload hx hb dL_refuses_765 (lv_at hl 15 rfl) ?_
    refine lv_iconst (v := 0) hx hb dL_refuses_767 (by decide) ?_
    refine sl_act_7_2 C gL_refuses_L_act dL_refuses_768 hl.1 (Nat.le_of_ble_eq_true rfl) ⟨Nat.le_trans (m := 140) (Nat.le_of_ble_eq_true rfl) hR.1, Nat.le_trans (m := 900) (Nat.le_of_ble_eq_true rfl) hR.2⟩ hRR hJ 0 2147483647 0 (by unfold T_setPiece; rw [if_neg (by rw [hz]; decide), if_pos (by decide +kernel)]) (fun H locs hJ => ?_)
    refine lv_iload hx hb dL_refuses_771 (lv_at hl 6 rfl) ?_
    refine lv_icmp_ne (tgt := 795) hx hb dL_refuses_773 (by decide) (fun h => absurd h (by decide +kernel)) (fun _ => ?_)
    refine lv_aload_n hx hb dL_refuses_776 rfl (lv_at hl 0 rfl) ?_
    refine lv_bipush (v := 7) hx hb dL_refuses_777 (by decide) ?_
    refine lv_iconst (v := 0) hx hb dL_refuses_779 (by decide) ?_
    refine lv_iconst (v := 5) hx hb dL_refuses_780 (by decide) ?_
    refine lv_iload hx hb dL_refuses_781 (lv_at hl 16 rfl) ?_
    refine sl_act_7_2 C gL_refuses_L_act dL_refuses_783 hl.1 (Nat.le_of_ble_eq_true rfl) ⟨Nat.le_trans (m := 140) (Nat.le_of_ble_eq_true rfl) hR.1, Nat.le_trans (m := 900) (Nat.le_of_ble_eq_true rfl) hR.2⟩ hRR hJ 0 5 2147483647 (by unfold T_setPiece; rw [if_neg (by rw [hz]; decide), if_pos (by decide +kernel)]) (fun H locs hJ => ?_)
    refine lv_iload hx hb dL_refuses_786 (lv_at hl 6 rfl) ?_
    refine lv_icmp_ne (tgt := 795) hx hb dL_refuses_788 (by decide) (fun h => absurd h (by decide +kernel)) (fun _ => ?_)
    refine lv_iconst (v := 1) hx hb dL_refuses_791 (by decide) ?_
    refine lv_goto (tgt := 796) hx hb dL_refuses_792 (by decide) ?_
    refine lv_istore (lv' := [(19, .int 1), (0, .ref o0), (1, .int (nI n)), (2, .int (nI k)), (3, .int (bwE (KE g n k) k)), (4, .int (plL g n)), (5, .int (-900000001)), (6, .int (-900000002)), (7, .int 2147483647), (8, .int 2), (9, .int 2147483647), (10, .int 2147483647), (11, .int 2147483647), (12, .int 2147483647), (13, .int 2147483647), (14, .int 2147483647), (15, .int 2147483647), (16, .int 2147483647), (17, .int 2147483647), (18, .int 2147483647)]) hx hb dL_refuses_796 hl (by decide) rfl (fun ls hl => ?_)
    refine lv_iload hx hb dL_refuses_798 (lv_at hl 0 rfl) ?_
    refine lv_if_ne (tgt := 805) hx hb dL_refuses_800 (by decide) (fun _ => ?_) (fun h => absurd h (by decide +kernel))
    refine lv_iinc (v := 3) (lv' := [(8, .int 3), (19, .int 1), (0, .ref o0), (1, .int (nI n)), (2, .int (nI k)), (3, .int (bwE (KE g n k) k)), (4, .int (plL g n)), (5, .int (-900000001)), (6, .int (-900000002)), (7, .int 2147483647), (9, .int 2147483647), (10, .int 2147483647), (11, .int 2147483647), (12, .int 2147483647), (13, .int 2147483647), (14, .int 2147483647), (15, .int 2147483647), (16, .int 2147483647), (17, .int 2147483647), (18, .int 2147483647)]) hx hb dL_refuses_805 hl (k := 9) rfl (by decide +kernel) (by decide) rfl (fun ls hl => ?_)
    refine lv_goto (tgt := 36) hx hb dL_refuses_808 (by decide) ?_
    exact kk H locs ls hJ (lv_sub hl [2, 3, 4, 5, 6, 7, 8, 9, 0] rfl)
set_option maxHeartbeats 4000000 in
set_option maxRecDepth 100000 in
theorem rf_3_0 (C : CJ p l R s m args c cL_refuses 20 wsL_refuses D cI cL cE cP A H0) (hRR : 30 ≤ R.frames ∧ 2000 ≤ R.locals) (hR : 140 ≤ R.cells ∧ 900 ≤ R.slots) (hJ : LJ D cI cL cE cP A H0 o0 g n k H locs) (hl : lv_has ls 20 [(0, .ref o0), (1, .int (nI n)), (2, .int (nI k)), (3, .int (bwE (KE g n k) k)), (4, .int (plL g n)), (5, .int (-900000001)), (6, .int (-900000002)), (7, .int 2147483647), (8, .int 3)])
    (kk : ∀ (H : Heap) (locs : List Loc) (ls : Array Slot), LJ D cI cL cE cP A H0 o0 g n k H locs → lv_has ls 20 [(0, .ref o0), (1, .int (nI n)), (2, .int (nI k)), (3, .int (bwE (KE g n k) k)), (4, .int (plL g n)), (5, .int (-900000001)), (6, .int (-900000002)), (7, .int 2147483647), (8, .int 3), (9, .int (-2147483648)), (10, .int (-2147483648)), (11, .int (-2147483648)), (12, .int (-2147483648)), (13, .int (-2147483648)), (14, .int (-2147483648)), (15, .int (-2147483648)), (16, .int (-2147483648)), (17, .int (-2147483648)), (18, .int (-2147483648))] → W p l e R s m args below meth c H locs 102 648 Q (F0 m 209 ls [])) : W p l e R s m args below meth c H locs 102 648 Q (F0 m 36 ls []) := by
  obtain ⟨hx, hb, hml, hown, hts, -⟩ := id C
  have hn := hJ.1.n; have hk8 : k ≤ 8 := Nat.le_trans hJ.1.k (by decide)
  refine lv_iload hx hb dL_refuses_36 (lv_at hl 8 rfl) ?_
  refine lv_iconst (v := 4) hx hb dL_refuses_38 (by decide) ?_
  refine lv_icmp_ge (tgt := 811) hx hb dL_refuses_39 (by decide) (fun h => absurd h (by decide +kernel)) (fun _ => ?_)
  refine lv_iload hx hb dL_refuses_42 (lv_at hl 8 rfl) ?_
  refine lv_if_ne (tgt := 51) hx hb dL_refuses_44 (by decide) (fun _ => ?_) (fun h => absurd h (by decide +kernel))
  refine lv_iload hx hb dL_refuses_51 (lv_at hl 8 rfl) ?_
  refine lv_iconst (v := 2) hx hb dL_refuses_53 (by decide) ?_
  refine lv_icmp_ne (tgt := 62) hx hb dL_refuses_54 (by decide) (fun _ => ?_) (fun h => absurd h (by decide +kernel))
  refine lv_iload hx hb dL_refuses_62 (lv_at hl 7 rfl) ?_
  refine lv_ineg hx hb dL_refuses_64 ?_
  rw [show (-(2147483647) : Int32) = (-2147483647) from by decide +kernel]
  refine lv_iconst (v := 1) hx hb dL_refuses_65 (by decide) ?_
  refine lv_isub hx hb dL_refuses_66 ?_
  rw [show ((-2147483647) - (1) : Int32) = (-2147483648) from by decide +kernel]
  refine lv_istore (lv' := [(9, .int (-2147483648)), (0, .ref o0), (1, .int (nI n)), (2, .int (nI k)), (3, .int (bwE (KE g n k) k)), (4, .int (plL g n)), (5, .int (-900000001)), (6, .int (-900000002)), (7, .int 2147483647), (8, .int 3)]) hx hb dL_refuses_67 hl (by decide) rfl (fun ls hl => ?_)
  refine lv_iload hx hb dL_refuses_69 (lv_at hl 9 rfl) ?_
  refine lv_iconst (v := 1) hx hb dL_refuses_71 (by decide) ?_
  refine lv_icmp_ne (tgt := 79) hx hb dL_refuses_72 (by decide) (fun _ => ?_) (fun h => absurd h (by decide +kernel))
  refine lv_iload hx hb dL_refuses_79 (lv_at hl 0 rfl) ?_
  refine lv_istore (lv' := [(10, .int (-2147483648)), (9, .int (-2147483648)), (0, .ref o0), (1, .int (nI n)), (2, .int (nI k)), (3, .int (bwE (KE g n k) k)), (4, .int (plL g n)), (5, .int (-900000001)), (6, .int (-900000002)), (7, .int 2147483647), (8, .int 3)]) hx hb dL_refuses_81 hl (by decide) rfl (fun ls hl => ?_)
  refine lv_iload hx hb dL_refuses_83 (lv_at hl 10 rfl) ?_
  refine lv_iconst (v := 1) hx hb dL_refuses_85 (by decide) ?_
  refine lv_icmp_ne (tgt := 94) hx hb dL_refuses_86 (by decide) (fun _ => ?_) (fun h => absurd h (by decide +kernel))
  refine lv_iload hx hb dL_refuses_94 (lv_at hl 1 rfl) ?_
  refine lv_istore (lv' := [(11, .int (-2147483648)), (10, .int (-2147483648)), (9, .int (-2147483648)), (0, .ref o0), (1, .int (nI n)), (2, .int (nI k)), (3, .int (bwE (KE g n k) k)), (4, .int (plL g n)), (5, .int (-900000001)), (6, .int (-900000002)), (7, .int 2147483647), (8, .int 3)]) hx hb dL_refuses_96 hl (by decide) rfl (fun ls hl => ?_)
  refine lv_iload hx hb dL_refuses_98 (lv_at hl 11 rfl) ?_
  refine lv_iconst (v := 1) hx hb dL_refuses_100 (by decide) ?_
  refine lv_icmp_ne (tgt := 109) hx hb dL_refuses_101 (by decide) (fun _ => ?_) (fun h => absurd h (by decide +kernel))
  refine lv_iload hx hb dL_refuses_109 (lv_at hl 2 rfl) ?_
  refine lv_istore (lv' := [(12, .int (-2147483648)), (11, .int (-2147483648)), (10, .int (-2147483648)), (9, .int (-2147483648)), (0, .ref o0), (1, .int (nI n)), (2, .int (nI k)), (3, .int (bwE (KE g n k) k)), (4, .int (plL g n)), (5, .int (-900000001)), (6, .int (-900000002)), (7, .int 2147483647), (8, .int 3)]) hx hb dL_refuses_111 hl (by decide) rfl (fun ls hl => ?_)
  refine lv_iload hx hb dL_refuses_113 (lv_at hl 12 rfl) ?_
  refine lv_if_ne (tgt := 122) hx hb dL_refuses_115 (by decide) (fun _ => ?_) (fun h => absurd h (by decide +kernel))
  refine lv_iload hx hb dL_refuses_122 (lv_at hl 12 rfl) ?_
  refine lv_iconst (v := 1) hx hb dL_refuses_124 (by decide) ?_
  refine lv_icmp_ne (tgt := 134) hx hb dL_refuses_125 (by decide) (fun _ => ?_) (fun h => absurd h (by decide +kernel))
  refine lv_iload hx hb dL_refuses_134 (lv_at hl 3 rfl) ?_
  refine lv_istore (lv' := [(13, .int (-2147483648)), (12, .int (-2147483648)), (11, .int (-2147483648)), (10, .int (-2147483648)), (9, .int (-2147483648)), (0, .ref o0), (1, .int (nI n)), (2, .int (nI k)), (3, .int (bwE (KE g n k) k)), (4, .int (plL g n)), (5, .int (-900000001)), (6, .int (-900000002)), (7, .int 2147483647), (8, .int 3)]) hx hb dL_refuses_136 hl (by decide) rfl (fun ls hl => ?_)
  refine lv_iload hx hb dL_refuses_138 (lv_at hl 13 rfl) ?_
  refine lv_iconst (v := 1) hx hb dL_refuses_140 (by decide) ?_
  refine lv_icmp_ne (tgt := 148) hx hb dL_refuses_141 (by decide) (fun _ => ?_) (fun h => absurd h (by decide +kernel))
  refine lv_iload hx hb dL_refuses_148 (lv_at hl 4 rfl) ?_
  refine lv_istore (lv' := [(14, .int (-2147483648)), (13, .int (-2147483648)), (12, .int (-2147483648)), (11, .int (-2147483648)), (10, .int (-2147483648)), (9, .int (-2147483648)), (0, .ref o0), (1, .int (nI n)), (2, .int (nI k)), (3, .int (bwE (KE g n k) k)), (4, .int (plL g n)), (5, .int (-900000001)), (6, .int (-900000002)), (7, .int 2147483647), (8, .int 3)]) hx hb dL_refuses_150 hl (by decide) rfl (fun ls hl => ?_)
  refine lv_iload hx hb dL_refuses_152 (lv_at hl 14 rfl) ?_
  refine lv_if_ne (tgt := 161) hx hb dL_refuses_154 (by decide) (fun _ => ?_) (fun h => absurd h (by decide +kernel))
  refine lv_iload hx hb dL_refuses_161 (lv_at hl 2 rfl) ?_
  refine lv_istore (lv' := [(15, .int (-2147483648)), (14, .int (-2147483648)), (13, .int (-2147483648)), (12, .int (-2147483648)), (11, .int (-2147483648)), (10, .int (-2147483648)), (9, .int (-2147483648)), (0, .ref o0), (1, .int (nI n)), (2, .int (nI k)), (3, .int (bwE (KE g n k) k)), (4, .int (plL g n)), (5, .int (-900000001)), (6, .int (-900000002)), (7, .int 2147483647), (8, .int 3)]) hx hb dL_refuses_163 hl (by decide) rfl (fun ls hl => ?_)
  refine lv_iload hx hb dL_refuses_165 (lv_at hl 15 rfl) ?_
  refine lv_iconst (v := 1) hx hb dL_refuses_167 (by decide) ?_
  refine lv_icmp_ne (tgt := 177) hx hb dL_refuses_168 (by decide) (fun _ => ?_) (fun h => absurd h (by decide +kernel))
  refine lv_iload hx hb dL_refuses_177 (lv_at hl 6 rfl) ?_
  refine lv_istore (lv' := [(16, .int (-2147483648)), (15, .int (-2147483648)), (14, .int (-2147483648)), (13, .int (-2147483648)), (12, .int (-2147483648)), (11, .int (-2147483648)), (10, .int (-2147483648)), (9, .int (-2147483648)), (0, .ref o0), (1, .int (nI n)), (2, .int (nI k)), (3, .int (bwE (KE g n k) k)), (4, .int (plL g n)), (5, .int (-900000001)), (6, .int (-900000002)), (7, .int 2147483647), (8, .int 3)]) hx hb dL_refuses_179 hl (by decide) rfl (fun ls hl => ?_)
  refine lv_iload hx hb dL_refuses_181 (lv_at hl 16 rfl) ?_
  refine lv_iconst (v := 1) hx hb dL_refuses_183 (by decide) ?_
  refine lv_icmp_ne (tgt := 191) hx hb dL_refuses_184 (by decide) (fun _ => ?_) (fun h => absurd h (by decide +kernel))
  refine lv_iload hx hb dL_refuses_191 (lv_at hl 7 rfl) ?_
  refine lv_istore (lv' := [(17, .int (-2147483648)), (16, .int (-2147483648)), (15, .int (-2147483648)), (14, .int (-2147483648)), (13, .int (-2147483648)), (12, .int (-2147483648)), (11, .int (-2147483648)), (10, .int (-2147483648)), (9, .int (-2147483648)), (0, .ref o0), (1, .int (nI n)), (2, .int (nI k)), (3, .int (bwE (KE g n k) k)), (4, .int (plL g n)), (5, .int (-900000001)), (6, .int (-900000002)), (7, .int 2147483647), (8, .int 3)]) hx hb dL_refuses_193 hl (by decide) rfl (fun ls hl => ?_)
  refine lv_iload hx hb dL_refuses_195 (lv_at hl 17 rfl) ?_
  refine lv_iconst (v := 1) hx hb dL_refuses_197 (by decide) ?_
  refine lv_icmp_ne (tgt := 205) hx hb dL_refuses_198 (by decide) (fun _ => ?_) (fun h => absurd h (by decide +kernel))
  refine lv_iload hx hb dL_refuses_205 (lv_at hl 8 rfl) ?_
  refine lv_istore (lv' := [(18, .int (-2147483648)), (17, .int (-2147483648)), (16, .int (-2147483648)), (15, .int (-2147483648)), (14, .int (-2147483648)), (13, .int (-2147483648)), (12, .int (-2147483648)), (11, .int (-2147483648)), (10, .int (-2147483648)), (9, .int (-2147483648)), (0, .ref o0), (1, .int (nI n)), (2, .int (nI k)), (3, .int (bwE (KE g n k) k)), (4, .int (plL g n)), (5, .int (-900000001)), (6, .int (-900000002)), (7, .int 2147483647), (8, .int 3)]) hx hb dL_refuses_207 hl (by decide) rfl (fun ls hl => ?_)
  exact kk H locs ls hJ (lv_sub hl [10, 11, 12, 13, 14, 15, 16, 17, 18, 9, 8, 7, 6, 5, 4, 3, 2, 1, 0] rfl)
set_option maxHeartbeats 4000000 in
set_option maxRecDepth 100000 in
theorem rf_3_1 (C : CJ p l R s m args c cL_refuses 20 wsL_refuses D cI cL cE cP A H0) (hRR : 30 ≤ R.frames ∧ 2000 ≤ R.locals) (hR : 140 ≤ R.cells ∧ 900 ≤ R.slots) (hJ : LJ D cI cL cE cP A H0 o0 g n k H locs) (hl : lv_has ls 20 [(0, .ref o0), (1, .int (nI n)), (2, .int (nI k)), (3, .int (bwE (KE g n k) k)), (4, .int (plL g n)), (5, .int (-900000001)), (6, .int (-900000002)), (7, .int 2147483647), (8, .int 3), (9, .int (-2147483648)), (10, .int (-2147483648)), (11, .int (-2147483648)), (12, .int (-2147483648)), (13, .int (-2147483648)), (14, .int (-2147483648)), (15, .int (-2147483648)), (16, .int (-2147483648)), (17, .int (-2147483648)), (18, .int (-2147483648))])
    (kk : ∀ (H : Heap) (locs : List Loc) (ls : Array Slot), LJ D cI cL cE cP A H0 o0 g n k H locs → lv_has ls 20 [(0, .ref o0), (1, .int (nI n)), (2, .int (nI k)), (3, .int (bwE (KE g n k) k)), (4, .int (plL g n)), (5, .int (-900000001)), (6, .int (-900000002)), (7, .int 2147483647), (8, .int 3), (9, .int (-2147483648)), (10, .int (-2147483648)), (11, .int (-2147483648)), (12, .int (-2147483648)), (13, .int (-2147483648)), (14, .int (-2147483648)), (15, .int (-2147483648)), (16, .int (-2147483648)), (17, .int (-2147483648)), (18, .int (-2147483648))] → W p l e R s m args below meth c H locs 107 678 Q (F0 m 314 ls [])) : W p l e R s m args below meth c H locs 102 648 Q (F0 m 209 ls []) := by
  obtain ⟨hx, hb, hml, hown, hts, -⟩ := id C
  have hn := hJ.1.n; have hk8 : k ≤ 8 := Nat.le_trans hJ.1.k (by decide)
  refine lv_aload_n hx hb dL_refuses_209 rfl (lv_at hl 0 rfl) ?_
  refine lv_iconst (v := 0) hx hb dL_refuses_210 (by decide) ?_
  refine lv_iload hx hb dL_refuses_211 (lv_at hl 10 rfl) ?_
  refine lv_iconst (v := (-1)) hx hb dL_refuses_213 (by decide) ?_
  refine lv_iconst (v := (-1)) hx hb dL_refuses_214 (by decide) ?_
  refine sl_act_0_1 C gL_refuses_L_act dL_refuses_215 hl.1 (Nat.le_of_ble_eq_true rfl) ⟨Nat.le_trans (m := 140) (Nat.le_of_ble_eq_true rfl) hR.1, Nat.le_trans (m := 900) (Nat.le_of_ble_eq_true rfl) hR.2⟩ hRR hJ (-2147483648) (-1) (-1) (by decide +kernel) (fun H locs hJ => ?_)
  refine lv_iload hx hb dL_refuses_218 (lv_at hl 5 rfl) ?_
  refine lv_icmp_ne (tgt := 414) hx hb dL_refuses_220 (by decide) (fun h => absurd h (by decide +kernel)) (fun _ => ?_)
  refine lv_aload_n hx hb dL_refuses_223 rfl (lv_at hl 0 rfl) ?_
  refine lv_iconst (v := 0) hx hb dL_refuses_224 (by decide) ?_
  refine lv_iconst (v := 0) hx hb dL_refuses_225 (by decide) ?_
  refine lv_iload hx hb dL_refuses_226 (lv_at hl 8 rfl) ?_
  refine lv_iconst (v := 1) hx hb dL_refuses_228 (by decide) ?_
  refine lv_icmp_ne (tgt := 238) hx hb dL_refuses_229 (by decide) (fun _ => ?_) (fun h => absurd h (by decide +kernel))
  refine lv_iload hx hb dL_refuses_238 (lv_at hl 9 rfl) ?_
  refine lv_iconst (v := 0) hx hb dL_refuses_240 (by decide) ?_
  refine sl_act_0_2 C gL_refuses_L_act dL_refuses_241 hl.1 (Nat.le_of_ble_eq_true rfl) ⟨Nat.le_trans (m := 140) (Nat.le_of_ble_eq_true rfl) hR.1, Nat.le_trans (m := 900) (Nat.le_of_ble_eq_true rfl) hR.2⟩ hRR hJ 0 (-2147483648) 0 (by decide +kernel) (fun H locs hJ => ?_)
  refine lv_iload hx hb dL_refuses_244 (lv_at hl 6 rfl) ?_
  refine lv_icmp_ne (tgt := 414) hx hb dL_refuses_246 (by decide) (fun h => absurd h (by decide +kernel)) (fun _ => ?_)
  refine lv_aload_n hx hb dL_refuses_249 rfl (lv_at hl 0 rfl) ?_
  refine lv_iconst (v := 0) hx hb dL_refuses_250 (by decide) ?_
  refine lv_iconst (v := 0) hx hb dL_refuses_251 (by decide) ?_
  refine lv_iconst (v := 0) hx hb dL_refuses_252 (by decide) ?_
  refine lv_iload hx hb dL_refuses_253 (lv_at hl 8 rfl) ?_
  refine lv_iconst (v := 1) hx hb dL_refuses_255 (by decide) ?_
  refine lv_icmp_ne (tgt := 265) hx hb dL_refuses_256 (by decide) (fun _ => ?_) (fun h => absurd h (by decide +kernel))
  refine lv_iload hx hb dL_refuses_265 (lv_at hl 9 rfl) ?_
  refine sl_act_0_2 C gL_refuses_L_act dL_refuses_267 hl.1 (Nat.le_of_ble_eq_true rfl) ⟨Nat.le_trans (m := 140) (Nat.le_of_ble_eq_true rfl) hR.1, Nat.le_trans (m := 900) (Nat.le_of_ble_eq_true rfl) hR.2⟩ hRR hJ 0 0 (-2147483648) (by decide +kernel) (fun H locs hJ => ?_)
  refine lv_iload hx hb dL_refuses_270 (lv_at hl 6 rfl) ?_
  refine lv_icmp_ne (tgt := 414) hx hb dL_refuses_272 (by decide) (fun h => absurd h (by decide +kernel)) (fun _ => ?_)
  refine lv_aload_n hx hb dL_refuses_275 rfl (lv_at hl 0 rfl) ?_
  refine lv_iconst (v := 1) hx hb dL_refuses_276 (by decide) ?_
  refine lv_iload hx hb dL_refuses_277 (lv_at hl 11 rfl) ?_
  refine lv_iconst (v := 0) hx hb dL_refuses_279 (by decide) ?_
  refine lv_iconst (v := 0) hx hb dL_refuses_280 (by decide) ?_
  refine sl_act_1_1 C gL_refuses_L_act dL_refuses_281 hl.1 (Nat.le_of_ble_eq_true rfl) ⟨Nat.le_trans (m := 140) (Nat.le_of_ble_eq_true rfl) hR.1, Nat.le_trans (m := 900) (Nat.le_of_ble_eq_true rfl) hR.2⟩ hRR hJ (-2147483648) 0 0 (by decide +kernel) (fun H locs hJ => ?_)
  refine lv_iload hx hb dL_refuses_284 (lv_at hl 6 rfl) ?_
  refine lv_icmp_ne (tgt := 414) hx hb dL_refuses_286 (by decide) (fun h => absurd h (by decide +kernel)) (fun _ => ?_)
  refine lv_aload_n hx hb dL_refuses_289 rfl (lv_at hl 0 rfl) ?_
  refine lv_iconst (v := 2) hx hb dL_refuses_290 (by decide) ?_
  refine lv_iload hx hb dL_refuses_291 (lv_at hl 8 rfl) ?_
  refine lv_iconst (v := 1) hx hb dL_refuses_293 (by decide) ?_
  refine lv_icmp_ne (tgt := 302) hx hb dL_refuses_294 (by decide) (fun _ => ?_) (fun h => absurd h (by decide +kernel))
  refine lv_iload hx hb dL_refuses_302 (lv_at hl 9 rfl) ?_
  refine lv_iconst (v := 0) hx hb dL_refuses_304 (by decide) ?_
  refine lv_iconst (v := 0) hx hb dL_refuses_305 (by decide) ?_
  refine sl_act_2_1 C gL_refuses_L_act dL_refuses_306 hl.1 (Nat.le_of_ble_eq_true rfl) ⟨Nat.le_trans (m := 140) (Nat.le_of_ble_eq_true rfl) hR.1, Nat.le_trans (m := 900) (Nat.le_of_ble_eq_true rfl) hR.2⟩ hRR hJ (-2147483648) 0 0 (by decide +kernel) (fun H locs hJ => ?_)
  refine lv_iload hx hb dL_refuses_309 (lv_at hl 6 rfl) ?_
  refine lv_icmp_ne (tgt := 414) hx hb dL_refuses_311 (by decide) (fun h => absurd h (by decide +kernel)) (fun _ => ?_)
  exact kk H locs ls hJ (lv_sub hl [0, 1, 2, 3, 4, 5, 6, 7, 8, 9, 10, 11, 12, 13, 14, 15, 16, 17, 18] rfl)
set_option maxHeartbeats 4000000 in
set_option maxRecDepth 100000 in
theorem rf_3_2 (C : CJ p l R s m args c cL_refuses 20 wsL_refuses D cI cL cE cP A H0) (hRR : 30 ≤ R.frames ∧ 2000 ≤ R.locals) (hR : 140 ≤ R.cells ∧ 900 ≤ R.slots) (hJ : LJ D cI cL cE cP A H0 o0 g n k H locs) (hl : lv_has ls 20 [(0, .ref o0), (1, .int (nI n)), (2, .int (nI k)), (3, .int (bwE (KE g n k) k)), (4, .int (plL g n)), (5, .int (-900000001)), (6, .int (-900000002)), (7, .int 2147483647), (8, .int 3), (9, .int (-2147483648)), (10, .int (-2147483648)), (11, .int (-2147483648)), (12, .int (-2147483648)), (13, .int (-2147483648)), (14, .int (-2147483648)), (15, .int (-2147483648)), (16, .int (-2147483648)), (17, .int (-2147483648)), (18, .int (-2147483648))])
    (kk : ∀ (H : Heap) (locs : List Loc) (ls : Array Slot), LJ D cI cL cE cP A H0 o0 g n k H locs → lv_has ls 20 [(0, .ref o0), (1, .int (nI n)), (2, .int (nI k)), (3, .int (bwE (KE g n k) k)), (4, .int (plL g n)), (5, .int (-900000001)), (6, .int (-900000002)), (7, .int 2147483647), (8, .int 3), (9, .int (-2147483648)), (10, .int (-2147483648)), (11, .int (-2147483648)), (12, .int (-2147483648)), (13, .int (-2147483648)), (14, .int (-2147483648)), (15, .int (-2147483648)), (16, .int (-2147483648)), (17, .int (-2147483648)), (18, .int (-2147483648)), (19, .int 1)] → W p l e R s m args below meth c H locs 113 726 Q (F0 m 417 ls [])) : W p l e R s m args below meth c H locs 107 678 Q (F0 m 314 ls []) := by
  obtain ⟨hx, hb, hml, hown, hts, -⟩ := id C
  have hn := hJ.1.n; have hk8 : k ≤ 8 := Nat.le_trans hJ.1.k (by decide)
  refine lv_aload_n hx hb dL_refuses_314 rfl (lv_at hl 0 rfl) ?_
  refine lv_iload hx hb dL_refuses_315 (lv_at hl 10 rfl) ?_
  refine lv_iconst (v := 0) hx hb dL_refuses_317 (by decide) ?_
  refine lv_iconst (v := (-1)) hx hb dL_refuses_318 (by decide) ?_
  refine lv_iconst (v := 0) hx hb dL_refuses_319 (by decide) ?_
  refine lv_iconst (v := 0) hx hb dL_refuses_320 (by decide) ?_
  refine lv_iconst (v := 0) hx hb dL_refuses_321 (by decide) ?_
  refine sl_expose_1 C gL_refuses_L_expose dL_refuses_322 hl.1 (Nat.le_of_ble_eq_true rfl) ⟨Nat.le_trans (m := 140) (Nat.le_of_ble_eq_true rfl) hR.1, Nat.le_trans (m := 900) (Nat.le_of_ble_eq_true rfl) hR.2⟩ hRR hJ (-2147483648) 0 (-1) 0 0 0 (by unfold T_addExposure; rw [if_pos (by decide +kernel)]) (fun H locs hJ => ?_)
  refine lv_iload hx hb dL_refuses_325 (lv_at hl 5 rfl) ?_
  refine lv_icmp_ne (tgt := 414) hx hb dL_refuses_327 (by decide) (fun h => absurd h (by decide +kernel)) (fun _ => ?_)
  refine lv_aload_n hx hb dL_refuses_330 rfl (lv_at hl 0 rfl) ?_
  refine lv_iconst (v := 0) hx hb dL_refuses_331 (by decide) ?_
  refine lv_iload hx hb dL_refuses_332 (lv_at hl 10 rfl) ?_
  refine lv_iconst (v := (-1)) hx hb dL_refuses_334 (by decide) ?_
  refine lv_iconst (v := 0) hx hb dL_refuses_335 (by decide) ?_
  refine lv_iconst (v := 0) hx hb dL_refuses_336 (by decide) ?_
  refine lv_iconst (v := 0) hx hb dL_refuses_337 (by decide) ?_
  refine sl_expose_1 C gL_refuses_L_expose dL_refuses_338 hl.1 (Nat.le_of_ble_eq_true rfl) ⟨Nat.le_trans (m := 140) (Nat.le_of_ble_eq_true rfl) hR.1, Nat.le_trans (m := 900) (Nat.le_of_ble_eq_true rfl) hR.2⟩ hRR hJ 0 (-2147483648) (-1) 0 0 0 (by unfold T_addExposure; rw [if_pos (by decide +kernel)]) (fun H locs hJ => ?_)
  refine lv_iload hx hb dL_refuses_341 (lv_at hl 5 rfl) ?_
  refine lv_icmp_ne (tgt := 414) hx hb dL_refuses_343 (by decide) (fun h => absurd h (by decide +kernel)) (fun _ => ?_)
  refine lv_aload_n hx hb dL_refuses_346 rfl (lv_at hl 0 rfl) ?_
  refine lv_iconst (v := 0) hx hb dL_refuses_347 (by decide) ?_
  refine lv_iconst (v := 0) hx hb dL_refuses_348 (by decide) ?_
  refine lv_iload hx hb dL_refuses_349 (lv_at hl 12 rfl) ?_
  refine lv_iconst (v := 0) hx hb dL_refuses_351 (by decide) ?_
  refine lv_iconst (v := 0) hx hb dL_refuses_352 (by decide) ?_
  refine lv_iconst (v := 1) hx hb dL_refuses_353 (by decide) ?_
  refine sl_expose_2 C gL_refuses_L_expose dL_refuses_354 hl.1 (Nat.le_of_ble_eq_true rfl) ⟨Nat.le_trans (m := 140) (Nat.le_of_ble_eq_true rfl) hR.1, Nat.le_trans (m := 900) (Nat.le_of_ble_eq_true rfl) hR.2⟩ hRR hJ 0 0 (-2147483648) 0 0 1 (by unfold T_addExposure; rw [if_neg (by decide +kernel), if_pos (by decide +kernel)]) (fun H locs hJ => ?_)
  refine lv_iload hx hb dL_refuses_357 (lv_at hl 6 rfl) ?_
  refine lv_icmp_ne (tgt := 414) hx hb dL_refuses_359 (by decide) (fun h => absurd h (by decide +kernel)) (fun _ => ?_)
  refine lv_aload_n hx hb dL_refuses_362 rfl (lv_at hl 0 rfl) ?_
  refine lv_iconst (v := 0) hx hb dL_refuses_363 (by decide) ?_
  refine lv_iconst (v := 0) hx hb dL_refuses_364 (by decide) ?_
  refine lv_iconst (v := 0) hx hb dL_refuses_365 (by decide) ?_
  refine lv_iload hx hb dL_refuses_366 (lv_at hl 12 rfl) ?_
  refine lv_iconst (v := 0) hx hb dL_refuses_368 (by decide) ?_
  refine lv_iconst (v := 1) hx hb dL_refuses_369 (by decide) ?_
  refine sl_expose_2 C gL_refuses_L_expose dL_refuses_370 hl.1 (Nat.le_of_ble_eq_true rfl) ⟨Nat.le_trans (m := 140) (Nat.le_of_ble_eq_true rfl) hR.1, Nat.le_trans (m := 900) (Nat.le_of_ble_eq_true rfl) hR.2⟩ hRR hJ 0 0 0 (-2147483648) 0 1 (by unfold T_addExposure; rw [if_neg (by decide +kernel), if_pos (by decide +kernel)]) (fun H locs hJ => ?_)
  refine lv_iload hx hb dL_refuses_373 (lv_at hl 6 rfl) ?_
  refine lv_icmp_ne (tgt := 414) hx hb dL_refuses_375 (by decide) (fun h => absurd h (by decide +kernel)) (fun _ => ?_)
  refine lv_aload_n hx hb dL_refuses_378 rfl (lv_at hl 0 rfl) ?_
  refine lv_iconst (v := 0) hx hb dL_refuses_379 (by decide) ?_
  refine lv_iconst (v := 0) hx hb dL_refuses_380 (by decide) ?_
  refine lv_iconst (v := 0) hx hb dL_refuses_381 (by decide) ?_
  refine lv_iconst (v := 0) hx hb dL_refuses_382 (by decide) ?_
  refine lv_iload hx hb dL_refuses_383 (lv_at hl 14 rfl) ?_
  refine lv_iconst (v := 1) hx hb dL_refuses_385 (by decide) ?_
  refine sl_expose_2 C gL_refuses_L_expose dL_refuses_386 hl.1 (Nat.le_of_ble_eq_true rfl) ⟨Nat.le_trans (m := 140) (Nat.le_of_ble_eq_true rfl) hR.1, Nat.le_trans (m := 900) (Nat.le_of_ble_eq_true rfl) hR.2⟩ hRR hJ 0 0 0 0 (-2147483648) 1 (by unfold T_addExposure; rw [if_neg (by decide +kernel), if_pos (by decide +kernel)]) (fun H locs hJ => ?_)
  refine lv_iload hx hb dL_refuses_389 (lv_at hl 6 rfl) ?_
  refine lv_icmp_ne (tgt := 414) hx hb dL_refuses_391 (by decide) (fun h => absurd h (by decide +kernel)) (fun _ => ?_)
  refine lv_aload_n hx hb dL_refuses_394 rfl (lv_at hl 0 rfl) ?_
  refine lv_iconst (v := 0) hx hb dL_refuses_395 (by decide) ?_
  refine lv_iconst (v := 0) hx hb dL_refuses_396 (by decide) ?_
  refine lv_iconst (v := 0) hx hb dL_refuses_397 (by decide) ?_
  refine lv_iconst (v := 0) hx hb dL_refuses_398 (by decide) ?_
  refine lv_iconst (v := 0) hx hb dL_refuses_399 (by decide) ?_
  refine lv_iload hx hb dL_refuses_400 (lv_at hl 13 rfl) ?_
  refine sl_expose_2 C gL_refuses_L_expose dL_refuses_402 hl.1 (Nat.le_of_ble_eq_true rfl) ⟨Nat.le_trans (m := 140) (Nat.le_of_ble_eq_true rfl) hR.1, Nat.le_trans (m := 900) (Nat.le_of_ble_eq_true rfl) hR.2⟩ hRR hJ 0 0 0 0 0 (-2147483648) (by unfold T_addExposure; rw [if_neg (by decide +kernel), if_pos (by decide +kernel)]) (fun H locs hJ => ?_)
  refine lv_iload hx hb dL_refuses_405 (lv_at hl 6 rfl) ?_
  refine lv_icmp_ne (tgt := 414) hx hb dL_refuses_407 (by decide) (fun h => absurd h (by decide +kernel)) (fun _ => ?_)
  refine lv_iconst (v := 1) hx hb dL_refuses_410 (by decide) ?_
  refine lv_goto (tgt := 415) hx hb dL_refuses_411 (by decide) ?_
  refine lv_istore (lv' := [(19, .int 1), (0, .ref o0), (1, .int (nI n)), (2, .int (nI k)), (3, .int (bwE (KE g n k) k)), (4, .int (plL g n)), (5, .int (-900000001)), (6, .int (-900000002)), (7, .int 2147483647), (8, .int 3), (9, .int (-2147483648)), (10, .int (-2147483648)), (11, .int (-2147483648)), (12, .int (-2147483648)), (13, .int (-2147483648)), (14, .int (-2147483648)), (15, .int (-2147483648)), (16, .int (-2147483648)), (17, .int (-2147483648)), (18, .int (-2147483648))]) hx hb dL_refuses_415 hl (by decide) rfl (fun ls hl => ?_)
  exact kk H locs ls hJ (lv_sub hl [1, 2, 3, 4, 5, 6, 7, 8, 9, 10, 11, 12, 13, 14, 15, 16, 17, 18, 19, 0] rfl)
set_option maxHeartbeats 4000000 in
set_option maxRecDepth 100000 in
theorem rf_3_3 (C : CJ p l R s m args c cL_refuses 20 wsL_refuses D cI cL cE cP A H0) (hRR : 30 ≤ R.frames ∧ 2000 ≤ R.locals) (hR : 140 ≤ R.cells ∧ 900 ≤ R.slots) (hJ : LJ D cI cL cE cP A H0 o0 g n k H locs) (hl : lv_has ls 20 [(0, .ref o0), (1, .int (nI n)), (2, .int (nI k)), (3, .int (bwE (KE g n k) k)), (4, .int (plL g n)), (5, .int (-900000001)), (6, .int (-900000002)), (7, .int 2147483647), (8, .int 3), (9, .int (-2147483648)), (10, .int (-2147483648)), (11, .int (-2147483648)), (12, .int (-2147483648)), (13, .int (-2147483648)), (14, .int (-2147483648)), (15, .int (-2147483648)), (16, .int (-2147483648)), (17, .int (-2147483648)), (18, .int (-2147483648)), (19, .int 1)])
    (kk : ∀ (H : Heap) (locs : List Loc) (ls : Array Slot), LJ D cI cL cE cP A H0 o0 g n k H locs → lv_has ls 20 [(0, .ref o0), (1, .int (nI n)), (2, .int (nI k)), (3, .int (bwE (KE g n k) k)), (4, .int (plL g n)), (5, .int (-900000001)), (6, .int (-900000002)), (7, .int 2147483647), (8, .int 3), (9, .int (-2147483648)), (10, .int (-2147483648)), (11, .int (-2147483648)), (12, .int (-2147483648)), (13, .int (-2147483648)), (14, .int (-2147483648)), (15, .int (-2147483648)), (16, .int (-2147483648)), (17, .int (-2147483648)), (18, .int (-2147483648)), (19, .int 1)] → W p l e R s m args below meth c H locs 118 756 Q (F0 m 497 ls [])) : W p l e R s m args below meth c H locs 113 726 Q (F0 m 417 ls []) := by
  obtain ⟨hx, hb, hml, hown, hts, -⟩ := id C
  have hn := hJ.1.n; have hk8 : k ≤ 8 := Nat.le_trans hJ.1.k (by decide)
  refine lv_iload hx hb dL_refuses_417 (lv_at hl 19 rfl) ?_
  refine lv_if_eq (tgt := 707) hx hb dL_refuses_419 (by decide) (fun h => absurd h (by decide +kernel)) (fun _ => ?_)
  refine lv_aload_n hx hb dL_refuses_422 rfl (lv_at hl 0 rfl) ?_
  refine lv_iload hx hb dL_refuses_423 (lv_at hl 15 rfl) ?_
  refine lv_iconst (v := 5) hx hb dL_refuses_425 (by decide) ?_
  refine lv_iconst (v := 0) hx hb dL_refuses_426 (by decide) ?_
  refine lv_iconst (v := 5) hx hb dL_refuses_427 (by decide) ?_
  refine lv_iconst (v := 5) hx hb dL_refuses_428 (by decide) ?_
  refine sl_piece_1 C gL_refuses_L_piece dL_refuses_429 hl.1 (Nat.le_of_ble_eq_true rfl) ⟨Nat.le_trans (m := 140) (Nat.le_of_ble_eq_true rfl) hR.1, Nat.le_trans (m := 900) (Nat.le_of_ble_eq_true rfl) hR.2⟩ hRR hJ (-2147483648) 5 0 5 5 (by unfold T_addPiece; rw [if_pos (by decide +kernel)]) (fun H locs hJ => ?_)
  refine lv_iload hx hb dL_refuses_432 (lv_at hl 6 rfl) ?_
  refine lv_icmp_ne (tgt := 707) hx hb dL_refuses_434 (by decide) (fun h => absurd h (by decide +kernel)) (fun _ => ?_)
  refine lv_aload_n hx hb dL_refuses_437 rfl (lv_at hl 0 rfl) ?_
  refine lv_iconst (v := 5) hx hb dL_refuses_438 (by decide) ?_
  refine lv_iload hx hb dL_refuses_439 (lv_at hl 11 rfl) ?_
  refine lv_iconst (v := 0) hx hb dL_refuses_441 (by decide) ?_
  refine lv_iconst (v := 5) hx hb dL_refuses_442 (by decide) ?_
  refine lv_iconst (v := 5) hx hb dL_refuses_443 (by decide) ?_
  refine sl_piece_1 C gL_refuses_L_piece dL_refuses_444 hl.1 (Nat.le_of_ble_eq_true rfl) ⟨Nat.le_trans (m := 140) (Nat.le_of_ble_eq_true rfl) hR.1, Nat.le_trans (m := 900) (Nat.le_of_ble_eq_true rfl) hR.2⟩ hRR hJ 5 (-2147483648) 0 5 5 (by unfold T_addPiece; rw [if_pos (by decide +kernel)]) (fun H locs hJ => ?_)
  refine lv_iload hx hb dL_refuses_447 (lv_at hl 6 rfl) ?_
  refine lv_icmp_ne (tgt := 707) hx hb dL_refuses_449 (by decide) (fun h => absurd h (by decide +kernel)) (fun _ => ?_)
  refine lv_aload_n hx hb dL_refuses_452 rfl (lv_at hl 0 rfl) ?_
  refine lv_iconst (v := 5) hx hb dL_refuses_453 (by decide) ?_
  refine lv_iconst (v := 5) hx hb dL_refuses_454 (by decide) ?_
  refine lv_iload hx hb dL_refuses_455 (lv_at hl 14 rfl) ?_
  refine lv_iconst (v := 5) hx hb dL_refuses_457 (by decide) ?_
  refine lv_iconst (v := 5) hx hb dL_refuses_458 (by decide) ?_
  refine sl_piece_1 C gL_refuses_L_piece dL_refuses_459 hl.1 (Nat.le_of_ble_eq_true rfl) ⟨Nat.le_trans (m := 140) (Nat.le_of_ble_eq_true rfl) hR.1, Nat.le_trans (m := 900) (Nat.le_of_ble_eq_true rfl) hR.2⟩ hRR hJ 5 5 (-2147483648) 5 5 (by unfold T_addPiece; rw [if_pos (by decide +kernel)]) (fun H locs hJ => ?_)
  refine lv_iload hx hb dL_refuses_462 (lv_at hl 6 rfl) ?_
  refine lv_icmp_ne (tgt := 707) hx hb dL_refuses_464 (by decide) (fun h => absurd h (by decide +kernel)) (fun _ => ?_)
  refine lv_aload_n hx hb dL_refuses_467 rfl (lv_at hl 0 rfl) ?_
  refine lv_iconst (v := 5) hx hb dL_refuses_468 (by decide) ?_
  refine lv_iconst (v := 5) hx hb dL_refuses_469 (by decide) ?_
  refine lv_iconst (v := 0) hx hb dL_refuses_470 (by decide) ?_
  refine lv_iload hx hb dL_refuses_471 (lv_at hl 13 rfl) ?_
  refine lv_iconst (v := 5) hx hb dL_refuses_473 (by decide) ?_
  refine sl_piece_1 C gL_refuses_L_piece dL_refuses_474 hl.1 (Nat.le_of_ble_eq_true rfl) ⟨Nat.le_trans (m := 140) (Nat.le_of_ble_eq_true rfl) hR.1, Nat.le_trans (m := 900) (Nat.le_of_ble_eq_true rfl) hR.2⟩ hRR hJ 5 5 0 (-2147483648) 5 (by unfold T_addPiece; rw [if_pos (by decide +kernel)]) (fun H locs hJ => ?_)
  refine lv_iload hx hb dL_refuses_477 (lv_at hl 6 rfl) ?_
  refine lv_icmp_ne (tgt := 707) hx hb dL_refuses_479 (by decide) (fun h => absurd h (by decide +kernel)) (fun _ => ?_)
  refine lv_aload_n hx hb dL_refuses_482 rfl (lv_at hl 0 rfl) ?_
  refine lv_iconst (v := 5) hx hb dL_refuses_483 (by decide) ?_
  refine lv_iconst (v := 5) hx hb dL_refuses_484 (by decide) ?_
  refine lv_iconst (v := 0) hx hb dL_refuses_485 (by decide) ?_
  refine lv_iconst (v := 5) hx hb dL_refuses_486 (by decide) ?_
  refine lv_iload hx hb dL_refuses_487 (lv_at hl 16 rfl) ?_
  refine sl_piece_1 C gL_refuses_L_piece dL_refuses_489 hl.1 (Nat.le_of_ble_eq_true rfl) ⟨Nat.le_trans (m := 140) (Nat.le_of_ble_eq_true rfl) hR.1, Nat.le_trans (m := 900) (Nat.le_of_ble_eq_true rfl) hR.2⟩ hRR hJ 5 5 0 5 (-2147483648) (by unfold T_addPiece; rw [if_pos (by decide +kernel)]) (fun H locs hJ => ?_)
  refine lv_iload hx hb dL_refuses_492 (lv_at hl 6 rfl) ?_
  refine lv_icmp_ne (tgt := 707) hx hb dL_refuses_494 (by decide) (fun h => absurd h (by decide +kernel)) (fun _ => ?_)
  exact kk H locs ls hJ (lv_sub hl [0, 1, 2, 3, 4, 5, 6, 7, 8, 9, 10, 11, 12, 13, 14, 15, 16, 17, 18, 19] rfl)
set_option maxHeartbeats 4000000 in
set_option maxRecDepth 100000 in
theorem rf_3_4 (C : CJ p l R s m args c cL_refuses 20 wsL_refuses D cI cL cE cP A H0) (hRR : 30 ≤ R.frames ∧ 2000 ≤ R.locals) (hR : 140 ≤ R.cells ∧ 900 ≤ R.slots) (hJ : LJ D cI cL cE cP A H0 o0 g n k H locs) (hl : lv_has ls 20 [(0, .ref o0), (1, .int (nI n)), (2, .int (nI k)), (3, .int (bwE (KE g n k) k)), (4, .int (plL g n)), (5, .int (-900000001)), (6, .int (-900000002)), (7, .int 2147483647), (8, .int 3), (9, .int (-2147483648)), (10, .int (-2147483648)), (11, .int (-2147483648)), (12, .int (-2147483648)), (13, .int (-2147483648)), (14, .int (-2147483648)), (15, .int (-2147483648)), (16, .int (-2147483648)), (17, .int (-2147483648)), (18, .int (-2147483648)), (19, .int 1)])
    (kk : ∀ (H : Heap) (locs : List Loc) (ls : Array Slot), LJ D cI cL cE cP A H0 o0 g n k H locs → lv_has ls 20 [(0, .ref o0), (1, .int (nI n)), (2, .int (nI k)), (3, .int (bwE (KE g n k) k)), (4, .int (plL g n)), (5, .int (-900000001)), (6, .int (-900000002)), (7, .int 2147483647), (8, .int 3), (9, .int (-2147483648)), (10, .int (-2147483648)), (11, .int (-2147483648)), (12, .int (-2147483648)), (13, .int (-2147483648)), (14, .int (-2147483648)), (15, .int (-2147483648)), (16, .int (-2147483648)), (17, .int (-2147483648)), (18, .int (-2147483648)), (19, .int 1)] → W p l e R s m args below meth c H locs 125 798 Q (F0 m 598 ls [])) : W p l e R s m args below meth c H locs 118 756 Q (F0 m 497 ls []) := by
  obtain ⟨hx, hb, hml, hown, hts, -⟩ := id C
  have hn := hJ.1.n; have hk8 : k ≤ 8 := Nat.le_trans hJ.1.k (by decide)
  refine lv_aload_n hx hb dL_refuses_497 rfl (lv_at hl 0 rfl) ?_
  refine lv_iconst (v := 3) hx hb dL_refuses_498 (by decide) ?_
  refine lv_iload hx hb dL_refuses_499 (lv_at hl 17 rfl) ?_
  refine lv_iload hx hb dL_refuses_501 (lv_at hl 7 rfl) ?_
  refine lv_iconst (v := 0) hx hb dL_refuses_503 (by decide) ?_
  refine sl_act_3_1 C gL_refuses_L_act dL_refuses_504 hl.1 (Nat.le_of_ble_eq_true rfl) ⟨Nat.le_trans (m := 140) (Nat.le_of_ble_eq_true rfl) hR.1, Nat.le_trans (m := 900) (Nat.le_of_ble_eq_true rfl) hR.2⟩ hRR hJ (-2147483648) 2147483647 0 (by unfold T_draw; rw [if_pos (zex_ng hn (by decide +kernel))]) (fun H locs hJ => ?_)
  refine lv_iload hx hb dL_refuses_507 (lv_at hl 5 rfl) ?_
  refine lv_icmp_ne (tgt := 707) hx hb dL_refuses_509 (by decide) (fun h => absurd h (by decide +kernel)) (fun _ => ?_)
  refine lv_aload_n hx hb dL_refuses_512 rfl (lv_at hl 0 rfl) ?_
  refine lv_iconst (v := 4) hx hb dL_refuses_513 (by decide) ?_
  refine lv_iload hx hb dL_refuses_514 (lv_at hl 17 rfl) ?_
  refine lv_iconst (v := 0) hx hb dL_refuses_516 (by decide) ?_
  refine lv_iconst (v := 0) hx hb dL_refuses_517 (by decide) ?_
  refine sl_act_4_1 C gL_refuses_L_act dL_refuses_518 hl.1 (Nat.le_of_ble_eq_true rfl) ⟨Nat.le_trans (m := 140) (Nat.le_of_ble_eq_true rfl) hR.1, Nat.le_trans (m := 900) (Nat.le_of_ble_eq_true rfl) hR.2⟩ hRR hJ (-2147483648) 0 0 (by unfold T_setClass; rw [if_pos (by rw [(zex_ng hn (by decide +kernel))]; rfl)]) (fun H locs hJ => ?_)
  refine lv_iload hx hb dL_refuses_521 (lv_at hl 5 rfl) ?_
  refine lv_icmp_ne (tgt := 707) hx hb dL_refuses_523 (by decide) (fun h => absurd h (by decide +kernel)) (fun _ => ?_)
  refine lv_aload_n hx hb dL_refuses_526 rfl (lv_at hl 0 rfl) ?_
  refine lv_iconst (v := 4) hx hb dL_refuses_527 (by decide) ?_
  refine lv_iconst (v := 0) hx hb dL_refuses_528 (by decide) ?_
  refine lv_iload hx hb dL_refuses_529 (lv_at hl 10 rfl) ?_
  refine lv_iconst (v := 0) hx hb dL_refuses_531 (by decide) ?_
  refine sl_act_4_1 C gL_refuses_L_act dL_refuses_532 hl.1 (Nat.le_of_ble_eq_true rfl) ⟨Nat.le_trans (m := 140) (Nat.le_of_ble_eq_true rfl) hR.1, Nat.le_trans (m := 900) (Nat.le_of_ble_eq_true rfl) hR.2⟩ hRR hJ 0 (-2147483648) 0 (by unfold T_setClass; rw [if_pos (by rw [show zwi (-2147483648) 0 3 = false from by decide +kernel, Bool.and_false])]) (fun H locs hJ => ?_)
  refine lv_iload hx hb dL_refuses_535 (lv_at hl 5 rfl) ?_
  refine lv_icmp_ne (tgt := 707) hx hb dL_refuses_537 (by decide) (fun h => absurd h (by decide +kernel)) (fun _ => ?_)
  refine lv_aload_n hx hb dL_refuses_540 rfl (lv_at hl 0 rfl) ?_
  refine lv_iconst (v := 5) hx hb dL_refuses_541 (by decide) ?_
  refine lv_iload hx hb dL_refuses_542 (lv_at hl 17 rfl) ?_
  refine lv_iconst (v := 0) hx hb dL_refuses_544 (by decide) ?_
  refine lv_iconst (v := (-1)) hx hb dL_refuses_545 (by decide) ?_
  refine sl_act_5_1 C gL_refuses_L_act dL_refuses_546 hl.1 (Nat.le_of_ble_eq_true rfl) ⟨Nat.le_trans (m := 140) (Nat.le_of_ble_eq_true rfl) hR.1, Nat.le_trans (m := 900) (Nat.le_of_ble_eq_true rfl) hR.2⟩ hRR hJ (-2147483648) 0 (-1) (by unfold T_guarantee; rw [if_pos (by rw [(zex_ng hn (by decide +kernel))]; rfl)]) (fun H locs hJ => ?_)
  refine lv_iload hx hb dL_refuses_549 (lv_at hl 5 rfl) ?_
  refine lv_icmp_ne (tgt := 707) hx hb dL_refuses_551 (by decide) (fun h => absurd h (by decide +kernel)) (fun _ => ?_)
  refine lv_aload_n hx hb dL_refuses_554 rfl (lv_at hl 0 rfl) ?_
  refine lv_iconst (v := 5) hx hb dL_refuses_555 (by decide) ?_
  refine lv_iconst (v := 0) hx hb dL_refuses_556 (by decide) ?_
  refine lv_iload hx hb dL_refuses_557 (lv_at hl 10 rfl) ?_
  refine lv_iconst (v := (-1)) hx hb dL_refuses_559 (by decide) ?_
  refine sl_act_5_1 C gL_refuses_L_act dL_refuses_560 hl.1 (Nat.le_of_ble_eq_true rfl) ⟨Nat.le_trans (m := 140) (Nat.le_of_ble_eq_true rfl) hR.1, Nat.le_trans (m := 900) (Nat.le_of_ble_eq_true rfl) hR.2⟩ hRR hJ 0 (-2147483648) (-1) (by unfold T_guarantee; rw [if_pos (by rw [show zwi (-2147483648) 0 3 = false from by decide +kernel, Bool.and_false])]) (fun H locs hJ => ?_)
  refine lv_iload hx hb dL_refuses_563 (lv_at hl 5 rfl) ?_
  refine lv_icmp_ne (tgt := 707) hx hb dL_refuses_565 (by decide) (fun h => absurd h (by decide +kernel)) (fun _ => ?_)
  refine lv_aload_n hx hb dL_refuses_568 rfl (lv_at hl 0 rfl) ?_
  refine lv_bipush (v := 6) hx hb dL_refuses_569 (by decide) ?_
  refine lv_iload hx hb dL_refuses_571 (lv_at hl 17 rfl) ?_
  refine lv_iconst (v := 0) hx hb dL_refuses_573 (by decide) ?_
  refine lv_iconst (v := 0) hx hb dL_refuses_574 (by decide) ?_
  refine sl_act_6_1 C gL_refuses_L_act dL_refuses_575 hl.1 (Nat.le_of_ble_eq_true rfl) ⟨Nat.le_trans (m := 140) (Nat.le_of_ble_eq_true rfl) hR.1, Nat.le_trans (m := 900) (Nat.le_of_ble_eq_true rfl) hR.2⟩ hRR hJ (-2147483648) 0 0 (by unfold T_amount; rw [if_pos (zex_ng hn (by decide +kernel))]) (fun H locs hJ => ?_)
  refine lv_iload hx hb dL_refuses_578 (lv_at hl 5 rfl) ?_
  refine lv_icmp_ne (tgt := 707) hx hb dL_refuses_580 (by decide) (fun h => absurd h (by decide +kernel)) (fun _ => ?_)
  refine lv_aload_n hx hb dL_refuses_583 rfl (lv_at hl 0 rfl) ?_
  refine lv_bipush (v := 7) hx hb dL_refuses_584 (by decide) ?_
  refine lv_iload hx hb dL_refuses_586 (lv_at hl 18 rfl) ?_
  refine lv_iconst (v := 0) hx hb dL_refuses_588 (by decide) ?_
  refine lv_iconst (v := 0) hx hb dL_refuses_589 (by decide) ?_
  refine sl_act_7_1 C gL_refuses_L_act dL_refuses_590 hl.1 (Nat.le_of_ble_eq_true rfl) ⟨Nat.le_trans (m := 140) (Nat.le_of_ble_eq_true rfl) hR.1, Nat.le_trans (m := 900) (Nat.le_of_ble_eq_true rfl) hR.2⟩ hRR hJ (-2147483648) 0 0 (by unfold T_setPiece; rw [if_pos (zex_ng hk8 (by decide +kernel))]) (fun H locs hJ => ?_)
  refine lv_iload hx hb dL_refuses_593 (lv_at hl 5 rfl) ?_
  refine lv_icmp_ne (tgt := 707) hx hb dL_refuses_595 (by decide) (fun h => absurd h (by decide +kernel)) (fun _ => ?_)
  exact kk H locs ls hJ (lv_sub hl [0, 1, 2, 3, 4, 5, 6, 7, 8, 9, 10, 11, 12, 13, 14, 15, 16, 17, 18, 19] rfl)
set_option maxHeartbeats 4000000 in
set_option maxRecDepth 100000 in
theorem rf_3_5 (C : CJ p l R s m args c cL_refuses 20 wsL_refuses D cI cL cE cP A H0) (hRR : 30 ≤ R.frames ∧ 2000 ≤ R.locals) (hR : 140 ≤ R.cells ∧ 900 ≤ R.slots) (hJ : LJ D cI cL cE cP A H0 o0 g n k H locs) (hl : lv_has ls 20 [(0, .ref o0), (1, .int (nI n)), (2, .int (nI k)), (3, .int (bwE (KE g n k) k)), (4, .int (plL g n)), (5, .int (-900000001)), (6, .int (-900000002)), (7, .int 2147483647), (8, .int 3), (9, .int (-2147483648)), (10, .int (-2147483648)), (11, .int (-2147483648)), (12, .int (-2147483648)), (13, .int (-2147483648)), (14, .int (-2147483648)), (15, .int (-2147483648)), (16, .int (-2147483648)), (17, .int (-2147483648)), (18, .int (-2147483648)), (19, .int 1)])
    (kk : ∀ (H : Heap) (locs : List Loc) (ls : Array Slot), LJ D cI cL cE cP A H0 o0 g n k H locs → lv_has ls 20 [(0, .ref o0), (1, .int (nI n)), (2, .int (nI k)), (3, .int (bwE (KE g n k) k)), (4, .int (plL g n)), (5, .int (-900000001)), (6, .int (-900000002)), (7, .int 2147483647), (8, .int 3), (9, .int (-2147483648)), (10, .int (-2147483648)), (11, .int (-2147483648)), (12, .int (-2147483648)), (13, .int (-2147483648)), (14, .int (-2147483648)), (15, .int (-2147483648)), (16, .int (-2147483648)), (17, .int (-2147483648)), (18, .int (-2147483648)), (19, .int 1)] → W p l e R s m args below meth c H locs 132 840 Q (F0 m 710 ls [])) : W p l e R s m args below meth c H locs 125 798 Q (F0 m 598 ls []) := by
  obtain ⟨hx, hb, hml, hown, hts, -⟩ := id C
  have hn := hJ.1.n; have hk8 : k ≤ 8 := Nat.le_trans hJ.1.k (by decide)
  refine lv_aload_n hx hb dL_refuses_598 rfl (lv_at hl 0 rfl) ?_
  refine lv_bipush (v := 8) hx hb dL_refuses_599 (by decide) ?_
  refine lv_iload hx hb dL_refuses_601 (lv_at hl 18 rfl) ?_
  refine lv_iconst (v := 0) hx hb dL_refuses_603 (by decide) ?_
  refine lv_iconst (v := 0) hx hb dL_refuses_604 (by decide) ?_
  refine sl_act_8_1 C gL_refuses_L_act dL_refuses_605 hl.1 (Nat.le_of_ble_eq_true rfl) ⟨Nat.le_trans (m := 140) (Nat.le_of_ble_eq_true rfl) hR.1, Nat.le_trans (m := 900) (Nat.le_of_ble_eq_true rfl) hR.2⟩ hRR hJ (-2147483648) 0 0 (by unfold T_value; rw [if_pos (by rw [(zex_ng hk8 (by decide +kernel))]; rfl)]) (fun H locs hJ => ?_)
  refine lv_iload hx hb dL_refuses_608 (lv_at hl 5 rfl) ?_
  refine lv_icmp_ne (tgt := 707) hx hb dL_refuses_610 (by decide) (fun h => absurd h (by decide +kernel)) (fun _ => ?_)
  refine lv_aload_n hx hb dL_refuses_613 rfl (lv_at hl 0 rfl) ?_
  refine lv_bipush (v := 8) hx hb dL_refuses_614 (by decide) ?_
  refine lv_iconst (v := 0) hx hb dL_refuses_616 (by decide) ?_
  refine lv_iload hx hb dL_refuses_617 (lv_at hl 17 rfl) ?_
  refine lv_iconst (v := 0) hx hb dL_refuses_619 (by decide) ?_
  refine sl_act_8_1 C gL_refuses_L_act dL_refuses_620 hl.1 (Nat.le_of_ble_eq_true rfl) ⟨Nat.le_trans (m := 140) (Nat.le_of_ble_eq_true rfl) hR.1, Nat.le_trans (m := 900) (Nat.le_of_ble_eq_true rfl) hR.2⟩ hRR hJ 0 (-2147483648) 0 (by unfold T_value; rw [if_pos (by rw [(zex_ng hn (by decide +kernel)), Bool.and_false])]) (fun H locs hJ => ?_)
  refine lv_iload hx hb dL_refuses_623 (lv_at hl 5 rfl) ?_
  refine lv_icmp_ne (tgt := 707) hx hb dL_refuses_625 (by decide) (fun h => absurd h (by decide +kernel)) (fun _ => ?_)
  refine lv_aload_n hx hb dL_refuses_628 rfl (lv_at hl 0 rfl) ?_
  refine lv_bipush (v := 9) hx hb dL_refuses_629 (by decide) ?_
  refine lv_iload hx hb dL_refuses_631 (lv_at hl 18 rfl) ?_
  refine lv_iconst (v := 0) hx hb dL_refuses_633 (by decide) ?_
  refine lv_iconst (v := 0) hx hb dL_refuses_634 (by decide) ?_
  refine sl_act_9_1 C gL_refuses_L_act dL_refuses_635 hl.1 (Nat.le_of_ble_eq_true rfl) ⟨Nat.le_trans (m := 140) (Nat.le_of_ble_eq_true rfl) hR.1, Nat.le_trans (m := 900) (Nat.le_of_ble_eq_true rfl) hR.2⟩ hRR hJ (-2147483648) 0 0 (by unfold T_amount; rw [if_pos (zex_ng hk8 (by decide +kernel))]) (fun H locs hJ => ?_)
  refine lv_iload hx hb dL_refuses_638 (lv_at hl 5 rfl) ?_
  refine lv_icmp_ne (tgt := 707) hx hb dL_refuses_640 (by decide) (fun h => absurd h (by decide +kernel)) (fun _ => ?_)
  refine lv_aload_n hx hb dL_refuses_643 rfl (lv_at hl 0 rfl) ?_
  refine lv_bipush (v := 10) hx hb dL_refuses_644 (by decide) ?_
  refine lv_iload hx hb dL_refuses_646 (lv_at hl 17 rfl) ?_
  refine lv_iconst (v := 0) hx hb dL_refuses_648 (by decide) ?_
  refine lv_iconst (v := 0) hx hb dL_refuses_649 (by decide) ?_
  refine sl_act_10_1 C gL_refuses_L_act dL_refuses_650 hl.1 (Nat.le_of_ble_eq_true rfl) ⟨Nat.le_trans (m := 140) (Nat.le_of_ble_eq_true rfl) hR.1, Nat.le_trans (m := 900) (Nat.le_of_ble_eq_true rfl) hR.2⟩ hRR hJ (-2147483648) 0 0 (by unfold T_amount; rw [if_pos (zex_ng hn (by decide +kernel))]) (fun H locs hJ => ?_)
  refine lv_iload hx hb dL_refuses_653 (lv_at hl 5 rfl) ?_
  refine lv_icmp_ne (tgt := 707) hx hb dL_refuses_655 (by decide) (fun h => absurd h (by decide +kernel)) (fun _ => ?_)
  refine lv_aload_n hx hb dL_refuses_658 rfl (lv_at hl 0 rfl) ?_
  refine lv_bipush (v := 11) hx hb dL_refuses_659 (by decide) ?_
  refine lv_iload hx hb dL_refuses_661 (lv_at hl 17 rfl) ?_
  refine lv_iconst (v := 0) hx hb dL_refuses_663 (by decide) ?_
  refine lv_iconst (v := 0) hx hb dL_refuses_664 (by decide) ?_
  refine sl_act_11_1 C gL_refuses_L_act dL_refuses_665 hl.1 (Nat.le_of_ble_eq_true rfl) ⟨Nat.le_trans (m := 140) (Nat.le_of_ble_eq_true rfl) hR.1, Nat.le_trans (m := 900) (Nat.le_of_ble_eq_true rfl) hR.2⟩ hRR hJ (-2147483648) 0 0 (by unfold T_amount; rw [if_pos (zex_ng hn (by decide +kernel))]) (fun H locs hJ => ?_)
  refine lv_iload hx hb dL_refuses_668 (lv_at hl 5 rfl) ?_
  refine lv_icmp_ne (tgt := 707) hx hb dL_refuses_670 (by decide) (fun h => absurd h (by decide +kernel)) (fun _ => ?_)
  refine lv_aload_n hx hb dL_refuses_673 rfl (lv_at hl 0 rfl) ?_
  refine lv_bipush (v := 12) hx hb dL_refuses_674 (by decide) ?_
  refine lv_iload hx hb dL_refuses_676 (lv_at hl 18 rfl) ?_
  refine lv_iconst (v := 0) hx hb dL_refuses_678 (by decide) ?_
  refine lv_iconst (v := 0) hx hb dL_refuses_679 (by decide) ?_
  refine sl_act_12_1 C gL_refuses_L_act dL_refuses_680 hl.1 (Nat.le_of_ble_eq_true rfl) ⟨Nat.le_trans (m := 140) (Nat.le_of_ble_eq_true rfl) hR.1, Nat.le_trans (m := 900) (Nat.le_of_ble_eq_true rfl) hR.2⟩ hRR hJ (-2147483648) 0 0 (by unfold T_amount; rw [if_pos (zex_ng hk8 (by decide +kernel))]) (fun H locs hJ => ?_)
  refine lv_iload hx hb dL_refuses_683 (lv_at hl 5 rfl) ?_
  refine lv_icmp_ne (tgt := 707) hx hb dL_refuses_685 (by decide) (fun h => absurd h (by decide +kernel)) (fun _ => ?_)
  refine lv_aload_n hx hb dL_refuses_688 rfl (lv_at hl 0 rfl) ?_
  refine lv_bipush (v := 13) hx hb dL_refuses_689 (by decide) ?_
  refine lv_iload hx hb dL_refuses_691 (lv_at hl 10 rfl) ?_
  refine lv_iconst (v := 0) hx hb dL_refuses_693 (by decide) ?_
  refine lv_iconst (v := 0) hx hb dL_refuses_694 (by decide) ?_
  refine sl_act_13_1 C gL_refuses_L_act dL_refuses_695 hl.1 (Nat.le_of_ble_eq_true rfl) ⟨Nat.le_trans (m := 140) (Nat.le_of_ble_eq_true rfl) hR.1, Nat.le_trans (m := 900) (Nat.le_of_ble_eq_true rfl) hR.2⟩ hRR hJ (-2147483648) 0 0 (by decide +kernel) (fun H locs hJ => ?_)
  refine lv_iload hx hb dL_refuses_698 (lv_at hl 5 rfl) ?_
  refine lv_icmp_ne (tgt := 707) hx hb dL_refuses_700 (by decide) (fun h => absurd h (by decide +kernel)) (fun _ => ?_)
  refine lv_iconst (v := 1) hx hb dL_refuses_703 (by decide) ?_
  refine lv_goto (tgt := 708) hx hb dL_refuses_704 (by decide) ?_
  refine lv_istore (lv' := [(19, .int 1), (0, .ref o0), (1, .int (nI n)), (2, .int (nI k)), (3, .int (bwE (KE g n k) k)), (4, .int (plL g n)), (5, .int (-900000001)), (6, .int (-900000002)), (7, .int 2147483647), (8, .int 3), (9, .int (-2147483648)), (10, .int (-2147483648)), (11, .int (-2147483648)), (12, .int (-2147483648)), (13, .int (-2147483648)), (14, .int (-2147483648)), (15, .int (-2147483648)), (16, .int (-2147483648)), (17, .int (-2147483648)), (18, .int (-2147483648))]) hx hb dL_refuses_708 hl (by decide) rfl (fun ls hl => ?_)
  exact kk H locs ls hJ (lv_sub hl [1, 2, 3, 4, 5, 6, 7, 8, 9, 10, 11, 12, 13, 14, 15, 16, 17, 18, 19, 0] rfl)
set_option maxHeartbeats 4000000 in
set_option maxRecDepth 100000 in
theorem rf_3_6 (C : CJ p l R s m args c cL_refuses 20 wsL_refuses D cI cL cE cP A H0) (hRR : 30 ≤ R.frames ∧ 2000 ≤ R.locals) (hR : 140 ≤ R.cells ∧ 900 ≤ R.slots) (hJ : LJ D cI cL cE cP A H0 o0 g n k H locs) (hl : lv_has ls 20 [(0, .ref o0), (1, .int (nI n)), (2, .int (nI k)), (3, .int (bwE (KE g n k) k)), (4, .int (plL g n)), (5, .int (-900000001)), (6, .int (-900000002)), (7, .int 2147483647), (8, .int 3), (9, .int (-2147483648)), (10, .int (-2147483648)), (11, .int (-2147483648)), (12, .int (-2147483648)), (13, .int (-2147483648)), (14, .int (-2147483648)), (15, .int (-2147483648)), (16, .int (-2147483648)), (17, .int (-2147483648)), (18, .int (-2147483648)), (19, .int 1)])
    (kk : ∀ (H : Heap) (locs : List Loc) (ls : Array Slot), LJ D cI cL cE cP A H0 o0 g n k H locs → lv_has ls 20 [(0, .ref o0), (1, .int (nI n)), (2, .int (nI k)), (3, .int (bwE (KE g n k) k)), (4, .int (plL g n)), (5, .int (-900000001)), (6, .int (-900000002)), (7, .int 2147483647), (8, .int 3), (9, .int (-2147483648)), (10, .int (-2147483648)), (11, .int (-2147483648)), (12, .int (-2147483648)), (13, .int (-2147483648)), (14, .int (-2147483648)), (15, .int (-2147483648)), (16, .int (-2147483648)), (17, .int (-2147483648)), (18, .int (-2147483648)), (19, .int 1)] → W p l e R s m args below meth c H locs 134 852 Q (F0 m 757 ls [])) : W p l e R s m args below meth c H locs 132 840 Q (F0 m 710 ls []) := by
  obtain ⟨hx, hb, hml, hown, hts, -⟩ := id C
  have hn := hJ.1.n; have hk8 : k ≤ 8 := Nat.le_trans hJ.1.k (by decide)
  refine lv_iload hx hb dL_refuses_710 (lv_at hl 19 rfl) ?_
  refine lv_if_eq (tgt := 795) hx hb dL_refuses_712 (by decide) (fun h => absurd h (by decide +kernel)) (fun _ => ?_)
  refine lv_iload_n hx hb dL_refuses_715 rfl (lv_at hl 1 rfl) ?_
  refine lv_if_eq (tgt := 757) hx hb dL_refuses_716 (by decide) (fun _ => ?_) (fun hz => ?_)
  · exact W.widen (k := 134) (n := 852) (Nat.le_of_ble_eq_true rfl) (Nat.le_of_ble_eq_true rfl) (kk H locs ls hJ (lv_sub hl [0, 1, 2, 3, 4, 5, 6, 7, 8, 9, 10, 11, 12, 13, 14, 15, 16, 17, 18, 19] rfl))
  · have hz := zex_0 hn hz
    refine lv_aload_n hx hb dL_refuses_719 rfl (lv_at hl 0 rfl) ?_
    refine lv_iconst (v := 3) hx hb dL_refuses_720 (by decide) ?_
    refine lv_iconst (v := 0) hx hb dL_refuses_721 (by decide) ?_
    refine lv_iload hx hb dL_refuses_722 (lv_at hl 8 rfl) ?_
    refine lv_if_ne (tgt := 732) hx hb dL_refuses_724 (by decide) (fun _ => ?_) (fun h => absurd h (by decide +kernel))
    refine lv_iload hx hb dL_refuses_732 (lv_at hl 12 rfl) ?_
    refine lv_iconst (v := 0) hx hb dL_refuses_734 (by decide) ?_
    refine sl_act_3_2 C gL_refuses_L_act dL_refuses_735 hl.1 (Nat.le_of_ble_eq_true rfl) ⟨Nat.le_trans (m := 140) (Nat.le_of_ble_eq_true rfl) hR.1, Nat.le_trans (m := 900) (Nat.le_of_ble_eq_true rfl) hR.2⟩ hRR hJ 0 (-2147483648) 0 (by unfold T_draw; rw [if_neg (by rw [hz]; decide), if_pos (by decide +kernel)]) (fun H locs hJ => ?_)
    refine lv_iload hx hb dL_refuses_738 (lv_at hl 6 rfl) ?_
    refine lv_icmp_ne (tgt := 795) hx hb dL_refuses_740 (by decide) (fun h => absurd h (by decide +kernel)) (fun _ => ?_)
    refine lv_aload_n hx hb dL_refuses_743 rfl (lv_at hl 0 rfl) ?_
    refine lv_iconst (v := 5) hx hb dL_refuses_744 (by decide) ?_
    refine lv_iconst (v := 0) hx hb dL_refuses_745 (by decide) ?_
    refine lv_iconst (v := 0) hx hb dL_refuses_746 (by decide) ?_
    refine lv_iload hx hb dL_refuses_747 (lv_at hl 12 rfl) ?_
    refine sl_act_5_2 C gL_refuses_L_act dL_refuses_749 hl.1 (Nat.le_of_ble_eq_true rfl) ⟨Nat.le_trans (m := 140) (Nat.le_of_ble_eq_true rfl) hR.1, Nat.le_trans (m := 900) (Nat.le_of_ble_eq_true rfl) hR.2⟩ hRR hJ 0 0 (-2147483648) (by unfold T_guarantee; rw [if_neg (by rw [hz]; decide +kernel), if_pos (by decide +kernel)]) (fun H locs hJ => ?_)
    refine lv_iload hx hb dL_refuses_752 (lv_at hl 6 rfl) ?_
    refine lv_icmp_ne (tgt := 795) hx hb dL_refuses_754 (by decide) (fun h => absurd h (by decide +kernel)) (fun _ => ?_)
    exact kk H locs ls hJ (lv_sub hl [0, 1, 2, 3, 4, 5, 6, 7, 8, 9, 10, 11, 12, 13, 14, 15, 16, 17, 18, 19] rfl)
set_option maxHeartbeats 4000000 in
set_option maxRecDepth 100000 in
theorem rf_3_7 (C : CJ p l R s m args c cL_refuses 20 wsL_refuses D cI cL cE cP A H0) (hRR : 30 ≤ R.frames ∧ 2000 ≤ R.locals) (hR : 140 ≤ R.cells ∧ 900 ≤ R.slots) (hJ : LJ D cI cL cE cP A H0 o0 g n k H locs) (hl : lv_has ls 20 [(0, .ref o0), (1, .int (nI n)), (2, .int (nI k)), (3, .int (bwE (KE g n k) k)), (4, .int (plL g n)), (5, .int (-900000001)), (6, .int (-900000002)), (7, .int 2147483647), (8, .int 3), (9, .int (-2147483648)), (10, .int (-2147483648)), (11, .int (-2147483648)), (12, .int (-2147483648)), (13, .int (-2147483648)), (14, .int (-2147483648)), (15, .int (-2147483648)), (16, .int (-2147483648)), (17, .int (-2147483648)), (18, .int (-2147483648)), (19, .int 1)])
    (kk : ∀ (H : Heap) (locs : List Loc) (ls : Array Slot), LJ D cI cL cE cP A H0 o0 g n k H locs → lv_has ls 20 [(0, .ref o0), (1, .int (nI n)), (2, .int (nI k)), (3, .int (bwE (KE g n k) k)), (4, .int (plL g n)), (5, .int (-900000001)), (6, .int (-900000002)), (7, .int 2147483647), (8, .int 4)] → W p l e R s m args below meth c H locs 136 864 Q (F0 m 36 ls [])) : W p l e R s m args below meth c H locs 134 852 Q (F0 m 757 ls []) := by
  obtain ⟨hx, hb, hml, hown, hts, -⟩ := id C
  have hn := hJ.1.n; have hk8 : k ≤ 8 := Nat.le_trans hJ.1.k (by decide)
  refine lv_iload_n hx hb dL_refuses_757 rfl (lv_at hl 2 rfl) ?_
  refine lv_if_eq (tgt := 791) hx hb dL_refuses_758 (by decide) (fun _ => ?_) (fun hz => ?_)
  · refine lv_iconst (v := 1) hx hb dL_refuses_791 (by decide) ?_
    refine lv_goto (tgt := 796) hx hb dL_refuses_792 (by decide) ?_
    refine lv_istore (lv' := [(19, .int 1), (0, .ref o0), (1, .int (nI n)), (2, .int (nI k)), (3, .int (bwE (KE g n k) k)), (4, .int (plL g n)), (5, .int (-900000001)), (6, .int (-900000002)), (7, .int 2147483647), (8, .int 3), (9, .int (-2147483648)), (10, .int (-2147483648)), (11, .int (-2147483648)), (12, .int (-2147483648)), (13, .int (-2147483648)), (14, .int (-2147483648)), (15, .int (-2147483648)), (16, .int (-2147483648)), (17, .int (-2147483648)), (18, .int (-2147483648))]) hx hb dL_refuses_796 hl (by decide) rfl (fun ls hl => ?_)
    refine lv_iload hx hb dL_refuses_798 (lv_at hl 0 rfl) ?_
    refine lv_if_ne (tgt := 805) hx hb dL_refuses_800 (by decide) (fun _ => ?_) (fun h => absurd h (by decide +kernel))
    refine lv_iinc (v := 4) (lv' := [(8, .int 4), (19, .int 1), (0, .ref o0), (1, .int (nI n)), (2, .int (nI k)), (3, .int (bwE (KE g n k) k)), (4, .int (plL g n)), (5, .int (-900000001)), (6, .int (-900000002)), (7, .int 2147483647), (9, .int (-2147483648)), (10, .int (-2147483648)), (11, .int (-2147483648)), (12, .int (-2147483648)), (13, .int (-2147483648)), (14, .int (-2147483648)), (15, .int (-2147483648)), (16, .int (-2147483648)), (17, .int (-2147483648)), (18, .int (-2147483648))]) hx hb dL_refuses_805 hl (k := 9) rfl (by decide +kernel) (by decide) rfl (fun ls hl => ?_)
    refine lv_goto (tgt := 36) hx hb dL_refuses_808 (by decide) ?_
    exact W.widen (k := 136) (n := 864) (Nat.le_of_ble_eq_true rfl) (Nat.le_of_ble_eq_true rfl) (kk H locs ls hJ (lv_sub hl [2, 3, 4, 5, 6, 7, 8, 9, 0] rfl))
  · have hz := zex_0 hk8 hz
    refine lv_aload_n hx hb dL_refuses_761 rfl (lv_at hl 0 rfl) ?_
    refine lv_bipush (v := 7) hx hb dL_refuses_762 (by decide) ?_
    refine lv_iconst (v := 0) hx hb dL_refuses_764 (by decide) ?_
    refine lv_iload hx hb dL_refuses_765 (lv_at hl 15 rfl) ?_
    refine lv_iconst (v := 0) hx hb dL_refuses_767 (by decide) ?_
    refine sl_act_7_2 C gL_refuses_L_act dL_refuses_768 hl.1 (Nat.le_of_ble_eq_true rfl) ⟨Nat.le_trans (m := 140) (Nat.le_of_ble_eq_true rfl) hR.1, Nat.le_trans (m := 900) (Nat.le_of_ble_eq_true rfl) hR.2⟩ hRR hJ 0 (-2147483648) 0 (by unfold T_setPiece; rw [if_neg (by rw [hz]; decide), if_pos (by decide +kernel)]) (fun H locs hJ => ?_)
    refine lv_iload hx hb dL_refuses_771 (lv_at hl 6 rfl) ?_
    refine lv_icmp_ne (tgt := 795) hx hb dL_refuses_773 (by decide) (fun h => absurd h (by decide +kernel)) (fun _ => ?_)
    refine lv_aload_n hx hb dL_refuses_776 rfl (lv_at hl 0 rfl) ?_
    refine lv_bipush (v := 7) hx hb dL_refuses_777 (by decide) ?_
    refine lv_iconst (v := 0) hx hb dL_refuses_779 (by decide) ?_
    refine lv_iconst (v := 5) hx hb dL_refuses_780 (by decide) ?_
    refine lv_iload hx hb dL_refuses_781 (lv_at hl 16 rfl) ?_
    refine sl_act_7_2 C gL_refuses_L_act dL_refuses_783 hl.1 (Nat.le_of_ble_eq_true rfl) ⟨Nat.le_trans (m := 140) (Nat.le_of_ble_eq_true rfl) hR.1, Nat.le_trans (m := 900) (Nat.le_of_ble_eq_true rfl) hR.2⟩ hRR hJ 0 5 (-2147483648) (by unfold T_setPiece; rw [if_neg (by rw [hz]; decide), if_pos (by decide +kernel)]) (fun H locs hJ => ?_)
    refine lv_iload hx hb dL_refuses_786 (lv_at hl 6 rfl) ?_
    refine lv_icmp_ne (tgt := 795) hx hb dL_refuses_788 (by decide) (fun h => absurd h (by decide +kernel)) (fun _ => ?_)
    refine lv_iconst (v := 1) hx hb dL_refuses_791 (by decide) ?_
    refine lv_goto (tgt := 796) hx hb dL_refuses_792 (by decide) ?_
    refine lv_istore (lv' := [(19, .int 1), (0, .ref o0), (1, .int (nI n)), (2, .int (nI k)), (3, .int (bwE (KE g n k) k)), (4, .int (plL g n)), (5, .int (-900000001)), (6, .int (-900000002)), (7, .int 2147483647), (8, .int 3), (9, .int (-2147483648)), (10, .int (-2147483648)), (11, .int (-2147483648)), (12, .int (-2147483648)), (13, .int (-2147483648)), (14, .int (-2147483648)), (15, .int (-2147483648)), (16, .int (-2147483648)), (17, .int (-2147483648)), (18, .int (-2147483648))]) hx hb dL_refuses_796 hl (by decide) rfl (fun ls hl => ?_)
    refine lv_iload hx hb dL_refuses_798 (lv_at hl 0 rfl) ?_
    refine lv_if_ne (tgt := 805) hx hb dL_refuses_800 (by decide) (fun _ => ?_) (fun h => absurd h (by decide +kernel))
    refine lv_iinc (v := 4) (lv' := [(8, .int 4), (19, .int 1), (0, .ref o0), (1, .int (nI n)), (2, .int (nI k)), (3, .int (bwE (KE g n k) k)), (4, .int (plL g n)), (5, .int (-900000001)), (6, .int (-900000002)), (7, .int 2147483647), (9, .int (-2147483648)), (10, .int (-2147483648)), (11, .int (-2147483648)), (12, .int (-2147483648)), (13, .int (-2147483648)), (14, .int (-2147483648)), (15, .int (-2147483648)), (16, .int (-2147483648)), (17, .int (-2147483648)), (18, .int (-2147483648))]) hx hb dL_refuses_805 hl (k := 9) rfl (by decide +kernel) (by decide) rfl (fun ls hl => ?_)
    refine lv_goto (tgt := 36) hx hb dL_refuses_808 (by decide) ?_
    exact kk H locs ls hJ (lv_sub hl [2, 3, 4, 5, 6, 7, 8, 9, 0] rfl)
end RF
set_option maxHeartbeats 4000000 in
set_option maxRecDepth 100000 in
theorem zL_refuses (l : Launch) (hfl : l.stackTraces = false) (D : va_G) (cI cL cE cP : ClassId) (g : Nat → Nat → Int32) (n k : Nat) (u0 : U8) (hok : zOk g n k) (h9 : zH9 g n) (sz : Nat) : Met l yL_refuses wsL_refuses ({ frames := 30, cells := 140, slots := 900, locals := 2000 }) (zPy D cI cL cE cP (cw8 cI cL cE cP g n k u0) sz [.ref (u0.1 0)]) (va_Qi (fun (r : Int32) (u : U8) => r = 1 ∧ u.1 0 = u0.1 0) (fun u t => zB D (cw8 cI cL cE cP g n k u0) sz (cw8 cI cL cE cP g n k u) t) (va_A (cw8 cI cL cE cP g n k u0) sz)) 140 900 (va_A (cw8 cI cL cE cP g n k u0) sz) := by
  refine Met.ofW (cc := cL_refuses) (maxL := 20) (ret := (some .boolean)) (by decide) rfl ?_
  intro p e s m args below meth c s₁ B hml hv
  obtain ⟨rfl, hsz, hE, hP, hD0, hX, hU0, hN, hO0, hO1⟩ := hv
  subst hsz
  obtain ⟨A, hAe⟩ : ∃ A, A = va_A (cw8 cI cL cE cP g n k u0) s.heap.size := ⟨_, rfl⟩
  have hD : va_D A (cw8 cI cL cE cP g n k u0) := by rw [hAe]; exact hD0.self
  have hA : ∀ q : Nat, s.heap.size ≤ q → A q := fun q h => by rw [hAe]; exact Or.inr h
  have hU : zU A s s.heap := by rw [hAe]; exact hU0
  have hx := B.exec
  have hb := B.bytes
  have hr := B.returns
  have hts := atoms_spec (ws := wsL_refuses) B.pre
  have hown : s.vm.findClass RL = some m.cls := findClass_of_methodNamed B.named
  have hlocks := B.notSynchronized
  have C : CJ p l ({ frames := 30, cells := 140, slots := 900, locals := 2000 }) s m _ c cL_refuses 20 wsL_refuses D cI cL cE cP A s.heap := ⟨hx, hb, hml, hown, hts, hE, hX, hN, hU, hA, hfl, Nat.le_of_ble_eq_true rfl, Nat.le_of_ble_eq_true rfl, hO0, hO1⟩
  have hJ : LJ D cI cL cE cP A s.heap (u0.1 0) g n k s.heap [] := ⟨hok, h9, u0, rfl, hP, hD, va_S.rf⟩
  have hl := lv_entry ([.ref (u0.1 0)]) (n := 20) (Nat.le_of_ble_eq_true rfl)
  rw [lg_entry_eq]
  generalize (lg_sl ([.ref (u0.1 0)]) ++ List.replicate (20 - (lg_sl ([.ref (u0.1 0)])).length) Slot.unset).toArray = ls at hl ⊢
  have hl : lv_has ls 20 [(0, .ref (u0.1 0))] := hl
  have hRR : 30 ≤ ({ frames := 30, cells := 140, slots := 900, locals := 2000 } : Room).frames ∧ 2000 ≤ ({ frames := 30, cells := 140, slots := 900, locals := 2000 } : Room).locals := ⟨Nat.le_refl _, Nat.le_refl _⟩
  have hR : 140 ≤ ({ frames := 30, cells := 140, slots := 900, locals := 2000 } : Room).cells ∧ 900 ≤ ({ frames := 30, cells := 140, slots := 900, locals := 2000 } : Room).slots := ⟨Nat.le_refl _, Nat.le_refl _⟩
  refine lv_aload_n hx hb dL_refuses_0 rfl (lv_at hl 0 rfl) ?_
  refine sa_exposures C gL_refuses_X3_exposures dL_refuses_1 hl.1 (Nat.le_of_ble_eq_true rfl) ⟨Nat.le_of_ble_eq_true rfl, Nat.le_of_ble_eq_true rfl⟩ hJ (nI n) rfl ?_
  refine lv_istore_n (lv' := [(1, .int (nI n)), (0, .ref (u0.1 0))]) hx hb dL_refuses_4 rfl hl (by decide) rfl (fun ls hl => ?_)
  refine lv_aload_n hx hb dL_refuses_5 rfl (lv_at hl 1 rfl) ?_
  refine sa_pieces C gL_refuses_X3_pieces dL_refuses_6 hl.1 (Nat.le_of_ble_eq_true rfl) ⟨Nat.le_of_ble_eq_true rfl, Nat.le_of_ble_eq_true rfl⟩ hJ (nI k) rfl ?_
  refine lv_istore_n (lv' := [(2, .int (nI k)), (1, .int (nI n)), (0, .ref (u0.1 0))]) hx hb dL_refuses_9 rfl hl (by decide) rfl (fun ls hl => ?_)
  refine lv_aload_n hx hb dL_refuses_10 rfl (lv_at hl 2 rfl) ?_
  refine sa_whole C gL_refuses_X3_whole dL_refuses_11 hl.1 (Nat.le_of_ble_eq_true rfl) ⟨Nat.le_of_ble_eq_true rfl, Nat.le_of_ble_eq_true rfl⟩ hJ (bwE (KE g n k) k) rfl (fun H locs hJ => ?_)
  refine lv_istore_n (lv' := [(3, .int (bwE (KE g n k) k)), (2, .int (nI k)), (1, .int (nI n)), (0, .ref (u0.1 0))]) hx hb dL_refuses_14 rfl hl (by decide) rfl (fun ls hl => ?_)
  refine lv_aload_n hx hb dL_refuses_15 rfl (lv_at hl 3 rfl) ?_
  refine sa_plain C gL_refuses_X3_plain dL_refuses_16 hl.1 (Nat.le_of_ble_eq_true rfl) ⟨Nat.le_of_ble_eq_true rfl, Nat.le_of_ble_eq_true rfl⟩ hJ (plL g n) rfl ?_
  refine lv_istore (lv' := [(4, .int (plL g n)), (3, .int (bwE (KE g n k) k)), (2, .int (nI k)), (1, .int (nI n)), (0, .ref (u0.1 0))]) hx hb dL_refuses_19 hl (by decide) rfl (fun ls hl => ?_)
  refine lv_ldc (v := (-900000001)) hx hb hown (hts (.constant RL 15 (-900000001)) (by decide +kernel)) dL_refuses_21 ?_
  refine lv_istore (lv' := [(5, .int (-900000001)), (4, .int (plL g n)), (3, .int (bwE (KE g n k) k)), (2, .int (nI k)), (1, .int (nI n)), (0, .ref (u0.1 0))]) hx hb dL_refuses_23 hl (by decide) rfl (fun ls hl => ?_)
  refine lv_ldc (v := (-900000002)) hx hb hown (hts (.constant RL 18 (-900000002)) (by decide +kernel)) dL_refuses_25 ?_
  refine lv_istore (lv' := [(6, .int (-900000002)), (5, .int (-900000001)), (4, .int (plL g n)), (3, .int (bwE (KE g n k) k)), (2, .int (nI k)), (1, .int (nI n)), (0, .ref (u0.1 0))]) hx hb dL_refuses_27 hl (by decide) rfl (fun ls hl => ?_)
  refine lv_ldc (v := 2147483647) hx hb hown (hts (.constant RL 84 (2147483647)) (by decide +kernel)) dL_refuses_29 ?_
  refine lv_istore (lv' := [(7, .int 2147483647), (6, .int (-900000002)), (5, .int (-900000001)), (4, .int (plL g n)), (3, .int (bwE (KE g n k) k)), (2, .int (nI k)), (1, .int (nI n)), (0, .ref (u0.1 0))]) hx hb dL_refuses_31 hl (by decide) rfl (fun ls hl => ?_)
  refine lv_iconst (v := 0) hx hb dL_refuses_33 (by decide) ?_
  refine lv_istore (lv' := [(8, .int 0), (7, .int 2147483647), (6, .int (-900000002)), (5, .int (-900000001)), (4, .int (plL g n)), (3, .int (bwE (KE g n k) k)), (2, .int (nI k)), (1, .int (nI n)), (0, .ref (u0.1 0))]) hx hb dL_refuses_34 hl (by decide) rfl (fun ls hl => ?_)
  have hl : lv_has ls 20 [(0, .ref (u0.1 0)), (1, .int (nI n)), (2, .int (nI k)), (3, .int (bwE (KE g n k) k)), (4, .int (plL g n)), (5, .int (-900000001)), (6, .int (-900000002)), (7, .int 2147483647), (8, .int 0)] := lv_sub hl [8, 7, 6, 5, 4, 3, 2, 1, 0] rfl
  refine rf_0_0 C hRR hR hJ hl (fun H locs ls hJ hl => ?_)
  refine rf_0_1 C hRR hR hJ hl (fun H locs ls hJ hl => ?_)
  refine rf_0_2 C hRR hR hJ hl (fun H locs ls hJ hl => ?_)
  refine rf_0_3 C hRR hR hJ hl (fun H locs ls hJ hl => ?_)
  refine rf_0_4 C hRR hR hJ hl (fun H locs ls hJ hl => ?_)
  refine rf_0_5 C hRR hR hJ hl (fun H locs ls hJ hl => ?_)
  refine rf_0_6 C hRR hR hJ hl (fun H locs ls hJ hl => ?_)
  refine rf_0_7 C hRR hR hJ hl (fun H locs ls hJ hl => ?_)
  refine rf_1_0 C hRR hR hJ hl (fun H locs ls hJ hl => ?_)
  refine rf_1_1 C hRR hR hJ hl (fun H locs ls hJ hl => ?_)
  refine rf_1_2 C hRR hR hJ hl (fun H locs ls hJ hl => ?_)
  refine rf_1_3 C hRR hR hJ hl (fun H locs ls hJ hl => ?_)
  refine rf_1_4 C hRR hR hJ hl (fun H locs ls hJ hl => ?_)
  refine rf_1_5 C hRR hR hJ hl (fun H locs ls hJ hl => ?_)
  refine rf_1_6 C hRR hR hJ hl (fun H locs ls hJ hl => ?_)
  refine rf_1_7 C hRR hR hJ hl (fun H locs ls hJ hl => ?_)
  refine rf_2_0 C hRR hR hJ hl (fun H locs ls hJ hl => ?_)
  refine rf_2_1 C hRR hR hJ hl (fun H locs ls hJ hl => ?_)
  refine rf_2_2 C hRR hR hJ hl (fun H locs ls hJ hl => ?_)
  refine rf_2_3 C hRR hR hJ hl (fun H locs ls hJ hl => ?_)
  refine rf_2_4 C hRR hR hJ hl (fun H locs ls hJ hl => ?_)
  refine rf_2_5 C hRR hR hJ hl (fun H locs ls hJ hl => ?_)
  refine rf_2_6 C hRR hR hJ hl (fun H locs ls hJ hl => ?_)
  refine rf_2_7 C hRR hR hJ hl (fun H locs ls hJ hl => ?_)
  refine rf_3_0 C hRR hR hJ hl (fun H locs ls hJ hl => ?_)
  refine rf_3_1 C hRR hR hJ hl (fun H locs ls hJ hl => ?_)
  refine rf_3_2 C hRR hR hJ hl (fun H locs ls hJ hl => ?_)
  refine rf_3_3 C hRR hR hJ hl (fun H locs ls hJ hl => ?_)
  refine rf_3_4 C hRR hR hJ hl (fun H locs ls hJ hl => ?_)
  refine rf_3_5 C hRR hR hJ hl (fun H locs ls hJ hl => ?_)
  refine rf_3_6 C hRR hR hJ hl (fun H locs ls hJ hl => ?_)
  refine rf_3_7 C hRR hR hJ hl (fun H locs ls hJ hl => ?_)
  refine lv_iload hx hb dL_refuses_36 (lv_at hl 8 rfl) ?_
  refine lv_iconst (v := 4) hx hb dL_refuses_38 (by decide) ?_
  refine lv_icmp_ge (tgt := 811) hx hb dL_refuses_39 (by decide) (fun _ => ?_) (fun h => absurd h (by decide +kernel))
  refine lv_aload_n hx hb dL_refuses_811 rfl (lv_at hl 0 rfl) ?_
  refine sa_exposures C gL_refuses_X3_exposures dL_refuses_812 hl.1 (Nat.le_of_ble_eq_true rfl) ⟨Nat.le_trans (m := 140) (Nat.le_of_ble_eq_true rfl) hR.1, Nat.le_trans (m := 900) (Nat.le_of_ble_eq_true rfl) hR.2⟩ hJ (nI n) rfl ?_
  refine lv_iload_n hx hb dL_refuses_815 rfl (lv_at hl 1 rfl) ?_
  refine lv_icmp_ne (tgt := 848) hx hb dL_refuses_816 (by decide) (fun h => absurd rfl h) (fun _ => ?_)
  refine lv_aload_n hx hb dL_refuses_819 rfl (lv_at hl 0 rfl) ?_
  refine sa_pieces C gL_refuses_X3_pieces dL_refuses_820 hl.1 (Nat.le_of_ble_eq_true rfl) ⟨Nat.le_trans (m := 140) (Nat.le_of_ble_eq_true rfl) hR.1, Nat.le_trans (m := 900) (Nat.le_of_ble_eq_true rfl) hR.2⟩ hJ (nI k) rfl ?_
  refine lv_iload_n hx hb dL_refuses_823 rfl (lv_at hl 2 rfl) ?_
  refine lv_icmp_ne (tgt := 848) hx hb dL_refuses_824 (by decide) (fun h => absurd rfl h) (fun _ => ?_)
  refine lv_aload_n hx hb dL_refuses_827 rfl (lv_at hl 0 rfl) ?_
  refine sa_whole C gL_refuses_X3_whole dL_refuses_828 hl.1 (Nat.le_of_ble_eq_true rfl) ⟨Nat.le_trans (m := 140) (Nat.le_of_ble_eq_true rfl) hR.1, Nat.le_trans (m := 900) (Nat.le_of_ble_eq_true rfl) hR.2⟩ hJ (bwE (KE g n k) k) rfl (fun H locs hJ => ?_)
  refine lv_iload_n hx hb dL_refuses_831 rfl (lv_at hl 3 rfl) ?_
  refine lv_icmp_ne (tgt := 848) hx hb dL_refuses_832 (by decide) (fun h => absurd rfl h) (fun _ => ?_)
  refine lv_aload_n hx hb dL_refuses_835 rfl (lv_at hl 0 rfl) ?_
  refine sa_plain C gL_refuses_X3_plain dL_refuses_836 hl.1 (Nat.le_of_ble_eq_true rfl) ⟨Nat.le_trans (m := 140) (Nat.le_of_ble_eq_true rfl) hR.1, Nat.le_trans (m := 900) (Nat.le_of_ble_eq_true rfl) hR.2⟩ hJ (plL g n) rfl ?_
  refine lv_iload hx hb dL_refuses_839 (lv_at hl 4 rfl) ?_
  refine lv_icmp_ne (tgt := 848) hx hb dL_refuses_841 (by decide) (fun h => absurd rfl h) (fun _ => ?_)
  refine lv_iconst (v := 1) hx hb dL_refuses_844 (by decide) ?_
  refine lv_goto (tgt := 849) hx hb dL_refuses_845 (by decide) ?_
  refine W.widen (k := 140) (n := 900) (Nat.le_of_ble_eq_true rfl) (Nat.le_of_ble_eq_true rfl) ?_
  exact le_ret (post := fun r => r = 1) C hr hlocks rfl hAe hJ rfl dL_refuses_849
section SLR
variable {p : Program} {l : Launch} {e : Env} {R : Room} {s : State} {m : MethodId} {args : Array Value} {below : List Frame} {meth : Method} {c : Code} {H : Heap} {locs : List Loc} {cells slots : Nat} {Q : State → Prop} {cc : ByteArray} {nL pc : Nat} {rest st0 : List Value} {Ts : List Cond} {ls : Array Slot} {D : va_G} {cI cL cE cP : ClassId} {A : Nat → Prop} {H0 : Heap} {o0 : Nat} {g : Nat → Nat → Int32} {n k : Nat}
theorem sl_refuses (C : CJ p l R s m args c cc nL Ts D cI cL cE cP A H0) (hg : GoodIn Ts (va_wsS RL 116 yL_refuses wsL_refuses)) (hdg : decode cc pc = .ok (.invokestatic 116, 3)) (hls : ls.size = nL) (hW : (rest.map fun v => v.category).sum ≤ 8) (hf : cells + 140 ≤ R.cells ∧ slots + 900 ≤ R.slots) (hRR : 40 ≤ R.frames ∧ 3000 ≤ R.locals) (hJ : LJ D cI cL cE cP A H0 o0 g n k H locs)  
    (kk : ∀ (H1 : Heap) (locs1 : List Loc), LJ D cI cL cE cP A H0 o0 g n k H1 locs1 → W p l e R s m args below meth c H1 locs1 (cells + 140) (slots + 900) Q (F0 m (pc + 3) ls (.int (1) :: rest))) : W p l e R s m args below meth c H locs cells slots Q (F0 m pc ls (.ref o0 :: rest)) := by
  obtain ⟨hx, hb, hml, hown, hts, hE, hX, hN, hU0, hA, hfl, hR1, hR2, hO0, hO1⟩ := C
  obtain ⟨hok, h9, u0, rfl, hP, hD, hS⟩ := hJ
  have hU : zU (va_A (cw8 cI cL cE cP g n k u0) H.size) s H := (hU0.kept hS.2.1).narrow (va_A_in hD hS hA)
  exact sl_back hA hok h9 hD hS (va_runS (As := [.ref (u0.1 0)]) (rest := rest) ⟨hx, hb, hml, hown, hts⟩ (zL_refuses l hfl D cI cL cE cP g n k u0 hok h9  H.size) (va_cwS 1 hts hg rfl rfl rfl (by decide +kernel) ⟨Nat.le_trans (m := 40) (Nat.le_of_ble_eq_true rfl) hRR.1, Nat.le_trans (m := 3000) (Nat.le_of_ble_eq_true rfl) hRR.2⟩) ⟨zPy_blind, zPy_mk hE hP hD hX hU hN hO0 hO1⟩ rfl rfl hls rfl (lv_room hW) hdg hf) kk
end SLR
