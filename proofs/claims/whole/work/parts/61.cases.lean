/-! THE LAW'S CASES: from the switch's target to the end of a turn -/
def lA (s : State) : Nat → Prop := fun q => s.heap.size ≤ q
def Lin (x4 : Int32) (L : Nat) : Prop := vp_in x4 L ∧ vp_in (x4 + 1) L ∧ vp_in (x4 + 2) L ∧ vp_in (x4 + 3) L ∧ vp_in (x4 + 4) L ∧ vp_in (x4 + 5) L ∧ vp_in (x4 + 6) L
def LC (p : Program) (s : State) (m : MethodId) (meth : Method) (c : Code) (b L : Nat) (xs : Nat → Int32) (D : va_G) (cI cL cE cP : ClassId) (l : Launch) : Prop := lw_At p s m meth c b L xs ∧ zE D cI cL cE cP s ∧ zX s ∧ zN s ∧ zU (lA s) s s.heap ∧ l.stackTraces = false
def LI (D : va_G) (cI cL cE cP : ClassId) (am : Nat → Nat) (o ax : Nat) (s : State) (H : Heap) (locs : List Loc) : Prop := ∃ (g : Nat → Nat → Int32) (n k : Nat) (u : U9) (tb my lt : Nat → Int32) (th : Int32), zOk g n k ∧ zH9 g n ∧ u.1 0 = ax ∧ va_P D vwCl (mws cI am g n k tb my lt th ++ lwo cI cL cE cP o g n k u) H ∧ va_D (lA s) (mws cI am g n k tb my lt th ++ lwo cI cL cE cP o g n k u) ∧ va_S (lA s) s.heap H locs
theorem zroomL {x y : Nat} (h1 : x ≤ 601024) (h2 : y ≤ 7293034) : x ≤ room_1.cells ∧ y ≤ room_1.slots := ⟨h1, h2⟩
theorem zmaxc (a b : Int32) : (if a < b then b else a) = (if b < a then a else b) := by
  by_cases h : a < b
  · have h2 : ¬ b < a := by rw [Int32.lt_iff_toInt_lt] at h ⊢; omega
    rw [if_pos h, if_neg h2]
  · rw [if_neg h]
    by_cases h2 : b < a
    · rw [if_pos h2]
    · rw [if_neg h2]
      rw [Int32.lt_iff_toInt_lt] at h h2
      exact Int32.toInt_inj.mp (by omega)
theorem eq_givenTo {g : Nat → Nat → Int32} {n k : Nat} (hok : zOk g n k) {y : Int32} (h0 : T_amount k y = 0) (us wb : Nat → Int32) (pr le : Nat → Int64) (tb my lt : Nat → Int32) : tkE (LEO (zfl (US g k) us n) (zfl (WB g k) wb (32 * n)) pr le n) k y = gvF (BSO (zfl (WB g k) tb (32 * n)) n k (LW (zfl (WB g k) tb (32 * n)) (zfl (MY g n) my k) n k n (2 ^ k - 1)) (zfl (MY g n) my k, lt) k).1 y.toNatClampNeg n n := by
  have hk := hok.k
  have hz := (T1 h0).1
  have h := zgiven hok us wb pr le tb my lt (zex_lt (by omega) hz)
  rw [← zex_eq (by omega) hz] at h
  exact h
theorem eq_sets {g : Nat → Nat → Int32} {n k : Nat} (hok : zOk g n k) {x : Int32} (h0 : T_amount n x = 0) (us wb : Nat → Int32) (pr le : Nat → Int64) (tb my lt : Nat → Int32) : gsL (LEO (zfl (US g k) us n) (zfl (WB g k) wb (32 * n)) pr le n) k x k = stL (BSO (zfl (WB g k) tb (32 * n)) n k (LW (zfl (WB g k) tb (32 * n)) (zfl (MY g n) my k) n k n (2 ^ k - 1)) (zfl (MY g n) my k, lt) k).1 x k := by
  have hk := hok.n
  have hz := (T1 h0).1
  have h := zsets hok us wb pr le tb my lt (zex_lt (by omega) hz)
  rw [← zex_eq (by omega) hz] at h
  exact h
theorem eq_worth {g : Nat → Nat → Int32} {n k : Nat} (hok : zOk g n k) {y : Int32} (h0 : T_amount k y = 0) (us wb : Nat → Int32) (pr le : Nat → Int64) (tb my : Nat → Int32) : woE (LEO (zfl (US g k) us n) (zfl (WB g k) wb (32 * n)) pr le n) k y - bwE (LEO (zfl (US g k) us n) (zfl (WB g k) wb (32 * n)) pr le n) k = LW (zfl (WB g k) tb (32 * n)) (upd (zfl (MY g n) my k) y.toNatClampNeg 256) n k n (2 ^ k - 1) - LW (zfl (WB g k) tb (32 * n)) (zfl (MY g n) my k) n k n (2 ^ k - 1) := by
  have hk := hok.k
  have hz := (T1 h0).1
  have h := zworth hok us wb pr le tb my (zex_lt (by omega) hz)
  rw [← zex_eq (by omega) hz] at h
  rw [h, zwhole hok us wb pr le tb my]

set_option maxHeartbeats 4000000 in
set_option maxRecDepth 100000 in
theorem cs_setWeights {p : Program} {e : Env} {s : State} {m : MethodId} {below : List Frame} {meth : Method} {c : Code} {l : Launch} {b L : Nat} {xs : Nat → Int32} {D : va_G} {cI cL cE cP : ClassId} {am : Nat → Nat} {o ax : Nat} {cells slots : Nat} {Q : State → Prop} {x4 : Int32} {H : Heap} {locs : List Loc} {ls : Array Slot} (C : LC p s m meth c b L xs D cI cL cE cP l) (hin : Lin x4 L) (hc : cells ≤ 600000) (hs : slots ≤ 7000000) (hI : LI D cI cL cE cP am o ax s H locs) (hl : lv_has ls 7 [(0, .ref b), (1, .ref ax), (2, .ref (am 0)), (3, .ref o), (4, .int x4)])
    (kk : ∀ (H : Heap) (locs : List Loc) (ls : Array Slot), LI D cI cL cE cP am o ax s H locs → lv_has ls 7 [(0, .ref b), (1, .ref ax), (2, .ref (am 0)), (3, .ref o), (4, .int x4)] → W p l e room_1 s m #[Value.ref b] below meth c H locs (cells + 1) (slots + 8) Q (F0 m 1353 ls [])) : W p l e room_1 s m #[Value.ref b] below meth c H locs cells slots Q (F0 m 148 ls []) := by
  obtain ⟨⟨hx, hb, hr, hml, hown0, hts0, hX0, hbl, hlocks, hgv⟩, hE, hXx, hN, hU0, hfl⟩ := C
  have hown : s.vm.findClass RL = some m.cls := hown0
  have hts : ∀ w ∈ wsL_law, w.before #[Value.ref b] s = true := fun w h => hts0 w (wsL_law_in w h)
  have hA : ∀ q : Nat, s.heap.size ≤ q → lA s q := fun _ h => h
  have hbA : ¬ lA s b := Nat.not_le.mpr hbl
  have hK := hE.1
  obtain ⟨i0, i1, i2, i3, i4, i5, i6⟩ := hin
  obtain ⟨g, n, k, u, tb, my, lt, th, hok, h9, hu, hP, hD, hS⟩ := hI
  subst hu
  have hP : va_P D vwCl ((mws cI am g n k tb my lt th) ++ (lwo cI cL cE cP o g n k u)) H := hP
  have hD : va_D (lA s) ((mws cI am g n k tb my lt th) ++ (lwo cI cL cE cP o g n k u)) := hD
  refine lv_aload_n hx hb dL_law_148 rfl (lv_at hl 1 rfl) ?_
  refine lv_aload_n hx hb dL_law_149 rfl (lv_at hl 0 rfl) ?_
  refine lv_iload hx hb dL_law_150 (lv_at hl 4 rfl) ?_
  refine lv_iconst (v := 1) hx hb dL_law_152 (by decide) ?_
  refine lv_iadd hx hb dL_law_153 ?_
  refine va_sld hx hb hX0 hbl hbA hS i1 dL_law_154 ?_
  refine lv_topi (fun x e_x => ?_)
  refine lv_aload_n hx hb dL_law_155 rfl (lv_at hl 0 rfl) ?_
  refine lv_iload hx hb dL_law_156 (lv_at hl 4 rfl) ?_
  refine lv_iconst (v := 2) hx hb dL_law_158 (by decide) ?_
  refine lv_iadd hx hb dL_law_159 ?_
  refine va_sld hx hb hX0 hbl hbA hS i2 dL_law_160 ?_
  refine lv_topi (fun w0 e_w0 => ?_)
  refine lv_aload_n hx hb dL_law_161 rfl (lv_at hl 0 rfl) ?_
  refine lv_iload hx hb dL_law_162 (lv_at hl 4 rfl) ?_
  refine lv_iconst (v := 3) hx hb dL_law_164 (by decide) ?_
  refine lv_iadd hx hb dL_law_165 ?_
  refine va_sld hx hb hX0 hbl hbA hS i3 dL_law_166 ?_
  refine lv_topi (fun p0 e_p0 => ?_)
  refine lv_aload_n hx hb dL_law_167 rfl (lv_at hl 3 rfl) ?_
  have hPc := (zP_app (w1 := (mws cI am g n k tb my lt th)) (w2 := (lwo cI cL cE cP o g n k u)) hP).2
  have hDc := (zD_app (w1 := (mws cI am g n k tb my lt th)) (w2 := (lwo cI cL cE cP o g n k u)) hD).2.1
  have hUc : zU (va_A (lwo cI cL cE cP o g n k u) H.size) s H := (hU0.kept hS.2.1).narrow (va_A_in2 (wr := (mws cI am g n k tb my lt th)) hD hS hA)
  refine zcalliJ (wr := (mws cI am g n k tb my lt th)) (wc := (lwo cI cL cE cP o g n k u)) (vx_runSW (As := [.ref (u.1 0), .int x, .int w0, .int p0, .ref o]) (rest := []) ⟨hx, hb, hml, hown, hts⟩ (zL_setWeights l hfl D cI cL cE cP o g n k u hok x w0 p0 H.size) (vx_cwSW 5 hts gL_law_L_setWeights rfl rfl rfl (by decide +kernel) ⟨Nat.le_of_ble_eq_true rfl, Nat.le_of_ble_eq_true rfl⟩) ⟨zPy_blind, zPy_mk hE hPc hDc hXx hUc hN⟩ rfl rfl hl.1 rfl (lv_room (Nat.le_of_ble_eq_true rfl)) dL_law_168 (zroomL (by omega) (by omega))) hP hD hS hA (fun r u1 H locs hr1 hP hD hS => ?_)
  obtain ⟨hT, hR, hu1⟩ := hr1
  have hP : va_P D vwCl ((mws cI am g n k tb my lt th) ++ (lwo cI cL cE cP o (if T_setWeights x w0 p0 = 0 then gR (gR g 0 (upd (g 0) x.toNatClampNeg w0)) 1 (upd (g 1) x.toNatClampNeg p0) else g) (n) (k) u1)) H := hP
  have hD : va_D (lA s) ((mws cI am g n k tb my lt th) ++ (lwo cI cL cE cP o (if T_setWeights x w0 p0 = 0 then gR (gR g 0 (upd (g 0) x.toNatClampNeg w0)) 1 (upd (g 1) x.toNatClampNeg p0) else g) (n) (k) u1)) := hD
  refine lv_istore (lv' := [(5, .int r), (0, .ref b), (1, .ref (u.1 0)), (2, .ref (am 0)), (3, .ref o), (4, .int x4)]) hx hb dL_law_171 hl (by decide) rfl (fun ls hl => ?_)
  refine lv_aload_n hx hb dL_law_173 rfl (lv_at hl 3 rfl) ?_
  refine lv_aload_n hx hb dL_law_174 rfl (lv_at hl 1 rfl) ?_
  refine lv_iload hx hb dL_law_175 (lv_at hl 5 rfl) ?_
  refine lv_iconst (v := 1) hx hb dL_law_177 (by decide) ?_
  refine lv_iadd hx hb dL_law_178 ?_
  refine va_sld hx hb hX0 hbl hbA hS i1 dL_law_179 ?_
  refine lv_topi (fun y_ ey_ => ?_)
  obtain rfl : x = y_ := e_x.trans ey_.symm
  refine lv_aload_n hx hb dL_law_180 rfl (lv_at hl 1 rfl) ?_
  refine lv_iload hx hb dL_law_181 (lv_at hl 5 rfl) ?_
  refine lv_iconst (v := 2) hx hb dL_law_183 (by decide) ?_
  refine lv_iadd hx hb dL_law_184 ?_
  refine va_sld hx hb hX0 hbl hbA hS i2 dL_law_185 ?_
  refine lv_topi (fun y_ ey_ => ?_)
  obtain rfl : w0 = y_ := e_w0.trans ey_.symm
  refine lv_aload_n hx hb dL_law_186 rfl (lv_at hl 1 rfl) ?_
  refine lv_iload hx hb dL_law_187 (lv_at hl 5 rfl) ?_
  refine lv_iconst (v := 3) hx hb dL_law_189 (by decide) ?_
  refine lv_iadd hx hb dL_law_190 ?_
  refine va_sld hx hb hX0 hbl hbA hS i3 dL_law_191 ?_
  refine lv_topi (fun y_ ey_ => ?_)
  obtain rfl : p0 = y_ := e_p0.trans ey_.symm
  have hPm := (zP_app (w1 := (mws cI am g n k tb my lt th)) (w2 := (lwo cI cL cE cP o (if T_setWeights x w0 p0 = 0 then gR (gR g 0 (upd (g 0) x.toNatClampNeg w0)) 1 (upd (g 1) x.toNatClampNeg p0) else g) (n) (k) u1)) hP).1
  have hDm := (zD_app (w1 := (mws cI am g n k tb my lt th)) (w2 := (lwo cI cL cE cP o (if T_setWeights x w0 p0 = 0 then gR (gR g 0 (upd (g 0) x.toNatClampNeg w0)) 1 (upd (g 1) x.toNatClampNeg p0) else g) (n) (k) u1)) hD).1
  refine zcalliJ (wr := (lwo cI cL cE cP o (if T_setWeights x w0 p0 = 0 then gR (gR g 0 (upd (g 0) x.toNatClampNeg w0)) 1 (upd (g 1) x.toNatClampNeg p0) else g) (n) (k) u1)) (wc := (mws cI am g n k tb my lt th)) (va_runV (As := [.int x, .int w0, .int p0]) (rest := []) ⟨hx, hb, hml, hown, hts⟩ (zX4_setWeights l D cI cL cE cP am g n k tb my lt th hok x w0 p0 H.size) (cwV 3 hts gL_law_X4_setWeights rfl rfl rfl (by decide +kernel) ⟨Nat.le_of_ble_eq_true rfl, Nat.le_of_ble_eq_true rfl⟩) ⟨zPw_blind, va_recv hK hPm (ci := 4) (q0 := 0) rfl mws_0, zPw_mk hE hPm hDm⟩ rfl rfl hl.1 rfl (lv_room (Nat.le_of_ble_eq_true rfl)) dL_law_192 (zroomL (by omega) (by omega))) (zP_swap hP) (zD_swap hD) hS hA (fun rb um H locs hrb hP hD hS => ?_)
  have hP : va_P D vwCl ((mws cI am (if T_setWeights x w0 p0 = 0 then gR (gR g 0 (upd (g 0) x.toNatClampNeg w0)) 1 (upd (g 1) x.toNatClampNeg p0) else g) (n) (k) tb my lt (T_setWeights x w0 p0)) ++ (lwo cI cL cE cP o (if T_setWeights x w0 p0 = 0 then gR (gR g 0 (upd (g 0) x.toNatClampNeg w0)) 1 (upd (g 1) x.toNatClampNeg p0) else g) (n) (k) u1)) H := zP_swap hP
  have hD : va_D (lA s) ((mws cI am (if T_setWeights x w0 p0 = 0 then gR (gR g 0 (upd (g 0) x.toNatClampNeg w0)) 1 (upd (g 1) x.toNatClampNeg p0) else g) (n) (k) tb my lt (T_setWeights x w0 p0)) ++ (lwo cI cL cE cP o (if T_setWeights x w0 p0 = 0 then gR (gR g 0 (upd (g 0) x.toNatClampNeg w0)) 1 (upd (g 1) x.toNatClampNeg p0) else g) (n) (k) u1)) := zD_swap hD
  have hrb : T_setWeights x w0 p0 = 0 → rb = _ := hrb
  refine lv_istore (lv' := [(6, .int rb), (5, .int r), (0, .ref b), (1, .ref (u.1 0)), (2, .ref (am 0)), (3, .ref o), (4, .int x4)]) hx hb dL_law_195 hl (by decide) rfl (fun ls hl => ?_)
  obtain ⟨hok1, h91⟩ := iv hok h9 (ok_setWeights hok) (fun _ => h9)
  have hok1 : zOk (if T_setWeights x w0 p0 = 0 then gR (gR g 0 (upd (g 0) x.toNatClampNeg w0)) 1 (upd (g 1) x.toNatClampNeg p0) else g) (n) (k) := hok1
  have h91 : zH9 (if T_setWeights x w0 p0 = 0 then gR (gR g 0 (upd (g 0) x.toNatClampNeg w0)) 1 (upd (g 1) x.toNatClampNeg p0) else g) (n) := h91
  have hPm := (zP_app (w1 := (mws cI am (if T_setWeights x w0 p0 = 0 then gR (gR g 0 (upd (g 0) x.toNatClampNeg w0)) 1 (upd (g 1) x.toNatClampNeg p0) else g) (n) (k) tb my lt (T_setWeights x w0 p0))) (w2 := (lwo cI cL cE cP o (if T_setWeights x w0 p0 = 0 then gR (gR g 0 (upd (g 0) x.toNatClampNeg w0)) 1 (upd (g 1) x.toNatClampNeg p0) else g) (n) (k) u1)) hP).1
  refine lv_aload_n hx hb dL_law_197 rfl (lv_at hl 4 rfl) ?_
  refine vp_callSi (va_Run.run (va_runV (As := []) (rest := []) ⟨hx, hb, hml, hown, hts⟩ (zX4_thrown l D cI cL cE cP am (if T_setWeights x w0 p0 = 0 then gR (gR g 0 (upd (g 0) x.toNatClampNeg w0)) 1 (upd (g 1) x.toNatClampNeg p0) else g) (n) (k) tb my lt (T_setWeights x w0 p0) hok1) (cwV 0 hts gL_law_X4_thrown rfl rfl rfl (by decide +kernel) ⟨Nat.le_of_ble_eq_true rfl, Nat.le_of_ble_eq_true rfl⟩) ⟨zPr_blind, va_recv hK hPm (ci := 4) (q0 := 0) rfl mws_0, zPr_mk hE hPm⟩ rfl rfl hl.1 rfl (lv_room (Nat.le_of_ble_eq_true rfl)) dL_law_198 (zroomL (by omega) (by omega)))) (fun rt et => ?_)
  refine lv_iload hx hb dL_law_201 (lv_at hl 1 rfl) ?_
  refine lv_icmp_eq (tgt := 208) hx hb dL_law_203 (by decide) (fun _ => ?_) (fun c9 => absurd (et.trans hT.symm) c9)
  refine W.widen (k := cells + 1) (n := slots + 8) (by omega) (by omega) ?_
  refine lv_iload hx hb dL_law_208 (lv_at hl 1 rfl) ?_
  refine lv_if_ne (tgt := 225) hx hb dL_law_210 (by decide) (fun _ => ?_) (fun c8 => ?_)
  · refine lv_goto (tgt := 1353) hx hb dL_law_225 (by decide) ?_
    exact kk _ _ _ ⟨_, _, _, u1, _, _, _, _, hok1, h91, hu1, hP, hD, hS⟩ (lv_sub hl [2, 3, 4, 5, 6] rfl)
  · have h0 : T_setWeights x w0 p0 = 0 := hT.symm.trans c8
    refine lv_aload_n hx hb dL_law_213 rfl (lv_at hl 5 rfl) ?_
    refine lv_iconst (v := 0) hx hb dL_law_214 (by decide) ?_
    have hPl := (zP_app (w1 := (mws cI am (if T_setWeights x w0 p0 = 0 then gR (gR g 0 (upd (g 0) x.toNatClampNeg w0)) 1 (upd (g 1) x.toNatClampNeg p0) else g) (n) (k) tb my lt (T_setWeights x w0 p0))) (w2 := (lwo cI cL cE cP o (if T_setWeights x w0 p0 = 0 then gR (gR g 0 (upd (g 0) x.toNatClampNeg w0)) 1 (upd (g 1) x.toNatClampNeg p0) else g) (n) (k) u1)) hP).2
    refine zlald (v := u_o u1 0) hx hb hK hPl 0 1 lwo_0 rfl (by unfold vp_in; decide) rfl dL_law_215 ?_
    refine lv_iload hx hb dL_law_216 (lv_at hl 0 rfl) ?_
    refine lv_i2l hx hb dL_law_218 rfl ?_
    refine W.lcmp hx hb dL_law_219 ?_
    refine lv_if_eq (tgt := 225) hx hb dL_law_220 (by decide) (fun _ => ?_) (fun c9 => absurd ((lg_cmp_eq _ _).mpr ((hR h0).trans (congrArg Int32.toInt64 ((hrb h0).symm)))) c9)
    refine lv_goto (tgt := 1353) hx hb dL_law_225 (by decide) ?_
    exact kk _ _ _ ⟨_, _, _, u1, _, _, _, _, hok1, h91, hu1, hP, hD, hS⟩ (lv_sub hl [2, 3, 4, 5, 6] rfl)

set_option maxHeartbeats 4000000 in
set_option maxRecDepth 100000 in
theorem cs_setFloor {p : Program} {e : Env} {s : State} {m : MethodId} {below : List Frame} {meth : Method} {c : Code} {l : Launch} {b L : Nat} {xs : Nat → Int32} {D : va_G} {cI cL cE cP : ClassId} {am : Nat → Nat} {o ax : Nat} {cells slots : Nat} {Q : State → Prop} {x4 : Int32} {H : Heap} {locs : List Loc} {ls : Array Slot} (C : LC p s m meth c b L xs D cI cL cE cP l) (hin : Lin x4 L) (hc : cells ≤ 600000) (hs : slots ≤ 7000000) (hI : LI D cI cL cE cP am o ax s H locs) (hl : lv_has ls 7 [(0, .ref b), (1, .ref ax), (2, .ref (am 0)), (3, .ref o), (4, .int x4)])
    (kk : ∀ (H : Heap) (locs : List Loc) (ls : Array Slot), LI D cI cL cE cP am o ax s H locs → lv_has ls 7 [(0, .ref b), (1, .ref ax), (2, .ref (am 0)), (3, .ref o), (4, .int x4)] → W p l e room_1 s m #[Value.ref b] below meth c H locs (cells + 1) (slots + 8) Q (F0 m 1353 ls [])) : W p l e room_1 s m #[Value.ref b] below meth c H locs cells slots Q (F0 m 228 ls []) := by
  obtain ⟨⟨hx, hb, hr, hml, hown0, hts0, hX0, hbl, hlocks, hgv⟩, hE, hXx, hN, hU0, hfl⟩ := C
  have hown : s.vm.findClass RL = some m.cls := hown0
  have hts : ∀ w ∈ wsL_law, w.before #[Value.ref b] s = true := fun w h => hts0 w (wsL_law_in w h)
  have hA : ∀ q : Nat, s.heap.size ≤ q → lA s q := fun _ h => h
  have hbA : ¬ lA s b := Nat.not_le.mpr hbl
  have hK := hE.1
  obtain ⟨i0, i1, i2, i3, i4, i5, i6⟩ := hin
  obtain ⟨g, n, k, u, tb, my, lt, th, hok, h9, hu, hP, hD, hS⟩ := hI
  subst hu
  have hP : va_P D vwCl ((mws cI am g n k tb my lt th) ++ (lwo cI cL cE cP o g n k u)) H := hP
  have hD : va_D (lA s) ((mws cI am g n k tb my lt th) ++ (lwo cI cL cE cP o g n k u)) := hD
  refine lv_aload_n hx hb dL_law_228 rfl (lv_at hl 1 rfl) ?_
  refine lv_aload_n hx hb dL_law_229 rfl (lv_at hl 0 rfl) ?_
  refine lv_iload hx hb dL_law_230 (lv_at hl 4 rfl) ?_
  refine lv_iconst (v := 1) hx hb dL_law_232 (by decide) ?_
  refine lv_iadd hx hb dL_law_233 ?_
  refine va_sld hx hb hX0 hbl hbA hS i1 dL_law_234 ?_
  refine lv_topi (fun x e_x => ?_)
  refine lv_aload_n hx hb dL_law_235 rfl (lv_at hl 3 rfl) ?_
  have hPc := (zP_app (w1 := (mws cI am g n k tb my lt th)) (w2 := (lwo cI cL cE cP o g n k u)) hP).2
  have hDc := (zD_app (w1 := (mws cI am g n k tb my lt th)) (w2 := (lwo cI cL cE cP o g n k u)) hD).2.1
  have hUc : zU (va_A (lwo cI cL cE cP o g n k u) H.size) s H := (hU0.kept hS.2.1).narrow (va_A_in2 (wr := (mws cI am g n k tb my lt th)) hD hS hA)
  refine zcalliJ (wr := (mws cI am g n k tb my lt th)) (wc := (lwo cI cL cE cP o g n k u)) (vx_runSW (As := [.ref (u.1 0), .int x, .ref o]) (rest := []) ⟨hx, hb, hml, hown, hts⟩ (zL_setFloor l hfl D cI cL cE cP o g n k u hok x H.size) (vx_cwSW 3 hts gL_law_L_setFloor rfl rfl rfl (by decide +kernel) ⟨Nat.le_of_ble_eq_true rfl, Nat.le_of_ble_eq_true rfl⟩) ⟨zPy_blind, zPy_mk hE hPc hDc hXx hUc hN⟩ rfl rfl hl.1 rfl (lv_room (Nat.le_of_ble_eq_true rfl)) dL_law_236 (zroomL (by omega) (by omega))) hP hD hS hA (fun r u1 H locs hr1 hP hD hS => ?_)
  obtain ⟨hT, hR, hu1⟩ := hr1
  have hP : va_P D vwCl ((mws cI am g n k tb my lt th) ++ (lwo cI cL cE cP o (if T_setFloor x = 0 then gR g 2 (upd (g 2) 0 x) else g) (n) (k) u1)) H := hP
  have hD : va_D (lA s) ((mws cI am g n k tb my lt th) ++ (lwo cI cL cE cP o (if T_setFloor x = 0 then gR g 2 (upd (g 2) 0 x) else g) (n) (k) u1)) := hD
  refine lv_istore (lv' := [(5, .int r), (0, .ref b), (1, .ref (u.1 0)), (2, .ref (am 0)), (3, .ref o), (4, .int x4)]) hx hb dL_law_239 hl (by decide) rfl (fun ls hl => ?_)
  refine lv_aload_n hx hb dL_law_241 rfl (lv_at hl 3 rfl) ?_
  refine lv_aload_n hx hb dL_law_242 rfl (lv_at hl 1 rfl) ?_
  refine lv_iload hx hb dL_law_243 (lv_at hl 5 rfl) ?_
  refine lv_iconst (v := 1) hx hb dL_law_245 (by decide) ?_
  refine lv_iadd hx hb dL_law_246 ?_
  refine va_sld hx hb hX0 hbl hbA hS i1 dL_law_247 ?_
  refine lv_topi (fun y_ ey_ => ?_)
  obtain rfl : x = y_ := e_x.trans ey_.symm
  have hPm := (zP_app (w1 := (mws cI am g n k tb my lt th)) (w2 := (lwo cI cL cE cP o (if T_setFloor x = 0 then gR g 2 (upd (g 2) 0 x) else g) (n) (k) u1)) hP).1
  have hDm := (zD_app (w1 := (mws cI am g n k tb my lt th)) (w2 := (lwo cI cL cE cP o (if T_setFloor x = 0 then gR g 2 (upd (g 2) 0 x) else g) (n) (k) u1)) hD).1
  refine zcalliJ (wr := (lwo cI cL cE cP o (if T_setFloor x = 0 then gR g 2 (upd (g 2) 0 x) else g) (n) (k) u1)) (wc := (mws cI am g n k tb my lt th)) (va_runV (As := [.int x]) (rest := []) ⟨hx, hb, hml, hown, hts⟩ (zX4_setFloor l D cI cL cE cP am g n k tb my lt th hok x H.size) (cwV 1 hts gL_law_X4_setFloor rfl rfl rfl (by decide +kernel) ⟨Nat.le_of_ble_eq_true rfl, Nat.le_of_ble_eq_true rfl⟩) ⟨zPw_blind, va_recv hK hPm (ci := 4) (q0 := 0) rfl mws_0, zPw_mk hE hPm hDm⟩ rfl rfl hl.1 rfl (lv_room (Nat.le_of_ble_eq_true rfl)) dL_law_248 (zroomL (by omega) (by omega))) (zP_swap hP) (zD_swap hD) hS hA (fun rb um H locs hrb hP hD hS => ?_)
  have hP : va_P D vwCl ((mws cI am (if T_setFloor x = 0 then gR g 2 (upd (g 2) 0 x) else g) (n) (k) tb my lt (T_setFloor x)) ++ (lwo cI cL cE cP o (if T_setFloor x = 0 then gR g 2 (upd (g 2) 0 x) else g) (n) (k) u1)) H := zP_swap hP
  have hD : va_D (lA s) ((mws cI am (if T_setFloor x = 0 then gR g 2 (upd (g 2) 0 x) else g) (n) (k) tb my lt (T_setFloor x)) ++ (lwo cI cL cE cP o (if T_setFloor x = 0 then gR g 2 (upd (g 2) 0 x) else g) (n) (k) u1)) := zD_swap hD
  have hrb : T_setFloor x = 0 → rb = _ := hrb
  refine lv_istore (lv' := [(6, .int rb), (5, .int r), (0, .ref b), (1, .ref (u.1 0)), (2, .ref (am 0)), (3, .ref o), (4, .int x4)]) hx hb dL_law_251 hl (by decide) rfl (fun ls hl => ?_)
  obtain ⟨hok1, h91⟩ := iv hok h9 (ok_setFloor hok) (fun _ => h9)
  have hok1 : zOk (if T_setFloor x = 0 then gR g 2 (upd (g 2) 0 x) else g) (n) (k) := hok1
  have h91 : zH9 (if T_setFloor x = 0 then gR g 2 (upd (g 2) 0 x) else g) (n) := h91
  have hPm := (zP_app (w1 := (mws cI am (if T_setFloor x = 0 then gR g 2 (upd (g 2) 0 x) else g) (n) (k) tb my lt (T_setFloor x))) (w2 := (lwo cI cL cE cP o (if T_setFloor x = 0 then gR g 2 (upd (g 2) 0 x) else g) (n) (k) u1)) hP).1
  refine lv_aload_n hx hb dL_law_253 rfl (lv_at hl 4 rfl) ?_
  refine vp_callSi (va_Run.run (va_runV (As := []) (rest := []) ⟨hx, hb, hml, hown, hts⟩ (zX4_thrown l D cI cL cE cP am (if T_setFloor x = 0 then gR g 2 (upd (g 2) 0 x) else g) (n) (k) tb my lt (T_setFloor x) hok1) (cwV 0 hts gL_law_X4_thrown rfl rfl rfl (by decide +kernel) ⟨Nat.le_of_ble_eq_true rfl, Nat.le_of_ble_eq_true rfl⟩) ⟨zPr_blind, va_recv hK hPm (ci := 4) (q0 := 0) rfl mws_0, zPr_mk hE hPm⟩ rfl rfl hl.1 rfl (lv_room (Nat.le_of_ble_eq_true rfl)) dL_law_254 (zroomL (by omega) (by omega)))) (fun rt et => ?_)
  refine lv_iload hx hb dL_law_257 (lv_at hl 1 rfl) ?_
  refine lv_icmp_eq (tgt := 264) hx hb dL_law_259 (by decide) (fun _ => ?_) (fun c9 => absurd (et.trans hT.symm) c9)
  refine W.widen (k := cells + 1) (n := slots + 8) (by omega) (by omega) ?_
  refine lv_iload hx hb dL_law_264 (lv_at hl 1 rfl) ?_
  refine lv_if_ne (tgt := 281) hx hb dL_law_266 (by decide) (fun _ => ?_) (fun c8 => ?_)
  · refine lv_goto (tgt := 1353) hx hb dL_law_281 (by decide) ?_
    exact kk _ _ _ ⟨_, _, _, u1, _, _, _, _, hok1, h91, hu1, hP, hD, hS⟩ (lv_sub hl [2, 3, 4, 5, 6] rfl)
  · have h0 : T_setFloor x = 0 := hT.symm.trans c8
    refine lv_aload_n hx hb dL_law_269 rfl (lv_at hl 5 rfl) ?_
    refine lv_iconst (v := 0) hx hb dL_law_270 (by decide) ?_
    have hPl := (zP_app (w1 := (mws cI am (if T_setFloor x = 0 then gR g 2 (upd (g 2) 0 x) else g) (n) (k) tb my lt (T_setFloor x))) (w2 := (lwo cI cL cE cP o (if T_setFloor x = 0 then gR g 2 (upd (g 2) 0 x) else g) (n) (k) u1)) hP).2
    refine zlald (v := u_o u1 0) hx hb hK hPl 0 1 lwo_0 rfl (by unfold vp_in; decide) rfl dL_law_271 ?_
    refine lv_iload hx hb dL_law_272 (lv_at hl 0 rfl) ?_
    refine lv_i2l hx hb dL_law_274 rfl ?_
    refine W.lcmp hx hb dL_law_275 ?_
    refine lv_if_eq (tgt := 281) hx hb dL_law_276 (by decide) (fun _ => ?_) (fun c9 => absurd ((lg_cmp_eq _ _).mpr ((hR h0).trans (congrArg Int32.toInt64 ((hrb h0).symm)))) c9)
    refine lv_goto (tgt := 1353) hx hb dL_law_281 (by decide) ?_
    exact kk _ _ _ ⟨_, _, _, u1, _, _, _, _, hok1, h91, hu1, hP, hD, hS⟩ (lv_sub hl [2, 3, 4, 5, 6] rfl)

set_option maxHeartbeats 4000000 in
set_option maxRecDepth 100000 in
theorem cs_setCapital {p : Program} {e : Env} {s : State} {m : MethodId} {below : List Frame} {meth : Method} {c : Code} {l : Launch} {b L : Nat} {xs : Nat → Int32} {D : va_G} {cI cL cE cP : ClassId} {am : Nat → Nat} {o ax : Nat} {cells slots : Nat} {Q : State → Prop} {x4 : Int32} {H : Heap} {locs : List Loc} {ls : Array Slot} (C : LC p s m meth c b L xs D cI cL cE cP l) (hin : Lin x4 L) (hc : cells ≤ 600000) (hs : slots ≤ 7000000) (hI : LI D cI cL cE cP am o ax s H locs) (hl : lv_has ls 7 [(0, .ref b), (1, .ref ax), (2, .ref (am 0)), (3, .ref o), (4, .int x4)])
    (kk : ∀ (H : Heap) (locs : List Loc) (ls : Array Slot), LI D cI cL cE cP am o ax s H locs → lv_has ls 7 [(0, .ref b), (1, .ref ax), (2, .ref (am 0)), (3, .ref o), (4, .int x4)] → W p l e room_1 s m #[Value.ref b] below meth c H locs (cells + 1) (slots + 8) Q (F0 m 1353 ls [])) : W p l e room_1 s m #[Value.ref b] below meth c H locs cells slots Q (F0 m 284 ls []) := by
  obtain ⟨⟨hx, hb, hr, hml, hown0, hts0, hX0, hbl, hlocks, hgv⟩, hE, hXx, hN, hU0, hfl⟩ := C
  have hown : s.vm.findClass RL = some m.cls := hown0
  have hts : ∀ w ∈ wsL_law, w.before #[Value.ref b] s = true := fun w h => hts0 w (wsL_law_in w h)
  have hA : ∀ q : Nat, s.heap.size ≤ q → lA s q := fun _ h => h
  have hbA : ¬ lA s b := Nat.not_le.mpr hbl
  have hK := hE.1
  obtain ⟨i0, i1, i2, i3, i4, i5, i6⟩ := hin
  obtain ⟨g, n, k, u, tb, my, lt, th, hok, h9, hu, hP, hD, hS⟩ := hI
  subst hu
  have hP : va_P D vwCl ((mws cI am g n k tb my lt th) ++ (lwo cI cL cE cP o g n k u)) H := hP
  have hD : va_D (lA s) ((mws cI am g n k tb my lt th) ++ (lwo cI cL cE cP o g n k u)) := hD
  refine lv_aload_n hx hb dL_law_284 rfl (lv_at hl 1 rfl) ?_
  refine lv_aload_n hx hb dL_law_285 rfl (lv_at hl 0 rfl) ?_
  refine lv_iload hx hb dL_law_286 (lv_at hl 4 rfl) ?_
  refine lv_iconst (v := 1) hx hb dL_law_288 (by decide) ?_
  refine lv_iadd hx hb dL_law_289 ?_
  refine va_sld hx hb hX0 hbl hbA hS i1 dL_law_290 ?_
  refine lv_topi (fun x e_x => ?_)
  refine lv_aload_n hx hb dL_law_291 rfl (lv_at hl 3 rfl) ?_
  have hPc := (zP_app (w1 := (mws cI am g n k tb my lt th)) (w2 := (lwo cI cL cE cP o g n k u)) hP).2
  have hDc := (zD_app (w1 := (mws cI am g n k tb my lt th)) (w2 := (lwo cI cL cE cP o g n k u)) hD).2.1
  have hUc : zU (va_A (lwo cI cL cE cP o g n k u) H.size) s H := (hU0.kept hS.2.1).narrow (va_A_in2 (wr := (mws cI am g n k tb my lt th)) hD hS hA)
  refine zcalliJ (wr := (mws cI am g n k tb my lt th)) (wc := (lwo cI cL cE cP o g n k u)) (vx_runSW (As := [.ref (u.1 0), .int x, .ref o]) (rest := []) ⟨hx, hb, hml, hown, hts⟩ (zL_setCapital l hfl D cI cL cE cP o g n k u hok x H.size) (vx_cwSW 3 hts gL_law_L_setCapital rfl rfl rfl (by decide +kernel) ⟨Nat.le_of_ble_eq_true rfl, Nat.le_of_ble_eq_true rfl⟩) ⟨zPy_blind, zPy_mk hE hPc hDc hXx hUc hN⟩ rfl rfl hl.1 rfl (lv_room (Nat.le_of_ble_eq_true rfl)) dL_law_292 (zroomL (by omega) (by omega))) hP hD hS hA (fun r u1 H locs hr1 hP hD hS => ?_)
  obtain ⟨hT, hR, hu1⟩ := hr1
  have hP : va_P D vwCl ((mws cI am g n k tb my lt th) ++ (lwo cI cL cE cP o (if T_setCapital x = 0 then gR g 2 (upd (g 2) 1 x) else g) (n) (k) u1)) H := hP
  have hD : va_D (lA s) ((mws cI am g n k tb my lt th) ++ (lwo cI cL cE cP o (if T_setCapital x = 0 then gR g 2 (upd (g 2) 1 x) else g) (n) (k) u1)) := hD
  refine lv_istore (lv' := [(5, .int r), (0, .ref b), (1, .ref (u.1 0)), (2, .ref (am 0)), (3, .ref o), (4, .int x4)]) hx hb dL_law_295 hl (by decide) rfl (fun ls hl => ?_)
  refine lv_aload_n hx hb dL_law_297 rfl (lv_at hl 3 rfl) ?_
  refine lv_aload_n hx hb dL_law_298 rfl (lv_at hl 1 rfl) ?_
  refine lv_iload hx hb dL_law_299 (lv_at hl 5 rfl) ?_
  refine lv_iconst (v := 1) hx hb dL_law_301 (by decide) ?_
  refine lv_iadd hx hb dL_law_302 ?_
  refine va_sld hx hb hX0 hbl hbA hS i1 dL_law_303 ?_
  refine lv_topi (fun y_ ey_ => ?_)
  obtain rfl : x = y_ := e_x.trans ey_.symm
  have hPm := (zP_app (w1 := (mws cI am g n k tb my lt th)) (w2 := (lwo cI cL cE cP o (if T_setCapital x = 0 then gR g 2 (upd (g 2) 1 x) else g) (n) (k) u1)) hP).1
  have hDm := (zD_app (w1 := (mws cI am g n k tb my lt th)) (w2 := (lwo cI cL cE cP o (if T_setCapital x = 0 then gR g 2 (upd (g 2) 1 x) else g) (n) (k) u1)) hD).1
  refine zcalliJ (wr := (lwo cI cL cE cP o (if T_setCapital x = 0 then gR g 2 (upd (g 2) 1 x) else g) (n) (k) u1)) (wc := (mws cI am g n k tb my lt th)) (va_runV (As := [.int x]) (rest := []) ⟨hx, hb, hml, hown, hts⟩ (zX4_setCapital l D cI cL cE cP am g n k tb my lt th hok x H.size) (cwV 1 hts gL_law_X4_setCapital rfl rfl rfl (by decide +kernel) ⟨Nat.le_of_ble_eq_true rfl, Nat.le_of_ble_eq_true rfl⟩) ⟨zPw_blind, va_recv hK hPm (ci := 4) (q0 := 0) rfl mws_0, zPw_mk hE hPm hDm⟩ rfl rfl hl.1 rfl (lv_room (Nat.le_of_ble_eq_true rfl)) dL_law_304 (zroomL (by omega) (by omega))) (zP_swap hP) (zD_swap hD) hS hA (fun rb um H locs hrb hP hD hS => ?_)
  have hP : va_P D vwCl ((mws cI am (if T_setCapital x = 0 then gR g 2 (upd (g 2) 1 x) else g) (n) (k) tb my lt (T_setCapital x)) ++ (lwo cI cL cE cP o (if T_setCapital x = 0 then gR g 2 (upd (g 2) 1 x) else g) (n) (k) u1)) H := zP_swap hP
  have hD : va_D (lA s) ((mws cI am (if T_setCapital x = 0 then gR g 2 (upd (g 2) 1 x) else g) (n) (k) tb my lt (T_setCapital x)) ++ (lwo cI cL cE cP o (if T_setCapital x = 0 then gR g 2 (upd (g 2) 1 x) else g) (n) (k) u1)) := zD_swap hD
  have hrb : T_setCapital x = 0 → rb = _ := hrb
  refine lv_istore (lv' := [(6, .int rb), (5, .int r), (0, .ref b), (1, .ref (u.1 0)), (2, .ref (am 0)), (3, .ref o), (4, .int x4)]) hx hb dL_law_307 hl (by decide) rfl (fun ls hl => ?_)
  obtain ⟨hok1, h91⟩ := iv hok h9 (ok_setCapital hok) (fun _ => h9)
  have hok1 : zOk (if T_setCapital x = 0 then gR g 2 (upd (g 2) 1 x) else g) (n) (k) := hok1
  have h91 : zH9 (if T_setCapital x = 0 then gR g 2 (upd (g 2) 1 x) else g) (n) := h91
  have hPm := (zP_app (w1 := (mws cI am (if T_setCapital x = 0 then gR g 2 (upd (g 2) 1 x) else g) (n) (k) tb my lt (T_setCapital x))) (w2 := (lwo cI cL cE cP o (if T_setCapital x = 0 then gR g 2 (upd (g 2) 1 x) else g) (n) (k) u1)) hP).1
  refine lv_aload_n hx hb dL_law_309 rfl (lv_at hl 4 rfl) ?_
  refine vp_callSi (va_Run.run (va_runV (As := []) (rest := []) ⟨hx, hb, hml, hown, hts⟩ (zX4_thrown l D cI cL cE cP am (if T_setCapital x = 0 then gR g 2 (upd (g 2) 1 x) else g) (n) (k) tb my lt (T_setCapital x) hok1) (cwV 0 hts gL_law_X4_thrown rfl rfl rfl (by decide +kernel) ⟨Nat.le_of_ble_eq_true rfl, Nat.le_of_ble_eq_true rfl⟩) ⟨zPr_blind, va_recv hK hPm (ci := 4) (q0 := 0) rfl mws_0, zPr_mk hE hPm⟩ rfl rfl hl.1 rfl (lv_room (Nat.le_of_ble_eq_true rfl)) dL_law_310 (zroomL (by omega) (by omega)))) (fun rt et => ?_)
  refine lv_iload hx hb dL_law_313 (lv_at hl 1 rfl) ?_
  refine lv_icmp_eq (tgt := 320) hx hb dL_law_315 (by decide) (fun _ => ?_) (fun c9 => absurd (et.trans hT.symm) c9)
  refine W.widen (k := cells + 1) (n := slots + 8) (by omega) (by omega) ?_
  refine lv_iload hx hb dL_law_320 (lv_at hl 1 rfl) ?_
  refine lv_if_ne (tgt := 337) hx hb dL_law_322 (by decide) (fun _ => ?_) (fun c8 => ?_)
  · refine lv_goto (tgt := 1353) hx hb dL_law_337 (by decide) ?_
    exact kk _ _ _ ⟨_, _, _, u1, _, _, _, _, hok1, h91, hu1, hP, hD, hS⟩ (lv_sub hl [2, 3, 4, 5, 6] rfl)
  · have h0 : T_setCapital x = 0 := hT.symm.trans c8
    refine lv_aload_n hx hb dL_law_325 rfl (lv_at hl 5 rfl) ?_
    refine lv_iconst (v := 0) hx hb dL_law_326 (by decide) ?_
    have hPl := (zP_app (w1 := (mws cI am (if T_setCapital x = 0 then gR g 2 (upd (g 2) 1 x) else g) (n) (k) tb my lt (T_setCapital x))) (w2 := (lwo cI cL cE cP o (if T_setCapital x = 0 then gR g 2 (upd (g 2) 1 x) else g) (n) (k) u1)) hP).2
    refine zlald (v := u_o u1 0) hx hb hK hPl 0 1 lwo_0 rfl (by unfold vp_in; decide) rfl dL_law_327 ?_
    refine lv_iload hx hb dL_law_328 (lv_at hl 0 rfl) ?_
    refine lv_i2l hx hb dL_law_330 rfl ?_
    refine W.lcmp hx hb dL_law_331 ?_
    refine lv_if_eq (tgt := 337) hx hb dL_law_332 (by decide) (fun _ => ?_) (fun c9 => absurd ((lg_cmp_eq _ _).mpr ((hR h0).trans (congrArg Int32.toInt64 ((hrb h0).symm)))) c9)
    refine lv_goto (tgt := 1353) hx hb dL_law_337 (by decide) ?_
    exact kk _ _ _ ⟨_, _, _, u1, _, _, _, _, hok1, h91, hu1, hP, hD, hS⟩ (lv_sub hl [2, 3, 4, 5, 6] rfl)

set_option maxHeartbeats 4000000 in
set_option maxRecDepth 100000 in
theorem cs_addExposure {p : Program} {e : Env} {s : State} {m : MethodId} {below : List Frame} {meth : Method} {c : Code} {l : Launch} {b L : Nat} {xs : Nat → Int32} {D : va_G} {cI cL cE cP : ClassId} {am : Nat → Nat} {o ax : Nat} {cells slots : Nat} {Q : State → Prop} {x4 : Int32} {H : Heap} {locs : List Loc} {ls : Array Slot} (C : LC p s m meth c b L xs D cI cL cE cP l) (hin : Lin x4 L) (hc : cells ≤ 600000) (hs : slots ≤ 7000000) (hI : LI D cI cL cE cP am o ax s H locs) (hl : lv_has ls 7 [(0, .ref b), (1, .ref ax), (2, .ref (am 0)), (3, .ref o), (4, .int x4)])
    (kk : ∀ (H : Heap) (locs : List Loc) (ls : Array Slot), LI D cI cL cE cP am o ax s H locs → lv_has ls 7 [(0, .ref b), (1, .ref ax), (2, .ref (am 0)), (3, .ref o), (4, .int x4)] → W p l e room_1 s m #[Value.ref b] below meth c H locs (cells + 1) (slots + 8) Q (F0 m 1353 ls [])) : W p l e room_1 s m #[Value.ref b] below meth c H locs cells slots Q (F0 m 340 ls []) := by
  obtain ⟨⟨hx, hb, hr, hml, hown0, hts0, hX0, hbl, hlocks, hgv⟩, hE, hXx, hN, hU0, hfl⟩ := C
  have hown : s.vm.findClass RL = some m.cls := hown0
  have hts : ∀ w ∈ wsL_law, w.before #[Value.ref b] s = true := fun w h => hts0 w (wsL_law_in w h)
  have hA : ∀ q : Nat, s.heap.size ≤ q → lA s q := fun _ h => h
  have hbA : ¬ lA s b := Nat.not_le.mpr hbl
  have hK := hE.1
  obtain ⟨i0, i1, i2, i3, i4, i5, i6⟩ := hin
  obtain ⟨g, n, k, u, tb, my, lt, th, hok, h9, hu, hP, hD, hS⟩ := hI
  subst hu
  have hP : va_P D vwCl ((mws cI am g n k tb my lt th) ++ (lwo cI cL cE cP o g n k u)) H := hP
  have hD : va_D (lA s) ((mws cI am g n k tb my lt th) ++ (lwo cI cL cE cP o g n k u)) := hD
  refine lv_aload_n hx hb dL_law_340 rfl (lv_at hl 1 rfl) ?_
  refine lv_aload_n hx hb dL_law_341 rfl (lv_at hl 0 rfl) ?_
  refine lv_iload hx hb dL_law_342 (lv_at hl 4 rfl) ?_
  refine lv_iconst (v := 1) hx hb dL_law_344 (by decide) ?_
  refine lv_iadd hx hb dL_law_345 ?_
  refine va_sld hx hb hX0 hbl hbA hS i1 dL_law_346 ?_
  refine lv_topi (fun a0 e_a0 => ?_)
  refine lv_aload_n hx hb dL_law_347 rfl (lv_at hl 0 rfl) ?_
  refine lv_iload hx hb dL_law_348 (lv_at hl 4 rfl) ?_
  refine lv_iconst (v := 2) hx hb dL_law_350 (by decide) ?_
  refine lv_iadd hx hb dL_law_351 ?_
  refine va_sld hx hb hX0 hbl hbA hS i2 dL_law_352 ?_
  refine lv_topi (fun a1 e_a1 => ?_)
  refine lv_aload_n hx hb dL_law_353 rfl (lv_at hl 0 rfl) ?_
  refine lv_iload hx hb dL_law_354 (lv_at hl 4 rfl) ?_
  refine lv_iconst (v := 3) hx hb dL_law_356 (by decide) ?_
  refine lv_iadd hx hb dL_law_357 ?_
  refine va_sld hx hb hX0 hbl hbA hS i3 dL_law_358 ?_
  refine lv_topi (fun a2 e_a2 => ?_)
  refine lv_aload_n hx hb dL_law_359 rfl (lv_at hl 0 rfl) ?_
  refine lv_iload hx hb dL_law_360 (lv_at hl 4 rfl) ?_
  refine lv_iconst (v := 4) hx hb dL_law_362 (by decide) ?_
  refine lv_iadd hx hb dL_law_363 ?_
  refine va_sld hx hb hX0 hbl hbA hS i4 dL_law_364 ?_
  refine lv_topi (fun a3 e_a3 => ?_)
  refine lv_aload_n hx hb dL_law_365 rfl (lv_at hl 0 rfl) ?_
  refine lv_iload hx hb dL_law_366 (lv_at hl 4 rfl) ?_
  refine lv_iconst (v := 5) hx hb dL_law_368 (by decide) ?_
  refine lv_iadd hx hb dL_law_369 ?_
  refine va_sld hx hb hX0 hbl hbA hS i5 dL_law_370 ?_
  refine lv_topi (fun a4 e_a4 => ?_)
  refine lv_aload_n hx hb dL_law_371 rfl (lv_at hl 0 rfl) ?_
  refine lv_iload hx hb dL_law_372 (lv_at hl 4 rfl) ?_
  refine lv_bipush (v := 6) hx hb dL_law_374 rfl ?_
  refine lv_iadd hx hb dL_law_376 ?_
  refine va_sld hx hb hX0 hbl hbA hS i6 dL_law_377 ?_
  refine lv_topi (fun a5 e_a5 => ?_)
  refine lv_aload_n hx hb dL_law_378 rfl (lv_at hl 3 rfl) ?_
  have hPc := (zP_app (w1 := (mws cI am g n k tb my lt th)) (w2 := (lwo cI cL cE cP o g n k u)) hP).2
  have hDc := (zD_app (w1 := (mws cI am g n k tb my lt th)) (w2 := (lwo cI cL cE cP o g n k u)) hD).2.1
  have hUc : zU (va_A (lwo cI cL cE cP o g n k u) H.size) s H := (hU0.kept hS.2.1).narrow (va_A_in2 (wr := (mws cI am g n k tb my lt th)) hD hS hA)
  refine zcalliJ (wr := (mws cI am g n k tb my lt th)) (wc := (lwo cI cL cE cP o g n k u)) (vx_runSW (As := [.ref (u.1 0), .int a0, .int a1, .int a2, .int a3, .int a4, .int a5, .ref o]) (rest := []) ⟨hx, hb, hml, hown, hts⟩ (zL_addExposure l hfl D cI cL cE cP o g n k u hok h9 a0 a1 a2 a3 a4 a5 H.size) (vx_cwSW 8 hts gL_law_L_addExposure rfl rfl rfl (by decide +kernel) ⟨Nat.le_of_ble_eq_true rfl, Nat.le_of_ble_eq_true rfl⟩) ⟨zPy_blind, zPy_mk hE hPc hDc hXx hUc hN⟩ rfl rfl hl.1 rfl (lv_room (Nat.le_of_ble_eq_true rfl)) dL_law_379 (zroomL (by omega) (by omega))) hP hD hS hA (fun r u1 H locs hr1 hP hD hS => ?_)
  obtain ⟨hT, hR, hu1⟩ := hr1
  have hP : va_P D vwCl ((mws cI am g n k tb my lt th) ++ (lwo cI cL cE cP o (if T_addExposure n a0 a1 a2 a3 a4 a5 = 0 then gAE g n a0 a1 a2 a3 a4 a5 else g) (if T_addExposure n a0 a1 a2 a3 a4 a5 = 0 then n + 1 else n) (k) u1)) H := hP
  have hD : va_D (lA s) ((mws cI am g n k tb my lt th) ++ (lwo cI cL cE cP o (if T_addExposure n a0 a1 a2 a3 a4 a5 = 0 then gAE g n a0 a1 a2 a3 a4 a5 else g) (if T_addExposure n a0 a1 a2 a3 a4 a5 = 0 then n + 1 else n) (k) u1)) := hD
  refine lv_istore (lv' := [(5, .int r), (0, .ref b), (1, .ref (u.1 0)), (2, .ref (am 0)), (3, .ref o), (4, .int x4)]) hx hb dL_law_382 hl (by decide) rfl (fun ls hl => ?_)
  refine lv_aload_n hx hb dL_law_384 rfl (lv_at hl 3 rfl) ?_
  refine lv_aload_n hx hb dL_law_385 rfl (lv_at hl 1 rfl) ?_
  refine lv_iload hx hb dL_law_386 (lv_at hl 5 rfl) ?_
  refine lv_iconst (v := 1) hx hb dL_law_388 (by decide) ?_
  refine lv_iadd hx hb dL_law_389 ?_
  refine va_sld hx hb hX0 hbl hbA hS i1 dL_law_390 ?_
  refine lv_topi (fun y_ ey_ => ?_)
  obtain rfl : a0 = y_ := e_a0.trans ey_.symm
  refine lv_aload_n hx hb dL_law_391 rfl (lv_at hl 1 rfl) ?_
  refine lv_iload hx hb dL_law_392 (lv_at hl 5 rfl) ?_
  refine lv_iconst (v := 2) hx hb dL_law_394 (by decide) ?_
  refine lv_iadd hx hb dL_law_395 ?_
  refine va_sld hx hb hX0 hbl hbA hS i2 dL_law_396 ?_
  refine lv_topi (fun y_ ey_ => ?_)
  obtain rfl : a1 = y_ := e_a1.trans ey_.symm
  refine lv_aload_n hx hb dL_law_397 rfl (lv_at hl 1 rfl) ?_
  refine lv_iload hx hb dL_law_398 (lv_at hl 5 rfl) ?_
  refine lv_iconst (v := 3) hx hb dL_law_400 (by decide) ?_
  refine lv_iadd hx hb dL_law_401 ?_
  refine va_sld hx hb hX0 hbl hbA hS i3 dL_law_402 ?_
  refine lv_topi (fun y_ ey_ => ?_)
  obtain rfl : a2 = y_ := e_a2.trans ey_.symm
  refine lv_aload_n hx hb dL_law_403 rfl (lv_at hl 1 rfl) ?_
  refine lv_iload hx hb dL_law_404 (lv_at hl 5 rfl) ?_
  refine lv_iconst (v := 4) hx hb dL_law_406 (by decide) ?_
  refine lv_iadd hx hb dL_law_407 ?_
  refine va_sld hx hb hX0 hbl hbA hS i4 dL_law_408 ?_
  refine lv_topi (fun y_ ey_ => ?_)
  obtain rfl : a3 = y_ := e_a3.trans ey_.symm
  refine lv_aload_n hx hb dL_law_409 rfl (lv_at hl 1 rfl) ?_
  refine lv_iload hx hb dL_law_410 (lv_at hl 5 rfl) ?_
  refine lv_iconst (v := 5) hx hb dL_law_412 (by decide) ?_
  refine lv_iadd hx hb dL_law_413 ?_
  refine va_sld hx hb hX0 hbl hbA hS i5 dL_law_414 ?_
  refine lv_topi (fun y_ ey_ => ?_)
  obtain rfl : a4 = y_ := e_a4.trans ey_.symm
  refine lv_aload_n hx hb dL_law_415 rfl (lv_at hl 1 rfl) ?_
  refine lv_iload hx hb dL_law_416 (lv_at hl 5 rfl) ?_
  refine lv_bipush (v := 6) hx hb dL_law_418 rfl ?_
  refine lv_iadd hx hb dL_law_420 ?_
  refine va_sld hx hb hX0 hbl hbA hS i6 dL_law_421 ?_
  refine lv_topi (fun y_ ey_ => ?_)
  obtain rfl : a5 = y_ := e_a5.trans ey_.symm
  have hPm := (zP_app (w1 := (mws cI am g n k tb my lt th)) (w2 := (lwo cI cL cE cP o (if T_addExposure n a0 a1 a2 a3 a4 a5 = 0 then gAE g n a0 a1 a2 a3 a4 a5 else g) (if T_addExposure n a0 a1 a2 a3 a4 a5 = 0 then n + 1 else n) (k) u1)) hP).1
  have hDm := (zD_app (w1 := (mws cI am g n k tb my lt th)) (w2 := (lwo cI cL cE cP o (if T_addExposure n a0 a1 a2 a3 a4 a5 = 0 then gAE g n a0 a1 a2 a3 a4 a5 else g) (if T_addExposure n a0 a1 a2 a3 a4 a5 = 0 then n + 1 else n) (k) u1)) hD).1
  refine zcalliJ (wr := (lwo cI cL cE cP o (if T_addExposure n a0 a1 a2 a3 a4 a5 = 0 then gAE g n a0 a1 a2 a3 a4 a5 else g) (if T_addExposure n a0 a1 a2 a3 a4 a5 = 0 then n + 1 else n) (k) u1)) (wc := (mws cI am g n k tb my lt th)) (va_runV (As := [.int a0, .int a1, .int a2, .int a3, .int a4, .int a5]) (rest := []) ⟨hx, hb, hml, hown, hts⟩ (zX4_addExposure l D cI cL cE cP am g n k tb my lt th hok a0 a1 a2 a3 a4 a5 H.size) (cwV 6 hts gL_law_X4_addExposure rfl rfl rfl (by decide +kernel) ⟨Nat.le_of_ble_eq_true rfl, Nat.le_of_ble_eq_true rfl⟩) ⟨zPw_blind, va_recv hK hPm (ci := 4) (q0 := 0) rfl mws_0, zPw_mk hE hPm hDm⟩ rfl rfl hl.1 rfl (lv_room (Nat.le_of_ble_eq_true rfl)) dL_law_422 (zroomL (by omega) (by omega))) (zP_swap hP) (zD_swap hD) hS hA (fun rb um H locs hrb hP hD hS => ?_)
  have hP : va_P D vwCl ((mws cI am (if T_addExposure n a0 a1 a2 a3 a4 a5 = 0 then gAE g n a0 a1 a2 a3 a4 a5 else g) (if T_addExposure n a0 a1 a2 a3 a4 a5 = 0 then n + 1 else n) (k) tb my lt (T_addExposure n a0 a1 a2 a3 a4 a5)) ++ (lwo cI cL cE cP o (if T_addExposure n a0 a1 a2 a3 a4 a5 = 0 then gAE g n a0 a1 a2 a3 a4 a5 else g) (if T_addExposure n a0 a1 a2 a3 a4 a5 = 0 then n + 1 else n) (k) u1)) H := zP_swap hP
  have hD : va_D (lA s) ((mws cI am (if T_addExposure n a0 a1 a2 a3 a4 a5 = 0 then gAE g n a0 a1 a2 a3 a4 a5 else g) (if T_addExposure n a0 a1 a2 a3 a4 a5 = 0 then n + 1 else n) (k) tb my lt (T_addExposure n a0 a1 a2 a3 a4 a5)) ++ (lwo cI cL cE cP o (if T_addExposure n a0 a1 a2 a3 a4 a5 = 0 then gAE g n a0 a1 a2 a3 a4 a5 else g) (if T_addExposure n a0 a1 a2 a3 a4 a5 = 0 then n + 1 else n) (k) u1)) := zD_swap hD
  have hrb : T_addExposure n a0 a1 a2 a3 a4 a5 = 0 → rb = _ := hrb
  refine lv_istore (lv' := [(6, .int rb), (5, .int r), (0, .ref b), (1, .ref (u.1 0)), (2, .ref (am 0)), (3, .ref o), (4, .int x4)]) hx hb dL_law_425 hl (by decide) rfl (fun ls hl => ?_)
  obtain ⟨hok1, h91⟩ := iv_E hok h9
  have hok1 : zOk (if T_addExposure n a0 a1 a2 a3 a4 a5 = 0 then gAE g n a0 a1 a2 a3 a4 a5 else g) (if T_addExposure n a0 a1 a2 a3 a4 a5 = 0 then n + 1 else n) (k) := hok1
  have h91 : zH9 (if T_addExposure n a0 a1 a2 a3 a4 a5 = 0 then gAE g n a0 a1 a2 a3 a4 a5 else g) (if T_addExposure n a0 a1 a2 a3 a4 a5 = 0 then n + 1 else n) := h91
  have hPm := (zP_app (w1 := (mws cI am (if T_addExposure n a0 a1 a2 a3 a4 a5 = 0 then gAE g n a0 a1 a2 a3 a4 a5 else g) (if T_addExposure n a0 a1 a2 a3 a4 a5 = 0 then n + 1 else n) (k) tb my lt (T_addExposure n a0 a1 a2 a3 a4 a5))) (w2 := (lwo cI cL cE cP o (if T_addExposure n a0 a1 a2 a3 a4 a5 = 0 then gAE g n a0 a1 a2 a3 a4 a5 else g) (if T_addExposure n a0 a1 a2 a3 a4 a5 = 0 then n + 1 else n) (k) u1)) hP).1
  refine lv_aload_n hx hb dL_law_427 rfl (lv_at hl 4 rfl) ?_
  refine vp_callSi (va_Run.run (va_runV (As := []) (rest := []) ⟨hx, hb, hml, hown, hts⟩ (zX4_thrown l D cI cL cE cP am (if T_addExposure n a0 a1 a2 a3 a4 a5 = 0 then gAE g n a0 a1 a2 a3 a4 a5 else g) (if T_addExposure n a0 a1 a2 a3 a4 a5 = 0 then n + 1 else n) (k) tb my lt (T_addExposure n a0 a1 a2 a3 a4 a5) hok1) (cwV 0 hts gL_law_X4_thrown rfl rfl rfl (by decide +kernel) ⟨Nat.le_of_ble_eq_true rfl, Nat.le_of_ble_eq_true rfl⟩) ⟨zPr_blind, va_recv hK hPm (ci := 4) (q0 := 0) rfl mws_0, zPr_mk hE hPm⟩ rfl rfl hl.1 rfl (lv_room (Nat.le_of_ble_eq_true rfl)) dL_law_428 (zroomL (by omega) (by omega)))) (fun rt et => ?_)
  refine lv_iload hx hb dL_law_431 (lv_at hl 1 rfl) ?_
  refine lv_icmp_eq (tgt := 438) hx hb dL_law_433 (by decide) (fun _ => ?_) (fun c9 => absurd (et.trans hT.symm) c9)
  refine W.widen (k := cells + 1) (n := slots + 8) (by omega) (by omega) ?_
  refine lv_iload hx hb dL_law_438 (lv_at hl 1 rfl) ?_
  refine lv_if_ne (tgt := 455) hx hb dL_law_440 (by decide) (fun _ => ?_) (fun c8 => ?_)
  · refine lv_goto (tgt := 1353) hx hb dL_law_455 (by decide) ?_
    exact kk _ _ _ ⟨_, _, _, u1, _, _, _, _, hok1, h91, hu1, hP, hD, hS⟩ (lv_sub hl [2, 3, 4, 5, 6] rfl)
  · have h0 : T_addExposure n a0 a1 a2 a3 a4 a5 = 0 := hT.symm.trans c8
    refine lv_aload_n hx hb dL_law_443 rfl (lv_at hl 5 rfl) ?_
    refine lv_iconst (v := 0) hx hb dL_law_444 (by decide) ?_
    have hPl := (zP_app (w1 := (mws cI am (if T_addExposure n a0 a1 a2 a3 a4 a5 = 0 then gAE g n a0 a1 a2 a3 a4 a5 else g) (if T_addExposure n a0 a1 a2 a3 a4 a5 = 0 then n + 1 else n) (k) tb my lt (T_addExposure n a0 a1 a2 a3 a4 a5))) (w2 := (lwo cI cL cE cP o (if T_addExposure n a0 a1 a2 a3 a4 a5 = 0 then gAE g n a0 a1 a2 a3 a4 a5 else g) (if T_addExposure n a0 a1 a2 a3 a4 a5 = 0 then n + 1 else n) (k) u1)) hP).2
    refine zlald (v := u_o u1 0) hx hb hK hPl 0 1 lwo_0 rfl (by unfold vp_in; decide) rfl dL_law_445 ?_
    refine lv_iload hx hb dL_law_446 (lv_at hl 0 rfl) ?_
    refine lv_i2l hx hb dL_law_448 rfl ?_
    refine W.lcmp hx hb dL_law_449 ?_
    refine lv_if_eq (tgt := 455) hx hb dL_law_450 (by decide) (fun _ => ?_) (fun c9 => absurd ((lg_cmp_eq _ _).mpr ((hR h0).trans (congrArg Int32.toInt64 ((hrb h0).symm)))) c9)
    refine lv_goto (tgt := 1353) hx hb dL_law_455 (by decide) ?_
    exact kk _ _ _ ⟨_, _, _, u1, _, _, _, _, hok1, h91, hu1, hP, hD, hS⟩ (lv_sub hl [2, 3, 4, 5, 6] rfl)

set_option maxHeartbeats 4000000 in
set_option maxRecDepth 100000 in
theorem cs_draw {p : Program} {e : Env} {s : State} {m : MethodId} {below : List Frame} {meth : Method} {c : Code} {l : Launch} {b L : Nat} {xs : Nat → Int32} {D : va_G} {cI cL cE cP : ClassId} {am : Nat → Nat} {o ax : Nat} {cells slots : Nat} {Q : State → Prop} {x4 : Int32} {H : Heap} {locs : List Loc} {ls : Array Slot} (C : LC p s m meth c b L xs D cI cL cE cP l) (hin : Lin x4 L) (hc : cells ≤ 600000) (hs : slots ≤ 7000000) (hI : LI D cI cL cE cP am o ax s H locs) (hl : lv_has ls 7 [(0, .ref b), (1, .ref ax), (2, .ref (am 0)), (3, .ref o), (4, .int x4)])
    (kk : ∀ (H : Heap) (locs : List Loc) (ls : Array Slot), LI D cI cL cE cP am o ax s H locs → lv_has ls 7 [(0, .ref b), (1, .ref ax), (2, .ref (am 0)), (3, .ref o), (4, .int x4)] → W p l e room_1 s m #[Value.ref b] below meth c H locs (cells + 1) (slots + 8) Q (F0 m 1353 ls [])) : W p l e room_1 s m #[Value.ref b] below meth c H locs cells slots Q (F0 m 458 ls []) := by
  obtain ⟨⟨hx, hb, hr, hml, hown0, hts0, hX0, hbl, hlocks, hgv⟩, hE, hXx, hN, hU0, hfl⟩ := C
  have hown : s.vm.findClass RL = some m.cls := hown0
  have hts : ∀ w ∈ wsL_law, w.before #[Value.ref b] s = true := fun w h => hts0 w (wsL_law_in w h)
  have hA : ∀ q : Nat, s.heap.size ≤ q → lA s q := fun _ h => h
  have hbA : ¬ lA s b := Nat.not_le.mpr hbl
  have hK := hE.1
  obtain ⟨i0, i1, i2, i3, i4, i5, i6⟩ := hin
  obtain ⟨g, n, k, u, tb, my, lt, th, hok, h9, hu, hP, hD, hS⟩ := hI
  subst hu
  have hP : va_P D vwCl ((mws cI am g n k tb my lt th) ++ (lwo cI cL cE cP o g n k u)) H := hP
  have hD : va_D (lA s) ((mws cI am g n k tb my lt th) ++ (lwo cI cL cE cP o g n k u)) := hD
  refine lv_aload_n hx hb dL_law_458 rfl (lv_at hl 1 rfl) ?_
  refine lv_aload_n hx hb dL_law_459 rfl (lv_at hl 0 rfl) ?_
  refine lv_iload hx hb dL_law_460 (lv_at hl 4 rfl) ?_
  refine lv_iconst (v := 1) hx hb dL_law_462 (by decide) ?_
  refine lv_iadd hx hb dL_law_463 ?_
  refine va_sld hx hb hX0 hbl hbA hS i1 dL_law_464 ?_
  refine lv_topi (fun x e_x => ?_)
  refine lv_aload_n hx hb dL_law_465 rfl (lv_at hl 0 rfl) ?_
  refine lv_iload hx hb dL_law_466 (lv_at hl 4 rfl) ?_
  refine lv_iconst (v := 2) hx hb dL_law_468 (by decide) ?_
  refine lv_iadd hx hb dL_law_469 ?_
  refine va_sld hx hb hX0 hbl hbA hS i2 dL_law_470 ?_
  refine lv_topi (fun d0 e_d0 => ?_)
  refine lv_aload_n hx hb dL_law_471 rfl (lv_at hl 3 rfl) ?_
  have hPc := (zP_app (w1 := (mws cI am g n k tb my lt th)) (w2 := (lwo cI cL cE cP o g n k u)) hP).2
  have hDc := (zD_app (w1 := (mws cI am g n k tb my lt th)) (w2 := (lwo cI cL cE cP o g n k u)) hD).2.1
  have hUc : zU (va_A (lwo cI cL cE cP o g n k u) H.size) s H := (hU0.kept hS.2.1).narrow (va_A_in2 (wr := (mws cI am g n k tb my lt th)) hD hS hA)
  refine zcalliJ (wr := (mws cI am g n k tb my lt th)) (wc := (lwo cI cL cE cP o g n k u)) (vx_runSW (As := [.ref (u.1 0), .int x, .int d0, .ref o]) (rest := []) ⟨hx, hb, hml, hown, hts⟩ (zL_draw l hfl D cI cL cE cP o g n k u hok x d0 H.size) (vx_cwSW 4 hts gL_law_L_draw rfl rfl rfl (by decide +kernel) ⟨Nat.le_of_ble_eq_true rfl, Nat.le_of_ble_eq_true rfl⟩) ⟨zPy_blind, zPy_mk hE hPc hDc hXx hUc hN⟩ rfl rfl hl.1 rfl (lv_room (Nat.le_of_ble_eq_true rfl)) dL_law_472 (zroomL (by omega) (by omega))) hP hD hS hA (fun r u1 H locs hr1 hP hD hS => ?_)
  obtain ⟨hT, hR, hu1⟩ := hr1
  have hP : va_P D vwCl ((mws cI am g n k tb my lt th) ++ (lwo cI cL cE cP o (if T_draw g n x d0 = 0 then gR (gR g 5 (upd (g 5) x.toNatClampNeg (g 5 x.toNatClampNeg + d0))) 6 (upd (g 6) x.toNatClampNeg (g 6 x.toNatClampNeg - d0)) else g) (n) (k) u1)) H := hP
  have hD : va_D (lA s) ((mws cI am g n k tb my lt th) ++ (lwo cI cL cE cP o (if T_draw g n x d0 = 0 then gR (gR g 5 (upd (g 5) x.toNatClampNeg (g 5 x.toNatClampNeg + d0))) 6 (upd (g 6) x.toNatClampNeg (g 6 x.toNatClampNeg - d0)) else g) (n) (k) u1)) := hD
  refine lv_istore (lv' := [(5, .int r), (0, .ref b), (1, .ref (u.1 0)), (2, .ref (am 0)), (3, .ref o), (4, .int x4)]) hx hb dL_law_475 hl (by decide) rfl (fun ls hl => ?_)
  refine lv_aload_n hx hb dL_law_477 rfl (lv_at hl 3 rfl) ?_
  refine lv_aload_n hx hb dL_law_478 rfl (lv_at hl 1 rfl) ?_
  refine lv_iload hx hb dL_law_479 (lv_at hl 5 rfl) ?_
  refine lv_iconst (v := 1) hx hb dL_law_481 (by decide) ?_
  refine lv_iadd hx hb dL_law_482 ?_
  refine va_sld hx hb hX0 hbl hbA hS i1 dL_law_483 ?_
  refine lv_topi (fun y_ ey_ => ?_)
  obtain rfl : x = y_ := e_x.trans ey_.symm
  refine lv_aload_n hx hb dL_law_484 rfl (lv_at hl 1 rfl) ?_
  refine lv_iload hx hb dL_law_485 (lv_at hl 5 rfl) ?_
  refine lv_iconst (v := 2) hx hb dL_law_487 (by decide) ?_
  refine lv_iadd hx hb dL_law_488 ?_
  refine va_sld hx hb hX0 hbl hbA hS i2 dL_law_489 ?_
  refine lv_topi (fun y_ ey_ => ?_)
  obtain rfl : d0 = y_ := e_d0.trans ey_.symm
  have hPm := (zP_app (w1 := (mws cI am g n k tb my lt th)) (w2 := (lwo cI cL cE cP o (if T_draw g n x d0 = 0 then gR (gR g 5 (upd (g 5) x.toNatClampNeg (g 5 x.toNatClampNeg + d0))) 6 (upd (g 6) x.toNatClampNeg (g 6 x.toNatClampNeg - d0)) else g) (n) (k) u1)) hP).1
  have hDm := (zD_app (w1 := (mws cI am g n k tb my lt th)) (w2 := (lwo cI cL cE cP o (if T_draw g n x d0 = 0 then gR (gR g 5 (upd (g 5) x.toNatClampNeg (g 5 x.toNatClampNeg + d0))) 6 (upd (g 6) x.toNatClampNeg (g 6 x.toNatClampNeg - d0)) else g) (n) (k) u1)) hD).1
  refine zcalliJ (wr := (lwo cI cL cE cP o (if T_draw g n x d0 = 0 then gR (gR g 5 (upd (g 5) x.toNatClampNeg (g 5 x.toNatClampNeg + d0))) 6 (upd (g 6) x.toNatClampNeg (g 6 x.toNatClampNeg - d0)) else g) (n) (k) u1)) (wc := (mws cI am g n k tb my lt th)) (va_runV (As := [.int x, .int d0]) (rest := []) ⟨hx, hb, hml, hown, hts⟩ (zX4_draw l D cI cL cE cP am g n k tb my lt th hok x d0 H.size) (cwV 2 hts gL_law_X4_draw rfl rfl rfl (by decide +kernel) ⟨Nat.le_of_ble_eq_true rfl, Nat.le_of_ble_eq_true rfl⟩) ⟨zPw_blind, va_recv hK hPm (ci := 4) (q0 := 0) rfl mws_0, zPw_mk hE hPm hDm⟩ rfl rfl hl.1 rfl (lv_room (Nat.le_of_ble_eq_true rfl)) dL_law_490 (zroomL (by omega) (by omega))) (zP_swap hP) (zD_swap hD) hS hA (fun rb um H locs hrb hP hD hS => ?_)
  have hP : va_P D vwCl ((mws cI am (if T_draw g n x d0 = 0 then gR (gR g 5 (upd (g 5) x.toNatClampNeg (g 5 x.toNatClampNeg + d0))) 6 (upd (g 6) x.toNatClampNeg (g 6 x.toNatClampNeg - d0)) else g) (n) (k) tb my lt (T_draw g n x d0)) ++ (lwo cI cL cE cP o (if T_draw g n x d0 = 0 then gR (gR g 5 (upd (g 5) x.toNatClampNeg (g 5 x.toNatClampNeg + d0))) 6 (upd (g 6) x.toNatClampNeg (g 6 x.toNatClampNeg - d0)) else g) (n) (k) u1)) H := zP_swap hP
  have hD : va_D (lA s) ((mws cI am (if T_draw g n x d0 = 0 then gR (gR g 5 (upd (g 5) x.toNatClampNeg (g 5 x.toNatClampNeg + d0))) 6 (upd (g 6) x.toNatClampNeg (g 6 x.toNatClampNeg - d0)) else g) (n) (k) tb my lt (T_draw g n x d0)) ++ (lwo cI cL cE cP o (if T_draw g n x d0 = 0 then gR (gR g 5 (upd (g 5) x.toNatClampNeg (g 5 x.toNatClampNeg + d0))) 6 (upd (g 6) x.toNatClampNeg (g 6 x.toNatClampNeg - d0)) else g) (n) (k) u1)) := zD_swap hD
  have hrb : T_draw g n x d0 = 0 → rb = _ := hrb
  refine lv_istore (lv' := [(6, .int rb), (5, .int r), (0, .ref b), (1, .ref (u.1 0)), (2, .ref (am 0)), (3, .ref o), (4, .int x4)]) hx hb dL_law_493 hl (by decide) rfl (fun ls hl => ?_)
  obtain ⟨hok1, h91⟩ := iv hok h9 (ok_draw hok) (fun _ => h9)
  have hok1 : zOk (if T_draw g n x d0 = 0 then gR (gR g 5 (upd (g 5) x.toNatClampNeg (g 5 x.toNatClampNeg + d0))) 6 (upd (g 6) x.toNatClampNeg (g 6 x.toNatClampNeg - d0)) else g) (n) (k) := hok1
  have h91 : zH9 (if T_draw g n x d0 = 0 then gR (gR g 5 (upd (g 5) x.toNatClampNeg (g 5 x.toNatClampNeg + d0))) 6 (upd (g 6) x.toNatClampNeg (g 6 x.toNatClampNeg - d0)) else g) (n) := h91
  have hPm := (zP_app (w1 := (mws cI am (if T_draw g n x d0 = 0 then gR (gR g 5 (upd (g 5) x.toNatClampNeg (g 5 x.toNatClampNeg + d0))) 6 (upd (g 6) x.toNatClampNeg (g 6 x.toNatClampNeg - d0)) else g) (n) (k) tb my lt (T_draw g n x d0))) (w2 := (lwo cI cL cE cP o (if T_draw g n x d0 = 0 then gR (gR g 5 (upd (g 5) x.toNatClampNeg (g 5 x.toNatClampNeg + d0))) 6 (upd (g 6) x.toNatClampNeg (g 6 x.toNatClampNeg - d0)) else g) (n) (k) u1)) hP).1
  refine lv_aload_n hx hb dL_law_495 rfl (lv_at hl 4 rfl) ?_
  refine vp_callSi (va_Run.run (va_runV (As := []) (rest := []) ⟨hx, hb, hml, hown, hts⟩ (zX4_thrown l D cI cL cE cP am (if T_draw g n x d0 = 0 then gR (gR g 5 (upd (g 5) x.toNatClampNeg (g 5 x.toNatClampNeg + d0))) 6 (upd (g 6) x.toNatClampNeg (g 6 x.toNatClampNeg - d0)) else g) (n) (k) tb my lt (T_draw g n x d0) hok1) (cwV 0 hts gL_law_X4_thrown rfl rfl rfl (by decide +kernel) ⟨Nat.le_of_ble_eq_true rfl, Nat.le_of_ble_eq_true rfl⟩) ⟨zPr_blind, va_recv hK hPm (ci := 4) (q0 := 0) rfl mws_0, zPr_mk hE hPm⟩ rfl rfl hl.1 rfl (lv_room (Nat.le_of_ble_eq_true rfl)) dL_law_496 (zroomL (by omega) (by omega)))) (fun rt et => ?_)
  refine lv_iload hx hb dL_law_499 (lv_at hl 1 rfl) ?_
  refine lv_icmp_eq (tgt := 506) hx hb dL_law_501 (by decide) (fun _ => ?_) (fun c9 => absurd (et.trans hT.symm) c9)
  refine W.widen (k := cells + 1) (n := slots + 8) (by omega) (by omega) ?_
  refine lv_iload hx hb dL_law_506 (lv_at hl 1 rfl) ?_
  refine lv_if_ne (tgt := 523) hx hb dL_law_508 (by decide) (fun _ => ?_) (fun c8 => ?_)
  · refine lv_goto (tgt := 1353) hx hb dL_law_523 (by decide) ?_
    exact kk _ _ _ ⟨_, _, _, u1, _, _, _, _, hok1, h91, hu1, hP, hD, hS⟩ (lv_sub hl [2, 3, 4, 5, 6] rfl)
  · have h0 : T_draw g n x d0 = 0 := hT.symm.trans c8
    refine lv_aload_n hx hb dL_law_511 rfl (lv_at hl 5 rfl) ?_
    refine lv_iconst (v := 0) hx hb dL_law_512 (by decide) ?_
    have hPl := (zP_app (w1 := (mws cI am (if T_draw g n x d0 = 0 then gR (gR g 5 (upd (g 5) x.toNatClampNeg (g 5 x.toNatClampNeg + d0))) 6 (upd (g 6) x.toNatClampNeg (g 6 x.toNatClampNeg - d0)) else g) (n) (k) tb my lt (T_draw g n x d0))) (w2 := (lwo cI cL cE cP o (if T_draw g n x d0 = 0 then gR (gR g 5 (upd (g 5) x.toNatClampNeg (g 5 x.toNatClampNeg + d0))) 6 (upd (g 6) x.toNatClampNeg (g 6 x.toNatClampNeg - d0)) else g) (n) (k) u1)) hP).2
    refine zlald (v := u_o u1 0) hx hb hK hPl 0 1 lwo_0 rfl (by unfold vp_in; decide) rfl dL_law_513 ?_
    refine lv_iload hx hb dL_law_514 (lv_at hl 0 rfl) ?_
    refine lv_i2l hx hb dL_law_516 rfl ?_
    refine W.lcmp hx hb dL_law_517 ?_
    refine lv_if_eq (tgt := 523) hx hb dL_law_518 (by decide) (fun _ => ?_) (fun c9 => absurd ((lg_cmp_eq _ _).mpr ((hR h0).trans (congrArg Int32.toInt64 ((hrb h0).symm)))) c9)
    refine lv_goto (tgt := 1353) hx hb dL_law_523 (by decide) ?_
    exact kk _ _ _ ⟨_, _, _, u1, _, _, _, _, hok1, h91, hu1, hP, hD, hS⟩ (lv_sub hl [2, 3, 4, 5, 6] rfl)

set_option maxHeartbeats 4000000 in
set_option maxRecDepth 100000 in
theorem cs_setClass {p : Program} {e : Env} {s : State} {m : MethodId} {below : List Frame} {meth : Method} {c : Code} {l : Launch} {b L : Nat} {xs : Nat → Int32} {D : va_G} {cI cL cE cP : ClassId} {am : Nat → Nat} {o ax : Nat} {cells slots : Nat} {Q : State → Prop} {x4 : Int32} {H : Heap} {locs : List Loc} {ls : Array Slot} (C : LC p s m meth c b L xs D cI cL cE cP l) (hin : Lin x4 L) (hc : cells ≤ 600000) (hs : slots ≤ 7000000) (hI : LI D cI cL cE cP am o ax s H locs) (hl : lv_has ls 7 [(0, .ref b), (1, .ref ax), (2, .ref (am 0)), (3, .ref o), (4, .int x4)])
    (kk : ∀ (H : Heap) (locs : List Loc) (ls : Array Slot), LI D cI cL cE cP am o ax s H locs → lv_has ls 7 [(0, .ref b), (1, .ref ax), (2, .ref (am 0)), (3, .ref o), (4, .int x4)] → W p l e room_1 s m #[Value.ref b] below meth c H locs (cells + 1) (slots + 8) Q (F0 m 1353 ls [])) : W p l e room_1 s m #[Value.ref b] below meth c H locs cells slots Q (F0 m 526 ls []) := by
  obtain ⟨⟨hx, hb, hr, hml, hown0, hts0, hX0, hbl, hlocks, hgv⟩, hE, hXx, hN, hU0, hfl⟩ := C
  have hown : s.vm.findClass RL = some m.cls := hown0
  have hts : ∀ w ∈ wsL_law, w.before #[Value.ref b] s = true := fun w h => hts0 w (wsL_law_in w h)
  have hA : ∀ q : Nat, s.heap.size ≤ q → lA s q := fun _ h => h
  have hbA : ¬ lA s b := Nat.not_le.mpr hbl
  have hK := hE.1
  obtain ⟨i0, i1, i2, i3, i4, i5, i6⟩ := hin
  obtain ⟨g, n, k, u, tb, my, lt, th, hok, h9, hu, hP, hD, hS⟩ := hI
  subst hu
  have hP : va_P D vwCl ((mws cI am g n k tb my lt th) ++ (lwo cI cL cE cP o g n k u)) H := hP
  have hD : va_D (lA s) ((mws cI am g n k tb my lt th) ++ (lwo cI cL cE cP o g n k u)) := hD
  refine lv_aload_n hx hb dL_law_526 rfl (lv_at hl 1 rfl) ?_
  refine lv_aload_n hx hb dL_law_527 rfl (lv_at hl 0 rfl) ?_
  refine lv_iload hx hb dL_law_528 (lv_at hl 4 rfl) ?_
  refine lv_iconst (v := 1) hx hb dL_law_530 (by decide) ?_
  refine lv_iadd hx hb dL_law_531 ?_
  refine va_sld hx hb hX0 hbl hbA hS i1 dL_law_532 ?_
  refine lv_topi (fun x e_x => ?_)
  refine lv_aload_n hx hb dL_law_533 rfl (lv_at hl 0 rfl) ?_
  refine lv_iload hx hb dL_law_534 (lv_at hl 4 rfl) ?_
  refine lv_iconst (v := 2) hx hb dL_law_536 (by decide) ?_
  refine lv_iadd hx hb dL_law_537 ?_
  refine va_sld hx hb hX0 hbl hbA hS i2 dL_law_538 ?_
  refine lv_topi (fun k0 e_k0 => ?_)
  refine lv_aload_n hx hb dL_law_539 rfl (lv_at hl 3 rfl) ?_
  have hPc := (zP_app (w1 := (mws cI am g n k tb my lt th)) (w2 := (lwo cI cL cE cP o g n k u)) hP).2
  have hDc := (zD_app (w1 := (mws cI am g n k tb my lt th)) (w2 := (lwo cI cL cE cP o g n k u)) hD).2.1
  have hUc : zU (va_A (lwo cI cL cE cP o g n k u) H.size) s H := (hU0.kept hS.2.1).narrow (va_A_in2 (wr := (mws cI am g n k tb my lt th)) hD hS hA)
  refine zcalliJ (wr := (mws cI am g n k tb my lt th)) (wc := (lwo cI cL cE cP o g n k u)) (vx_runSW (As := [.ref (u.1 0), .int x, .int k0, .ref o]) (rest := []) ⟨hx, hb, hml, hown, hts⟩ (zL_setClass l hfl D cI cL cE cP o g n k u hok x k0 H.size) (vx_cwSW 4 hts gL_law_L_setClass rfl rfl rfl (by decide +kernel) ⟨Nat.le_of_ble_eq_true rfl, Nat.le_of_ble_eq_true rfl⟩) ⟨zPy_blind, zPy_mk hE hPc hDc hXx hUc hN⟩ rfl rfl hl.1 rfl (lv_room (Nat.le_of_ble_eq_true rfl)) dL_law_540 (zroomL (by omega) (by omega))) hP hD hS hA (fun r u1 H locs hr1 hP hD hS => ?_)
  obtain ⟨hT, hR, hu1⟩ := hr1
  have hP : va_P D vwCl ((mws cI am g n k tb my lt th) ++ (lwo cI cL cE cP o (if T_setClass n x k0 = 0 then gR g 3 (upd (g 3) x.toNatClampNeg k0) else g) (n) (k) u1)) H := hP
  have hD : va_D (lA s) ((mws cI am g n k tb my lt th) ++ (lwo cI cL cE cP o (if T_setClass n x k0 = 0 then gR g 3 (upd (g 3) x.toNatClampNeg k0) else g) (n) (k) u1)) := hD
  refine lv_istore (lv' := [(5, .int r), (0, .ref b), (1, .ref (u.1 0)), (2, .ref (am 0)), (3, .ref o), (4, .int x4)]) hx hb dL_law_543 hl (by decide) rfl (fun ls hl => ?_)
  refine lv_aload_n hx hb dL_law_545 rfl (lv_at hl 3 rfl) ?_
  refine lv_aload_n hx hb dL_law_546 rfl (lv_at hl 1 rfl) ?_
  refine lv_iload hx hb dL_law_547 (lv_at hl 5 rfl) ?_
  refine lv_iconst (v := 1) hx hb dL_law_549 (by decide) ?_
  refine lv_iadd hx hb dL_law_550 ?_
  refine va_sld hx hb hX0 hbl hbA hS i1 dL_law_551 ?_
  refine lv_topi (fun y_ ey_ => ?_)
  obtain rfl : x = y_ := e_x.trans ey_.symm
  refine lv_aload_n hx hb dL_law_552 rfl (lv_at hl 1 rfl) ?_
  refine lv_iload hx hb dL_law_553 (lv_at hl 5 rfl) ?_
  refine lv_iconst (v := 2) hx hb dL_law_555 (by decide) ?_
  refine lv_iadd hx hb dL_law_556 ?_
  refine va_sld hx hb hX0 hbl hbA hS i2 dL_law_557 ?_
  refine lv_topi (fun y_ ey_ => ?_)
  obtain rfl : k0 = y_ := e_k0.trans ey_.symm
  have hPm := (zP_app (w1 := (mws cI am g n k tb my lt th)) (w2 := (lwo cI cL cE cP o (if T_setClass n x k0 = 0 then gR g 3 (upd (g 3) x.toNatClampNeg k0) else g) (n) (k) u1)) hP).1
  have hDm := (zD_app (w1 := (mws cI am g n k tb my lt th)) (w2 := (lwo cI cL cE cP o (if T_setClass n x k0 = 0 then gR g 3 (upd (g 3) x.toNatClampNeg k0) else g) (n) (k) u1)) hD).1
  refine zcalliJ (wr := (lwo cI cL cE cP o (if T_setClass n x k0 = 0 then gR g 3 (upd (g 3) x.toNatClampNeg k0) else g) (n) (k) u1)) (wc := (mws cI am g n k tb my lt th)) (va_runV (As := [.int x, .int k0]) (rest := []) ⟨hx, hb, hml, hown, hts⟩ (zX4_setClass l D cI cL cE cP am g n k tb my lt th hok x k0 H.size) (cwV 2 hts gL_law_X4_setClass rfl rfl rfl (by decide +kernel) ⟨Nat.le_of_ble_eq_true rfl, Nat.le_of_ble_eq_true rfl⟩) ⟨zPw_blind, va_recv hK hPm (ci := 4) (q0 := 0) rfl mws_0, zPw_mk hE hPm hDm⟩ rfl rfl hl.1 rfl (lv_room (Nat.le_of_ble_eq_true rfl)) dL_law_558 (zroomL (by omega) (by omega))) (zP_swap hP) (zD_swap hD) hS hA (fun rb um H locs hrb hP hD hS => ?_)
  have hP : va_P D vwCl ((mws cI am (if T_setClass n x k0 = 0 then gR g 3 (upd (g 3) x.toNatClampNeg k0) else g) (n) (k) tb my lt (T_setClass n x k0)) ++ (lwo cI cL cE cP o (if T_setClass n x k0 = 0 then gR g 3 (upd (g 3) x.toNatClampNeg k0) else g) (n) (k) u1)) H := zP_swap hP
  have hD : va_D (lA s) ((mws cI am (if T_setClass n x k0 = 0 then gR g 3 (upd (g 3) x.toNatClampNeg k0) else g) (n) (k) tb my lt (T_setClass n x k0)) ++ (lwo cI cL cE cP o (if T_setClass n x k0 = 0 then gR g 3 (upd (g 3) x.toNatClampNeg k0) else g) (n) (k) u1)) := zD_swap hD
  have hrb : T_setClass n x k0 = 0 → rb = _ := hrb
  refine lv_istore (lv' := [(6, .int rb), (5, .int r), (0, .ref b), (1, .ref (u.1 0)), (2, .ref (am 0)), (3, .ref o), (4, .int x4)]) hx hb dL_law_561 hl (by decide) rfl (fun ls hl => ?_)
  obtain ⟨hok1, h91⟩ := iv hok h9 (ok_setClass hok) (fun _ => h9)
  have hok1 : zOk (if T_setClass n x k0 = 0 then gR g 3 (upd (g 3) x.toNatClampNeg k0) else g) (n) (k) := hok1
  have h91 : zH9 (if T_setClass n x k0 = 0 then gR g 3 (upd (g 3) x.toNatClampNeg k0) else g) (n) := h91
  have hPm := (zP_app (w1 := (mws cI am (if T_setClass n x k0 = 0 then gR g 3 (upd (g 3) x.toNatClampNeg k0) else g) (n) (k) tb my lt (T_setClass n x k0))) (w2 := (lwo cI cL cE cP o (if T_setClass n x k0 = 0 then gR g 3 (upd (g 3) x.toNatClampNeg k0) else g) (n) (k) u1)) hP).1
  refine lv_aload_n hx hb dL_law_563 rfl (lv_at hl 4 rfl) ?_
  refine vp_callSi (va_Run.run (va_runV (As := []) (rest := []) ⟨hx, hb, hml, hown, hts⟩ (zX4_thrown l D cI cL cE cP am (if T_setClass n x k0 = 0 then gR g 3 (upd (g 3) x.toNatClampNeg k0) else g) (n) (k) tb my lt (T_setClass n x k0) hok1) (cwV 0 hts gL_law_X4_thrown rfl rfl rfl (by decide +kernel) ⟨Nat.le_of_ble_eq_true rfl, Nat.le_of_ble_eq_true rfl⟩) ⟨zPr_blind, va_recv hK hPm (ci := 4) (q0 := 0) rfl mws_0, zPr_mk hE hPm⟩ rfl rfl hl.1 rfl (lv_room (Nat.le_of_ble_eq_true rfl)) dL_law_564 (zroomL (by omega) (by omega)))) (fun rt et => ?_)
  refine lv_iload hx hb dL_law_567 (lv_at hl 1 rfl) ?_
  refine lv_icmp_eq (tgt := 574) hx hb dL_law_569 (by decide) (fun _ => ?_) (fun c9 => absurd (et.trans hT.symm) c9)
  refine W.widen (k := cells + 1) (n := slots + 8) (by omega) (by omega) ?_
  refine lv_iload hx hb dL_law_574 (lv_at hl 1 rfl) ?_
  refine lv_if_ne (tgt := 591) hx hb dL_law_576 (by decide) (fun _ => ?_) (fun c8 => ?_)
  · refine lv_goto (tgt := 1353) hx hb dL_law_591 (by decide) ?_
    exact kk _ _ _ ⟨_, _, _, u1, _, _, _, _, hok1, h91, hu1, hP, hD, hS⟩ (lv_sub hl [2, 3, 4, 5, 6] rfl)
  · have h0 : T_setClass n x k0 = 0 := hT.symm.trans c8
    refine lv_aload_n hx hb dL_law_579 rfl (lv_at hl 5 rfl) ?_
    refine lv_iconst (v := 0) hx hb dL_law_580 (by decide) ?_
    have hPl := (zP_app (w1 := (mws cI am (if T_setClass n x k0 = 0 then gR g 3 (upd (g 3) x.toNatClampNeg k0) else g) (n) (k) tb my lt (T_setClass n x k0))) (w2 := (lwo cI cL cE cP o (if T_setClass n x k0 = 0 then gR g 3 (upd (g 3) x.toNatClampNeg k0) else g) (n) (k) u1)) hP).2
    refine zlald (v := u_o u1 0) hx hb hK hPl 0 1 lwo_0 rfl (by unfold vp_in; decide) rfl dL_law_581 ?_
    refine lv_iload hx hb dL_law_582 (lv_at hl 0 rfl) ?_
    refine lv_i2l hx hb dL_law_584 rfl ?_
    refine W.lcmp hx hb dL_law_585 ?_
    refine lv_if_eq (tgt := 591) hx hb dL_law_586 (by decide) (fun _ => ?_) (fun c9 => absurd ((lg_cmp_eq _ _).mpr ((hR h0).trans (congrArg Int32.toInt64 ((hrb h0).symm)))) c9)
    refine lv_goto (tgt := 1353) hx hb dL_law_591 (by decide) ?_
    exact kk _ _ _ ⟨_, _, _, u1, _, _, _, _, hok1, h91, hu1, hP, hD, hS⟩ (lv_sub hl [2, 3, 4, 5, 6] rfl)

set_option maxHeartbeats 4000000 in
set_option maxRecDepth 100000 in
theorem cs_guarantee {p : Program} {e : Env} {s : State} {m : MethodId} {below : List Frame} {meth : Method} {c : Code} {l : Launch} {b L : Nat} {xs : Nat → Int32} {D : va_G} {cI cL cE cP : ClassId} {am : Nat → Nat} {o ax : Nat} {cells slots : Nat} {Q : State → Prop} {x4 : Int32} {H : Heap} {locs : List Loc} {ls : Array Slot} (C : LC p s m meth c b L xs D cI cL cE cP l) (hin : Lin x4 L) (hc : cells ≤ 600000) (hs : slots ≤ 7000000) (hI : LI D cI cL cE cP am o ax s H locs) (hl : lv_has ls 7 [(0, .ref b), (1, .ref ax), (2, .ref (am 0)), (3, .ref o), (4, .int x4)])
    (kk : ∀ (H : Heap) (locs : List Loc) (ls : Array Slot), LI D cI cL cE cP am o ax s H locs → lv_has ls 7 [(0, .ref b), (1, .ref ax), (2, .ref (am 0)), (3, .ref o), (4, .int x4)] → W p l e room_1 s m #[Value.ref b] below meth c H locs (cells + 1) (slots + 8) Q (F0 m 1353 ls [])) : W p l e room_1 s m #[Value.ref b] below meth c H locs cells slots Q (F0 m 594 ls []) := by
  obtain ⟨⟨hx, hb, hr, hml, hown0, hts0, hX0, hbl, hlocks, hgv⟩, hE, hXx, hN, hU0, hfl⟩ := C
  have hown : s.vm.findClass RL = some m.cls := hown0
  have hts : ∀ w ∈ wsL_law, w.before #[Value.ref b] s = true := fun w h => hts0 w (wsL_law_in w h)
  have hA : ∀ q : Nat, s.heap.size ≤ q → lA s q := fun _ h => h
  have hbA : ¬ lA s b := Nat.not_le.mpr hbl
  have hK := hE.1
  obtain ⟨i0, i1, i2, i3, i4, i5, i6⟩ := hin
  obtain ⟨g, n, k, u, tb, my, lt, th, hok, h9, hu, hP, hD, hS⟩ := hI
  subst hu
  have hP : va_P D vwCl ((mws cI am g n k tb my lt th) ++ (lwo cI cL cE cP o g n k u)) H := hP
  have hD : va_D (lA s) ((mws cI am g n k tb my lt th) ++ (lwo cI cL cE cP o g n k u)) := hD
  refine lv_aload_n hx hb dL_law_594 rfl (lv_at hl 1 rfl) ?_
  refine lv_aload_n hx hb dL_law_595 rfl (lv_at hl 0 rfl) ?_
  refine lv_iload hx hb dL_law_596 (lv_at hl 4 rfl) ?_
  refine lv_iconst (v := 1) hx hb dL_law_598 (by decide) ?_
  refine lv_iadd hx hb dL_law_599 ?_
  refine va_sld hx hb hX0 hbl hbA hS i1 dL_law_600 ?_
  refine lv_topi (fun x e_x => ?_)
  refine lv_aload_n hx hb dL_law_601 rfl (lv_at hl 0 rfl) ?_
  refine lv_iload hx hb dL_law_602 (lv_at hl 4 rfl) ?_
  refine lv_iconst (v := 2) hx hb dL_law_604 (by decide) ?_
  refine lv_iadd hx hb dL_law_605 ?_
  refine va_sld hx hb hX0 hbl hbA hS i2 dL_law_606 ?_
  refine lv_topi (fun k0 e_k0 => ?_)
  refine lv_aload_n hx hb dL_law_607 rfl (lv_at hl 0 rfl) ?_
  refine lv_iload hx hb dL_law_608 (lv_at hl 4 rfl) ?_
  refine lv_iconst (v := 3) hx hb dL_law_610 (by decide) ?_
  refine lv_iadd hx hb dL_law_611 ?_
  refine va_sld hx hb hX0 hbl hbA hS i3 dL_law_612 ?_
  refine lv_topi (fun s0 e_s0 => ?_)
  refine lv_aload_n hx hb dL_law_613 rfl (lv_at hl 3 rfl) ?_
  have hPc := (zP_app (w1 := (mws cI am g n k tb my lt th)) (w2 := (lwo cI cL cE cP o g n k u)) hP).2
  have hDc := (zD_app (w1 := (mws cI am g n k tb my lt th)) (w2 := (lwo cI cL cE cP o g n k u)) hD).2.1
  have hUc : zU (va_A (lwo cI cL cE cP o g n k u) H.size) s H := (hU0.kept hS.2.1).narrow (va_A_in2 (wr := (mws cI am g n k tb my lt th)) hD hS hA)
  refine zcalliJ (wr := (mws cI am g n k tb my lt th)) (wc := (lwo cI cL cE cP o g n k u)) (vx_runSW (As := [.ref (u.1 0), .int x, .int k0, .int s0, .ref o]) (rest := []) ⟨hx, hb, hml, hown, hts⟩ (zL_guarantee l hfl D cI cL cE cP o g n k u hok x k0 s0 H.size) (vx_cwSW 5 hts gL_law_L_guarantee rfl rfl rfl (by decide +kernel) ⟨Nat.le_of_ble_eq_true rfl, Nat.le_of_ble_eq_true rfl⟩) ⟨zPy_blind, zPy_mk hE hPc hDc hXx hUc hN⟩ rfl rfl hl.1 rfl (lv_room (Nat.le_of_ble_eq_true rfl)) dL_law_614 (zroomL (by omega) (by omega))) hP hD hS hA (fun r u1 H locs hr1 hP hD hS => ?_)
  obtain ⟨hT, hR, hu1⟩ := hr1
  have hP : va_P D vwCl ((mws cI am g n k tb my lt th) ++ (lwo cI cL cE cP o (if T_guarantee n x k0 s0 = 0 then gR (gR g 9 (upd (g 9) x.toNatClampNeg k0)) 10 (upd (g 10) x.toNatClampNeg s0) else g) (n) (k) u1)) H := hP
  have hD : va_D (lA s) ((mws cI am g n k tb my lt th) ++ (lwo cI cL cE cP o (if T_guarantee n x k0 s0 = 0 then gR (gR g 9 (upd (g 9) x.toNatClampNeg k0)) 10 (upd (g 10) x.toNatClampNeg s0) else g) (n) (k) u1)) := hD
  refine lv_istore (lv' := [(5, .int r), (0, .ref b), (1, .ref (u.1 0)), (2, .ref (am 0)), (3, .ref o), (4, .int x4)]) hx hb dL_law_617 hl (by decide) rfl (fun ls hl => ?_)
  refine lv_aload_n hx hb dL_law_619 rfl (lv_at hl 3 rfl) ?_
  refine lv_aload_n hx hb dL_law_620 rfl (lv_at hl 1 rfl) ?_
  refine lv_iload hx hb dL_law_621 (lv_at hl 5 rfl) ?_
  refine lv_iconst (v := 1) hx hb dL_law_623 (by decide) ?_
  refine lv_iadd hx hb dL_law_624 ?_
  refine va_sld hx hb hX0 hbl hbA hS i1 dL_law_625 ?_
  refine lv_topi (fun y_ ey_ => ?_)
  obtain rfl : x = y_ := e_x.trans ey_.symm
  refine lv_aload_n hx hb dL_law_626 rfl (lv_at hl 1 rfl) ?_
  refine lv_iload hx hb dL_law_627 (lv_at hl 5 rfl) ?_
  refine lv_iconst (v := 2) hx hb dL_law_629 (by decide) ?_
  refine lv_iadd hx hb dL_law_630 ?_
  refine va_sld hx hb hX0 hbl hbA hS i2 dL_law_631 ?_
  refine lv_topi (fun y_ ey_ => ?_)
  obtain rfl : k0 = y_ := e_k0.trans ey_.symm
  refine lv_aload_n hx hb dL_law_632 rfl (lv_at hl 1 rfl) ?_
  refine lv_iload hx hb dL_law_633 (lv_at hl 5 rfl) ?_
  refine lv_iconst (v := 3) hx hb dL_law_635 (by decide) ?_
  refine lv_iadd hx hb dL_law_636 ?_
  refine va_sld hx hb hX0 hbl hbA hS i3 dL_law_637 ?_
  refine lv_topi (fun y_ ey_ => ?_)
  obtain rfl : s0 = y_ := e_s0.trans ey_.symm
  have hPm := (zP_app (w1 := (mws cI am g n k tb my lt th)) (w2 := (lwo cI cL cE cP o (if T_guarantee n x k0 s0 = 0 then gR (gR g 9 (upd (g 9) x.toNatClampNeg k0)) 10 (upd (g 10) x.toNatClampNeg s0) else g) (n) (k) u1)) hP).1
  have hDm := (zD_app (w1 := (mws cI am g n k tb my lt th)) (w2 := (lwo cI cL cE cP o (if T_guarantee n x k0 s0 = 0 then gR (gR g 9 (upd (g 9) x.toNatClampNeg k0)) 10 (upd (g 10) x.toNatClampNeg s0) else g) (n) (k) u1)) hD).1
  refine zcalliJ (wr := (lwo cI cL cE cP o (if T_guarantee n x k0 s0 = 0 then gR (gR g 9 (upd (g 9) x.toNatClampNeg k0)) 10 (upd (g 10) x.toNatClampNeg s0) else g) (n) (k) u1)) (wc := (mws cI am g n k tb my lt th)) (va_runV (As := [.int x, .int k0, .int s0]) (rest := []) ⟨hx, hb, hml, hown, hts⟩ (zX4_guarantee l D cI cL cE cP am g n k tb my lt th hok x k0 s0 H.size) (cwV 3 hts gL_law_X4_guarantee rfl rfl rfl (by decide +kernel) ⟨Nat.le_of_ble_eq_true rfl, Nat.le_of_ble_eq_true rfl⟩) ⟨zPw_blind, va_recv hK hPm (ci := 4) (q0 := 0) rfl mws_0, zPw_mk hE hPm hDm⟩ rfl rfl hl.1 rfl (lv_room (Nat.le_of_ble_eq_true rfl)) dL_law_638 (zroomL (by omega) (by omega))) (zP_swap hP) (zD_swap hD) hS hA (fun rb um H locs hrb hP hD hS => ?_)
  have hP : va_P D vwCl ((mws cI am (if T_guarantee n x k0 s0 = 0 then gR (gR g 9 (upd (g 9) x.toNatClampNeg k0)) 10 (upd (g 10) x.toNatClampNeg s0) else g) (n) (k) tb my lt (T_guarantee n x k0 s0)) ++ (lwo cI cL cE cP o (if T_guarantee n x k0 s0 = 0 then gR (gR g 9 (upd (g 9) x.toNatClampNeg k0)) 10 (upd (g 10) x.toNatClampNeg s0) else g) (n) (k) u1)) H := zP_swap hP
  have hD : va_D (lA s) ((mws cI am (if T_guarantee n x k0 s0 = 0 then gR (gR g 9 (upd (g 9) x.toNatClampNeg k0)) 10 (upd (g 10) x.toNatClampNeg s0) else g) (n) (k) tb my lt (T_guarantee n x k0 s0)) ++ (lwo cI cL cE cP o (if T_guarantee n x k0 s0 = 0 then gR (gR g 9 (upd (g 9) x.toNatClampNeg k0)) 10 (upd (g 10) x.toNatClampNeg s0) else g) (n) (k) u1)) := zD_swap hD
  have hrb : T_guarantee n x k0 s0 = 0 → rb = _ := hrb
  refine lv_istore (lv' := [(6, .int rb), (5, .int r), (0, .ref b), (1, .ref (u.1 0)), (2, .ref (am 0)), (3, .ref o), (4, .int x4)]) hx hb dL_law_641 hl (by decide) rfl (fun ls hl => ?_)
  obtain ⟨hok1, h91⟩ := iv hok h9 (ok_guarantee hok) (h9_guarantee hok h9)
  have hok1 : zOk (if T_guarantee n x k0 s0 = 0 then gR (gR g 9 (upd (g 9) x.toNatClampNeg k0)) 10 (upd (g 10) x.toNatClampNeg s0) else g) (n) (k) := hok1
  have h91 : zH9 (if T_guarantee n x k0 s0 = 0 then gR (gR g 9 (upd (g 9) x.toNatClampNeg k0)) 10 (upd (g 10) x.toNatClampNeg s0) else g) (n) := h91
  have hPm := (zP_app (w1 := (mws cI am (if T_guarantee n x k0 s0 = 0 then gR (gR g 9 (upd (g 9) x.toNatClampNeg k0)) 10 (upd (g 10) x.toNatClampNeg s0) else g) (n) (k) tb my lt (T_guarantee n x k0 s0))) (w2 := (lwo cI cL cE cP o (if T_guarantee n x k0 s0 = 0 then gR (gR g 9 (upd (g 9) x.toNatClampNeg k0)) 10 (upd (g 10) x.toNatClampNeg s0) else g) (n) (k) u1)) hP).1
  refine lv_aload_n hx hb dL_law_643 rfl (lv_at hl 4 rfl) ?_
  refine vp_callSi (va_Run.run (va_runV (As := []) (rest := []) ⟨hx, hb, hml, hown, hts⟩ (zX4_thrown l D cI cL cE cP am (if T_guarantee n x k0 s0 = 0 then gR (gR g 9 (upd (g 9) x.toNatClampNeg k0)) 10 (upd (g 10) x.toNatClampNeg s0) else g) (n) (k) tb my lt (T_guarantee n x k0 s0) hok1) (cwV 0 hts gL_law_X4_thrown rfl rfl rfl (by decide +kernel) ⟨Nat.le_of_ble_eq_true rfl, Nat.le_of_ble_eq_true rfl⟩) ⟨zPr_blind, va_recv hK hPm (ci := 4) (q0 := 0) rfl mws_0, zPr_mk hE hPm⟩ rfl rfl hl.1 rfl (lv_room (Nat.le_of_ble_eq_true rfl)) dL_law_644 (zroomL (by omega) (by omega)))) (fun rt et => ?_)
  refine lv_iload hx hb dL_law_647 (lv_at hl 1 rfl) ?_
  refine lv_icmp_eq (tgt := 654) hx hb dL_law_649 (by decide) (fun _ => ?_) (fun c9 => absurd (et.trans hT.symm) c9)
  refine W.widen (k := cells + 1) (n := slots + 8) (by omega) (by omega) ?_
  refine lv_iload hx hb dL_law_654 (lv_at hl 1 rfl) ?_
  refine lv_if_ne (tgt := 671) hx hb dL_law_656 (by decide) (fun _ => ?_) (fun c8 => ?_)
  · refine lv_goto (tgt := 1353) hx hb dL_law_671 (by decide) ?_
    exact kk _ _ _ ⟨_, _, _, u1, _, _, _, _, hok1, h91, hu1, hP, hD, hS⟩ (lv_sub hl [2, 3, 4, 5, 6] rfl)
  · have h0 : T_guarantee n x k0 s0 = 0 := hT.symm.trans c8
    refine lv_aload_n hx hb dL_law_659 rfl (lv_at hl 5 rfl) ?_
    refine lv_iconst (v := 0) hx hb dL_law_660 (by decide) ?_
    have hPl := (zP_app (w1 := (mws cI am (if T_guarantee n x k0 s0 = 0 then gR (gR g 9 (upd (g 9) x.toNatClampNeg k0)) 10 (upd (g 10) x.toNatClampNeg s0) else g) (n) (k) tb my lt (T_guarantee n x k0 s0))) (w2 := (lwo cI cL cE cP o (if T_guarantee n x k0 s0 = 0 then gR (gR g 9 (upd (g 9) x.toNatClampNeg k0)) 10 (upd (g 10) x.toNatClampNeg s0) else g) (n) (k) u1)) hP).2
    refine zlald (v := u_o u1 0) hx hb hK hPl 0 1 lwo_0 rfl (by unfold vp_in; decide) rfl dL_law_661 ?_
    refine lv_iload hx hb dL_law_662 (lv_at hl 0 rfl) ?_
    refine lv_i2l hx hb dL_law_664 rfl ?_
    refine W.lcmp hx hb dL_law_665 ?_
    refine lv_if_eq (tgt := 671) hx hb dL_law_666 (by decide) (fun _ => ?_) (fun c9 => absurd ((lg_cmp_eq _ _).mpr ((hR h0).trans (congrArg Int32.toInt64 ((hrb h0).symm)))) c9)
    refine lv_goto (tgt := 1353) hx hb dL_law_671 (by decide) ?_
    exact kk _ _ _ ⟨_, _, _, u1, _, _, _, _, hok1, h91, hu1, hP, hD, hS⟩ (lv_sub hl [2, 3, 4, 5, 6] rfl)

set_option maxHeartbeats 4000000 in
set_option maxRecDepth 100000 in
theorem cs_exposures {p : Program} {e : Env} {s : State} {m : MethodId} {below : List Frame} {meth : Method} {c : Code} {l : Launch} {b L : Nat} {xs : Nat → Int32} {D : va_G} {cI cL cE cP : ClassId} {am : Nat → Nat} {o ax : Nat} {cells slots : Nat} {Q : State → Prop} {x4 : Int32} {H : Heap} {locs : List Loc} {ls : Array Slot} (C : LC p s m meth c b L xs D cI cL cE cP l) (hin : Lin x4 L) (hc : cells ≤ 600000) (hs : slots ≤ 7000000) (hI : LI D cI cL cE cP am o ax s H locs) (hl : lv_has ls 7 [(0, .ref b), (1, .ref ax), (2, .ref (am 0)), (3, .ref o), (4, .int x4)])
    (kk : ∀ (H : Heap) (locs : List Loc) (ls : Array Slot), LI D cI cL cE cP am o ax s H locs → lv_has ls 7 [(0, .ref b), (1, .ref ax), (2, .ref (am 0)), (3, .ref o), (4, .int x4)] → W p l e room_1 s m #[Value.ref b] below meth c H locs (cells + 1) (slots + 8) Q (F0 m 1353 ls [])) : W p l e room_1 s m #[Value.ref b] below meth c H locs cells slots Q (F0 m 674 ls []) := by
  obtain ⟨⟨hx, hb, hr, hml, hown0, hts0, hX0, hbl, hlocks, hgv⟩, hE, hXx, hN, hU0, hfl⟩ := C
  have hown : s.vm.findClass RL = some m.cls := hown0
  have hts : ∀ w ∈ wsL_law, w.before #[Value.ref b] s = true := fun w h => hts0 w (wsL_law_in w h)
  have hA : ∀ q : Nat, s.heap.size ≤ q → lA s q := fun _ h => h
  have hbA : ¬ lA s b := Nat.not_le.mpr hbl
  have hK := hE.1
  obtain ⟨i0, i1, i2, i3, i4, i5, i6⟩ := hin
  obtain ⟨g, n, k, u, tb, my, lt, th, hok, h9, hu, hP, hD, hS⟩ := hI
  subst hu
  have hP : va_P D vwCl ((mws cI am g n k tb my lt th) ++ (lwo cI cL cE cP o g n k u)) H := hP
  have hD : va_D (lA s) ((mws cI am g n k tb my lt th) ++ (lwo cI cL cE cP o g n k u)) := hD
  refine lv_aload_n hx hb dL_law_674 rfl (lv_at hl 1 rfl) ?_
  have hPc : va_P D vwCl (cwu cI cL cE cP g n k u) H := (zP_app (w1 := [(o, .inl (cL, 1, .inr (.inl (u_o u))))]) (zP_app (w1 := (mws cI am g n k tb my lt th)) (w2 := (lwo cI cL cE cP o g n k u)) hP).2).2
  refine vp_callSi (va_Run.run (va_runV (As := []) (rest := []) ⟨hx, hb, hml, hown, hts⟩ (zX3_exposures l D cI cL cE cP u.1 g n k u.2.1 u.2.2.1 u.2.2.2.1 u.2.2.2.2.1 u.2.2.2.2.2.1 u.2.2.2.2.2.2.1 u.2.2.2.2.2.2.2.1 hok) (cwV 0 hts gL_law_X3_exposures rfl rfl rfl (by decide +kernel) ⟨Nat.le_of_ble_eq_true rfl, Nat.le_of_ble_eq_true rfl⟩) ⟨zPr_blind, va_recv hK hPc (ci := 3) (q0 := 0) rfl cws_0, zPr_mk hE hPc⟩ rfl rfl hl.1 rfl (lv_room (Nat.le_of_ble_eq_true rfl)) dL_law_675 (zroomL (by omega) (by omega)))) (fun r e1 => ?_)
  refine lv_aload_n hx hb dL_law_678 rfl (lv_at hl 2 rfl) ?_
  have hPm := (zP_app (w1 := (mws cI am g n k tb my lt th)) (w2 := (lwo cI cL cE cP o g n k u)) hP).1
  have hDm := (zD_app (w1 := (mws cI am g n k tb my lt th)) (w2 := (lwo cI cL cE cP o g n k u)) hD).1
  refine zcalliJ (wr := (lwo cI cL cE cP o g n k u)) (wc := (mws cI am g n k tb my lt th)) (va_runV (As := []) (rest := [.int r]) ⟨hx, hb, hml, hown, hts⟩ (zX4_exposures l D cI cL cE cP am g n k tb my lt th hok H.size) (cwV 0 hts gL_law_X4_exposures rfl rfl rfl (by decide +kernel) ⟨Nat.le_of_ble_eq_true rfl, Nat.le_of_ble_eq_true rfl⟩) ⟨zPw_blind, va_recv hK hPm (ci := 4) (q0 := 0) rfl mws_0, zPw_mk hE hPm hDm⟩ rfl rfl hl.1 rfl (lv_room (Nat.le_of_ble_eq_true rfl)) dL_law_679 (zroomL (by omega) (by omega))) (zP_swap hP) (zD_swap hD) hS hA (fun rb _ H locs e2 hP hD hS => ?_)
  have hP : va_P D vwCl ((mws cI am g n k tb my lt 0) ++ (lwo cI cL cE cP o g n k u)) H := zP_swap hP
  have hD : va_D (lA s) ((mws cI am g n k tb my lt 0) ++ (lwo cI cL cE cP o g n k u)) := zD_swap hD
  refine W.widen (k := cells + 1) (n := slots + 8) (by omega) (by omega) ?_
  refine lv_icmp_eq (tgt := 1353) hx hb dL_law_682 (by decide) (fun _ => ?_) (fun c9 => absurd (e1.trans (e2.symm)) c9)
  exact kk _ _ _ ⟨g, n, k, u, _, _, _, _, hok, h9, rfl, hP, hD, hS⟩ hl

set_option maxHeartbeats 4000000 in
set_option maxRecDepth 100000 in
theorem cs_amount {p : Program} {e : Env} {s : State} {m : MethodId} {below : List Frame} {meth : Method} {c : Code} {l : Launch} {b L : Nat} {xs : Nat → Int32} {D : va_G} {cI cL cE cP : ClassId} {am : Nat → Nat} {o ax : Nat} {cells slots : Nat} {Q : State → Prop} {x4 : Int32} {H : Heap} {locs : List Loc} {ls : Array Slot} (C : LC p s m meth c b L xs D cI cL cE cP l) (hin : Lin x4 L) (hc : cells ≤ 600000) (hs : slots ≤ 7000000) (hI : LI D cI cL cE cP am o ax s H locs) (hl : lv_has ls 7 [(0, .ref b), (1, .ref ax), (2, .ref (am 0)), (3, .ref o), (4, .int x4)])
    (kk : ∀ (H : Heap) (locs : List Loc) (ls : Array Slot), LI D cI cL cE cP am o ax s H locs → lv_has ls 7 [(0, .ref b), (1, .ref ax), (2, .ref (am 0)), (3, .ref o), (4, .int x4)] → W p l e room_1 s m #[Value.ref b] below meth c H locs (cells + 1) (slots + 8) Q (F0 m 1353 ls [])) : W p l e room_1 s m #[Value.ref b] below meth c H locs cells slots Q (F0 m 687 ls []) := by
  obtain ⟨⟨hx, hb, hr, hml, hown0, hts0, hX0, hbl, hlocks, hgv⟩, hE, hXx, hN, hU0, hfl⟩ := C
  have hown : s.vm.findClass RL = some m.cls := hown0
  have hts : ∀ w ∈ wsL_law, w.before #[Value.ref b] s = true := fun w h => hts0 w (wsL_law_in w h)
  have hA : ∀ q : Nat, s.heap.size ≤ q → lA s q := fun _ h => h
  have hbA : ¬ lA s b := Nat.not_le.mpr hbl
  have hK := hE.1
  obtain ⟨i0, i1, i2, i3, i4, i5, i6⟩ := hin
  obtain ⟨g, n, k, u, tb, my, lt, th, hok, h9, hu, hP, hD, hS⟩ := hI
  subst hu
  have hP : va_P D vwCl ((mws cI am g n k tb my lt th) ++ (lwo cI cL cE cP o g n k u)) H := hP
  have hD : va_D (lA s) ((mws cI am g n k tb my lt th) ++ (lwo cI cL cE cP o g n k u)) := hD
  refine lv_aload_n hx hb dL_law_687 rfl (lv_at hl 1 rfl) ?_
  refine lv_aload_n hx hb dL_law_688 rfl (lv_at hl 0 rfl) ?_
  refine lv_iload hx hb dL_law_689 (lv_at hl 4 rfl) ?_
  refine lv_iconst (v := 1) hx hb dL_law_691 (by decide) ?_
  refine lv_iadd hx hb dL_law_692 ?_
  refine va_sld hx hb hX0 hbl hbA hS i1 dL_law_693 ?_
  refine lv_topi (fun x e_x => ?_)
  refine lv_aload_n hx hb dL_law_694 rfl (lv_at hl 3 rfl) ?_
  have hPc := (zP_app (w1 := (mws cI am g n k tb my lt th)) (w2 := (lwo cI cL cE cP o g n k u)) hP).2
  have hDc := (zD_app (w1 := (mws cI am g n k tb my lt th)) (w2 := (lwo cI cL cE cP o g n k u)) hD).2.1
  have hUc : zU (va_A (lwo cI cL cE cP o g n k u) H.size) s H := (hU0.kept hS.2.1).narrow (va_A_in2 (wr := (mws cI am g n k tb my lt th)) hD hS hA)
  refine zcalliJ (wr := (mws cI am g n k tb my lt th)) (wc := (lwo cI cL cE cP o g n k u)) (vx_runSW (As := [.ref (u.1 0), .int x, .ref o]) (rest := []) ⟨hx, hb, hml, hown, hts⟩ (zL_amount l hfl D cI cL cE cP o g n k u hok x H.size) (vx_cwSW 3 hts gL_law_L_amount rfl rfl rfl (by decide +kernel) ⟨Nat.le_of_ble_eq_true rfl, Nat.le_of_ble_eq_true rfl⟩) ⟨zPy_blind, zPy_mk hE hPc hDc hXx hUc hN⟩ rfl rfl hl.1 rfl (lv_room (Nat.le_of_ble_eq_true rfl)) dL_law_695 (zroomL (by omega) (by omega))) hP hD hS hA (fun r u1 H locs hr1 hP hD hS => ?_)
  obtain ⟨hT, hR, hu1⟩ := hr1
  have hP : va_P D vwCl ((mws cI am g n k tb my lt th) ++ (lwo cI cL cE cP o (g) (n) (k) u1)) H := hP
  have hD : va_D (lA s) ((mws cI am g n k tb my lt th) ++ (lwo cI cL cE cP o (g) (n) (k) u1)) := hD
  refine lv_istore (lv' := [(5, .int r), (0, .ref b), (1, .ref (u.1 0)), (2, .ref (am 0)), (3, .ref o), (4, .int x4)]) hx hb dL_law_698 hl (by decide) rfl (fun ls hl => ?_)
  refine lv_aload_n hx hb dL_law_700 rfl (lv_at hl 3 rfl) ?_
  refine lv_aload_n hx hb dL_law_701 rfl (lv_at hl 1 rfl) ?_
  refine lv_iload hx hb dL_law_702 (lv_at hl 5 rfl) ?_
  refine lv_iconst (v := 1) hx hb dL_law_704 (by decide) ?_
  refine lv_iadd hx hb dL_law_705 ?_
  refine va_sld hx hb hX0 hbl hbA hS i1 dL_law_706 ?_
  refine lv_topi (fun y_ ey_ => ?_)
  obtain rfl : x = y_ := e_x.trans ey_.symm
  have hPm := (zP_app (w1 := (mws cI am g n k tb my lt th)) (w2 := (lwo cI cL cE cP o (g) (n) (k) u1)) hP).1
  have hDm := (zD_app (w1 := (mws cI am g n k tb my lt th)) (w2 := (lwo cI cL cE cP o (g) (n) (k) u1)) hD).1
  refine zcalliJ (wr := (lwo cI cL cE cP o (g) (n) (k) u1)) (wc := (mws cI am g n k tb my lt th)) (va_runV (As := [.int x]) (rest := []) ⟨hx, hb, hml, hown, hts⟩ (zX4_amount l D cI cL cE cP am g n k tb my lt th hok x H.size) (cwV 1 hts gL_law_X4_amount rfl rfl rfl (by decide +kernel) ⟨Nat.le_of_ble_eq_true rfl, Nat.le_of_ble_eq_true rfl⟩) ⟨zPw_blind, va_recv hK hPm (ci := 4) (q0 := 0) rfl mws_0, zPw_mk hE hPm hDm⟩ rfl rfl hl.1 rfl (lv_room (Nat.le_of_ble_eq_true rfl)) dL_law_707 (zroomL (by omega) (by omega))) (zP_swap hP) (zD_swap hD) hS hA (fun rb um H locs hrb hP hD hS => ?_)
  have hP : va_P D vwCl ((mws cI am (g) (n) (k) tb my lt (T_amount n x)) ++ (lwo cI cL cE cP o (g) (n) (k) u1)) H := zP_swap hP
  have hD : va_D (lA s) ((mws cI am (g) (n) (k) tb my lt (T_amount n x)) ++ (lwo cI cL cE cP o (g) (n) (k) u1)) := zD_swap hD
  have hrb : T_amount n x = 0 → rb = _ := hrb
  refine lv_istore (lv' := [(6, .int rb), (5, .int r), (0, .ref b), (1, .ref (u.1 0)), (2, .ref (am 0)), (3, .ref o), (4, .int x4)]) hx hb dL_law_710 hl (by decide) rfl (fun ls hl => ?_)
  have hok1 := hok
  have h91 := h9
  have hok1 : zOk (g) (n) (k) := hok1
  have h91 : zH9 (g) (n) := h91
  have hPm := (zP_app (w1 := (mws cI am (g) (n) (k) tb my lt (T_amount n x))) (w2 := (lwo cI cL cE cP o (g) (n) (k) u1)) hP).1
  refine lv_aload_n hx hb dL_law_712 rfl (lv_at hl 4 rfl) ?_
  refine vp_callSi (va_Run.run (va_runV (As := []) (rest := []) ⟨hx, hb, hml, hown, hts⟩ (zX4_thrown l D cI cL cE cP am (g) (n) (k) tb my lt (T_amount n x) hok1) (cwV 0 hts gL_law_X4_thrown rfl rfl rfl (by decide +kernel) ⟨Nat.le_of_ble_eq_true rfl, Nat.le_of_ble_eq_true rfl⟩) ⟨zPr_blind, va_recv hK hPm (ci := 4) (q0 := 0) rfl mws_0, zPr_mk hE hPm⟩ rfl rfl hl.1 rfl (lv_room (Nat.le_of_ble_eq_true rfl)) dL_law_713 (zroomL (by omega) (by omega)))) (fun rt et => ?_)
  refine lv_iload hx hb dL_law_716 (lv_at hl 1 rfl) ?_
  refine lv_icmp_eq (tgt := 723) hx hb dL_law_718 (by decide) (fun _ => ?_) (fun c9 => absurd (et.trans hT.symm) c9)
  refine W.widen (k := cells + 1) (n := slots + 8) (by omega) (by omega) ?_
  refine lv_iload hx hb dL_law_723 (lv_at hl 1 rfl) ?_
  refine lv_if_ne (tgt := 740) hx hb dL_law_725 (by decide) (fun _ => ?_) (fun c8 => ?_)
  · refine lv_goto (tgt := 1353) hx hb dL_law_740 (by decide) ?_
    exact kk _ _ _ ⟨_, _, _, u1, _, _, _, _, hok1, h91, hu1, hP, hD, hS⟩ (lv_sub hl [2, 3, 4, 5, 6] rfl)
  · have h0 : T_amount n x = 0 := hT.symm.trans c8
    refine lv_aload_n hx hb dL_law_728 rfl (lv_at hl 5 rfl) ?_
    refine lv_iconst (v := 0) hx hb dL_law_729 (by decide) ?_
    have hPl := (zP_app (w1 := (mws cI am (g) (n) (k) tb my lt (T_amount n x))) (w2 := (lwo cI cL cE cP o (g) (n) (k) u1)) hP).2
    refine zlald (v := u_o u1 0) hx hb hK hPl 0 1 lwo_0 rfl (by unfold vp_in; decide) rfl dL_law_730 ?_
    refine lv_iload hx hb dL_law_731 (lv_at hl 0 rfl) ?_
    refine lv_i2l hx hb dL_law_733 rfl ?_
    refine W.lcmp hx hb dL_law_734 ?_
    refine lv_if_eq (tgt := 740) hx hb dL_law_735 (by decide) (fun _ => ?_) (fun c9 => absurd ((lg_cmp_eq _ _).mpr ((hR h0).trans (congrArg Int32.toInt64 ((hrb h0).symm)))) c9)
    refine lv_goto (tgt := 1353) hx hb dL_law_740 (by decide) ?_
    exact kk _ _ _ ⟨_, _, _, u1, _, _, _, _, hok1, h91, hu1, hP, hD, hS⟩ (lv_sub hl [2, 3, 4, 5, 6] rfl)

set_option maxHeartbeats 4000000 in
set_option maxRecDepth 100000 in
theorem cs_addPiece {p : Program} {e : Env} {s : State} {m : MethodId} {below : List Frame} {meth : Method} {c : Code} {l : Launch} {b L : Nat} {xs : Nat → Int32} {D : va_G} {cI cL cE cP : ClassId} {am : Nat → Nat} {o ax : Nat} {cells slots : Nat} {Q : State → Prop} {x4 : Int32} {H : Heap} {locs : List Loc} {ls : Array Slot} (C : LC p s m meth c b L xs D cI cL cE cP l) (hin : Lin x4 L) (hc : cells ≤ 600000) (hs : slots ≤ 7000000) (hI : LI D cI cL cE cP am o ax s H locs) (hl : lv_has ls 7 [(0, .ref b), (1, .ref ax), (2, .ref (am 0)), (3, .ref o), (4, .int x4)])
    (kk : ∀ (H : Heap) (locs : List Loc) (ls : Array Slot), LI D cI cL cE cP am o ax s H locs → lv_has ls 7 [(0, .ref b), (1, .ref ax), (2, .ref (am 0)), (3, .ref o), (4, .int x4)] → W p l e room_1 s m #[Value.ref b] below meth c H locs (cells + 1) (slots + 8) Q (F0 m 1353 ls [])) : W p l e room_1 s m #[Value.ref b] below meth c H locs cells slots Q (F0 m 743 ls []) := by
  obtain ⟨⟨hx, hb, hr, hml, hown0, hts0, hX0, hbl, hlocks, hgv⟩, hE, hXx, hN, hU0, hfl⟩ := C
  have hown : s.vm.findClass RL = some m.cls := hown0
  have hts : ∀ w ∈ wsL_law, w.before #[Value.ref b] s = true := fun w h => hts0 w (wsL_law_in w h)
  have hA : ∀ q : Nat, s.heap.size ≤ q → lA s q := fun _ h => h
  have hbA : ¬ lA s b := Nat.not_le.mpr hbl
  have hK := hE.1
  obtain ⟨i0, i1, i2, i3, i4, i5, i6⟩ := hin
  obtain ⟨g, n, k, u, tb, my, lt, th, hok, h9, hu, hP, hD, hS⟩ := hI
  subst hu
  have hP : va_P D vwCl ((mws cI am g n k tb my lt th) ++ (lwo cI cL cE cP o g n k u)) H := hP
  have hD : va_D (lA s) ((mws cI am g n k tb my lt th) ++ (lwo cI cL cE cP o g n k u)) := hD
  refine lv_aload_n hx hb dL_law_743 rfl (lv_at hl 1 rfl) ?_
  refine lv_aload_n hx hb dL_law_744 rfl (lv_at hl 0 rfl) ?_
  refine lv_iload hx hb dL_law_745 (lv_at hl 4 rfl) ?_
  refine lv_iconst (v := 1) hx hb dL_law_747 (by decide) ?_
  refine lv_iadd hx hb dL_law_748 ?_
  refine va_sld hx hb hX0 hbl hbA hS i1 dL_law_749 ?_
  refine lv_topi (fun a0 e_a0 => ?_)
  refine lv_aload_n hx hb dL_law_750 rfl (lv_at hl 0 rfl) ?_
  refine lv_iload hx hb dL_law_751 (lv_at hl 4 rfl) ?_
  refine lv_iconst (v := 2) hx hb dL_law_753 (by decide) ?_
  refine lv_iadd hx hb dL_law_754 ?_
  refine va_sld hx hb hX0 hbl hbA hS i2 dL_law_755 ?_
  refine lv_topi (fun a1 e_a1 => ?_)
  refine lv_aload_n hx hb dL_law_756 rfl (lv_at hl 0 rfl) ?_
  refine lv_iload hx hb dL_law_757 (lv_at hl 4 rfl) ?_
  refine lv_iconst (v := 3) hx hb dL_law_759 (by decide) ?_
  refine lv_iadd hx hb dL_law_760 ?_
  refine va_sld hx hb hX0 hbl hbA hS i3 dL_law_761 ?_
  refine lv_topi (fun a2 e_a2 => ?_)
  refine lv_aload_n hx hb dL_law_762 rfl (lv_at hl 0 rfl) ?_
  refine lv_iload hx hb dL_law_763 (lv_at hl 4 rfl) ?_
  refine lv_iconst (v := 4) hx hb dL_law_765 (by decide) ?_
  refine lv_iadd hx hb dL_law_766 ?_
  refine va_sld hx hb hX0 hbl hbA hS i4 dL_law_767 ?_
  refine lv_topi (fun a3 e_a3 => ?_)
  refine lv_aload_n hx hb dL_law_768 rfl (lv_at hl 0 rfl) ?_
  refine lv_iload hx hb dL_law_769 (lv_at hl 4 rfl) ?_
  refine lv_iconst (v := 5) hx hb dL_law_771 (by decide) ?_
  refine lv_iadd hx hb dL_law_772 ?_
  refine va_sld hx hb hX0 hbl hbA hS i5 dL_law_773 ?_
  refine lv_topi (fun a4 e_a4 => ?_)
  refine lv_aload_n hx hb dL_law_774 rfl (lv_at hl 3 rfl) ?_
  have hPc := (zP_app (w1 := (mws cI am g n k tb my lt th)) (w2 := (lwo cI cL cE cP o g n k u)) hP).2
  have hDc := (zD_app (w1 := (mws cI am g n k tb my lt th)) (w2 := (lwo cI cL cE cP o g n k u)) hD).2.1
  have hUc : zU (va_A (lwo cI cL cE cP o g n k u) H.size) s H := (hU0.kept hS.2.1).narrow (va_A_in2 (wr := (mws cI am g n k tb my lt th)) hD hS hA)
  refine zcalliJ (wr := (mws cI am g n k tb my lt th)) (wc := (lwo cI cL cE cP o g n k u)) (vx_runSW (As := [.ref (u.1 0), .int a0, .int a1, .int a2, .int a3, .int a4, .ref o]) (rest := []) ⟨hx, hb, hml, hown, hts⟩ (zL_addPiece l hfl D cI cL cE cP o g n k u hok a0 a1 a2 a3 a4 H.size) (vx_cwSW 7 hts gL_law_L_addPiece rfl rfl rfl (by decide +kernel) ⟨Nat.le_of_ble_eq_true rfl, Nat.le_of_ble_eq_true rfl⟩) ⟨zPy_blind, zPy_mk hE hPc hDc hXx hUc hN⟩ rfl rfl hl.1 rfl (lv_room (Nat.le_of_ble_eq_true rfl)) dL_law_775 (zroomL (by omega) (by omega))) hP hD hS hA (fun r u1 H locs hr1 hP hD hS => ?_)
  obtain ⟨hT, hR, hu1⟩ := hr1
  have hP : va_P D vwCl ((mws cI am g n k tb my lt th) ++ (lwo cI cL cE cP o (if T_addPiece k a0 a1 a2 a3 a4 = 0 then gAP g k a0 a1 a2 a3 a4 else g) (n) (if T_addPiece k a0 a1 a2 a3 a4 = 0 then k + 1 else k) u1)) H := hP
  have hD : va_D (lA s) ((mws cI am g n k tb my lt th) ++ (lwo cI cL cE cP o (if T_addPiece k a0 a1 a2 a3 a4 = 0 then gAP g k a0 a1 a2 a3 a4 else g) (n) (if T_addPiece k a0 a1 a2 a3 a4 = 0 then k + 1 else k) u1)) := hD
  refine lv_istore (lv' := [(5, .int r), (0, .ref b), (1, .ref (u.1 0)), (2, .ref (am 0)), (3, .ref o), (4, .int x4)]) hx hb dL_law_778 hl (by decide) rfl (fun ls hl => ?_)
  refine lv_aload_n hx hb dL_law_780 rfl (lv_at hl 3 rfl) ?_
  refine lv_aload_n hx hb dL_law_781 rfl (lv_at hl 1 rfl) ?_
  refine lv_iload hx hb dL_law_782 (lv_at hl 5 rfl) ?_
  refine lv_iconst (v := 1) hx hb dL_law_784 (by decide) ?_
  refine lv_iadd hx hb dL_law_785 ?_
  refine va_sld hx hb hX0 hbl hbA hS i1 dL_law_786 ?_
  refine lv_topi (fun y_ ey_ => ?_)
  obtain rfl : a0 = y_ := e_a0.trans ey_.symm
  refine lv_aload_n hx hb dL_law_787 rfl (lv_at hl 1 rfl) ?_
  refine lv_iload hx hb dL_law_788 (lv_at hl 5 rfl) ?_
  refine lv_iconst (v := 2) hx hb dL_law_790 (by decide) ?_
  refine lv_iadd hx hb dL_law_791 ?_
  refine va_sld hx hb hX0 hbl hbA hS i2 dL_law_792 ?_
  refine lv_topi (fun y_ ey_ => ?_)
  obtain rfl : a1 = y_ := e_a1.trans ey_.symm
  refine lv_aload_n hx hb dL_law_793 rfl (lv_at hl 1 rfl) ?_
  refine lv_iload hx hb dL_law_794 (lv_at hl 5 rfl) ?_
  refine lv_iconst (v := 3) hx hb dL_law_796 (by decide) ?_
  refine lv_iadd hx hb dL_law_797 ?_
  refine va_sld hx hb hX0 hbl hbA hS i3 dL_law_798 ?_
  refine lv_topi (fun y_ ey_ => ?_)
  obtain rfl : a2 = y_ := e_a2.trans ey_.symm
  refine lv_aload_n hx hb dL_law_799 rfl (lv_at hl 1 rfl) ?_
  refine lv_iload hx hb dL_law_800 (lv_at hl 5 rfl) ?_
  refine lv_iconst (v := 4) hx hb dL_law_802 (by decide) ?_
  refine lv_iadd hx hb dL_law_803 ?_
  refine va_sld hx hb hX0 hbl hbA hS i4 dL_law_804 ?_
  refine lv_topi (fun y_ ey_ => ?_)
  obtain rfl : a3 = y_ := e_a3.trans ey_.symm
  refine lv_aload_n hx hb dL_law_805 rfl (lv_at hl 1 rfl) ?_
  refine lv_iload hx hb dL_law_806 (lv_at hl 5 rfl) ?_
  refine lv_iconst (v := 5) hx hb dL_law_808 (by decide) ?_
  refine lv_iadd hx hb dL_law_809 ?_
  refine va_sld hx hb hX0 hbl hbA hS i5 dL_law_810 ?_
  refine lv_topi (fun y_ ey_ => ?_)
  obtain rfl : a4 = y_ := e_a4.trans ey_.symm
  have hPm := (zP_app (w1 := (mws cI am g n k tb my lt th)) (w2 := (lwo cI cL cE cP o (if T_addPiece k a0 a1 a2 a3 a4 = 0 then gAP g k a0 a1 a2 a3 a4 else g) (n) (if T_addPiece k a0 a1 a2 a3 a4 = 0 then k + 1 else k) u1)) hP).1
  have hDm := (zD_app (w1 := (mws cI am g n k tb my lt th)) (w2 := (lwo cI cL cE cP o (if T_addPiece k a0 a1 a2 a3 a4 = 0 then gAP g k a0 a1 a2 a3 a4 else g) (n) (if T_addPiece k a0 a1 a2 a3 a4 = 0 then k + 1 else k) u1)) hD).1
  refine zcalliJ (wr := (lwo cI cL cE cP o (if T_addPiece k a0 a1 a2 a3 a4 = 0 then gAP g k a0 a1 a2 a3 a4 else g) (n) (if T_addPiece k a0 a1 a2 a3 a4 = 0 then k + 1 else k) u1)) (wc := (mws cI am g n k tb my lt th)) (va_runV (As := [.int a0, .int a1, .int a2, .int a3, .int a4]) (rest := []) ⟨hx, hb, hml, hown, hts⟩ (zX4_addPiece l D cI cL cE cP am g n k tb my lt th hok a0 a1 a2 a3 a4 H.size) (cwV 5 hts gL_law_X4_addPiece rfl rfl rfl (by decide +kernel) ⟨Nat.le_of_ble_eq_true rfl, Nat.le_of_ble_eq_true rfl⟩) ⟨zPw_blind, va_recv hK hPm (ci := 4) (q0 := 0) rfl mws_0, zPw_mk hE hPm hDm⟩ rfl rfl hl.1 rfl (lv_room (Nat.le_of_ble_eq_true rfl)) dL_law_811 (zroomL (by omega) (by omega))) (zP_swap hP) (zD_swap hD) hS hA (fun rb um H locs hrb hP hD hS => ?_)
  have hP : va_P D vwCl ((mws cI am (if T_addPiece k a0 a1 a2 a3 a4 = 0 then gAP g k a0 a1 a2 a3 a4 else g) (n) (if T_addPiece k a0 a1 a2 a3 a4 = 0 then k + 1 else k) tb my lt (T_addPiece k a0 a1 a2 a3 a4)) ++ (lwo cI cL cE cP o (if T_addPiece k a0 a1 a2 a3 a4 = 0 then gAP g k a0 a1 a2 a3 a4 else g) (n) (if T_addPiece k a0 a1 a2 a3 a4 = 0 then k + 1 else k) u1)) H := zP_swap hP
  have hD : va_D (lA s) ((mws cI am (if T_addPiece k a0 a1 a2 a3 a4 = 0 then gAP g k a0 a1 a2 a3 a4 else g) (n) (if T_addPiece k a0 a1 a2 a3 a4 = 0 then k + 1 else k) tb my lt (T_addPiece k a0 a1 a2 a3 a4)) ++ (lwo cI cL cE cP o (if T_addPiece k a0 a1 a2 a3 a4 = 0 then gAP g k a0 a1 a2 a3 a4 else g) (n) (if T_addPiece k a0 a1 a2 a3 a4 = 0 then k + 1 else k) u1)) := zD_swap hD
  have hrb : T_addPiece k a0 a1 a2 a3 a4 = 0 → rb = _ := hrb
  refine lv_istore (lv' := [(6, .int rb), (5, .int r), (0, .ref b), (1, .ref (u.1 0)), (2, .ref (am 0)), (3, .ref o), (4, .int x4)]) hx hb dL_law_814 hl (by decide) rfl (fun ls hl => ?_)
  obtain ⟨hok1, h91⟩ := iv_P hok h9
  have hok1 : zOk (if T_addPiece k a0 a1 a2 a3 a4 = 0 then gAP g k a0 a1 a2 a3 a4 else g) (n) (if T_addPiece k a0 a1 a2 a3 a4 = 0 then k + 1 else k) := hok1
  have h91 : zH9 (if T_addPiece k a0 a1 a2 a3 a4 = 0 then gAP g k a0 a1 a2 a3 a4 else g) (n) := h91
  have hPm := (zP_app (w1 := (mws cI am (if T_addPiece k a0 a1 a2 a3 a4 = 0 then gAP g k a0 a1 a2 a3 a4 else g) (n) (if T_addPiece k a0 a1 a2 a3 a4 = 0 then k + 1 else k) tb my lt (T_addPiece k a0 a1 a2 a3 a4))) (w2 := (lwo cI cL cE cP o (if T_addPiece k a0 a1 a2 a3 a4 = 0 then gAP g k a0 a1 a2 a3 a4 else g) (n) (if T_addPiece k a0 a1 a2 a3 a4 = 0 then k + 1 else k) u1)) hP).1
  refine lv_aload_n hx hb dL_law_816 rfl (lv_at hl 4 rfl) ?_
  refine vp_callSi (va_Run.run (va_runV (As := []) (rest := []) ⟨hx, hb, hml, hown, hts⟩ (zX4_thrown l D cI cL cE cP am (if T_addPiece k a0 a1 a2 a3 a4 = 0 then gAP g k a0 a1 a2 a3 a4 else g) (n) (if T_addPiece k a0 a1 a2 a3 a4 = 0 then k + 1 else k) tb my lt (T_addPiece k a0 a1 a2 a3 a4) hok1) (cwV 0 hts gL_law_X4_thrown rfl rfl rfl (by decide +kernel) ⟨Nat.le_of_ble_eq_true rfl, Nat.le_of_ble_eq_true rfl⟩) ⟨zPr_blind, va_recv hK hPm (ci := 4) (q0 := 0) rfl mws_0, zPr_mk hE hPm⟩ rfl rfl hl.1 rfl (lv_room (Nat.le_of_ble_eq_true rfl)) dL_law_817 (zroomL (by omega) (by omega)))) (fun rt et => ?_)
  refine lv_iload hx hb dL_law_820 (lv_at hl 1 rfl) ?_
  refine lv_icmp_eq (tgt := 827) hx hb dL_law_822 (by decide) (fun _ => ?_) (fun c9 => absurd (et.trans hT.symm) c9)
  refine W.widen (k := cells + 1) (n := slots + 8) (by omega) (by omega) ?_
  refine lv_iload hx hb dL_law_827 (lv_at hl 1 rfl) ?_
  refine lv_if_ne (tgt := 844) hx hb dL_law_829 (by decide) (fun _ => ?_) (fun c8 => ?_)
  · refine lv_goto (tgt := 1353) hx hb dL_law_844 (by decide) ?_
    exact kk _ _ _ ⟨_, _, _, u1, _, _, _, _, hok1, h91, hu1, hP, hD, hS⟩ (lv_sub hl [2, 3, 4, 5, 6] rfl)
  · have h0 : T_addPiece k a0 a1 a2 a3 a4 = 0 := hT.symm.trans c8
    refine lv_aload_n hx hb dL_law_832 rfl (lv_at hl 5 rfl) ?_
    refine lv_iconst (v := 0) hx hb dL_law_833 (by decide) ?_
    have hPl := (zP_app (w1 := (mws cI am (if T_addPiece k a0 a1 a2 a3 a4 = 0 then gAP g k a0 a1 a2 a3 a4 else g) (n) (if T_addPiece k a0 a1 a2 a3 a4 = 0 then k + 1 else k) tb my lt (T_addPiece k a0 a1 a2 a3 a4))) (w2 := (lwo cI cL cE cP o (if T_addPiece k a0 a1 a2 a3 a4 = 0 then gAP g k a0 a1 a2 a3 a4 else g) (n) (if T_addPiece k a0 a1 a2 a3 a4 = 0 then k + 1 else k) u1)) hP).2
    refine zlald (v := u_o u1 0) hx hb hK hPl 0 1 lwo_0 rfl (by unfold vp_in; decide) rfl dL_law_834 ?_
    refine lv_iload hx hb dL_law_835 (lv_at hl 0 rfl) ?_
    refine lv_i2l hx hb dL_law_837 rfl ?_
    refine W.lcmp hx hb dL_law_838 ?_
    refine lv_if_eq (tgt := 844) hx hb dL_law_839 (by decide) (fun _ => ?_) (fun c9 => absurd ((lg_cmp_eq _ _).mpr ((hR h0).trans (congrArg Int32.toInt64 ((hrb h0).symm)))) c9)
    refine lv_goto (tgt := 1353) hx hb dL_law_844 (by decide) ?_
    exact kk _ _ _ ⟨_, _, _, u1, _, _, _, _, hok1, h91, hu1, hP, hD, hS⟩ (lv_sub hl [2, 3, 4, 5, 6] rfl)

set_option maxHeartbeats 4000000 in
set_option maxRecDepth 100000 in
theorem cs_setPiece {p : Program} {e : Env} {s : State} {m : MethodId} {below : List Frame} {meth : Method} {c : Code} {l : Launch} {b L : Nat} {xs : Nat → Int32} {D : va_G} {cI cL cE cP : ClassId} {am : Nat → Nat} {o ax : Nat} {cells slots : Nat} {Q : State → Prop} {x4 : Int32} {H : Heap} {locs : List Loc} {ls : Array Slot} (C : LC p s m meth c b L xs D cI cL cE cP l) (hin : Lin x4 L) (hc : cells ≤ 600000) (hs : slots ≤ 7000000) (hI : LI D cI cL cE cP am o ax s H locs) (hl : lv_has ls 7 [(0, .ref b), (1, .ref ax), (2, .ref (am 0)), (3, .ref o), (4, .int x4)])
    (kk : ∀ (H : Heap) (locs : List Loc) (ls : Array Slot), LI D cI cL cE cP am o ax s H locs → lv_has ls 7 [(0, .ref b), (1, .ref ax), (2, .ref (am 0)), (3, .ref o), (4, .int x4)] → W p l e room_1 s m #[Value.ref b] below meth c H locs (cells + 1) (slots + 8) Q (F0 m 1353 ls [])) : W p l e room_1 s m #[Value.ref b] below meth c H locs cells slots Q (F0 m 847 ls []) := by
  obtain ⟨⟨hx, hb, hr, hml, hown0, hts0, hX0, hbl, hlocks, hgv⟩, hE, hXx, hN, hU0, hfl⟩ := C
  have hown : s.vm.findClass RL = some m.cls := hown0
  have hts : ∀ w ∈ wsL_law, w.before #[Value.ref b] s = true := fun w h => hts0 w (wsL_law_in w h)
  have hA : ∀ q : Nat, s.heap.size ≤ q → lA s q := fun _ h => h
  have hbA : ¬ lA s b := Nat.not_le.mpr hbl
  have hK := hE.1
  obtain ⟨i0, i1, i2, i3, i4, i5, i6⟩ := hin
  obtain ⟨g, n, k, u, tb, my, lt, th, hok, h9, hu, hP, hD, hS⟩ := hI
  subst hu
  have hP : va_P D vwCl ((mws cI am g n k tb my lt th) ++ (lwo cI cL cE cP o g n k u)) H := hP
  have hD : va_D (lA s) ((mws cI am g n k tb my lt th) ++ (lwo cI cL cE cP o g n k u)) := hD
  refine lv_aload_n hx hb dL_law_847 rfl (lv_at hl 1 rfl) ?_
  refine lv_aload_n hx hb dL_law_848 rfl (lv_at hl 0 rfl) ?_
  refine lv_iload hx hb dL_law_849 (lv_at hl 4 rfl) ?_
  refine lv_iconst (v := 1) hx hb dL_law_851 (by decide) ?_
  refine lv_iadd hx hb dL_law_852 ?_
  refine va_sld hx hb hX0 hbl hbA hS i1 dL_law_853 ?_
  refine lv_topi (fun y e_y => ?_)
  refine lv_aload_n hx hb dL_law_854 rfl (lv_at hl 0 rfl) ?_
  refine lv_iload hx hb dL_law_855 (lv_at hl 4 rfl) ?_
  refine lv_iconst (v := 2) hx hb dL_law_857 (by decide) ?_
  refine lv_iadd hx hb dL_law_858 ?_
  refine va_sld hx hb hX0 hbl hbA hS i2 dL_law_859 ?_
  refine lv_topi (fun m0 e_m0 => ?_)
  refine lv_aload_n hx hb dL_law_860 rfl (lv_at hl 0 rfl) ?_
  refine lv_iload hx hb dL_law_861 (lv_at hl 4 rfl) ?_
  refine lv_iconst (v := 3) hx hb dL_law_863 (by decide) ?_
  refine lv_iadd hx hb dL_law_864 ?_
  refine va_sld hx hb hX0 hbl hbA hS i3 dL_law_865 ?_
  refine lv_topi (fun w0 e_w0 => ?_)
  refine lv_aload_n hx hb dL_law_866 rfl (lv_at hl 3 rfl) ?_
  have hPc := (zP_app (w1 := (mws cI am g n k tb my lt th)) (w2 := (lwo cI cL cE cP o g n k u)) hP).2
  have hDc := (zD_app (w1 := (mws cI am g n k tb my lt th)) (w2 := (lwo cI cL cE cP o g n k u)) hD).2.1
  have hUc : zU (va_A (lwo cI cL cE cP o g n k u) H.size) s H := (hU0.kept hS.2.1).narrow (va_A_in2 (wr := (mws cI am g n k tb my lt th)) hD hS hA)
  refine zcalliJ (wr := (mws cI am g n k tb my lt th)) (wc := (lwo cI cL cE cP o g n k u)) (vx_runSW (As := [.ref (u.1 0), .int y, .int m0, .int w0, .ref o]) (rest := []) ⟨hx, hb, hml, hown, hts⟩ (zL_setPiece l hfl D cI cL cE cP o g n k u hok y m0 w0 H.size) (vx_cwSW 5 hts gL_law_L_setPiece rfl rfl rfl (by decide +kernel) ⟨Nat.le_of_ble_eq_true rfl, Nat.le_of_ble_eq_true rfl⟩) ⟨zPy_blind, zPy_mk hE hPc hDc hXx hUc hN⟩ rfl rfl hl.1 rfl (lv_room (Nat.le_of_ble_eq_true rfl)) dL_law_867 (zroomL (by omega) (by omega))) hP hD hS hA (fun r u1 H locs hr1 hP hD hS => ?_)
  obtain ⟨hT, hR, hu1⟩ := hr1
  have hP : va_P D vwCl ((mws cI am g n k tb my lt th) ++ (lwo cI cL cE cP o (if T_setPiece k y m0 w0 = 0 then gR (gR g 11 (upd (g 11) y.toNatClampNeg m0)) 15 (upd (g 15) y.toNatClampNeg w0) else g) (n) (k) u1)) H := hP
  have hD : va_D (lA s) ((mws cI am g n k tb my lt th) ++ (lwo cI cL cE cP o (if T_setPiece k y m0 w0 = 0 then gR (gR g 11 (upd (g 11) y.toNatClampNeg m0)) 15 (upd (g 15) y.toNatClampNeg w0) else g) (n) (k) u1)) := hD
  refine lv_istore (lv' := [(5, .int r), (0, .ref b), (1, .ref (u.1 0)), (2, .ref (am 0)), (3, .ref o), (4, .int x4)]) hx hb dL_law_870 hl (by decide) rfl (fun ls hl => ?_)
  refine lv_aload_n hx hb dL_law_872 rfl (lv_at hl 3 rfl) ?_
  refine lv_aload_n hx hb dL_law_873 rfl (lv_at hl 1 rfl) ?_
  refine lv_iload hx hb dL_law_874 (lv_at hl 5 rfl) ?_
  refine lv_iconst (v := 1) hx hb dL_law_876 (by decide) ?_
  refine lv_iadd hx hb dL_law_877 ?_
  refine va_sld hx hb hX0 hbl hbA hS i1 dL_law_878 ?_
  refine lv_topi (fun y_ ey_ => ?_)
  obtain rfl : y = y_ := e_y.trans ey_.symm
  refine lv_aload_n hx hb dL_law_879 rfl (lv_at hl 1 rfl) ?_
  refine lv_iload hx hb dL_law_880 (lv_at hl 5 rfl) ?_
  refine lv_iconst (v := 2) hx hb dL_law_882 (by decide) ?_
  refine lv_iadd hx hb dL_law_883 ?_
  refine va_sld hx hb hX0 hbl hbA hS i2 dL_law_884 ?_
  refine lv_topi (fun y_ ey_ => ?_)
  obtain rfl : m0 = y_ := e_m0.trans ey_.symm
  refine lv_aload_n hx hb dL_law_885 rfl (lv_at hl 1 rfl) ?_
  refine lv_iload hx hb dL_law_886 (lv_at hl 5 rfl) ?_
  refine lv_iconst (v := 3) hx hb dL_law_888 (by decide) ?_
  refine lv_iadd hx hb dL_law_889 ?_
  refine va_sld hx hb hX0 hbl hbA hS i3 dL_law_890 ?_
  refine lv_topi (fun y_ ey_ => ?_)
  obtain rfl : w0 = y_ := e_w0.trans ey_.symm
  have hPm := (zP_app (w1 := (mws cI am g n k tb my lt th)) (w2 := (lwo cI cL cE cP o (if T_setPiece k y m0 w0 = 0 then gR (gR g 11 (upd (g 11) y.toNatClampNeg m0)) 15 (upd (g 15) y.toNatClampNeg w0) else g) (n) (k) u1)) hP).1
  have hDm := (zD_app (w1 := (mws cI am g n k tb my lt th)) (w2 := (lwo cI cL cE cP o (if T_setPiece k y m0 w0 = 0 then gR (gR g 11 (upd (g 11) y.toNatClampNeg m0)) 15 (upd (g 15) y.toNatClampNeg w0) else g) (n) (k) u1)) hD).1
  refine zcalliJ (wr := (lwo cI cL cE cP o (if T_setPiece k y m0 w0 = 0 then gR (gR g 11 (upd (g 11) y.toNatClampNeg m0)) 15 (upd (g 15) y.toNatClampNeg w0) else g) (n) (k) u1)) (wc := (mws cI am g n k tb my lt th)) (va_runV (As := [.int y, .int m0, .int w0]) (rest := []) ⟨hx, hb, hml, hown, hts⟩ (zX4_setPiece l D cI cL cE cP am g n k tb my lt th hok y m0 w0 H.size) (cwV 3 hts gL_law_X4_setPiece rfl rfl rfl (by decide +kernel) ⟨Nat.le_of_ble_eq_true rfl, Nat.le_of_ble_eq_true rfl⟩) ⟨zPw_blind, va_recv hK hPm (ci := 4) (q0 := 0) rfl mws_0, zPw_mk hE hPm hDm⟩ rfl rfl hl.1 rfl (lv_room (Nat.le_of_ble_eq_true rfl)) dL_law_891 (zroomL (by omega) (by omega))) (zP_swap hP) (zD_swap hD) hS hA (fun rb um H locs hrb hP hD hS => ?_)
  have hP : va_P D vwCl ((mws cI am (if T_setPiece k y m0 w0 = 0 then gR (gR g 11 (upd (g 11) y.toNatClampNeg m0)) 15 (upd (g 15) y.toNatClampNeg w0) else g) (n) (k) tb my lt (T_setPiece k y m0 w0)) ++ (lwo cI cL cE cP o (if T_setPiece k y m0 w0 = 0 then gR (gR g 11 (upd (g 11) y.toNatClampNeg m0)) 15 (upd (g 15) y.toNatClampNeg w0) else g) (n) (k) u1)) H := zP_swap hP
  have hD : va_D (lA s) ((mws cI am (if T_setPiece k y m0 w0 = 0 then gR (gR g 11 (upd (g 11) y.toNatClampNeg m0)) 15 (upd (g 15) y.toNatClampNeg w0) else g) (n) (k) tb my lt (T_setPiece k y m0 w0)) ++ (lwo cI cL cE cP o (if T_setPiece k y m0 w0 = 0 then gR (gR g 11 (upd (g 11) y.toNatClampNeg m0)) 15 (upd (g 15) y.toNatClampNeg w0) else g) (n) (k) u1)) := zD_swap hD
  have hrb : T_setPiece k y m0 w0 = 0 → rb = _ := hrb
  refine lv_istore (lv' := [(6, .int rb), (5, .int r), (0, .ref b), (1, .ref (u.1 0)), (2, .ref (am 0)), (3, .ref o), (4, .int x4)]) hx hb dL_law_894 hl (by decide) rfl (fun ls hl => ?_)
  obtain ⟨hok1, h91⟩ := iv hok h9 (ok_setPiece hok) (fun _ => h9)
  have hok1 : zOk (if T_setPiece k y m0 w0 = 0 then gR (gR g 11 (upd (g 11) y.toNatClampNeg m0)) 15 (upd (g 15) y.toNatClampNeg w0) else g) (n) (k) := hok1
  have h91 : zH9 (if T_setPiece k y m0 w0 = 0 then gR (gR g 11 (upd (g 11) y.toNatClampNeg m0)) 15 (upd (g 15) y.toNatClampNeg w0) else g) (n) := h91
  have hPm := (zP_app (w1 := (mws cI am (if T_setPiece k y m0 w0 = 0 then gR (gR g 11 (upd (g 11) y.toNatClampNeg m0)) 15 (upd (g 15) y.toNatClampNeg w0) else g) (n) (k) tb my lt (T_setPiece k y m0 w0))) (w2 := (lwo cI cL cE cP o (if T_setPiece k y m0 w0 = 0 then gR (gR g 11 (upd (g 11) y.toNatClampNeg m0)) 15 (upd (g 15) y.toNatClampNeg w0) else g) (n) (k) u1)) hP).1
  refine lv_aload_n hx hb dL_law_896 rfl (lv_at hl 4 rfl) ?_
  refine vp_callSi (va_Run.run (va_runV (As := []) (rest := []) ⟨hx, hb, hml, hown, hts⟩ (zX4_thrown l D cI cL cE cP am (if T_setPiece k y m0 w0 = 0 then gR (gR g 11 (upd (g 11) y.toNatClampNeg m0)) 15 (upd (g 15) y.toNatClampNeg w0) else g) (n) (k) tb my lt (T_setPiece k y m0 w0) hok1) (cwV 0 hts gL_law_X4_thrown rfl rfl rfl (by decide +kernel) ⟨Nat.le_of_ble_eq_true rfl, Nat.le_of_ble_eq_true rfl⟩) ⟨zPr_blind, va_recv hK hPm (ci := 4) (q0 := 0) rfl mws_0, zPr_mk hE hPm⟩ rfl rfl hl.1 rfl (lv_room (Nat.le_of_ble_eq_true rfl)) dL_law_897 (zroomL (by omega) (by omega)))) (fun rt et => ?_)
  refine lv_iload hx hb dL_law_900 (lv_at hl 1 rfl) ?_
  refine lv_icmp_eq (tgt := 907) hx hb dL_law_902 (by decide) (fun _ => ?_) (fun c9 => absurd (et.trans hT.symm) c9)
  refine W.widen (k := cells + 1) (n := slots + 8) (by omega) (by omega) ?_
  refine lv_iload hx hb dL_law_907 (lv_at hl 1 rfl) ?_
  refine lv_if_ne (tgt := 924) hx hb dL_law_909 (by decide) (fun _ => ?_) (fun c8 => ?_)
  · refine lv_goto (tgt := 1353) hx hb dL_law_924 (by decide) ?_
    exact kk _ _ _ ⟨_, _, _, u1, _, _, _, _, hok1, h91, hu1, hP, hD, hS⟩ (lv_sub hl [2, 3, 4, 5, 6] rfl)
  · have h0 : T_setPiece k y m0 w0 = 0 := hT.symm.trans c8
    refine lv_aload_n hx hb dL_law_912 rfl (lv_at hl 5 rfl) ?_
    refine lv_iconst (v := 0) hx hb dL_law_913 (by decide) ?_
    have hPl := (zP_app (w1 := (mws cI am (if T_setPiece k y m0 w0 = 0 then gR (gR g 11 (upd (g 11) y.toNatClampNeg m0)) 15 (upd (g 15) y.toNatClampNeg w0) else g) (n) (k) tb my lt (T_setPiece k y m0 w0))) (w2 := (lwo cI cL cE cP o (if T_setPiece k y m0 w0 = 0 then gR (gR g 11 (upd (g 11) y.toNatClampNeg m0)) 15 (upd (g 15) y.toNatClampNeg w0) else g) (n) (k) u1)) hP).2
    refine zlald (v := u_o u1 0) hx hb hK hPl 0 1 lwo_0 rfl (by unfold vp_in; decide) rfl dL_law_914 ?_
    refine lv_iload hx hb dL_law_915 (lv_at hl 0 rfl) ?_
    refine lv_i2l hx hb dL_law_917 rfl ?_
    refine W.lcmp hx hb dL_law_918 ?_
    refine lv_if_eq (tgt := 924) hx hb dL_law_919 (by decide) (fun _ => ?_) (fun c9 => absurd ((lg_cmp_eq _ _).mpr ((hR h0).trans (congrArg Int32.toInt64 ((hrb h0).symm)))) c9)
    refine lv_goto (tgt := 1353) hx hb dL_law_924 (by decide) ?_
    exact kk _ _ _ ⟨_, _, _, u1, _, _, _, _, hok1, h91, hu1, hP, hD, hS⟩ (lv_sub hl [2, 3, 4, 5, 6] rfl)

set_option maxHeartbeats 4000000 in
set_option maxRecDepth 100000 in
theorem cs_pieces {p : Program} {e : Env} {s : State} {m : MethodId} {below : List Frame} {meth : Method} {c : Code} {l : Launch} {b L : Nat} {xs : Nat → Int32} {D : va_G} {cI cL cE cP : ClassId} {am : Nat → Nat} {o ax : Nat} {cells slots : Nat} {Q : State → Prop} {x4 : Int32} {H : Heap} {locs : List Loc} {ls : Array Slot} (C : LC p s m meth c b L xs D cI cL cE cP l) (hin : Lin x4 L) (hc : cells ≤ 600000) (hs : slots ≤ 7000000) (hI : LI D cI cL cE cP am o ax s H locs) (hl : lv_has ls 7 [(0, .ref b), (1, .ref ax), (2, .ref (am 0)), (3, .ref o), (4, .int x4)])
    (kk : ∀ (H : Heap) (locs : List Loc) (ls : Array Slot), LI D cI cL cE cP am o ax s H locs → lv_has ls 7 [(0, .ref b), (1, .ref ax), (2, .ref (am 0)), (3, .ref o), (4, .int x4)] → W p l e room_1 s m #[Value.ref b] below meth c H locs (cells + 1) (slots + 8) Q (F0 m 1353 ls [])) : W p l e room_1 s m #[Value.ref b] below meth c H locs cells slots Q (F0 m 927 ls []) := by
  obtain ⟨⟨hx, hb, hr, hml, hown0, hts0, hX0, hbl, hlocks, hgv⟩, hE, hXx, hN, hU0, hfl⟩ := C
  have hown : s.vm.findClass RL = some m.cls := hown0
  have hts : ∀ w ∈ wsL_law, w.before #[Value.ref b] s = true := fun w h => hts0 w (wsL_law_in w h)
  have hA : ∀ q : Nat, s.heap.size ≤ q → lA s q := fun _ h => h
  have hbA : ¬ lA s b := Nat.not_le.mpr hbl
  have hK := hE.1
  obtain ⟨i0, i1, i2, i3, i4, i5, i6⟩ := hin
  obtain ⟨g, n, k, u, tb, my, lt, th, hok, h9, hu, hP, hD, hS⟩ := hI
  subst hu
  have hP : va_P D vwCl ((mws cI am g n k tb my lt th) ++ (lwo cI cL cE cP o g n k u)) H := hP
  have hD : va_D (lA s) ((mws cI am g n k tb my lt th) ++ (lwo cI cL cE cP o g n k u)) := hD
  refine lv_aload_n hx hb dL_law_927 rfl (lv_at hl 1 rfl) ?_
  have hPc : va_P D vwCl (cwu cI cL cE cP g n k u) H := (zP_app (w1 := [(o, .inl (cL, 1, .inr (.inl (u_o u))))]) (zP_app (w1 := (mws cI am g n k tb my lt th)) (w2 := (lwo cI cL cE cP o g n k u)) hP).2).2
  refine vp_callSi (va_Run.run (va_runV (As := []) (rest := []) ⟨hx, hb, hml, hown, hts⟩ (zX3_pieces l D cI cL cE cP u.1 g n k u.2.1 u.2.2.1 u.2.2.2.1 u.2.2.2.2.1 u.2.2.2.2.2.1 u.2.2.2.2.2.2.1 u.2.2.2.2.2.2.2.1 hok) (cwV 0 hts gL_law_X3_pieces rfl rfl rfl (by decide +kernel) ⟨Nat.le_of_ble_eq_true rfl, Nat.le_of_ble_eq_true rfl⟩) ⟨zPr_blind, va_recv hK hPc (ci := 3) (q0 := 0) rfl cws_0, zPr_mk hE hPc⟩ rfl rfl hl.1 rfl (lv_room (Nat.le_of_ble_eq_true rfl)) dL_law_928 (zroomL (by omega) (by omega)))) (fun r e1 => ?_)
  refine lv_aload_n hx hb dL_law_931 rfl (lv_at hl 2 rfl) ?_
  have hPm := (zP_app (w1 := (mws cI am g n k tb my lt th)) (w2 := (lwo cI cL cE cP o g n k u)) hP).1
  have hDm := (zD_app (w1 := (mws cI am g n k tb my lt th)) (w2 := (lwo cI cL cE cP o g n k u)) hD).1
  refine zcalliJ (wr := (lwo cI cL cE cP o g n k u)) (wc := (mws cI am g n k tb my lt th)) (va_runV (As := []) (rest := [.int r]) ⟨hx, hb, hml, hown, hts⟩ (zX4_pieces l D cI cL cE cP am g n k tb my lt th hok H.size) (cwV 0 hts gL_law_X4_pieces rfl rfl rfl (by decide +kernel) ⟨Nat.le_of_ble_eq_true rfl, Nat.le_of_ble_eq_true rfl⟩) ⟨zPw_blind, va_recv hK hPm (ci := 4) (q0 := 0) rfl mws_0, zPw_mk hE hPm hDm⟩ rfl rfl hl.1 rfl (lv_room (Nat.le_of_ble_eq_true rfl)) dL_law_932 (zroomL (by omega) (by omega))) (zP_swap hP) (zD_swap hD) hS hA (fun rb _ H locs e2 hP hD hS => ?_)
  have hP : va_P D vwCl ((mws cI am g n k tb my lt 0) ++ (lwo cI cL cE cP o g n k u)) H := zP_swap hP
  have hD : va_D (lA s) ((mws cI am g n k tb my lt 0) ++ (lwo cI cL cE cP o g n k u)) := zD_swap hD
  refine W.widen (k := cells + 1) (n := slots + 8) (by omega) (by omega) ?_
  refine lv_icmp_eq (tgt := 1353) hx hb dL_law_935 (by decide) (fun _ => ?_) (fun c9 => absurd (e1.trans (e2.symm)) c9)
  exact kk _ _ _ ⟨g, n, k, u, _, _, _, _, hok, h9, rfl, hP, hD, hS⟩ hl

set_option maxHeartbeats 4000000 in
set_option maxRecDepth 100000 in
theorem cs_value {p : Program} {e : Env} {s : State} {m : MethodId} {below : List Frame} {meth : Method} {c : Code} {l : Launch} {b L : Nat} {xs : Nat → Int32} {D : va_G} {cI cL cE cP : ClassId} {am : Nat → Nat} {o ax : Nat} {cells slots : Nat} {Q : State → Prop} {x4 : Int32} {H : Heap} {locs : List Loc} {ls : Array Slot} (C : LC p s m meth c b L xs D cI cL cE cP l) (hin : Lin x4 L) (hc : cells ≤ 600000) (hs : slots ≤ 7000000) (hI : LI D cI cL cE cP am o ax s H locs) (hl : lv_has ls 7 [(0, .ref b), (1, .ref ax), (2, .ref (am 0)), (3, .ref o), (4, .int x4)])
    (kk : ∀ (H : Heap) (locs : List Loc) (ls : Array Slot), LI D cI cL cE cP am o ax s H locs → lv_has ls 7 [(0, .ref b), (1, .ref ax), (2, .ref (am 0)), (3, .ref o), (4, .int x4)] → W p l e room_1 s m #[Value.ref b] below meth c H locs (cells + 1) (slots + 8) Q (F0 m 1353 ls [])) : W p l e room_1 s m #[Value.ref b] below meth c H locs cells slots Q (F0 m 940 ls []) := by
  obtain ⟨⟨hx, hb, hr, hml, hown0, hts0, hX0, hbl, hlocks, hgv⟩, hE, hXx, hN, hU0, hfl⟩ := C
  have hown : s.vm.findClass RL = some m.cls := hown0
  have hts : ∀ w ∈ wsL_law, w.before #[Value.ref b] s = true := fun w h => hts0 w (wsL_law_in w h)
  have hA : ∀ q : Nat, s.heap.size ≤ q → lA s q := fun _ h => h
  have hbA : ¬ lA s b := Nat.not_le.mpr hbl
  have hK := hE.1
  obtain ⟨i0, i1, i2, i3, i4, i5, i6⟩ := hin
  obtain ⟨g, n, k, u, tb, my, lt, th, hok, h9, hu, hP, hD, hS⟩ := hI
  subst hu
  have hP : va_P D vwCl ((mws cI am g n k tb my lt th) ++ (lwo cI cL cE cP o g n k u)) H := hP
  have hD : va_D (lA s) ((mws cI am g n k tb my lt th) ++ (lwo cI cL cE cP o g n k u)) := hD
  refine lv_aload_n hx hb dL_law_940 rfl (lv_at hl 1 rfl) ?_
  refine lv_aload_n hx hb dL_law_941 rfl (lv_at hl 0 rfl) ?_
  refine lv_iload hx hb dL_law_942 (lv_at hl 4 rfl) ?_
  refine lv_iconst (v := 1) hx hb dL_law_944 (by decide) ?_
  refine lv_iadd hx hb dL_law_945 ?_
  refine va_sld hx hb hX0 hbl hbA hS i1 dL_law_946 ?_
  refine lv_topi (fun y e_y => ?_)
  refine lv_aload_n hx hb dL_law_947 rfl (lv_at hl 0 rfl) ?_
  refine lv_iload hx hb dL_law_948 (lv_at hl 4 rfl) ?_
  refine lv_iconst (v := 2) hx hb dL_law_950 (by decide) ?_
  refine lv_iadd hx hb dL_law_951 ?_
  refine va_sld hx hb hX0 hbl hbA hS i2 dL_law_952 ?_
  refine lv_topi (fun x e_x => ?_)
  refine lv_aload_n hx hb dL_law_953 rfl (lv_at hl 3 rfl) ?_
  have hPc := (zP_app (w1 := (mws cI am g n k tb my lt th)) (w2 := (lwo cI cL cE cP o g n k u)) hP).2
  have hDc := (zD_app (w1 := (mws cI am g n k tb my lt th)) (w2 := (lwo cI cL cE cP o g n k u)) hD).2.1
  have hUc : zU (va_A (lwo cI cL cE cP o g n k u) H.size) s H := (hU0.kept hS.2.1).narrow (va_A_in2 (wr := (mws cI am g n k tb my lt th)) hD hS hA)
  refine zcalliJ (wr := (mws cI am g n k tb my lt th)) (wc := (lwo cI cL cE cP o g n k u)) (vx_runSW (As := [.ref (u.1 0), .int y, .int x, .ref o]) (rest := []) ⟨hx, hb, hml, hown, hts⟩ (zL_value l hfl D cI cL cE cP o g n k u hok y x H.size) (vx_cwSW 4 hts gL_law_L_value rfl rfl rfl (by decide +kernel) ⟨Nat.le_of_ble_eq_true rfl, Nat.le_of_ble_eq_true rfl⟩) ⟨zPy_blind, zPy_mk hE hPc hDc hXx hUc hN⟩ rfl rfl hl.1 rfl (lv_room (Nat.le_of_ble_eq_true rfl)) dL_law_954 (zroomL (by omega) (by omega))) hP hD hS hA (fun r u1 H locs hr1 hP hD hS => ?_)
  obtain ⟨hT, hR, hu1⟩ := hr1
  have hP : va_P D vwCl ((mws cI am g n k tb my lt th) ++ (lwo cI cL cE cP o (g) (n) (k) u1)) H := hP
  have hD : va_D (lA s) ((mws cI am g n k tb my lt th) ++ (lwo cI cL cE cP o (g) (n) (k) u1)) := hD
  refine lv_istore (lv' := [(5, .int r), (0, .ref b), (1, .ref (u.1 0)), (2, .ref (am 0)), (3, .ref o), (4, .int x4)]) hx hb dL_law_957 hl (by decide) rfl (fun ls hl => ?_)
  refine lv_aload_n hx hb dL_law_959 rfl (lv_at hl 3 rfl) ?_
  refine lv_aload_n hx hb dL_law_960 rfl (lv_at hl 1 rfl) ?_
  refine lv_iload hx hb dL_law_961 (lv_at hl 5 rfl) ?_
  refine lv_iconst (v := 1) hx hb dL_law_963 (by decide) ?_
  refine lv_iadd hx hb dL_law_964 ?_
  refine va_sld hx hb hX0 hbl hbA hS i1 dL_law_965 ?_
  refine lv_topi (fun y_ ey_ => ?_)
  obtain rfl : y = y_ := e_y.trans ey_.symm
  refine lv_aload_n hx hb dL_law_966 rfl (lv_at hl 1 rfl) ?_
  refine lv_iload hx hb dL_law_967 (lv_at hl 5 rfl) ?_
  refine lv_iconst (v := 2) hx hb dL_law_969 (by decide) ?_
  refine lv_iadd hx hb dL_law_970 ?_
  refine va_sld hx hb hX0 hbl hbA hS i2 dL_law_971 ?_
  refine lv_topi (fun y_ ey_ => ?_)
  obtain rfl : x = y_ := e_x.trans ey_.symm
  have hPm := (zP_app (w1 := (mws cI am g n k tb my lt th)) (w2 := (lwo cI cL cE cP o (g) (n) (k) u1)) hP).1
  have hDm := (zD_app (w1 := (mws cI am g n k tb my lt th)) (w2 := (lwo cI cL cE cP o (g) (n) (k) u1)) hD).1
  refine zcalliJ (wr := (lwo cI cL cE cP o (g) (n) (k) u1)) (wc := (mws cI am g n k tb my lt th)) (va_runV (As := [.int y, .int x]) (rest := []) ⟨hx, hb, hml, hown, hts⟩ (zX4_value l D cI cL cE cP am g n k tb my lt th hok y x H.size) (cwV 2 hts gL_law_X4_value rfl rfl rfl (by decide +kernel) ⟨Nat.le_of_ble_eq_true rfl, Nat.le_of_ble_eq_true rfl⟩) ⟨zPw_blind, va_recv hK hPm (ci := 4) (q0 := 0) rfl mws_0, zPw_mk hE hPm hDm⟩ rfl rfl hl.1 rfl (lv_room (Nat.le_of_ble_eq_true rfl)) dL_law_972 (zroomL (by omega) (by omega))) (zP_swap hP) (zD_swap hD) hS hA (fun rb um H locs hrb hP hD hS => ?_)
  have hP : va_P D vwCl ((mws cI am (g) (n) (k) tb my lt (T_value n k y x)) ++ (lwo cI cL cE cP o (g) (n) (k) u1)) H := zP_swap hP
  have hD : va_D (lA s) ((mws cI am (g) (n) (k) tb my lt (T_value n k y x)) ++ (lwo cI cL cE cP o (g) (n) (k) u1)) := zD_swap hD
  have hrb : T_value n k y x = 0 → rb = _ := hrb
  refine lv_istore (lv' := [(6, .int rb), (5, .int r), (0, .ref b), (1, .ref (u.1 0)), (2, .ref (am 0)), (3, .ref o), (4, .int x4)]) hx hb dL_law_975 hl (by decide) rfl (fun ls hl => ?_)
  have hok1 := hok
  have h91 := h9
  have hok1 : zOk (g) (n) (k) := hok1
  have h91 : zH9 (g) (n) := h91
  have hPm := (zP_app (w1 := (mws cI am (g) (n) (k) tb my lt (T_value n k y x))) (w2 := (lwo cI cL cE cP o (g) (n) (k) u1)) hP).1
  refine lv_aload_n hx hb dL_law_977 rfl (lv_at hl 4 rfl) ?_
  refine vp_callSi (va_Run.run (va_runV (As := []) (rest := []) ⟨hx, hb, hml, hown, hts⟩ (zX4_thrown l D cI cL cE cP am (g) (n) (k) tb my lt (T_value n k y x) hok1) (cwV 0 hts gL_law_X4_thrown rfl rfl rfl (by decide +kernel) ⟨Nat.le_of_ble_eq_true rfl, Nat.le_of_ble_eq_true rfl⟩) ⟨zPr_blind, va_recv hK hPm (ci := 4) (q0 := 0) rfl mws_0, zPr_mk hE hPm⟩ rfl rfl hl.1 rfl (lv_room (Nat.le_of_ble_eq_true rfl)) dL_law_978 (zroomL (by omega) (by omega)))) (fun rt et => ?_)
  refine lv_iload hx hb dL_law_981 (lv_at hl 1 rfl) ?_
  refine lv_icmp_eq (tgt := 988) hx hb dL_law_983 (by decide) (fun _ => ?_) (fun c9 => absurd (et.trans hT.symm) c9)
  refine W.widen (k := cells + 1) (n := slots + 8) (by omega) (by omega) ?_
  refine lv_iload hx hb dL_law_988 (lv_at hl 1 rfl) ?_
  refine lv_if_ne (tgt := 1005) hx hb dL_law_990 (by decide) (fun _ => ?_) (fun c8 => ?_)
  · refine lv_goto (tgt := 1353) hx hb dL_law_1005 (by decide) ?_
    exact kk _ _ _ ⟨_, _, _, u1, _, _, _, _, hok1, h91, hu1, hP, hD, hS⟩ (lv_sub hl [2, 3, 4, 5, 6] rfl)
  · have h0 : T_value n k y x = 0 := hT.symm.trans c8
    refine lv_aload_n hx hb dL_law_993 rfl (lv_at hl 5 rfl) ?_
    refine lv_iconst (v := 0) hx hb dL_law_994 (by decide) ?_
    have hPl := (zP_app (w1 := (mws cI am (g) (n) (k) tb my lt (T_value n k y x))) (w2 := (lwo cI cL cE cP o (g) (n) (k) u1)) hP).2
    refine zlald (v := u_o u1 0) hx hb hK hPl 0 1 lwo_0 rfl (by unfold vp_in; decide) rfl dL_law_995 ?_
    refine lv_iload hx hb dL_law_996 (lv_at hl 0 rfl) ?_
    refine lv_i2l hx hb dL_law_998 rfl ?_
    refine W.lcmp hx hb dL_law_999 ?_
    refine lv_if_eq (tgt := 1005) hx hb dL_law_1000 (by decide) (fun _ => ?_) (fun c9 => absurd ((lg_cmp_eq _ _).mpr ((hR h0).trans (congrArg Int32.toInt64 ((hrb h0).symm)))) c9)
    refine lv_goto (tgt := 1353) hx hb dL_law_1005 (by decide) ?_
    exact kk _ _ _ ⟨_, _, _, u1, _, _, _, _, hok1, h91, hu1, hP, hD, hS⟩ (lv_sub hl [2, 3, 4, 5, 6] rfl)

set_option maxHeartbeats 4000000 in
set_option maxRecDepth 100000 in
theorem cs_givenTo {p : Program} {e : Env} {s : State} {m : MethodId} {below : List Frame} {meth : Method} {c : Code} {l : Launch} {b L : Nat} {xs : Nat → Int32} {D : va_G} {cI cL cE cP : ClassId} {am : Nat → Nat} {o ax : Nat} {cells slots : Nat} {Q : State → Prop} {x4 : Int32} {H : Heap} {locs : List Loc} {ls : Array Slot} (C : LC p s m meth c b L xs D cI cL cE cP l) (hin : Lin x4 L) (hc : cells ≤ 600000) (hs : slots ≤ 7000000) (hI : LI D cI cL cE cP am o ax s H locs) (hl : lv_has ls 7 [(0, .ref b), (1, .ref ax), (2, .ref (am 0)), (3, .ref o), (4, .int x4)])
    (kk : ∀ (H : Heap) (locs : List Loc) (ls : Array Slot), LI D cI cL cE cP am o ax s H locs → lv_has ls 7 [(0, .ref b), (1, .ref ax), (2, .ref (am 0)), (3, .ref o), (4, .int x4)] → W p l e room_1 s m #[Value.ref b] below meth c H locs (cells + 1) (slots + 8) Q (F0 m 1353 ls [])) : W p l e room_1 s m #[Value.ref b] below meth c H locs cells slots Q (F0 m 1008 ls []) := by
  obtain ⟨⟨hx, hb, hr, hml, hown0, hts0, hX0, hbl, hlocks, hgv⟩, hE, hXx, hN, hU0, hfl⟩ := C
  have hown : s.vm.findClass RL = some m.cls := hown0
  have hts : ∀ w ∈ wsL_law, w.before #[Value.ref b] s = true := fun w h => hts0 w (wsL_law_in w h)
  have hA : ∀ q : Nat, s.heap.size ≤ q → lA s q := fun _ h => h
  have hbA : ¬ lA s b := Nat.not_le.mpr hbl
  have hK := hE.1
  obtain ⟨i0, i1, i2, i3, i4, i5, i6⟩ := hin
  obtain ⟨g, n, k, u, tb, my, lt, th, hok, h9, hu, hP, hD, hS⟩ := hI
  subst hu
  have hP : va_P D vwCl ((mws cI am g n k tb my lt th) ++ (lwo cI cL cE cP o g n k u)) H := hP
  have hD : va_D (lA s) ((mws cI am g n k tb my lt th) ++ (lwo cI cL cE cP o g n k u)) := hD
  refine lv_aload_n hx hb dL_law_1008 rfl (lv_at hl 1 rfl) ?_
  refine lv_aload_n hx hb dL_law_1009 rfl (lv_at hl 0 rfl) ?_
  refine lv_iload hx hb dL_law_1010 (lv_at hl 4 rfl) ?_
  refine lv_iconst (v := 1) hx hb dL_law_1012 (by decide) ?_
  refine lv_iadd hx hb dL_law_1013 ?_
  refine va_sld hx hb hX0 hbl hbA hS i1 dL_law_1014 ?_
  refine lv_topi (fun y e_y => ?_)
  refine lv_aload_n hx hb dL_law_1015 rfl (lv_at hl 3 rfl) ?_
  have hPc := (zP_app (w1 := (mws cI am g n k tb my lt th)) (w2 := (lwo cI cL cE cP o g n k u)) hP).2
  have hDc := (zD_app (w1 := (mws cI am g n k tb my lt th)) (w2 := (lwo cI cL cE cP o g n k u)) hD).2.1
  have hUc : zU (va_A (lwo cI cL cE cP o g n k u) H.size) s H := (hU0.kept hS.2.1).narrow (va_A_in2 (wr := (mws cI am g n k tb my lt th)) hD hS hA)
  refine zcalliJ (wr := (mws cI am g n k tb my lt th)) (wc := (lwo cI cL cE cP o g n k u)) (vx_runSW (As := [.ref (u.1 0), .int y, .ref o]) (rest := []) ⟨hx, hb, hml, hown, hts⟩ (zL_givenTo l hfl D cI cL cE cP o g n k u hok y H.size) (vx_cwSW 3 hts gL_law_L_givenTo rfl rfl rfl (by decide +kernel) ⟨Nat.le_of_ble_eq_true rfl, Nat.le_of_ble_eq_true rfl⟩) ⟨zPy_blind, zPy_mk hE hPc hDc hXx hUc hN⟩ rfl rfl hl.1 rfl (lv_room (Nat.le_of_ble_eq_true rfl)) dL_law_1016 (zroomL (by omega) (by omega))) hP hD hS hA (fun r u1 H locs hr1 hP hD hS => ?_)
  obtain ⟨hT, hR, hu1⟩ := hr1
  have hP : va_P D vwCl ((mws cI am g n k tb my lt th) ++ (lwo cI cL cE cP o (g) (n) (k) u1)) H := hP
  have hD : va_D (lA s) ((mws cI am g n k tb my lt th) ++ (lwo cI cL cE cP o (g) (n) (k) u1)) := hD
  refine lv_istore (lv' := [(5, .int r), (0, .ref b), (1, .ref (u.1 0)), (2, .ref (am 0)), (3, .ref o), (4, .int x4)]) hx hb dL_law_1019 hl (by decide) rfl (fun ls hl => ?_)
  refine lv_aload_n hx hb dL_law_1021 rfl (lv_at hl 3 rfl) ?_
  refine lv_aload_n hx hb dL_law_1022 rfl (lv_at hl 1 rfl) ?_
  refine lv_iload hx hb dL_law_1023 (lv_at hl 5 rfl) ?_
  refine lv_iconst (v := 1) hx hb dL_law_1025 (by decide) ?_
  refine lv_iadd hx hb dL_law_1026 ?_
  refine va_sld hx hb hX0 hbl hbA hS i1 dL_law_1027 ?_
  refine lv_topi (fun y_ ey_ => ?_)
  obtain rfl : y = y_ := e_y.trans ey_.symm
  have hPm := (zP_app (w1 := (mws cI am g n k tb my lt th)) (w2 := (lwo cI cL cE cP o (g) (n) (k) u1)) hP).1
  have hDm := (zD_app (w1 := (mws cI am g n k tb my lt th)) (w2 := (lwo cI cL cE cP o (g) (n) (k) u1)) hD).1
  refine zcalliJ (wr := (lwo cI cL cE cP o (g) (n) (k) u1)) (wc := (mws cI am g n k tb my lt th)) (va_runV (As := [.int y]) (rest := []) ⟨hx, hb, hml, hown, hts⟩ (zX4_givenTo l D cI cL cE cP am g n k tb my lt th hok y H.size) (cwV 1 hts gL_law_X4_givenTo rfl rfl rfl (by decide +kernel) ⟨Nat.le_of_ble_eq_true rfl, Nat.le_of_ble_eq_true rfl⟩) ⟨zPw_blind, va_recv hK hPm (ci := 4) (q0 := 0) rfl mws_0, zPw_mk hE hPm hDm⟩ rfl rfl hl.1 rfl (lv_room (Nat.le_of_ble_eq_true rfl)) dL_law_1028 (zroomL (by omega) (by omega))) (zP_swap hP) (zD_swap hD) hS hA (fun rb um H locs hrb hP hD hS => ?_)
  have hP : va_P D vwCl ((mws cI am (g) (n) (k) um.1 um.2.1 um.2.2 (T_amount k y)) ++ (lwo cI cL cE cP o (g) (n) (k) u1)) H := zP_swap hP
  have hD : va_D (lA s) ((mws cI am (g) (n) (k) um.1 um.2.1 um.2.2 (T_amount k y)) ++ (lwo cI cL cE cP o (g) (n) (k) u1)) := zD_swap hD
  have hrb : T_amount k y = 0 → rb = _ := hrb
  refine lv_istore (lv' := [(6, .int rb), (5, .int r), (0, .ref b), (1, .ref (u.1 0)), (2, .ref (am 0)), (3, .ref o), (4, .int x4)]) hx hb dL_law_1031 hl (by decide) rfl (fun ls hl => ?_)
  have hok1 := hok
  have h91 := h9
  have hok1 : zOk (g) (n) (k) := hok1
  have h91 : zH9 (g) (n) := h91
  have hPm := (zP_app (w1 := (mws cI am (g) (n) (k) um.1 um.2.1 um.2.2 (T_amount k y))) (w2 := (lwo cI cL cE cP o (g) (n) (k) u1)) hP).1
  refine lv_aload_n hx hb dL_law_1033 rfl (lv_at hl 4 rfl) ?_
  refine vp_callSi (va_Run.run (va_runV (As := []) (rest := []) ⟨hx, hb, hml, hown, hts⟩ (zX4_thrown l D cI cL cE cP am (g) (n) (k) um.1 um.2.1 um.2.2 (T_amount k y) hok1) (cwV 0 hts gL_law_X4_thrown rfl rfl rfl (by decide +kernel) ⟨Nat.le_of_ble_eq_true rfl, Nat.le_of_ble_eq_true rfl⟩) ⟨zPr_blind, va_recv hK hPm (ci := 4) (q0 := 0) rfl mws_0, zPr_mk hE hPm⟩ rfl rfl hl.1 rfl (lv_room (Nat.le_of_ble_eq_true rfl)) dL_law_1034 (zroomL (by omega) (by omega)))) (fun rt et => ?_)
  refine lv_iload hx hb dL_law_1037 (lv_at hl 1 rfl) ?_
  refine lv_icmp_eq (tgt := 1044) hx hb dL_law_1039 (by decide) (fun _ => ?_) (fun c9 => absurd (et.trans hT.symm) c9)
  refine W.widen (k := cells + 1) (n := slots + 8) (by omega) (by omega) ?_
  refine lv_iload hx hb dL_law_1044 (lv_at hl 1 rfl) ?_
  refine lv_if_ne (tgt := 1061) hx hb dL_law_1046 (by decide) (fun _ => ?_) (fun c8 => ?_)
  · refine lv_goto (tgt := 1353) hx hb dL_law_1061 (by decide) ?_
    exact kk _ _ _ ⟨_, _, _, u1, _, _, _, _, hok1, h91, hu1, hP, hD, hS⟩ (lv_sub hl [2, 3, 4, 5, 6] rfl)
  · have h0 : T_amount k y = 0 := hT.symm.trans c8
    refine lv_aload_n hx hb dL_law_1049 rfl (lv_at hl 5 rfl) ?_
    refine lv_iconst (v := 0) hx hb dL_law_1050 (by decide) ?_
    have hPl := (zP_app (w1 := (mws cI am (g) (n) (k) um.1 um.2.1 um.2.2 (T_amount k y))) (w2 := (lwo cI cL cE cP o (g) (n) (k) u1)) hP).2
    refine zlald (v := u_o u1 0) hx hb hK hPl 0 1 lwo_0 rfl (by unfold vp_in; decide) rfl dL_law_1051 ?_
    refine lv_iload hx hb dL_law_1052 (lv_at hl 0 rfl) ?_
    refine lv_i2l hx hb dL_law_1054 rfl ?_
    refine W.lcmp hx hb dL_law_1055 ?_
    refine lv_if_eq (tgt := 1061) hx hb dL_law_1056 (by decide) (fun _ => ?_) (fun c9 => absurd ((lg_cmp_eq _ _).mpr ((hR h0).trans (congrArg Int32.toInt64 ((eq_givenTo hok h0 _ _ _ _ _ _ _).trans (hrb h0).symm)))) c9)
    refine lv_goto (tgt := 1353) hx hb dL_law_1061 (by decide) ?_
    exact kk _ _ _ ⟨_, _, _, u1, _, _, _, _, hok1, h91, hu1, hP, hD, hS⟩ (lv_sub hl [2, 3, 4, 5, 6] rfl)

set_option maxHeartbeats 4000000 in
set_option maxRecDepth 100000 in
theorem cs_bare {p : Program} {e : Env} {s : State} {m : MethodId} {below : List Frame} {meth : Method} {c : Code} {l : Launch} {b L : Nat} {xs : Nat → Int32} {D : va_G} {cI cL cE cP : ClassId} {am : Nat → Nat} {o ax : Nat} {cells slots : Nat} {Q : State → Prop} {x4 : Int32} {H : Heap} {locs : List Loc} {ls : Array Slot} (C : LC p s m meth c b L xs D cI cL cE cP l) (hin : Lin x4 L) (hc : cells ≤ 600000) (hs : slots ≤ 7000000) (hI : LI D cI cL cE cP am o ax s H locs) (hl : lv_has ls 7 [(0, .ref b), (1, .ref ax), (2, .ref (am 0)), (3, .ref o), (4, .int x4)])
    (kk : ∀ (H : Heap) (locs : List Loc) (ls : Array Slot), LI D cI cL cE cP am o ax s H locs → lv_has ls 7 [(0, .ref b), (1, .ref ax), (2, .ref (am 0)), (3, .ref o), (4, .int x4)] → W p l e room_1 s m #[Value.ref b] below meth c H locs (cells + 1) (slots + 8) Q (F0 m 1353 ls [])) : W p l e room_1 s m #[Value.ref b] below meth c H locs cells slots Q (F0 m 1064 ls []) := by
  obtain ⟨⟨hx, hb, hr, hml, hown0, hts0, hX0, hbl, hlocks, hgv⟩, hE, hXx, hN, hU0, hfl⟩ := C
  have hown : s.vm.findClass RL = some m.cls := hown0
  have hts : ∀ w ∈ wsL_law, w.before #[Value.ref b] s = true := fun w h => hts0 w (wsL_law_in w h)
  have hA : ∀ q : Nat, s.heap.size ≤ q → lA s q := fun _ h => h
  have hbA : ¬ lA s b := Nat.not_le.mpr hbl
  have hK := hE.1
  obtain ⟨i0, i1, i2, i3, i4, i5, i6⟩ := hin
  obtain ⟨g, n, k, u, tb, my, lt, th, hok, h9, hu, hP, hD, hS⟩ := hI
  subst hu
  have hP : va_P D vwCl ((mws cI am g n k tb my lt th) ++ (lwo cI cL cE cP o g n k u)) H := hP
  have hD : va_D (lA s) ((mws cI am g n k tb my lt th) ++ (lwo cI cL cE cP o g n k u)) := hD
  refine lv_aload_n hx hb dL_law_1064 rfl (lv_at hl 1 rfl) ?_
  refine lv_aload_n hx hb dL_law_1065 rfl (lv_at hl 0 rfl) ?_
  refine lv_iload hx hb dL_law_1066 (lv_at hl 4 rfl) ?_
  refine lv_iconst (v := 1) hx hb dL_law_1068 (by decide) ?_
  refine lv_iadd hx hb dL_law_1069 ?_
  refine va_sld hx hb hX0 hbl hbA hS i1 dL_law_1070 ?_
  refine lv_topi (fun x e_x => ?_)
  refine lv_aload_n hx hb dL_law_1071 rfl (lv_at hl 3 rfl) ?_
  have hPc := (zP_app (w1 := (mws cI am g n k tb my lt th)) (w2 := (lwo cI cL cE cP o g n k u)) hP).2
  have hDc := (zD_app (w1 := (mws cI am g n k tb my lt th)) (w2 := (lwo cI cL cE cP o g n k u)) hD).2.1
  have hUc : zU (va_A (lwo cI cL cE cP o g n k u) H.size) s H := (hU0.kept hS.2.1).narrow (va_A_in2 (wr := (mws cI am g n k tb my lt th)) hD hS hA)
  refine zcalliJ (wr := (mws cI am g n k tb my lt th)) (wc := (lwo cI cL cE cP o g n k u)) (vx_runSW (As := [.ref (u.1 0), .int x, .ref o]) (rest := []) ⟨hx, hb, hml, hown, hts⟩ (zL_bare l hfl D cI cL cE cP o g n k u hok x H.size) (vx_cwSW 3 hts gL_law_L_bare rfl rfl rfl (by decide +kernel) ⟨Nat.le_of_ble_eq_true rfl, Nat.le_of_ble_eq_true rfl⟩) ⟨zPy_blind, zPy_mk hE hPc hDc hXx hUc hN⟩ rfl rfl hl.1 rfl (lv_room (Nat.le_of_ble_eq_true rfl)) dL_law_1072 (zroomL (by omega) (by omega))) hP hD hS hA (fun r u1 H locs hr1 hP hD hS => ?_)
  obtain ⟨hT, hR, hu1⟩ := hr1
  have hP : va_P D vwCl ((mws cI am g n k tb my lt th) ++ (lwo cI cL cE cP o (g) (n) (k) u1)) H := hP
  have hD : va_D (lA s) ((mws cI am g n k tb my lt th) ++ (lwo cI cL cE cP o (g) (n) (k) u1)) := hD
  refine lv_istore (lv' := [(5, .int r), (0, .ref b), (1, .ref (u.1 0)), (2, .ref (am 0)), (3, .ref o), (4, .int x4)]) hx hb dL_law_1075 hl (by decide) rfl (fun ls hl => ?_)
  refine lv_aload_n hx hb dL_law_1077 rfl (lv_at hl 3 rfl) ?_
  refine lv_aload_n hx hb dL_law_1078 rfl (lv_at hl 1 rfl) ?_
  refine lv_iload hx hb dL_law_1079 (lv_at hl 5 rfl) ?_
  refine lv_iconst (v := 1) hx hb dL_law_1081 (by decide) ?_
  refine lv_iadd hx hb dL_law_1082 ?_
  refine va_sld hx hb hX0 hbl hbA hS i1 dL_law_1083 ?_
  refine lv_topi (fun y_ ey_ => ?_)
  obtain rfl : x = y_ := e_x.trans ey_.symm
  have hPm := (zP_app (w1 := (mws cI am g n k tb my lt th)) (w2 := (lwo cI cL cE cP o (g) (n) (k) u1)) hP).1
  have hDm := (zD_app (w1 := (mws cI am g n k tb my lt th)) (w2 := (lwo cI cL cE cP o (g) (n) (k) u1)) hD).1
  refine zcalliJ (wr := (lwo cI cL cE cP o (g) (n) (k) u1)) (wc := (mws cI am g n k tb my lt th)) (va_runV (As := [.int x]) (rest := []) ⟨hx, hb, hml, hown, hts⟩ (zX4_bare l D cI cL cE cP am g n k tb my lt th hok x H.size) (cwV 1 hts gL_law_X4_bare rfl rfl rfl (by decide +kernel) ⟨Nat.le_of_ble_eq_true rfl, Nat.le_of_ble_eq_true rfl⟩) ⟨zPw_blind, va_recv hK hPm (ci := 4) (q0 := 0) rfl mws_0, zPw_mk hE hPm hDm⟩ rfl rfl hl.1 rfl (lv_room (Nat.le_of_ble_eq_true rfl)) dL_law_1084 (zroomL (by omega) (by omega))) (zP_swap hP) (zD_swap hD) hS hA (fun rb um H locs hrb hP hD hS => ?_)
  have hP : va_P D vwCl ((mws cI am (g) (n) (k) um.1 um.2.1 um.2.2 (T_amount n x)) ++ (lwo cI cL cE cP o (g) (n) (k) u1)) H := zP_swap hP
  have hD : va_D (lA s) ((mws cI am (g) (n) (k) um.1 um.2.1 um.2.2 (T_amount n x)) ++ (lwo cI cL cE cP o (g) (n) (k) u1)) := zD_swap hD
  have hrb : T_amount n x = 0 → rb = _ := hrb
  refine lv_istore (lv' := [(6, .int rb), (5, .int r), (0, .ref b), (1, .ref (u.1 0)), (2, .ref (am 0)), (3, .ref o), (4, .int x4)]) hx hb dL_law_1087 hl (by decide) rfl (fun ls hl => ?_)
  have hok1 := hok
  have h91 := h9
  have hok1 : zOk (g) (n) (k) := hok1
  have h91 : zH9 (g) (n) := h91
  have hPm := (zP_app (w1 := (mws cI am (g) (n) (k) um.1 um.2.1 um.2.2 (T_amount n x))) (w2 := (lwo cI cL cE cP o (g) (n) (k) u1)) hP).1
  refine lv_aload_n hx hb dL_law_1089 rfl (lv_at hl 4 rfl) ?_
  refine vp_callSi (va_Run.run (va_runV (As := []) (rest := []) ⟨hx, hb, hml, hown, hts⟩ (zX4_thrown l D cI cL cE cP am (g) (n) (k) um.1 um.2.1 um.2.2 (T_amount n x) hok1) (cwV 0 hts gL_law_X4_thrown rfl rfl rfl (by decide +kernel) ⟨Nat.le_of_ble_eq_true rfl, Nat.le_of_ble_eq_true rfl⟩) ⟨zPr_blind, va_recv hK hPm (ci := 4) (q0 := 0) rfl mws_0, zPr_mk hE hPm⟩ rfl rfl hl.1 rfl (lv_room (Nat.le_of_ble_eq_true rfl)) dL_law_1090 (zroomL (by omega) (by omega)))) (fun rt et => ?_)
  refine lv_iload hx hb dL_law_1093 (lv_at hl 1 rfl) ?_
  refine lv_icmp_eq (tgt := 1100) hx hb dL_law_1095 (by decide) (fun _ => ?_) (fun c9 => absurd (et.trans hT.symm) c9)
  refine W.widen (k := cells + 1) (n := slots + 8) (by omega) (by omega) ?_
  refine lv_iload hx hb dL_law_1100 (lv_at hl 1 rfl) ?_
  refine lv_if_ne (tgt := 1117) hx hb dL_law_1102 (by decide) (fun _ => ?_) (fun c8 => ?_)
  · refine lv_goto (tgt := 1353) hx hb dL_law_1117 (by decide) ?_
    exact kk _ _ _ ⟨_, _, _, u1, _, _, _, _, hok1, h91, hu1, hP, hD, hS⟩ (lv_sub hl [2, 3, 4, 5, 6] rfl)
  · have h0 : T_amount n x = 0 := hT.symm.trans c8
    refine lv_aload_n hx hb dL_law_1105 rfl (lv_at hl 5 rfl) ?_
    refine lv_iconst (v := 0) hx hb dL_law_1106 (by decide) ?_
    have hPl := (zP_app (w1 := (mws cI am (g) (n) (k) um.1 um.2.1 um.2.2 (T_amount n x))) (w2 := (lwo cI cL cE cP o (g) (n) (k) u1)) hP).2
    refine zlald (v := u_o u1 0) hx hb hK hPl 0 1 lwo_0 rfl (by unfold vp_in; decide) rfl dL_law_1107 ?_
    refine lv_iload hx hb dL_law_1108 (lv_at hl 0 rfl) ?_
    refine lv_i2l hx hb dL_law_1110 rfl ?_
    refine W.lcmp hx hb dL_law_1111 ?_
    refine lv_if_eq (tgt := 1117) hx hb dL_law_1112 (by decide) (fun _ => ?_) (fun c9 => absurd ((lg_cmp_eq _ _).mpr ((hR h0).trans (congrArg Int32.toInt64 ((congrArg (bw g k x.toNatClampNeg) (eq_sets hok h0 _ _ _ _ _ _ _)).trans (hrb h0).symm)))) c9)
    refine lv_goto (tgt := 1353) hx hb dL_law_1117 (by decide) ?_
    exact kk _ _ _ ⟨_, _, _, u1, _, _, _, _, hok1, h91, hu1, hP, hD, hS⟩ (lv_sub hl [2, 3, 4, 5, 6] rfl)

set_option maxHeartbeats 4000000 in
set_option maxRecDepth 100000 in
theorem cs_weighted {p : Program} {e : Env} {s : State} {m : MethodId} {below : List Frame} {meth : Method} {c : Code} {l : Launch} {b L : Nat} {xs : Nat → Int32} {D : va_G} {cI cL cE cP : ClassId} {am : Nat → Nat} {o ax : Nat} {cells slots : Nat} {Q : State → Prop} {x4 : Int32} {H : Heap} {locs : List Loc} {ls : Array Slot} (C : LC p s m meth c b L xs D cI cL cE cP l) (hin : Lin x4 L) (hc : cells ≤ 600000) (hs : slots ≤ 7000000) (hI : LI D cI cL cE cP am o ax s H locs) (hl : lv_has ls 7 [(0, .ref b), (1, .ref ax), (2, .ref (am 0)), (3, .ref o), (4, .int x4)])
    (kk : ∀ (H : Heap) (locs : List Loc) (ls : Array Slot), LI D cI cL cE cP am o ax s H locs → lv_has ls 7 [(0, .ref b), (1, .ref ax), (2, .ref (am 0)), (3, .ref o), (4, .int x4)] → W p l e room_1 s m #[Value.ref b] below meth c H locs (cells + 1) (slots + 8) Q (F0 m 1353 ls [])) : W p l e room_1 s m #[Value.ref b] below meth c H locs cells slots Q (F0 m 1120 ls []) := by
  obtain ⟨⟨hx, hb, hr, hml, hown0, hts0, hX0, hbl, hlocks, hgv⟩, hE, hXx, hN, hU0, hfl⟩ := C
  have hown : s.vm.findClass RL = some m.cls := hown0
  have hts : ∀ w ∈ wsL_law, w.before #[Value.ref b] s = true := fun w h => hts0 w (wsL_law_in w h)
  have hA : ∀ q : Nat, s.heap.size ≤ q → lA s q := fun _ h => h
  have hbA : ¬ lA s b := Nat.not_le.mpr hbl
  have hK := hE.1
  obtain ⟨i0, i1, i2, i3, i4, i5, i6⟩ := hin
  obtain ⟨g, n, k, u, tb, my, lt, th, hok, h9, hu, hP, hD, hS⟩ := hI
  subst hu
  have hP : va_P D vwCl ((mws cI am g n k tb my lt th) ++ (lwo cI cL cE cP o g n k u)) H := hP
  have hD : va_D (lA s) ((mws cI am g n k tb my lt th) ++ (lwo cI cL cE cP o g n k u)) := hD
  refine lv_aload_n hx hb dL_law_1120 rfl (lv_at hl 1 rfl) ?_
  refine lv_aload_n hx hb dL_law_1121 rfl (lv_at hl 0 rfl) ?_
  refine lv_iload hx hb dL_law_1122 (lv_at hl 4 rfl) ?_
  refine lv_iconst (v := 1) hx hb dL_law_1124 (by decide) ?_
  refine lv_iadd hx hb dL_law_1125 ?_
  refine va_sld hx hb hX0 hbl hbA hS i1 dL_law_1126 ?_
  refine lv_topi (fun x e_x => ?_)
  refine lv_aload_n hx hb dL_law_1127 rfl (lv_at hl 3 rfl) ?_
  have hPc := (zP_app (w1 := (mws cI am g n k tb my lt th)) (w2 := (lwo cI cL cE cP o g n k u)) hP).2
  have hDc := (zD_app (w1 := (mws cI am g n k tb my lt th)) (w2 := (lwo cI cL cE cP o g n k u)) hD).2.1
  have hUc : zU (va_A (lwo cI cL cE cP o g n k u) H.size) s H := (hU0.kept hS.2.1).narrow (va_A_in2 (wr := (mws cI am g n k tb my lt th)) hD hS hA)
  refine zcalliJ (wr := (mws cI am g n k tb my lt th)) (wc := (lwo cI cL cE cP o g n k u)) (vx_runSW (As := [.ref (u.1 0), .int x, .ref o]) (rest := []) ⟨hx, hb, hml, hown, hts⟩ (zL_weighted l hfl D cI cL cE cP o g n k u hok x H.size) (vx_cwSW 3 hts gL_law_L_weighted rfl rfl rfl (by decide +kernel) ⟨Nat.le_of_ble_eq_true rfl, Nat.le_of_ble_eq_true rfl⟩) ⟨zPy_blind, zPy_mk hE hPc hDc hXx hUc hN⟩ rfl rfl hl.1 rfl (lv_room (Nat.le_of_ble_eq_true rfl)) dL_law_1128 (zroomL (by omega) (by omega))) hP hD hS hA (fun r u1 H locs hr1 hP hD hS => ?_)
  obtain ⟨hT, hR, hu1⟩ := hr1
  have hP : va_P D vwCl ((mws cI am g n k tb my lt th) ++ (lwo cI cL cE cP o (g) (n) (k) u1)) H := hP
  have hD : va_D (lA s) ((mws cI am g n k tb my lt th) ++ (lwo cI cL cE cP o (g) (n) (k) u1)) := hD
  refine lv_istore (lv' := [(5, .int r), (0, .ref b), (1, .ref (u.1 0)), (2, .ref (am 0)), (3, .ref o), (4, .int x4)]) hx hb dL_law_1131 hl (by decide) rfl (fun ls hl => ?_)
  refine lv_aload_n hx hb dL_law_1133 rfl (lv_at hl 3 rfl) ?_
  refine lv_aload_n hx hb dL_law_1134 rfl (lv_at hl 1 rfl) ?_
  refine lv_iload hx hb dL_law_1135 (lv_at hl 5 rfl) ?_
  refine lv_iconst (v := 1) hx hb dL_law_1137 (by decide) ?_
  refine lv_iadd hx hb dL_law_1138 ?_
  refine va_sld hx hb hX0 hbl hbA hS i1 dL_law_1139 ?_
  refine lv_topi (fun y_ ey_ => ?_)
  obtain rfl : x = y_ := e_x.trans ey_.symm
  have hPm := (zP_app (w1 := (mws cI am g n k tb my lt th)) (w2 := (lwo cI cL cE cP o (g) (n) (k) u1)) hP).1
  have hDm := (zD_app (w1 := (mws cI am g n k tb my lt th)) (w2 := (lwo cI cL cE cP o (g) (n) (k) u1)) hD).1
  refine zcalliJ (wr := (lwo cI cL cE cP o (g) (n) (k) u1)) (wc := (mws cI am g n k tb my lt th)) (va_runV (As := [.int x]) (rest := []) ⟨hx, hb, hml, hown, hts⟩ (zX4_weighted l D cI cL cE cP am g n k tb my lt th hok x H.size) (cwV 1 hts gL_law_X4_weighted rfl rfl rfl (by decide +kernel) ⟨Nat.le_of_ble_eq_true rfl, Nat.le_of_ble_eq_true rfl⟩) ⟨zPw_blind, va_recv hK hPm (ci := 4) (q0 := 0) rfl mws_0, zPw_mk hE hPm hDm⟩ rfl rfl hl.1 rfl (lv_room (Nat.le_of_ble_eq_true rfl)) dL_law_1140 (zroomL (by omega) (by omega))) (zP_swap hP) (zD_swap hD) hS hA (fun rb um H locs hrb hP hD hS => ?_)
  have hP : va_P D vwCl ((mws cI am (g) (n) (k) um.1 um.2.1 um.2.2 (T_amount n x)) ++ (lwo cI cL cE cP o (g) (n) (k) u1)) H := zP_swap hP
  have hD : va_D (lA s) ((mws cI am (g) (n) (k) um.1 um.2.1 um.2.2 (T_amount n x)) ++ (lwo cI cL cE cP o (g) (n) (k) u1)) := zD_swap hD
  have hrb : T_amount n x = 0 → rb = _ := hrb
  refine lv_istore (lv' := [(6, .int rb), (5, .int r), (0, .ref b), (1, .ref (u.1 0)), (2, .ref (am 0)), (3, .ref o), (4, .int x4)]) hx hb dL_law_1143 hl (by decide) rfl (fun ls hl => ?_)
  have hok1 := hok
  have h91 := h9
  have hok1 : zOk (g) (n) (k) := hok1
  have h91 : zH9 (g) (n) := h91
  have hPm := (zP_app (w1 := (mws cI am (g) (n) (k) um.1 um.2.1 um.2.2 (T_amount n x))) (w2 := (lwo cI cL cE cP o (g) (n) (k) u1)) hP).1
  refine lv_aload_n hx hb dL_law_1145 rfl (lv_at hl 4 rfl) ?_
  refine vp_callSi (va_Run.run (va_runV (As := []) (rest := []) ⟨hx, hb, hml, hown, hts⟩ (zX4_thrown l D cI cL cE cP am (g) (n) (k) um.1 um.2.1 um.2.2 (T_amount n x) hok1) (cwV 0 hts gL_law_X4_thrown rfl rfl rfl (by decide +kernel) ⟨Nat.le_of_ble_eq_true rfl, Nat.le_of_ble_eq_true rfl⟩) ⟨zPr_blind, va_recv hK hPm (ci := 4) (q0 := 0) rfl mws_0, zPr_mk hE hPm⟩ rfl rfl hl.1 rfl (lv_room (Nat.le_of_ble_eq_true rfl)) dL_law_1146 (zroomL (by omega) (by omega)))) (fun rt et => ?_)
  refine lv_iload hx hb dL_law_1149 (lv_at hl 1 rfl) ?_
  refine lv_icmp_eq (tgt := 1156) hx hb dL_law_1151 (by decide) (fun _ => ?_) (fun c9 => absurd (et.trans hT.symm) c9)
  refine W.widen (k := cells + 1) (n := slots + 8) (by omega) (by omega) ?_
  refine lv_iload hx hb dL_law_1156 (lv_at hl 1 rfl) ?_
  refine lv_if_ne (tgt := 1173) hx hb dL_law_1158 (by decide) (fun _ => ?_) (fun c8 => ?_)
  · refine lv_goto (tgt := 1353) hx hb dL_law_1173 (by decide) ?_
    exact kk _ _ _ ⟨_, _, _, u1, _, _, _, _, hok1, h91, hu1, hP, hD, hS⟩ (lv_sub hl [2, 3, 4, 5, 6] rfl)
  · have h0 : T_amount n x = 0 := hT.symm.trans c8
    refine lv_aload_n hx hb dL_law_1161 rfl (lv_at hl 5 rfl) ?_
    refine lv_iconst (v := 0) hx hb dL_law_1162 (by decide) ?_
    have hPl := (zP_app (w1 := (mws cI am (g) (n) (k) um.1 um.2.1 um.2.2 (T_amount n x))) (w2 := (lwo cI cL cE cP o (g) (n) (k) u1)) hP).2
    refine zlald (v := u_o u1 0) hx hb hK hPl 0 1 lwo_0 rfl (by unfold vp_in; decide) rfl dL_law_1163 ?_
    refine lv_iload hx hb dL_law_1164 (lv_at hl 0 rfl) ?_
    refine lv_i2l hx hb dL_law_1166 rfl ?_
    refine W.lcmp hx hb dL_law_1167 ?_
    refine lv_if_eq (tgt := 1173) hx hb dL_law_1168 (by decide) (fun _ => ?_) (fun c9 => absurd ((lg_cmp_eq _ _).mpr ((hR h0).trans (congrArg Int32.toInt64 ((congrArg (fun z => wo g x.toNatClampNeg (bw g k x.toNatClampNeg z)) (eq_sets hok h0 _ _ _ _ _ _ _)).trans (hrb h0).symm)))) c9)
    refine lv_goto (tgt := 1353) hx hb dL_law_1173 (by decide) ?_
    exact kk _ _ _ ⟨_, _, _, u1, _, _, _, _, hok1, h91, hu1, hP, hD, hS⟩ (lv_sub hl [2, 3, 4, 5, 6] rfl)

set_option maxHeartbeats 4000000 in
set_option maxRecDepth 100000 in
theorem cs_whole {p : Program} {e : Env} {s : State} {m : MethodId} {below : List Frame} {meth : Method} {c : Code} {l : Launch} {b L : Nat} {xs : Nat → Int32} {D : va_G} {cI cL cE cP : ClassId} {am : Nat → Nat} {o ax : Nat} {cells slots : Nat} {Q : State → Prop} {x4 : Int32} {H : Heap} {locs : List Loc} {ls : Array Slot} (C : LC p s m meth c b L xs D cI cL cE cP l) (hin : Lin x4 L) (hc : cells ≤ 600000) (hs : slots ≤ 7000000) (hI : LI D cI cL cE cP am o ax s H locs) (hl : lv_has ls 7 [(0, .ref b), (1, .ref ax), (2, .ref (am 0)), (3, .ref o), (4, .int x4)])
    (kk : ∀ (H : Heap) (locs : List Loc) (ls : Array Slot), LI D cI cL cE cP am o ax s H locs → lv_has ls 7 [(0, .ref b), (1, .ref ax), (2, .ref (am 0)), (3, .ref o), (4, .int x4)] → W p l e room_1 s m #[Value.ref b] below meth c H locs (cells + 1) (slots + 8) Q (F0 m 1353 ls [])) : W p l e room_1 s m #[Value.ref b] below meth c H locs cells slots Q (F0 m 1176 ls []) := by
  obtain ⟨⟨hx, hb, hr, hml, hown0, hts0, hX0, hbl, hlocks, hgv⟩, hE, hXx, hN, hU0, hfl⟩ := C
  have hown : s.vm.findClass RL = some m.cls := hown0
  have hts : ∀ w ∈ wsL_law, w.before #[Value.ref b] s = true := fun w h => hts0 w (wsL_law_in w h)
  have hA : ∀ q : Nat, s.heap.size ≤ q → lA s q := fun _ h => h
  have hbA : ¬ lA s b := Nat.not_le.mpr hbl
  have hK := hE.1
  obtain ⟨i0, i1, i2, i3, i4, i5, i6⟩ := hin
  obtain ⟨g, n, k, u, tb, my, lt, th, hok, h9, hu, hP, hD, hS⟩ := hI
  subst hu
  have hP : va_P D vwCl ((mws cI am g n k tb my lt th) ++ (lwo cI cL cE cP o g n k u)) H := hP
  have hD : va_D (lA s) ((mws cI am g n k tb my lt th) ++ (lwo cI cL cE cP o g n k u)) := hD
  refine lv_aload_n hx hb dL_law_1176 rfl (lv_at hl 1 rfl) ?_
  have hPc : va_P D vwCl (cwu cI cL cE cP g n k u) H := (zP_app (w1 := [(o, .inl (cL, 1, .inr (.inl (u_o u))))]) (zP_app (w1 := (mws cI am g n k tb my lt th)) (w2 := (lwo cI cL cE cP o g n k u)) hP).2).2
  have hDc : va_D (lA s) (cwu cI cL cE cP g n k u) := (zD_app (w1 := [(o, .inl (cL, 1, .inr (.inl (u_o u))))]) (zD_app (w1 := (mws cI am g n k tb my lt th)) (w2 := (lwo cI cL cE cP o g n k u)) hD).2.1).2.1
  refine zcalliJ (wr := (mws cI am g n k tb my lt th) ++ [(o, .inl (cL, 1, .inr (.inl (u_o u))))]) (wc := (cwu cI cL cE cP g n k u)) (va_runV (As := []) (rest := []) ⟨hx, hb, hml, hown, hts⟩ (zX3_whole l D cI cL cE cP u.1 g n k u.2.1 u.2.2.1 u.2.2.2.1 u.2.2.2.2.1 u.2.2.2.2.2.1 u.2.2.2.2.2.2.1 u.2.2.2.2.2.2.2.1 hok H.size) (cwV 0 hts gL_law_X3_whole rfl rfl rfl (by decide +kernel) ⟨Nat.le_of_ble_eq_true rfl, Nat.le_of_ble_eq_true rfl⟩) ⟨zPw_blind, va_recv hK hPc (ci := 3) (q0 := 0) rfl cws_0, zPw_mk hE hPc hDc⟩ rfl rfl hl.1 rfl (lv_room (Nat.le_of_ble_eq_true rfl)) dL_law_1177 (zroomL (by omega) (by omega))) (zP_re hP (List.append_assoc _ _ _)) (zD_re hD (List.append_assoc _ _ _)) hS hA (fun r _ H locs e1 hP hD hS => ?_)
  have hP : va_P D vwCl ((mws cI am g n k tb my lt th) ++ (lwo cI cL cE cP o g n k (u.1, (zfl (US g k) u.2.1 n), (zfl (WB g k) u.2.2.1 (32 * n)), u.2.2.2.1, PRO (zfl (WB g k) u.2.2.1 (32 * n)) u.2.2.2.2.1 n, LEO (zfl (US g k) u.2.1 n) (zfl (WB g k) u.2.2.1 (32 * n)) u.2.2.2.2.1 u.2.2.2.2.2.1 n, nI n, nI k, u_o u))) H := zP_re hP (List.append_assoc _ _ _).symm
  have hD : va_D (lA s) ((mws cI am g n k tb my lt th) ++ (lwo cI cL cE cP o g n k (u.1, (zfl (US g k) u.2.1 n), (zfl (WB g k) u.2.2.1 (32 * n)), u.2.2.2.1, PRO (zfl (WB g k) u.2.2.1 (32 * n)) u.2.2.2.2.1 n, LEO (zfl (US g k) u.2.1 n) (zfl (WB g k) u.2.2.1 (32 * n)) u.2.2.2.2.1 u.2.2.2.2.2.1 n, nI n, nI k, u_o u))) := zD_re hD (List.append_assoc _ _ _).symm
  refine lv_aload_n hx hb dL_law_1180 rfl (lv_at hl 2 rfl) ?_
  have hPm := (zP_app (w1 := (mws cI am g n k tb my lt th)) (w2 := (lwo cI cL cE cP o g n k (u.1, (zfl (US g k) u.2.1 n), (zfl (WB g k) u.2.2.1 (32 * n)), u.2.2.2.1, PRO (zfl (WB g k) u.2.2.1 (32 * n)) u.2.2.2.2.1 n, LEO (zfl (US g k) u.2.1 n) (zfl (WB g k) u.2.2.1 (32 * n)) u.2.2.2.2.1 u.2.2.2.2.2.1 n, nI n, nI k, u_o u))) hP).1
  have hDm := (zD_app (w1 := (mws cI am g n k tb my lt th)) (w2 := (lwo cI cL cE cP o g n k (u.1, (zfl (US g k) u.2.1 n), (zfl (WB g k) u.2.2.1 (32 * n)), u.2.2.2.1, PRO (zfl (WB g k) u.2.2.1 (32 * n)) u.2.2.2.2.1 n, LEO (zfl (US g k) u.2.1 n) (zfl (WB g k) u.2.2.1 (32 * n)) u.2.2.2.2.1 u.2.2.2.2.2.1 n, nI n, nI k, u_o u))) hD).1
  refine zcalliJ (wr := (lwo cI cL cE cP o g n k (u.1, (zfl (US g k) u.2.1 n), (zfl (WB g k) u.2.2.1 (32 * n)), u.2.2.2.1, PRO (zfl (WB g k) u.2.2.1 (32 * n)) u.2.2.2.2.1 n, LEO (zfl (US g k) u.2.1 n) (zfl (WB g k) u.2.2.1 (32 * n)) u.2.2.2.2.1 u.2.2.2.2.2.1 n, nI n, nI k, u_o u))) (wc := (mws cI am g n k tb my lt th)) (va_runV (As := []) (rest := [.int r]) ⟨hx, hb, hml, hown, hts⟩ (zX4_whole l D cI cL cE cP am g n k tb my lt th hok H.size) (cwV 0 hts gL_law_X4_whole rfl rfl rfl (by decide +kernel) ⟨Nat.le_of_ble_eq_true rfl, Nat.le_of_ble_eq_true rfl⟩) ⟨zPw_blind, va_recv hK hPm (ci := 4) (q0 := 0) rfl mws_0, zPw_mk hE hPm hDm⟩ rfl rfl hl.1 rfl (lv_room (Nat.le_of_ble_eq_true rfl)) dL_law_1181 (zroomL (by omega) (by omega))) (zP_swap hP) (zD_swap hD) hS hA (fun rb _ H locs e2 hP hD hS => ?_)
  have hP : va_P D vwCl ((mws cI am g n k (zfl (WB g k) tb (32 * n)) (zfl (MY g n) my k) (LTA (zfl (WB g k) tb (32 * n)) (zfl (MY g n) my k) n k lt n) 0) ++ (lwo cI cL cE cP o g n k (u.1, (zfl (US g k) u.2.1 n), (zfl (WB g k) u.2.2.1 (32 * n)), u.2.2.2.1, PRO (zfl (WB g k) u.2.2.1 (32 * n)) u.2.2.2.2.1 n, LEO (zfl (US g k) u.2.1 n) (zfl (WB g k) u.2.2.1 (32 * n)) u.2.2.2.2.1 u.2.2.2.2.2.1 n, nI n, nI k, u_o u))) H := zP_swap hP
  have hD : va_D (lA s) ((mws cI am g n k (zfl (WB g k) tb (32 * n)) (zfl (MY g n) my k) (LTA (zfl (WB g k) tb (32 * n)) (zfl (MY g n) my k) n k lt n) 0) ++ (lwo cI cL cE cP o g n k (u.1, (zfl (US g k) u.2.1 n), (zfl (WB g k) u.2.2.1 (32 * n)), u.2.2.2.1, PRO (zfl (WB g k) u.2.2.1 (32 * n)) u.2.2.2.2.1 n, LEO (zfl (US g k) u.2.1 n) (zfl (WB g k) u.2.2.1 (32 * n)) u.2.2.2.2.1 u.2.2.2.2.2.1 n, nI n, nI k, u_o u))) := zD_swap hD
  refine W.widen (k := cells + 1) (n := slots + 8) (by omega) (by omega) ?_
  refine lv_icmp_eq (tgt := 1353) hx hb dL_law_1184 (by decide) (fun _ => ?_) (fun c9 => absurd (e1.trans ((zwhole hok _ _ _ _ _ _).trans e2.symm)) c9)
  exact kk _ _ _ ⟨g, n, k, (u.1, (zfl (US g k) u.2.1 n), (zfl (WB g k) u.2.2.1 (32 * n)), u.2.2.2.1, PRO (zfl (WB g k) u.2.2.1 (32 * n)) u.2.2.2.2.1 n, LEO (zfl (US g k) u.2.1 n) (zfl (WB g k) u.2.2.1 (32 * n)) u.2.2.2.2.1 u.2.2.2.2.2.1 n, nI n, nI k, u_o u), _, _, _, _, hok, h9, rfl, hP, hD, hS⟩ hl

set_option maxHeartbeats 4000000 in
set_option maxRecDepth 100000 in
theorem cs_wholeByTrying {p : Program} {e : Env} {s : State} {m : MethodId} {below : List Frame} {meth : Method} {c : Code} {l : Launch} {b L : Nat} {xs : Nat → Int32} {D : va_G} {cI cL cE cP : ClassId} {am : Nat → Nat} {o ax : Nat} {cells slots : Nat} {Q : State → Prop} {x4 : Int32} {H : Heap} {locs : List Loc} {ls : Array Slot} (C : LC p s m meth c b L xs D cI cL cE cP l) (hin : Lin x4 L) (hc : cells ≤ 600000) (hs : slots ≤ 7000000) (hI : LI D cI cL cE cP am o ax s H locs) (hl : lv_has ls 7 [(0, .ref b), (1, .ref ax), (2, .ref (am 0)), (3, .ref o), (4, .int x4)])
    (kk : ∀ (H : Heap) (locs : List Loc) (ls : Array Slot), LI D cI cL cE cP am o ax s H locs → lv_has ls 7 [(0, .ref b), (1, .ref ax), (2, .ref (am 0)), (3, .ref o), (4, .int x4)] → W p l e room_1 s m #[Value.ref b] below meth c H locs (cells + 1) (slots + 8) Q (F0 m 1353 ls [])) : W p l e room_1 s m #[Value.ref b] below meth c H locs cells slots Q (F0 m 1189 ls []) := by
  obtain ⟨⟨hx, hb, hr, hml, hown0, hts0, hX0, hbl, hlocks, hgv⟩, hE, hXx, hN, hU0, hfl⟩ := C
  have hown : s.vm.findClass RL = some m.cls := hown0
  have hts : ∀ w ∈ wsL_law, w.before #[Value.ref b] s = true := fun w h => hts0 w (wsL_law_in w h)
  have hA : ∀ q : Nat, s.heap.size ≤ q → lA s q := fun _ h => h
  have hbA : ¬ lA s b := Nat.not_le.mpr hbl
  have hK := hE.1
  obtain ⟨i0, i1, i2, i3, i4, i5, i6⟩ := hin
  obtain ⟨g, n, k, u, tb, my, lt, th, hok, h9, hu, hP, hD, hS⟩ := hI
  subst hu
  have hP : va_P D vwCl ((mws cI am g n k tb my lt th) ++ (lwo cI cL cE cP o g n k u)) H := hP
  have hD : va_D (lA s) ((mws cI am g n k tb my lt th) ++ (lwo cI cL cE cP o g n k u)) := hD
  refine lv_aload_n hx hb dL_law_1189 rfl (lv_at hl 1 rfl) ?_
  have hPc : va_P D vwCl (cwu cI cL cE cP g n k u) H := (zP_app (w1 := [(o, .inl (cL, 1, .inr (.inl (u_o u))))]) (zP_app (w1 := (mws cI am g n k tb my lt th)) (w2 := (lwo cI cL cE cP o g n k u)) hP).2).2
  have hDc : va_D (lA s) (cwu cI cL cE cP g n k u) := (zD_app (w1 := [(o, .inl (cL, 1, .inr (.inl (u_o u))))]) (zD_app (w1 := (mws cI am g n k tb my lt th)) (w2 := (lwo cI cL cE cP o g n k u)) hD).2.1).2.1
  refine zcalliJ (wr := (mws cI am g n k tb my lt th) ++ [(o, .inl (cL, 1, .inr (.inl (u_o u))))]) (wc := (cwu cI cL cE cP g n k u)) (va_runV (As := []) (rest := []) ⟨hx, hb, hml, hown, hts⟩ (zX3_wholeByTrying l D cI cL cE cP u.1 g n k u.2.1 u.2.2.1 u.2.2.2.1 u.2.2.2.2.1 u.2.2.2.2.2.1 u.2.2.2.2.2.2.1 u.2.2.2.2.2.2.2.1 hok H.size) (cwV 0 hts gL_law_X3_wholeByTrying rfl rfl rfl (by decide +kernel) ⟨Nat.le_of_ble_eq_true rfl, Nat.le_of_ble_eq_true rfl⟩) ⟨zPw_blind, va_recv hK hPc (ci := 3) (q0 := 0) rfl cws_0, zPw_mk hE hPc hDc⟩ rfl rfl hl.1 rfl (lv_room (Nat.le_of_ble_eq_true rfl)) dL_law_1190 (zroomL (by omega) (by omega))) (zP_re hP (List.append_assoc _ _ _)) (zD_re hD (List.append_assoc _ _ _)) hS hA (fun r _ H locs e1 hP hD hS => ?_)
  have hP : va_P D vwCl ((mws cI am g n k tb my lt th) ++ (lwo cI cL cE cP o g n k (u.1, (zfl (US g k) u.2.1 n), (zfl (WB g k) u.2.2.1 (32 * n)), trL u.2.2.2.1 n, u.2.2.2.2.1, u.2.2.2.2.2.1, nI n, nI k, u_o u))) H := zP_re hP (List.append_assoc _ _ _).symm
  have hD : va_D (lA s) ((mws cI am g n k tb my lt th) ++ (lwo cI cL cE cP o g n k (u.1, (zfl (US g k) u.2.1 n), (zfl (WB g k) u.2.2.1 (32 * n)), trL u.2.2.2.1 n, u.2.2.2.2.1, u.2.2.2.2.2.1, nI n, nI k, u_o u))) := zD_re hD (List.append_assoc _ _ _).symm
  refine lv_aload_n hx hb dL_law_1193 rfl (lv_at hl 2 rfl) ?_
  have hPm := (zP_app (w1 := (mws cI am g n k tb my lt th)) (w2 := (lwo cI cL cE cP o g n k (u.1, (zfl (US g k) u.2.1 n), (zfl (WB g k) u.2.2.1 (32 * n)), trL u.2.2.2.1 n, u.2.2.2.2.1, u.2.2.2.2.2.1, nI n, nI k, u_o u))) hP).1
  have hDm := (zD_app (w1 := (mws cI am g n k tb my lt th)) (w2 := (lwo cI cL cE cP o g n k (u.1, (zfl (US g k) u.2.1 n), (zfl (WB g k) u.2.2.1 (32 * n)), trL u.2.2.2.1 n, u.2.2.2.2.1, u.2.2.2.2.2.1, nI n, nI k, u_o u))) hD).1
  refine zcalliJ (wr := (lwo cI cL cE cP o g n k (u.1, (zfl (US g k) u.2.1 n), (zfl (WB g k) u.2.2.1 (32 * n)), trL u.2.2.2.1 n, u.2.2.2.2.1, u.2.2.2.2.2.1, nI n, nI k, u_o u))) (wc := (mws cI am g n k tb my lt th)) (va_runV (As := []) (rest := [.int r]) ⟨hx, hb, hml, hown, hts⟩ (zX4_wholeByTrying l D cI cL cE cP am g n k tb my lt th hok H.size) (cwV 0 hts gL_law_X4_wholeByTrying rfl rfl rfl (by decide +kernel) ⟨Nat.le_of_ble_eq_true rfl, Nat.le_of_ble_eq_true rfl⟩) ⟨zPw_blind, va_recv hK hPm (ci := 4) (q0 := 0) rfl mws_0, zPw_mk hE hPm hDm⟩ rfl rfl hl.1 rfl (lv_room (Nat.le_of_ble_eq_true rfl)) dL_law_1194 (zroomL (by omega) (by omega))) (zP_swap hP) (zD_swap hD) hS hA (fun rb _ H locs e2 hP hD hS => ?_)
  have hP : va_P D vwCl ((mws cI am g n k (zfl (WB g k) tb (32 * n)) (zfl (MY g n) my k) (LTA (zfl (WB g k) tb (32 * n)) (zfl (MY g n) my k) n k lt n) 0) ++ (lwo cI cL cE cP o g n k (u.1, (zfl (US g k) u.2.1 n), (zfl (WB g k) u.2.2.1 (32 * n)), trL u.2.2.2.1 n, u.2.2.2.2.1, u.2.2.2.2.2.1, nI n, nI k, u_o u))) H := zP_swap hP
  have hD : va_D (lA s) ((mws cI am g n k (zfl (WB g k) tb (32 * n)) (zfl (MY g n) my k) (LTA (zfl (WB g k) tb (32 * n)) (zfl (MY g n) my k) n k lt n) 0) ++ (lwo cI cL cE cP o g n k (u.1, (zfl (US g k) u.2.1 n), (zfl (WB g k) u.2.2.1 (32 * n)), trL u.2.2.2.1 n, u.2.2.2.2.1, u.2.2.2.2.2.1, nI n, nI k, u_o u))) := zD_swap hD
  refine W.widen (k := cells + 1) (n := slots + 8) (by omega) (by omega) ?_
  refine lv_icmp_eq (tgt := 1353) hx hb dL_law_1197 (by decide) (fun _ => ?_) (fun c9 => absurd (e1.trans ((ztrying hok _ _ _ _ _).trans e2.symm)) c9)
  exact kk _ _ _ ⟨g, n, k, (u.1, (zfl (US g k) u.2.1 n), (zfl (WB g k) u.2.2.1 (32 * n)), trL u.2.2.2.1 n, u.2.2.2.2.1, u.2.2.2.2.2.1, nI n, nI k, u_o u), _, _, _, _, hok, h9, rfl, hP, hD, hS⟩ hl

set_option maxHeartbeats 4000000 in
set_option maxRecDepth 100000 in
theorem cs_worth {p : Program} {e : Env} {s : State} {m : MethodId} {below : List Frame} {meth : Method} {c : Code} {l : Launch} {b L : Nat} {xs : Nat → Int32} {D : va_G} {cI cL cE cP : ClassId} {am : Nat → Nat} {o ax : Nat} {cells slots : Nat} {Q : State → Prop} {x4 : Int32} {H : Heap} {locs : List Loc} {ls : Array Slot} (C : LC p s m meth c b L xs D cI cL cE cP l) (hin : Lin x4 L) (hc : cells ≤ 600000) (hs : slots ≤ 7000000) (hI : LI D cI cL cE cP am o ax s H locs) (hl : lv_has ls 7 [(0, .ref b), (1, .ref ax), (2, .ref (am 0)), (3, .ref o), (4, .int x4)])
    (kk : ∀ (H : Heap) (locs : List Loc) (ls : Array Slot), LI D cI cL cE cP am o ax s H locs → lv_has ls 7 [(0, .ref b), (1, .ref ax), (2, .ref (am 0)), (3, .ref o), (4, .int x4)] → W p l e room_1 s m #[Value.ref b] below meth c H locs (cells + 1) (slots + 8) Q (F0 m 1353 ls [])) : W p l e room_1 s m #[Value.ref b] below meth c H locs cells slots Q (F0 m 1202 ls []) := by
  obtain ⟨⟨hx, hb, hr, hml, hown0, hts0, hX0, hbl, hlocks, hgv⟩, hE, hXx, hN, hU0, hfl⟩ := C
  have hown : s.vm.findClass RL = some m.cls := hown0
  have hts : ∀ w ∈ wsL_law, w.before #[Value.ref b] s = true := fun w h => hts0 w (wsL_law_in w h)
  have hA : ∀ q : Nat, s.heap.size ≤ q → lA s q := fun _ h => h
  have hbA : ¬ lA s b := Nat.not_le.mpr hbl
  have hK := hE.1
  obtain ⟨i0, i1, i2, i3, i4, i5, i6⟩ := hin
  obtain ⟨g, n, k, u, tb, my, lt, th, hok, h9, hu, hP, hD, hS⟩ := hI
  subst hu
  have hP : va_P D vwCl ((mws cI am g n k tb my lt th) ++ (lwo cI cL cE cP o g n k u)) H := hP
  have hD : va_D (lA s) ((mws cI am g n k tb my lt th) ++ (lwo cI cL cE cP o g n k u)) := hD
  refine lv_aload_n hx hb dL_law_1202 rfl (lv_at hl 1 rfl) ?_
  refine lv_aload_n hx hb dL_law_1203 rfl (lv_at hl 0 rfl) ?_
  refine lv_iload hx hb dL_law_1204 (lv_at hl 4 rfl) ?_
  refine lv_iconst (v := 1) hx hb dL_law_1206 (by decide) ?_
  refine lv_iadd hx hb dL_law_1207 ?_
  refine va_sld hx hb hX0 hbl hbA hS i1 dL_law_1208 ?_
  refine lv_topi (fun y e_y => ?_)
  refine lv_aload_n hx hb dL_law_1209 rfl (lv_at hl 3 rfl) ?_
  have hPc := (zP_app (w1 := (mws cI am g n k tb my lt th)) (w2 := (lwo cI cL cE cP o g n k u)) hP).2
  have hDc := (zD_app (w1 := (mws cI am g n k tb my lt th)) (w2 := (lwo cI cL cE cP o g n k u)) hD).2.1
  have hUc : zU (va_A (lwo cI cL cE cP o g n k u) H.size) s H := (hU0.kept hS.2.1).narrow (va_A_in2 (wr := (mws cI am g n k tb my lt th)) hD hS hA)
  refine zcalliJ (wr := (mws cI am g n k tb my lt th)) (wc := (lwo cI cL cE cP o g n k u)) (vx_runSW (As := [.ref (u.1 0), .int y, .ref o]) (rest := []) ⟨hx, hb, hml, hown, hts⟩ (zL_worth l hfl D cI cL cE cP o g n k u hok y H.size) (vx_cwSW 3 hts gL_law_L_worth rfl rfl rfl (by decide +kernel) ⟨Nat.le_of_ble_eq_true rfl, Nat.le_of_ble_eq_true rfl⟩) ⟨zPy_blind, zPy_mk hE hPc hDc hXx hUc hN⟩ rfl rfl hl.1 rfl (lv_room (Nat.le_of_ble_eq_true rfl)) dL_law_1210 (zroomL (by omega) (by omega))) hP hD hS hA (fun r u1 H locs hr1 hP hD hS => ?_)
  obtain ⟨hT, hR, hu1⟩ := hr1
  have hP : va_P D vwCl ((mws cI am g n k tb my lt th) ++ (lwo cI cL cE cP o (g) (n) (k) u1)) H := hP
  have hD : va_D (lA s) ((mws cI am g n k tb my lt th) ++ (lwo cI cL cE cP o (g) (n) (k) u1)) := hD
  refine lv_istore (lv' := [(5, .int r), (0, .ref b), (1, .ref (u.1 0)), (2, .ref (am 0)), (3, .ref o), (4, .int x4)]) hx hb dL_law_1213 hl (by decide) rfl (fun ls hl => ?_)
  refine lv_aload_n hx hb dL_law_1215 rfl (lv_at hl 3 rfl) ?_
  refine lv_aload_n hx hb dL_law_1216 rfl (lv_at hl 1 rfl) ?_
  refine lv_iload hx hb dL_law_1217 (lv_at hl 5 rfl) ?_
  refine lv_iconst (v := 1) hx hb dL_law_1219 (by decide) ?_
  refine lv_iadd hx hb dL_law_1220 ?_
  refine va_sld hx hb hX0 hbl hbA hS i1 dL_law_1221 ?_
  refine lv_topi (fun y_ ey_ => ?_)
  obtain rfl : y = y_ := e_y.trans ey_.symm
  have hPm := (zP_app (w1 := (mws cI am g n k tb my lt th)) (w2 := (lwo cI cL cE cP o (g) (n) (k) u1)) hP).1
  have hDm := (zD_app (w1 := (mws cI am g n k tb my lt th)) (w2 := (lwo cI cL cE cP o (g) (n) (k) u1)) hD).1
  refine zcalliJ (wr := (lwo cI cL cE cP o (g) (n) (k) u1)) (wc := (mws cI am g n k tb my lt th)) (va_runV (As := [.int y]) (rest := []) ⟨hx, hb, hml, hown, hts⟩ (zX4_worth l D cI cL cE cP am g n k tb my lt th hok y H.size) (cwV 1 hts gL_law_X4_worth rfl rfl rfl (by decide +kernel) ⟨Nat.le_of_ble_eq_true rfl, Nat.le_of_ble_eq_true rfl⟩) ⟨zPw_blind, va_recv hK hPm (ci := 4) (q0 := 0) rfl mws_0, zPw_mk hE hPm hDm⟩ rfl rfl hl.1 rfl (lv_room (Nat.le_of_ble_eq_true rfl)) dL_law_1222 (zroomL (by omega) (by omega))) (zP_swap hP) (zD_swap hD) hS hA (fun rb um H locs hrb hP hD hS => ?_)
  have hP : va_P D vwCl ((mws cI am (g) (n) (k) um.1 um.2.1 um.2.2 (T_amount k y)) ++ (lwo cI cL cE cP o (g) (n) (k) u1)) H := zP_swap hP
  have hD : va_D (lA s) ((mws cI am (g) (n) (k) um.1 um.2.1 um.2.2 (T_amount k y)) ++ (lwo cI cL cE cP o (g) (n) (k) u1)) := zD_swap hD
  have hrb : T_amount k y = 0 → rb = _ := hrb
  refine lv_istore (lv' := [(6, .int rb), (5, .int r), (0, .ref b), (1, .ref (u.1 0)), (2, .ref (am 0)), (3, .ref o), (4, .int x4)]) hx hb dL_law_1225 hl (by decide) rfl (fun ls hl => ?_)
  have hok1 := hok
  have h91 := h9
  have hok1 : zOk (g) (n) (k) := hok1
  have h91 : zH9 (g) (n) := h91
  have hPm := (zP_app (w1 := (mws cI am (g) (n) (k) um.1 um.2.1 um.2.2 (T_amount k y))) (w2 := (lwo cI cL cE cP o (g) (n) (k) u1)) hP).1
  refine lv_aload_n hx hb dL_law_1227 rfl (lv_at hl 4 rfl) ?_
  refine vp_callSi (va_Run.run (va_runV (As := []) (rest := []) ⟨hx, hb, hml, hown, hts⟩ (zX4_thrown l D cI cL cE cP am (g) (n) (k) um.1 um.2.1 um.2.2 (T_amount k y) hok1) (cwV 0 hts gL_law_X4_thrown rfl rfl rfl (by decide +kernel) ⟨Nat.le_of_ble_eq_true rfl, Nat.le_of_ble_eq_true rfl⟩) ⟨zPr_blind, va_recv hK hPm (ci := 4) (q0 := 0) rfl mws_0, zPr_mk hE hPm⟩ rfl rfl hl.1 rfl (lv_room (Nat.le_of_ble_eq_true rfl)) dL_law_1228 (zroomL (by omega) (by omega)))) (fun rt et => ?_)
  refine lv_iload hx hb dL_law_1231 (lv_at hl 1 rfl) ?_
  refine lv_icmp_eq (tgt := 1238) hx hb dL_law_1233 (by decide) (fun _ => ?_) (fun c9 => absurd (et.trans hT.symm) c9)
  refine W.widen (k := cells + 1) (n := slots + 8) (by omega) (by omega) ?_
  refine lv_iload hx hb dL_law_1238 (lv_at hl 1 rfl) ?_
  refine lv_if_ne (tgt := 1255) hx hb dL_law_1240 (by decide) (fun _ => ?_) (fun c8 => ?_)
  · refine lv_goto (tgt := 1353) hx hb dL_law_1255 (by decide) ?_
    exact kk _ _ _ ⟨_, _, _, u1, _, _, _, _, hok1, h91, hu1, hP, hD, hS⟩ (lv_sub hl [2, 3, 4, 5, 6] rfl)
  · have h0 : T_amount k y = 0 := hT.symm.trans c8
    refine lv_aload_n hx hb dL_law_1243 rfl (lv_at hl 5 rfl) ?_
    refine lv_iconst (v := 0) hx hb dL_law_1244 (by decide) ?_
    have hPl := (zP_app (w1 := (mws cI am (g) (n) (k) um.1 um.2.1 um.2.2 (T_amount k y))) (w2 := (lwo cI cL cE cP o (g) (n) (k) u1)) hP).2
    refine zlald (v := u_o u1 0) hx hb hK hPl 0 1 lwo_0 rfl (by unfold vp_in; decide) rfl dL_law_1245 ?_
    refine lv_iload hx hb dL_law_1246 (lv_at hl 0 rfl) ?_
    refine lv_i2l hx hb dL_law_1248 rfl ?_
    refine W.lcmp hx hb dL_law_1249 ?_
    refine lv_if_eq (tgt := 1255) hx hb dL_law_1250 (by decide) (fun _ => ?_) (fun c9 => absurd ((lg_cmp_eq _ _).mpr ((hR h0).trans (congrArg Int32.toInt64 ((eq_worth hok h0 _ _ _ _ _ _).trans (hrb h0).symm)))) c9)
    refine lv_goto (tgt := 1353) hx hb dL_law_1255 (by decide) ?_
    exact kk _ _ _ ⟨_, _, _, u1, _, _, _, _, hok1, h91, hu1, hP, hD, hS⟩ (lv_sub hl [2, 3, 4, 5, 6] rfl)

set_option maxHeartbeats 4000000 in
set_option maxRecDepth 100000 in
theorem cs_plain {p : Program} {e : Env} {s : State} {m : MethodId} {below : List Frame} {meth : Method} {c : Code} {l : Launch} {b L : Nat} {xs : Nat → Int32} {D : va_G} {cI cL cE cP : ClassId} {am : Nat → Nat} {o ax : Nat} {cells slots : Nat} {Q : State → Prop} {x4 : Int32} {H : Heap} {locs : List Loc} {ls : Array Slot} (C : LC p s m meth c b L xs D cI cL cE cP l) (hin : Lin x4 L) (hc : cells ≤ 600000) (hs : slots ≤ 7000000) (hI : LI D cI cL cE cP am o ax s H locs) (hl : lv_has ls 7 [(0, .ref b), (1, .ref ax), (2, .ref (am 0)), (3, .ref o), (4, .int x4)])
    (kk : ∀ (H : Heap) (locs : List Loc) (ls : Array Slot), LI D cI cL cE cP am o ax s H locs → lv_has ls 7 [(0, .ref b), (1, .ref ax), (2, .ref (am 0)), (3, .ref o), (4, .int x4)] → W p l e room_1 s m #[Value.ref b] below meth c H locs (cells + 1) (slots + 8) Q (F0 m 1353 ls [])) : W p l e room_1 s m #[Value.ref b] below meth c H locs cells slots Q (F0 m 1258 ls []) := by
  obtain ⟨⟨hx, hb, hr, hml, hown0, hts0, hX0, hbl, hlocks, hgv⟩, hE, hXx, hN, hU0, hfl⟩ := C
  have hown : s.vm.findClass RL = some m.cls := hown0
  have hts : ∀ w ∈ wsL_law, w.before #[Value.ref b] s = true := fun w h => hts0 w (wsL_law_in w h)
  have hA : ∀ q : Nat, s.heap.size ≤ q → lA s q := fun _ h => h
  have hbA : ¬ lA s b := Nat.not_le.mpr hbl
  have hK := hE.1
  obtain ⟨i0, i1, i2, i3, i4, i5, i6⟩ := hin
  obtain ⟨g, n, k, u, tb, my, lt, th, hok, h9, hu, hP, hD, hS⟩ := hI
  subst hu
  have hP : va_P D vwCl ((mws cI am g n k tb my lt th) ++ (lwo cI cL cE cP o g n k u)) H := hP
  have hD : va_D (lA s) ((mws cI am g n k tb my lt th) ++ (lwo cI cL cE cP o g n k u)) := hD
  refine lv_aload_n hx hb dL_law_1258 rfl (lv_at hl 1 rfl) ?_
  have hPc : va_P D vwCl (cwu cI cL cE cP g n k u) H := (zP_app (w1 := [(o, .inl (cL, 1, .inr (.inl (u_o u))))]) (zP_app (w1 := (mws cI am g n k tb my lt th)) (w2 := (lwo cI cL cE cP o g n k u)) hP).2).2
  refine vp_callSi (va_Run.run (va_runV (As := []) (rest := []) ⟨hx, hb, hml, hown, hts⟩ (zX3_plain l D cI cL cE cP u.1 g n k u.2.1 u.2.2.1 u.2.2.2.1 u.2.2.2.2.1 u.2.2.2.2.2.1 u.2.2.2.2.2.2.1 u.2.2.2.2.2.2.2.1 hok) (cwV 0 hts gL_law_X3_plain rfl rfl rfl (by decide +kernel) ⟨Nat.le_of_ble_eq_true rfl, Nat.le_of_ble_eq_true rfl⟩) ⟨zPr_blind, va_recv hK hPc (ci := 3) (q0 := 0) rfl cws_0, zPr_mk hE hPc⟩ rfl rfl hl.1 rfl (lv_room (Nat.le_of_ble_eq_true rfl)) dL_law_1259 (zroomL (by omega) (by omega)))) (fun r e1 => ?_)
  refine lv_aload_n hx hb dL_law_1262 rfl (lv_at hl 2 rfl) ?_
  have hPm := (zP_app (w1 := (mws cI am g n k tb my lt th)) (w2 := (lwo cI cL cE cP o g n k u)) hP).1
  have hDm := (zD_app (w1 := (mws cI am g n k tb my lt th)) (w2 := (lwo cI cL cE cP o g n k u)) hD).1
  refine zcalliJ (wr := (lwo cI cL cE cP o g n k u)) (wc := (mws cI am g n k tb my lt th)) (va_runV (As := []) (rest := [.int r]) ⟨hx, hb, hml, hown, hts⟩ (zX4_plain l D cI cL cE cP am g n k tb my lt th hok H.size) (cwV 0 hts gL_law_X4_plain rfl rfl rfl (by decide +kernel) ⟨Nat.le_of_ble_eq_true rfl, Nat.le_of_ble_eq_true rfl⟩) ⟨zPw_blind, va_recv hK hPm (ci := 4) (q0 := 0) rfl mws_0, zPw_mk hE hPm hDm⟩ rfl rfl hl.1 rfl (lv_room (Nat.le_of_ble_eq_true rfl)) dL_law_1263 (zroomL (by omega) (by omega))) (zP_swap hP) (zD_swap hD) hS hA (fun rb _ H locs e2 hP hD hS => ?_)
  have hP : va_P D vwCl ((mws cI am g n k tb my lt 0) ++ (lwo cI cL cE cP o g n k u)) H := zP_swap hP
  have hD : va_D (lA s) ((mws cI am g n k tb my lt 0) ++ (lwo cI cL cE cP o g n k u)) := zD_swap hD
  refine W.widen (k := cells + 1) (n := slots + 8) (by omega) (by omega) ?_
  refine lv_icmp_eq (tgt := 1353) hx hb dL_law_1266 (by decide) (fun _ => ?_) (fun c9 => absurd (e1.trans (e2.symm)) c9)
  exact kk _ _ _ ⟨g, n, k, u, _, _, _, _, hok, h9, rfl, hP, hD, hS⟩ hl

set_option maxHeartbeats 4000000 in
set_option maxRecDepth 100000 in
theorem cs_required {p : Program} {e : Env} {s : State} {m : MethodId} {below : List Frame} {meth : Method} {c : Code} {l : Launch} {b L : Nat} {xs : Nat → Int32} {D : va_G} {cI cL cE cP : ClassId} {am : Nat → Nat} {o ax : Nat} {cells slots : Nat} {Q : State → Prop} {x4 : Int32} {H : Heap} {locs : List Loc} {ls : Array Slot} (C : LC p s m meth c b L xs D cI cL cE cP l) (hin : Lin x4 L) (hc : cells ≤ 600000) (hs : slots ≤ 7000000) (hI : LI D cI cL cE cP am o ax s H locs) (hl : lv_has ls 7 [(0, .ref b), (1, .ref ax), (2, .ref (am 0)), (3, .ref o), (4, .int x4)])
    (kk : ∀ (H : Heap) (locs : List Loc) (ls : Array Slot), LI D cI cL cE cP am o ax s H locs → lv_has ls 7 [(0, .ref b), (1, .ref ax), (2, .ref (am 0)), (3, .ref o), (4, .int x4)] → W p l e room_1 s m #[Value.ref b] below meth c H locs (cells + 1) (slots + 8) Q (F0 m 1353 ls [])) : W p l e room_1 s m #[Value.ref b] below meth c H locs cells slots Q (F0 m 1271 ls []) := by
  obtain ⟨⟨hx, hb, hr, hml, hown0, hts0, hX0, hbl, hlocks, hgv⟩, hE, hXx, hN, hU0, hfl⟩ := C
  have hown : s.vm.findClass RL = some m.cls := hown0
  have hts : ∀ w ∈ wsL_law, w.before #[Value.ref b] s = true := fun w h => hts0 w (wsL_law_in w h)
  have hA : ∀ q : Nat, s.heap.size ≤ q → lA s q := fun _ h => h
  have hbA : ¬ lA s b := Nat.not_le.mpr hbl
  have hK := hE.1
  obtain ⟨i0, i1, i2, i3, i4, i5, i6⟩ := hin
  obtain ⟨g, n, k, u, tb, my, lt, th, hok, h9, hu, hP, hD, hS⟩ := hI
  subst hu
  have hP : va_P D vwCl ((mws cI am g n k tb my lt th) ++ (lwo cI cL cE cP o g n k u)) H := hP
  have hD : va_D (lA s) ((mws cI am g n k tb my lt th) ++ (lwo cI cL cE cP o g n k u)) := hD
  refine lv_aload_n hx hb dL_law_1271 rfl (lv_at hl 1 rfl) ?_
  have hPc : va_P D vwCl (cwu cI cL cE cP g n k u) H := (zP_app (w1 := [(o, .inl (cL, 1, .inr (.inl (u_o u))))]) (zP_app (w1 := (mws cI am g n k tb my lt th)) (w2 := (lwo cI cL cE cP o g n k u)) hP).2).2
  have hDc : va_D (lA s) (cwu cI cL cE cP g n k u) := (zD_app (w1 := [(o, .inl (cL, 1, .inr (.inl (u_o u))))]) (zD_app (w1 := (mws cI am g n k tb my lt th)) (w2 := (lwo cI cL cE cP o g n k u)) hD).2.1).2.1
  refine zcalliJ (wr := (mws cI am g n k tb my lt th) ++ [(o, .inl (cL, 1, .inr (.inl (u_o u))))]) (wc := (cwu cI cL cE cP g n k u)) (va_runV (As := []) (rest := []) ⟨hx, hb, hml, hown, hts⟩ (zX3_required l D cI cL cE cP u.1 g n k u.2.1 u.2.2.1 u.2.2.2.1 u.2.2.2.2.1 u.2.2.2.2.2.1 u.2.2.2.2.2.2.1 u.2.2.2.2.2.2.2.1 hok H.size) (cwV 0 hts gL_law_X3_required rfl rfl rfl (by decide +kernel) ⟨Nat.le_of_ble_eq_true rfl, Nat.le_of_ble_eq_true rfl⟩) ⟨zPw_blind, va_recv hK hPc (ci := 3) (q0 := 0) rfl cws_0, zPw_mk hE hPc hDc⟩ rfl rfl hl.1 rfl (lv_room (Nat.le_of_ble_eq_true rfl)) dL_law_1272 (zroomL (by omega) (by omega))) (zP_re hP (List.append_assoc _ _ _)) (zD_re hD (List.append_assoc _ _ _)) hS hA (fun r _ H locs e1 hP hD hS => ?_)
  have hP : va_P D vwCl ((mws cI am g n k tb my lt th) ++ (lwo cI cL cE cP o g n k (u.1, (zfl (US g k) u.2.1 n), (zfl (WB g k) u.2.2.1 (32 * n)), u.2.2.2.1, PRO (zfl (WB g k) u.2.2.1 (32 * n)) u.2.2.2.2.1 n, LEO (zfl (US g k) u.2.1 n) (zfl (WB g k) u.2.2.1 (32 * n)) u.2.2.2.2.1 u.2.2.2.2.2.1 n, nI n, nI k, u_o u))) H := zP_re hP (List.append_assoc _ _ _).symm
  have hD : va_D (lA s) ((mws cI am g n k tb my lt th) ++ (lwo cI cL cE cP o g n k (u.1, (zfl (US g k) u.2.1 n), (zfl (WB g k) u.2.2.1 (32 * n)), u.2.2.2.1, PRO (zfl (WB g k) u.2.2.1 (32 * n)) u.2.2.2.2.1 n, LEO (zfl (US g k) u.2.1 n) (zfl (WB g k) u.2.2.1 (32 * n)) u.2.2.2.2.1 u.2.2.2.2.2.1 n, nI n, nI k, u_o u))) := zD_re hD (List.append_assoc _ _ _).symm
  refine lv_aload_n hx hb dL_law_1275 rfl (lv_at hl 2 rfl) ?_
  have hPm := (zP_app (w1 := (mws cI am g n k tb my lt th)) (w2 := (lwo cI cL cE cP o g n k (u.1, (zfl (US g k) u.2.1 n), (zfl (WB g k) u.2.2.1 (32 * n)), u.2.2.2.1, PRO (zfl (WB g k) u.2.2.1 (32 * n)) u.2.2.2.2.1 n, LEO (zfl (US g k) u.2.1 n) (zfl (WB g k) u.2.2.1 (32 * n)) u.2.2.2.2.1 u.2.2.2.2.2.1 n, nI n, nI k, u_o u))) hP).1
  have hDm := (zD_app (w1 := (mws cI am g n k tb my lt th)) (w2 := (lwo cI cL cE cP o g n k (u.1, (zfl (US g k) u.2.1 n), (zfl (WB g k) u.2.2.1 (32 * n)), u.2.2.2.1, PRO (zfl (WB g k) u.2.2.1 (32 * n)) u.2.2.2.2.1 n, LEO (zfl (US g k) u.2.1 n) (zfl (WB g k) u.2.2.1 (32 * n)) u.2.2.2.2.1 u.2.2.2.2.2.1 n, nI n, nI k, u_o u))) hD).1
  refine zcalliJ (wr := (lwo cI cL cE cP o g n k (u.1, (zfl (US g k) u.2.1 n), (zfl (WB g k) u.2.2.1 (32 * n)), u.2.2.2.1, PRO (zfl (WB g k) u.2.2.1 (32 * n)) u.2.2.2.2.1 n, LEO (zfl (US g k) u.2.1 n) (zfl (WB g k) u.2.2.1 (32 * n)) u.2.2.2.2.1 u.2.2.2.2.2.1 n, nI n, nI k, u_o u))) (wc := (mws cI am g n k tb my lt th)) (va_runV (As := []) (rest := [.int r]) ⟨hx, hb, hml, hown, hts⟩ (zX4_required l D cI cL cE cP am g n k tb my lt th hok H.size) (cwV 0 hts gL_law_X4_required rfl rfl rfl (by decide +kernel) ⟨Nat.le_of_ble_eq_true rfl, Nat.le_of_ble_eq_true rfl⟩) ⟨zPw_blind, va_recv hK hPm (ci := 4) (q0 := 0) rfl mws_0, zPw_mk hE hPm hDm⟩ rfl rfl hl.1 rfl (lv_room (Nat.le_of_ble_eq_true rfl)) dL_law_1276 (zroomL (by omega) (by omega))) (zP_swap hP) (zD_swap hD) hS hA (fun rb _ H locs e2 hP hD hS => ?_)
  have hP : va_P D vwCl ((mws cI am g n k (zfl (WB g k) tb (32 * n)) (zfl (MY g n) my k) (LTA (zfl (WB g k) tb (32 * n)) (zfl (MY g n) my k) n k lt n) 0) ++ (lwo cI cL cE cP o g n k (u.1, (zfl (US g k) u.2.1 n), (zfl (WB g k) u.2.2.1 (32 * n)), u.2.2.2.1, PRO (zfl (WB g k) u.2.2.1 (32 * n)) u.2.2.2.2.1 n, LEO (zfl (US g k) u.2.1 n) (zfl (WB g k) u.2.2.1 (32 * n)) u.2.2.2.2.1 u.2.2.2.2.2.1 n, nI n, nI k, u_o u))) H := zP_swap hP
  have hD : va_D (lA s) ((mws cI am g n k (zfl (WB g k) tb (32 * n)) (zfl (MY g n) my k) (LTA (zfl (WB g k) tb (32 * n)) (zfl (MY g n) my k) n k lt n) 0) ++ (lwo cI cL cE cP o g n k (u.1, (zfl (US g k) u.2.1 n), (zfl (WB g k) u.2.2.1 (32 * n)), u.2.2.2.1, PRO (zfl (WB g k) u.2.2.1 (32 * n)) u.2.2.2.2.1 n, LEO (zfl (US g k) u.2.1 n) (zfl (WB g k) u.2.2.1 (32 * n)) u.2.2.2.2.1 u.2.2.2.2.2.1 n, nI n, nI k, u_o u))) := zD_swap hD
  refine W.widen (k := cells + 1) (n := slots + 8) (by omega) (by omega) ?_
  refine lv_icmp_eq (tgt := 1353) hx hb dL_law_1279 (by decide) (fun _ => ?_) (fun c9 => absurd (e1.trans (((zmaxc _ _).trans (by rw [zwhole hok _ _ _ _ tb my])).trans e2.symm)) c9)
  exact kk _ _ _ ⟨g, n, k, (u.1, (zfl (US g k) u.2.1 n), (zfl (WB g k) u.2.2.1 (32 * n)), u.2.2.2.1, PRO (zfl (WB g k) u.2.2.1 (32 * n)) u.2.2.2.2.1 n, LEO (zfl (US g k) u.2.1 n) (zfl (WB g k) u.2.2.1 (32 * n)) u.2.2.2.2.1 u.2.2.2.2.2.1 n, nI n, nI k, u_o u), _, _, _, _, hok, h9, rfl, hP, hD, hS⟩ hl

set_option maxHeartbeats 4000000 in
set_option maxRecDepth 100000 in
theorem cs_partyBare {p : Program} {e : Env} {s : State} {m : MethodId} {below : List Frame} {meth : Method} {c : Code} {l : Launch} {b L : Nat} {xs : Nat → Int32} {D : va_G} {cI cL cE cP : ClassId} {am : Nat → Nat} {o ax : Nat} {cells slots : Nat} {Q : State → Prop} {x4 : Int32} {H : Heap} {locs : List Loc} {ls : Array Slot} (C : LC p s m meth c b L xs D cI cL cE cP l) (hin : Lin x4 L) (hc : cells ≤ 600000) (hs : slots ≤ 7000000) (hI : LI D cI cL cE cP am o ax s H locs) (hl : lv_has ls 7 [(0, .ref b), (1, .ref ax), (2, .ref (am 0)), (3, .ref o), (4, .int x4)])
    (kk : ∀ (H : Heap) (locs : List Loc) (ls : Array Slot), LI D cI cL cE cP am o ax s H locs → lv_has ls 7 [(0, .ref b), (1, .ref ax), (2, .ref (am 0)), (3, .ref o), (4, .int x4)] → W p l e room_1 s m #[Value.ref b] below meth c H locs (cells + 1) (slots + 8) Q (F0 m 1353 ls [])) : W p l e room_1 s m #[Value.ref b] below meth c H locs cells slots Q (F0 m 1284 ls []) := by
  obtain ⟨⟨hx, hb, hr, hml, hown0, hts0, hX0, hbl, hlocks, hgv⟩, hE, hXx, hN, hU0, hfl⟩ := C
  have hown : s.vm.findClass RL = some m.cls := hown0
  have hts : ∀ w ∈ wsL_law, w.before #[Value.ref b] s = true := fun w h => hts0 w (wsL_law_in w h)
  have hA : ∀ q : Nat, s.heap.size ≤ q → lA s q := fun _ h => h
  have hbA : ¬ lA s b := Nat.not_le.mpr hbl
  have hK := hE.1
  obtain ⟨i0, i1, i2, i3, i4, i5, i6⟩ := hin
  obtain ⟨g, n, k, u, tb, my, lt, th, hok, h9, hu, hP, hD, hS⟩ := hI
  subst hu
  have hP : va_P D vwCl ((mws cI am g n k tb my lt th) ++ (lwo cI cL cE cP o g n k u)) H := hP
  have hD : va_D (lA s) ((mws cI am g n k tb my lt th) ++ (lwo cI cL cE cP o g n k u)) := hD
  refine lv_aload_n hx hb dL_law_1284 rfl (lv_at hl 1 rfl) ?_
  refine lv_aload_n hx hb dL_law_1285 rfl (lv_at hl 0 rfl) ?_
  refine lv_iload hx hb dL_law_1286 (lv_at hl 4 rfl) ?_
  refine lv_iconst (v := 1) hx hb dL_law_1288 (by decide) ?_
  refine lv_iadd hx hb dL_law_1289 ?_
  refine va_sld hx hb hX0 hbl hbA hS i1 dL_law_1290 ?_
  refine lv_topi (fun x e_x => ?_)
  refine lv_aload_n hx hb dL_law_1291 rfl (lv_at hl 3 rfl) ?_
  have hPc := (zP_app (w1 := (mws cI am g n k tb my lt th)) (w2 := (lwo cI cL cE cP o g n k u)) hP).2
  have hDc := (zD_app (w1 := (mws cI am g n k tb my lt th)) (w2 := (lwo cI cL cE cP o g n k u)) hD).2.1
  have hUc : zU (va_A (lwo cI cL cE cP o g n k u) H.size) s H := (hU0.kept hS.2.1).narrow (va_A_in2 (wr := (mws cI am g n k tb my lt th)) hD hS hA)
  refine zcalliJ (wr := (mws cI am g n k tb my lt th)) (wc := (lwo cI cL cE cP o g n k u)) (vx_runSW (As := [.ref (u.1 0), .int x, .ref o]) (rest := []) ⟨hx, hb, hml, hown, hts⟩ (zL_partyBare l hfl D cI cL cE cP o g n k u hok x H.size) (vx_cwSW 3 hts gL_law_L_partyBare rfl rfl rfl (by decide +kernel) ⟨Nat.le_of_ble_eq_true rfl, Nat.le_of_ble_eq_true rfl⟩) ⟨zPy_blind, zPy_mk hE hPc hDc hXx hUc hN⟩ rfl rfl hl.1 rfl (lv_room (Nat.le_of_ble_eq_true rfl)) dL_law_1292 (zroomL (by omega) (by omega))) hP hD hS hA (fun r u1 H locs hr1 hP hD hS => ?_)
  obtain ⟨hT, hR, hu1⟩ := hr1
  have hP : va_P D vwCl ((mws cI am g n k tb my lt th) ++ (lwo cI cL cE cP o (g) (n) (k) u1)) H := hP
  have hD : va_D (lA s) ((mws cI am g n k tb my lt th) ++ (lwo cI cL cE cP o (g) (n) (k) u1)) := hD
  refine lv_istore (lv' := [(5, .int r), (0, .ref b), (1, .ref (u.1 0)), (2, .ref (am 0)), (3, .ref o), (4, .int x4)]) hx hb dL_law_1295 hl (by decide) rfl (fun ls hl => ?_)
  refine lv_aload_n hx hb dL_law_1297 rfl (lv_at hl 3 rfl) ?_
  refine lv_aload_n hx hb dL_law_1298 rfl (lv_at hl 1 rfl) ?_
  refine lv_iload hx hb dL_law_1299 (lv_at hl 5 rfl) ?_
  refine lv_iconst (v := 1) hx hb dL_law_1301 (by decide) ?_
  refine lv_iadd hx hb dL_law_1302 ?_
  refine va_sld hx hb hX0 hbl hbA hS i1 dL_law_1303 ?_
  refine lv_topi (fun y_ ey_ => ?_)
  obtain rfl : x = y_ := e_x.trans ey_.symm
  have hPm := (zP_app (w1 := (mws cI am g n k tb my lt th)) (w2 := (lwo cI cL cE cP o (g) (n) (k) u1)) hP).1
  have hDm := (zD_app (w1 := (mws cI am g n k tb my lt th)) (w2 := (lwo cI cL cE cP o (g) (n) (k) u1)) hD).1
  refine zcalliJ (wr := (lwo cI cL cE cP o (g) (n) (k) u1)) (wc := (mws cI am g n k tb my lt th)) (va_runV (As := [.int x]) (rest := []) ⟨hx, hb, hml, hown, hts⟩ (zX4_partyBare l D cI cL cE cP am g n k tb my lt th hok x H.size) (cwV 1 hts gL_law_X4_partyBare rfl rfl rfl (by decide +kernel) ⟨Nat.le_of_ble_eq_true rfl, Nat.le_of_ble_eq_true rfl⟩) ⟨zPw_blind, va_recv hK hPm (ci := 4) (q0 := 0) rfl mws_0, zPw_mk hE hPm hDm⟩ rfl rfl hl.1 rfl (lv_room (Nat.le_of_ble_eq_true rfl)) dL_law_1304 (zroomL (by omega) (by omega))) (zP_swap hP) (zD_swap hD) hS hA (fun rb um H locs hrb hP hD hS => ?_)
  have hP : va_P D vwCl ((mws cI am (g) (n) (k) um.1 um.2.1 um.2.2 (T_party x)) ++ (lwo cI cL cE cP o (g) (n) (k) u1)) H := zP_swap hP
  have hD : va_D (lA s) ((mws cI am (g) (n) (k) um.1 um.2.1 um.2.2 (T_party x)) ++ (lwo cI cL cE cP o (g) (n) (k) u1)) := zD_swap hD
  have hrb : T_party x = 0 → rb = _ := hrb
  refine lv_istore (lv' := [(6, .int rb), (5, .int r), (0, .ref b), (1, .ref (u.1 0)), (2, .ref (am 0)), (3, .ref o), (4, .int x4)]) hx hb dL_law_1307 hl (by decide) rfl (fun ls hl => ?_)
  have hok1 := hok
  have h91 := h9
  have hok1 : zOk (g) (n) (k) := hok1
  have h91 : zH9 (g) (n) := h91
  have hPm := (zP_app (w1 := (mws cI am (g) (n) (k) um.1 um.2.1 um.2.2 (T_party x))) (w2 := (lwo cI cL cE cP o (g) (n) (k) u1)) hP).1
  refine lv_aload_n hx hb dL_law_1309 rfl (lv_at hl 4 rfl) ?_
  refine vp_callSi (va_Run.run (va_runV (As := []) (rest := []) ⟨hx, hb, hml, hown, hts⟩ (zX4_thrown l D cI cL cE cP am (g) (n) (k) um.1 um.2.1 um.2.2 (T_party x) hok1) (cwV 0 hts gL_law_X4_thrown rfl rfl rfl (by decide +kernel) ⟨Nat.le_of_ble_eq_true rfl, Nat.le_of_ble_eq_true rfl⟩) ⟨zPr_blind, va_recv hK hPm (ci := 4) (q0 := 0) rfl mws_0, zPr_mk hE hPm⟩ rfl rfl hl.1 rfl (lv_room (Nat.le_of_ble_eq_true rfl)) dL_law_1310 (zroomL (by omega) (by omega)))) (fun rt et => ?_)
  refine lv_iload hx hb dL_law_1313 (lv_at hl 1 rfl) ?_
  refine lv_icmp_eq (tgt := 1320) hx hb dL_law_1315 (by decide) (fun _ => ?_) (fun c9 => absurd (et.trans hT.symm) c9)
  refine W.widen (k := cells + 1) (n := slots + 8) (by omega) (by omega) ?_
  refine lv_iload hx hb dL_law_1320 (lv_at hl 1 rfl) ?_
  refine lv_if_ne (tgt := 1337) hx hb dL_law_1322 (by decide) (fun _ => ?_) (fun c8 => ?_)
  · refine lv_goto (tgt := 1353) hx hb dL_law_1337 (by decide) ?_
    exact kk _ _ _ ⟨_, _, _, u1, _, _, _, _, hok1, h91, hu1, hP, hD, hS⟩ (lv_sub hl [2, 3, 4, 5, 6] rfl)
  · have h0 : T_party x = 0 := hT.symm.trans c8
    refine lv_aload_n hx hb dL_law_1325 rfl (lv_at hl 5 rfl) ?_
    refine lv_iconst (v := 0) hx hb dL_law_1326 (by decide) ?_
    have hPl := (zP_app (w1 := (mws cI am (g) (n) (k) um.1 um.2.1 um.2.2 (T_party x))) (w2 := (lwo cI cL cE cP o (g) (n) (k) u1)) hP).2
    refine zlald (v := u_o u1 0) hx hb hK hPl 0 1 lwo_0 rfl (by unfold vp_in; decide) rfl dL_law_1327 ?_
    refine lv_iload hx hb dL_law_1328 (lv_at hl 0 rfl) ?_
    refine lv_i2l hx hb dL_law_1330 rfl ?_
    refine W.lcmp hx hb dL_law_1331 ?_
    refine lv_if_eq (tgt := 1337) hx hb dL_law_1332 (by decide) (fun _ => ?_) (fun c9 => absurd ((lg_cmp_eq _ _).mpr ((hR h0).trans (congrArg Int32.toInt64 ((zparty hok _ _ _ _ _ _ _ _).trans (hrb h0).symm)))) c9)
    refine lv_goto (tgt := 1353) hx hb dL_law_1337 (by decide) ?_
    exact kk _ _ _ ⟨_, _, _, u1, _, _, _, _, hok1, h91, hu1, hP, hD, hS⟩ (lv_sub hl [2, 3, 4, 5, 6] rfl)

set_option maxHeartbeats 4000000 in
set_option maxRecDepth 100000 in
theorem cs_tooLarge {p : Program} {e : Env} {s : State} {m : MethodId} {below : List Frame} {meth : Method} {c : Code} {l : Launch} {b L : Nat} {xs : Nat → Int32} {D : va_G} {cI cL cE cP : ClassId} {am : Nat → Nat} {o ax : Nat} {cells slots : Nat} {Q : State → Prop} {x4 : Int32} {H : Heap} {locs : List Loc} {ls : Array Slot} (C : LC p s m meth c b L xs D cI cL cE cP l) (hin : Lin x4 L) (hc : cells ≤ 600000) (hs : slots ≤ 7000000) (hI : LI D cI cL cE cP am o ax s H locs) (hl : lv_has ls 7 [(0, .ref b), (1, .ref ax), (2, .ref (am 0)), (3, .ref o), (4, .int x4)])
    (kk : ∀ (H : Heap) (locs : List Loc) (ls : Array Slot), LI D cI cL cE cP am o ax s H locs → lv_has ls 7 [(0, .ref b), (1, .ref ax), (2, .ref (am 0)), (3, .ref o), (4, .int x4)] → W p l e room_1 s m #[Value.ref b] below meth c H locs (cells + 1) (slots + 8) Q (F0 m 1353 ls [])) : W p l e room_1 s m #[Value.ref b] below meth c H locs cells slots Q (F0 m 1340 ls []) := by
  obtain ⟨⟨hx, hb, hr, hml, hown0, hts0, hX0, hbl, hlocks, hgv⟩, hE, hXx, hN, hU0, hfl⟩ := C
  have hown : s.vm.findClass RL = some m.cls := hown0
  have hts : ∀ w ∈ wsL_law, w.before #[Value.ref b] s = true := fun w h => hts0 w (wsL_law_in w h)
  have hA : ∀ q : Nat, s.heap.size ≤ q → lA s q := fun _ h => h
  have hbA : ¬ lA s b := Nat.not_le.mpr hbl
  have hK := hE.1
  obtain ⟨i0, i1, i2, i3, i4, i5, i6⟩ := hin
  obtain ⟨g, n, k, u, tb, my, lt, th, hok, h9, hu, hP, hD, hS⟩ := hI
  subst hu
  have hP : va_P D vwCl ((mws cI am g n k tb my lt th) ++ (lwo cI cL cE cP o g n k u)) H := hP
  have hD : va_D (lA s) ((mws cI am g n k tb my lt th) ++ (lwo cI cL cE cP o g n k u)) := hD
  refine lv_aload_n hx hb dL_law_1340 rfl (lv_at hl 1 rfl) ?_
  have hPc : va_P D vwCl (cwu cI cL cE cP g n k u) H := (zP_app (w1 := [(o, .inl (cL, 1, .inr (.inl (u_o u))))]) (zP_app (w1 := (mws cI am g n k tb my lt th)) (w2 := (lwo cI cL cE cP o g n k u)) hP).2).2
  have hDc : va_D (lA s) (cwu cI cL cE cP g n k u) := (zD_app (w1 := [(o, .inl (cL, 1, .inr (.inl (u_o u))))]) (zD_app (w1 := (mws cI am g n k tb my lt th)) (w2 := (lwo cI cL cE cP o g n k u)) hD).2.1).2.1
  refine zcalliJ (wr := (mws cI am g n k tb my lt th) ++ [(o, .inl (cL, 1, .inr (.inl (u_o u))))]) (wc := (cwu cI cL cE cP g n k u)) (va_runV (As := []) (rest := []) ⟨hx, hb, hml, hown, hts⟩ (zX3_tooLarge l D cI cL cE cP u.1 g n k u.2.1 u.2.2.1 u.2.2.2.1 u.2.2.2.2.1 u.2.2.2.2.2.1 u.2.2.2.2.2.2.1 u.2.2.2.2.2.2.2.1 hok H.size) (cwV 0 hts gL_law_X3_tooLarge rfl rfl rfl (by decide +kernel) ⟨Nat.le_of_ble_eq_true rfl, Nat.le_of_ble_eq_true rfl⟩) ⟨zPw_blind, va_recv hK hPc (ci := 3) (q0 := 0) rfl cws_0, zPw_mk hE hPc hDc⟩ rfl rfl hl.1 rfl (lv_room (Nat.le_of_ble_eq_true rfl)) dL_law_1341 (zroomL (by omega) (by omega))) (zP_re hP (List.append_assoc _ _ _)) (zD_re hD (List.append_assoc _ _ _)) hS hA (fun r _ H locs e1 hP hD hS => ?_)
  have hP : va_P D vwCl ((mws cI am g n k tb my lt th) ++ (lwo cI cL cE cP o g n k (u.1, (zfl (US g k) u.2.1 n), (zfl (WB g k) u.2.2.1 (32 * n)), u.2.2.2.1, PRO (zfl (WB g k) u.2.2.1 (32 * n)) u.2.2.2.2.1 n, LEO (zfl (US g k) u.2.1 n) (zfl (WB g k) u.2.2.1 (32 * n)) u.2.2.2.2.1 u.2.2.2.2.2.1 n, nI n, nI k, u_o u))) H := zP_re hP (List.append_assoc _ _ _).symm
  have hD : va_D (lA s) ((mws cI am g n k tb my lt th) ++ (lwo cI cL cE cP o g n k (u.1, (zfl (US g k) u.2.1 n), (zfl (WB g k) u.2.2.1 (32 * n)), u.2.2.2.1, PRO (zfl (WB g k) u.2.2.1 (32 * n)) u.2.2.2.2.1 n, LEO (zfl (US g k) u.2.1 n) (zfl (WB g k) u.2.2.1 (32 * n)) u.2.2.2.2.1 u.2.2.2.2.2.1 n, nI n, nI k, u_o u))) := zD_re hD (List.append_assoc _ _ _).symm
  refine lv_aload_n hx hb dL_law_1344 rfl (lv_at hl 2 rfl) ?_
  have hPm := (zP_app (w1 := (mws cI am g n k tb my lt th)) (w2 := (lwo cI cL cE cP o g n k (u.1, (zfl (US g k) u.2.1 n), (zfl (WB g k) u.2.2.1 (32 * n)), u.2.2.2.1, PRO (zfl (WB g k) u.2.2.1 (32 * n)) u.2.2.2.2.1 n, LEO (zfl (US g k) u.2.1 n) (zfl (WB g k) u.2.2.1 (32 * n)) u.2.2.2.2.1 u.2.2.2.2.2.1 n, nI n, nI k, u_o u))) hP).1
  have hDm := (zD_app (w1 := (mws cI am g n k tb my lt th)) (w2 := (lwo cI cL cE cP o g n k (u.1, (zfl (US g k) u.2.1 n), (zfl (WB g k) u.2.2.1 (32 * n)), u.2.2.2.1, PRO (zfl (WB g k) u.2.2.1 (32 * n)) u.2.2.2.2.1 n, LEO (zfl (US g k) u.2.1 n) (zfl (WB g k) u.2.2.1 (32 * n)) u.2.2.2.2.1 u.2.2.2.2.2.1 n, nI n, nI k, u_o u))) hD).1
  refine zcalliJ (wr := (lwo cI cL cE cP o g n k (u.1, (zfl (US g k) u.2.1 n), (zfl (WB g k) u.2.2.1 (32 * n)), u.2.2.2.1, PRO (zfl (WB g k) u.2.2.1 (32 * n)) u.2.2.2.2.1 n, LEO (zfl (US g k) u.2.1 n) (zfl (WB g k) u.2.2.1 (32 * n)) u.2.2.2.2.1 u.2.2.2.2.2.1 n, nI n, nI k, u_o u))) (wc := (mws cI am g n k tb my lt th)) (va_runV (As := []) (rest := [.int r]) ⟨hx, hb, hml, hown, hts⟩ (zX4_tooLarge l D cI cL cE cP am g n k tb my lt th hok H.size) (cwV 0 hts gL_law_X4_tooLarge rfl rfl rfl (by decide +kernel) ⟨Nat.le_of_ble_eq_true rfl, Nat.le_of_ble_eq_true rfl⟩) ⟨zPw_blind, va_recv hK hPm (ci := 4) (q0 := 0) rfl mws_0, zPw_mk hE hPm hDm⟩ rfl rfl hl.1 rfl (lv_room (Nat.le_of_ble_eq_true rfl)) dL_law_1345 (zroomL (by omega) (by omega))) (zP_swap hP) (zD_swap hD) hS hA (fun rb _ H locs e2 hP hD hS => ?_)
  have hP : va_P D vwCl ((mws cI am g n k (zfl (WB g k) tb (32 * n)) (BSO (zfl (WB g k) tb (32 * n)) n k (LW (zfl (WB g k) tb (32 * n)) (zfl (MY g n) my k) n k n (2 ^ k - 1)) (zfl (MY g n) my k, LTA (zfl (WB g k) tb (32 * n)) (zfl (MY g n) my k) n k lt n) k).1 (BSO (zfl (WB g k) tb (32 * n)) n k (LW (zfl (WB g k) tb (32 * n)) (zfl (MY g n) my k) n k n (2 ^ k - 1)) (zfl (MY g n) my k, LTA (zfl (WB g k) tb (32 * n)) (zfl (MY g n) my k) n k lt n) k).2 0) ++ (lwo cI cL cE cP o g n k (u.1, (zfl (US g k) u.2.1 n), (zfl (WB g k) u.2.2.1 (32 * n)), u.2.2.2.1, PRO (zfl (WB g k) u.2.2.1 (32 * n)) u.2.2.2.2.1 n, LEO (zfl (US g k) u.2.1 n) (zfl (WB g k) u.2.2.1 (32 * n)) u.2.2.2.2.1 u.2.2.2.2.2.1 n, nI n, nI k, u_o u))) H := zP_swap hP
  have hD : va_D (lA s) ((mws cI am g n k (zfl (WB g k) tb (32 * n)) (BSO (zfl (WB g k) tb (32 * n)) n k (LW (zfl (WB g k) tb (32 * n)) (zfl (MY g n) my k) n k n (2 ^ k - 1)) (zfl (MY g n) my k, LTA (zfl (WB g k) tb (32 * n)) (zfl (MY g n) my k) n k lt n) k).1 (BSO (zfl (WB g k) tb (32 * n)) n k (LW (zfl (WB g k) tb (32 * n)) (zfl (MY g n) my k) n k n (2 ^ k - 1)) (zfl (MY g n) my k, LTA (zfl (WB g k) tb (32 * n)) (zfl (MY g n) my k) n k lt n) k).2 0) ++ (lwo cI cL cE cP o g n k (u.1, (zfl (US g k) u.2.1 n), (zfl (WB g k) u.2.2.1 (32 * n)), u.2.2.2.1, PRO (zfl (WB g k) u.2.2.1 (32 * n)) u.2.2.2.2.1 n, LEO (zfl (US g k) u.2.1 n) (zfl (WB g k) u.2.2.1 (32 * n)) u.2.2.2.2.1 u.2.2.2.2.2.1 n, nI n, nI k, u_o u))) := zD_swap hD
  refine W.widen (k := cells + 1) (n := slots + 8) (by omega) (by omega) ?_
  refine lv_icmp_eq (tgt := 1353) hx hb dL_law_1348 (by decide) (fun _ => ?_) (fun c9 => absurd (e1.trans ((zlarge hok _ _ _ _ _ _ _).trans e2.symm)) c9)
  exact kk _ _ _ ⟨g, n, k, (u.1, (zfl (US g k) u.2.1 n), (zfl (WB g k) u.2.2.1 (32 * n)), u.2.2.2.1, PRO (zfl (WB g k) u.2.2.1 (32 * n)) u.2.2.2.2.1 n, LEO (zfl (US g k) u.2.1 n) (zfl (WB g k) u.2.2.1 (32 * n)) u.2.2.2.2.1 u.2.2.2.2.2.1 n, nI n, nI k, u_o u), _, _, _, _, hok, h9, rfl, hP, hD, hS⟩ hl
