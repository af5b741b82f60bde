/-! THE LAW'S LOOP -/
theorem z_and31 (v : Int32) : ∃ t, t < 32 ∧ v &&& 31 = nI t := by
  have hm : (31 : Int32).toBitVec.toNat = 31 := by decide
  have h : (v &&& 31).toBitVec.toNat < 32 := by
    rw [Int32.toBitVec_and, BitVec.toNat_and, hm]
    have := Nat.and_le_right (n := v.toBitVec.toNat) (m := 31)
    omega
  refine ⟨(v &&& 31).toBitVec.toNat, h, ?_⟩
  apply Int32.toBitVec_inj.mp
  apply BitVec.eq_of_toNat_eq
  show _ = (BitVec.ofNat 32 _).toNat
  rw [BitVec.toNat_ofNat, Nat.mod_eq_of_lt (by omega)]
theorem zsin {a d L : Nat} (h : a + d < L) (hL : L < 2 ^ 31) : vp_in (nI a + nI d) L := by rw [nI_add]; exact vp_in_nI h hL

set_option maxHeartbeats 4000000 in
set_option maxRecDepth 100000 in
theorem law_loop {p : Program} {e : Env} {s : State} {m : MethodId} {below : List Frame} {meth : Method} {c : Code} {l : Launch} {b L : Nat} {xs : Nat → Int32} {D : va_G} {cI cL cE cP : ClassId} {am : Nat → Nat} {o ax : Nat} (hL : L ≤ 3584) (C : LC p s m meth c b L xs D cI cL cE cP l) : ∀ (d j : Nat), 7 * j ≤ L → L < 7 * (j + d) → ∀ (H : Heap) (locs : List Loc) (ls : Array Slot), LI D cI cL cE cP am o ax s H locs → lv_has ls 7 [(0, .ref b), (1, .ref ax), (2, .ref (am 0)), (3, .ref o), (4, .int (nI (7 * j)))] → W p l e room_1 s m #[Value.ref b] below meth c H locs (31 + j) (1043 + 8 * j) (lw_Z below #[Value.ref b] s) (F0 m 23 ls []) := by
  obtain ⟨hx, hb, hr, hml, hown0, hts0, hX0, hbl, hlocks, hgv⟩ := C.1
  have hbA : ¬ lA s b := Nat.not_le.mpr hbl
  intro d
  induction d with
  | zero => intro j h1 h2; exact absurd h2 (by omega)
  | succ d ih =>
    intro j h1 h2 H locs ls hI hl
    have hS : va_S (lA s) s.heap H locs := by obtain ⟨_, _, _, _, _, _, _, _, _, _, _, _, _, hS⟩ := hI; exact hS
    refine lv_iload hx hb dL_law_23 (lv_at hl 4 rfl) ?_
    refine lv_aload_n hx hb dL_law_25 rfl (lv_at hl 0 rfl) ?_
    refine va_slen hx hb hX0 hbl hbA hS dL_law_26 ?_
    refine lv_bipush (v := 7) hx hb dL_law_27 rfl ?_
    refine lv_isub hx hb dL_law_29 ?_
    have hcmp : ((nI L - 7 : Int32) < nI (7 * j)) ↔ L < 7 * j + 7 := by
      rw [Int32.lt_iff_toInt_lt, show (7 : Int32) = nI 7 from rfl, pk_sub_toInt (by omega) (by omega), nI_toInt (by omega)]; omega
    refine lv_icmp_gt (tgt := 1359) hx hb dL_law_30 (by decide) (fun _ => ?_) (fun c1 => ?_)
    · refine lv_iconst (v := 1) hx hb dL_law_1359 (by decide) ?_
      refine va_forget (fun q hq => hS.2.2 q hq) ?_
      refine W.widen (k := 601024) (n := 7293034) (by omega) (by omega) ?_
      exact lw_ret hx hb hr hlocks dL_law_1360
    · have h7 : 7 * j + 7 ≤ L := Nat.not_lt.mp (fun q => c1 (hcmp.mpr q))
      have hin : Lin (nI (7 * j)) L := ⟨vp_in_nI (by omega) (by omega), zsin (d := 1) (by omega) (by omega), zsin (d := 2) (by omega) (by omega), zsin (d := 3) (by omega) (by omega), zsin (d := 4) (by omega) (by omega), zsin (d := 5) (by omega) (by omega), zsin (d := 6) (by omega) (by omega)⟩
      have turn : ∀ (H : Heap) (locs : List Loc) (ls : Array Slot), LI D cI cL cE cP am o ax s H locs → lv_has ls 7 [(0, .ref b), (1, .ref ax), (2, .ref (am 0)), (3, .ref o), (4, .int (nI (7 * j)))] → W p l e room_1 s m #[Value.ref b] below meth c H locs (31 + j + 1) (1043 + 8 * j + 8) (lw_Z below #[Value.ref b] s) (F0 m 1353 ls []) := by
        intro H locs ls hI hl
        refine lv_iinc (v := nI (7 * (j + 1))) (lv' := [(4, .int (nI (7 * (j + 1)))), (0, .ref b), (1, .ref ax), (2, .ref (am 0)), (3, .ref o)]) hx hb dL_law_1353 hl (k := 4) rfl (by show nI (7 * j) + nI 7 = nI (7 * (j + 1)); rw [nI_add]; rfl) (by decide) rfl (fun ls hl => ?_)
        refine lv_goto (tgt := 23) hx hb dL_law_1356 (by decide) ?_
        refine W.widen (k := 31 + (j + 1)) (n := 1043 + 8 * (j + 1)) (by omega) (by omega) ?_
        exact ih (j + 1) (by omega) (by omega) H locs ls hI (lv_sub hl [1, 2, 3, 4, 0] rfl)
      refine lv_aload_n hx hb dL_law_33 rfl (lv_at hl 0 rfl) ?_
      refine lv_iload hx hb dL_law_34 (lv_at hl 4 rfl) ?_
      refine va_sld hx hb hX0 hbl hbA hS hin.1 dL_law_36 ?_
      refine lv_bipush (v := 31) hx hb dL_law_37 rfl ?_
      refine lv_iand hx hb dL_law_39 ?_
      obtain ⟨t, ht, et⟩ := z_and31 (xs (nI (7 * j)).toNatClampNeg)
      rw [et]
      rcases (show t = 0 ∨ t = 1 ∨ t = 2 ∨ t = 3 ∨ t = 4 ∨ t = 5 ∨ t = 6 ∨ t = 7 ∨ t = 8 ∨ t = 9 ∨ t = 10 ∨ t = 11 ∨ t = 12 ∨ t = 13 ∨ t = 14 ∨ t = 15 ∨ t = 16 ∨ t = 17 ∨ t = 18 ∨ t = 19 ∨ t = 20 ∨ t = 21 ∨ t = 22 ∨ 22 < t by omega) with rfl | rfl | rfl | rfl | rfl | rfl | rfl | rfl | rfl | rfl | rfl | rfl | rfl | rfl | rfl | rfl | rfl | rfl | rfl | rfl | rfl | rfl | rfl | h22
      · refine lv_tableIn (off := 108) (tgt := 148) hx hb dL_law_40 (by decide +kernel) (by decide +kernel) rfl (by decide) ?_
        exact cs_setWeights C hin (by omega) (by omega) hI hl turn
      · refine lv_tableIn (off := 188) (tgt := 228) hx hb dL_law_40 (by decide +kernel) (by decide +kernel) rfl (by decide) ?_
        exact cs_setFloor C hin (by omega) (by omega) hI hl turn
      · refine lv_tableIn (off := 244) (tgt := 284) hx hb dL_law_40 (by decide +kernel) (by decide +kernel) rfl (by decide) ?_
        exact cs_setCapital C hin (by omega) (by omega) hI hl turn
      · refine lv_tableIn (off := 300) (tgt := 340) hx hb dL_law_40 (by decide +kernel) (by decide +kernel) rfl (by decide) ?_
        exact cs_addExposure C hin (by omega) (by omega) hI hl turn
      · refine lv_tableIn (off := 418) (tgt := 458) hx hb dL_law_40 (by decide +kernel) (by decide +kernel) rfl (by decide) ?_
        exact cs_draw C hin (by omega) (by omega) hI hl turn
      · refine lv_tableIn (off := 486) (tgt := 526) hx hb dL_law_40 (by decide +kernel) (by decide +kernel) rfl (by decide) ?_
        exact cs_setClass C hin (by omega) (by omega) hI hl turn
      · refine lv_tableIn (off := 554) (tgt := 594) hx hb dL_law_40 (by decide +kernel) (by decide +kernel) rfl (by decide) ?_
        exact cs_guarantee C hin (by omega) (by omega) hI hl turn
      · refine lv_tableIn (off := 634) (tgt := 674) hx hb dL_law_40 (by decide +kernel) (by decide +kernel) rfl (by decide) ?_
        exact cs_exposures C hin (by omega) (by omega) hI hl turn
      · refine lv_tableIn (off := 647) (tgt := 687) hx hb dL_law_40 (by decide +kernel) (by decide +kernel) rfl (by decide) ?_
        exact cs_amount C hin (by omega) (by omega) hI hl turn
      · refine lv_tableIn (off := 703) (tgt := 743) hx hb dL_law_40 (by decide +kernel) (by decide +kernel) rfl (by decide) ?_
        exact cs_addPiece C hin (by omega) (by omega) hI hl turn
      · refine lv_tableIn (off := 807) (tgt := 847) hx hb dL_law_40 (by decide +kernel) (by decide +kernel) rfl (by decide) ?_
        exact cs_setPiece C hin (by omega) (by omega) hI hl turn
      · refine lv_tableIn (off := 887) (tgt := 927) hx hb dL_law_40 (by decide +kernel) (by decide +kernel) rfl (by decide) ?_
        exact cs_pieces C hin (by omega) (by omega) hI hl turn
      · refine lv_tableIn (off := 900) (tgt := 940) hx hb dL_law_40 (by decide +kernel) (by decide +kernel) rfl (by decide) ?_
        exact cs_value C hin (by omega) (by omega) hI hl turn
      · refine lv_tableIn (off := 968) (tgt := 1008) hx hb dL_law_40 (by decide +kernel) (by decide +kernel) rfl (by decide) ?_
        exact cs_givenTo C hin (by omega) (by omega) hI hl turn
      · refine lv_tableIn (off := 1024) (tgt := 1064) hx hb dL_law_40 (by decide +kernel) (by decide +kernel) rfl (by decide) ?_
        exact cs_bare C hin (by omega) (by omega) hI hl turn
      · refine lv_tableIn (off := 1080) (tgt := 1120) hx hb dL_law_40 (by decide +kernel) (by decide +kernel) rfl (by decide) ?_
        exact cs_weighted C hin (by omega) (by omega) hI hl turn
      · refine lv_tableIn (off := 1136) (tgt := 1176) hx hb dL_law_40 (by decide +kernel) (by decide +kernel) rfl (by decide) ?_
        exact cs_whole C hin (by omega) (by omega) hI hl turn
      · refine lv_tableIn (off := 1149) (tgt := 1189) hx hb dL_law_40 (by decide +kernel) (by decide +kernel) rfl (by decide) ?_
        exact cs_wholeByTrying C hin (by omega) (by omega) hI hl turn
      · refine lv_tableIn (off := 1162) (tgt := 1202) hx hb dL_law_40 (by decide +kernel) (by decide +kernel) rfl (by decide) ?_
        exact cs_worth C hin (by omega) (by omega) hI hl turn
      · refine lv_tableIn (off := 1218) (tgt := 1258) hx hb dL_law_40 (by decide +kernel) (by decide +kernel) rfl (by decide) ?_
        exact cs_plain C hin (by omega) (by omega) hI hl turn
      · refine lv_tableIn (off := 1231) (tgt := 1271) hx hb dL_law_40 (by decide +kernel) (by decide +kernel) rfl (by decide) ?_
        exact cs_required C hin (by omega) (by omega) hI hl turn
      · refine lv_tableIn (off := 1244) (tgt := 1284) hx hb dL_law_40 (by decide +kernel) (by decide +kernel) rfl (by decide) ?_
        exact cs_partyBare C hin (by omega) (by omega) hI hl turn
      · refine lv_tableIn (off := 1300) (tgt := 1340) hx hb dL_law_40 (by decide +kernel) (by decide +kernel) rfl (by decide) ?_
        exact cs_tooLarge C hin (by omega) (by omega) hI hl turn
      · refine lv_tableOut (tgt := 1353) hx hb dL_law_40 (Or.inr (by rw [nI_toInt (by omega)]; omega)) (by decide) ?_
        exact W.widen (k := 31 + j + 1) (n := 1043 + 8 * j + 8) (by omega) (by omega) (turn H locs ls hI hl)
