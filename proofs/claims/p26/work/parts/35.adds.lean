/-! an exposure, a piece comes in: the world grows -/
theorem zapL {ws l : va_W} {i : Nat} {x : Nat × va_E} (h : ws[i]? = some x) : (ws ++ l)[i]? = some x := by rw [List.getElem?_append_left (List.getElem?_eq_some_iff.mp h).1]; exact h
theorem zset_ne {ws : va_W} {i j : Nat} {x y : Nat × va_E} (hij : j ≠ i) (h : ws[i]? = some y) : (ws.set j x)[i]? = some y := by rw [List.getElem?_set_ne hij]; exact h
theorem zP_swapR {D : va_G} {w0 w1 w2 : va_W} {H : Heap} (h : va_P D vwCl (w0 ++ (w1 ++ w2)) H) : va_P D vwCl (w0 ++ (w2 ++ w1)) H := zP_mk (zP_app h).1 (zP_swap (zP_app h).2)
theorem zD_swapR {A : Nat → Prop} {w0 w1 w2 : va_W} (h : va_D A (w0 ++ (w1 ++ w2))) : va_D A (w0 ++ (w2 ++ w1)) := by
  obtain ⟨h1, h2, h3⟩ := zD_app h
  refine zD_mk h1 (zD_swap h2) (fun i j x y hx hy e => ?_)
  have hm : y ∈ w1 ++ w2 := by
    have := List.mem_of_getElem? hy
    rcases List.mem_append.mp this with q | q
    · exact List.mem_append_right _ q
    · exact List.mem_append_left _ q
  obtain ⟨k, hk⟩ := List.getElem?_of_mem hm
  exact h3 i k x y hx hk e
theorem zn_lt {n : Nat} (hn : n ≤ 8) (h : nI n < nI 8) : n ≠ 8 := fun e => by subst e; exact nI_nlt (Nat.le_refl 8) (by decide) h
theorem zn_ge {n : Nat} (hn : n ≤ 8) (h : ¬ nI n < nI 8) : n = 8 := by
  rcases Nat.lt_or_ge n 8 with q | q
  · exact absurd (nI_lt q (by decide)) h
  · omega
theorem zk_lt {n : Nat} (hn : n ≤ 5) (h : nI n < nI 5) : n ≠ 5 := fun e => by subst e; exact nI_nlt (Nat.le_refl 5) (by decide) h
theorem zk_ge {n : Nat} (hn : n ≤ 5) (h : ¬ nI n < nI 5) : n = 5 := by
  rcases Nat.lt_or_ge n 5 with q | q
  · exact absurd (nI_lt q (by decide)) h
  · omega
def gAE (g : Nat → Nat → Int32) (n : Nat) (a0 a1 a2 a3 a4 a5 : Int32) : Nat → Nat → Int32 := gR (gR (gR (gR (gR (gR g 3 (upd (g 3) n a0)) 4 (upd (g 4) n a1)) 5 (upd (g 5) n a2)) 6 (upd (g 6) n a3)) 7 (upd (g 7) n a4)) 8 (upd (g 8) n a5)
def gAP (g : Nat → Nat → Int32) (k : Nat) (a0 a1 a2 a3 a4 : Int32) : Nat → Nat → Int32 := gR (gR (gR (gR (gR g 11 (upd (g 11) k a0)) 12 (upd (g 12) k a1)) 13 (upd (g 13) k a2)) 14 (upd (g 14) k a3)) 15 (upd (g 15) k a4)
section ZA
variable {cI cL cE cP : ClassId} {ad : Nat → Nat} {g : Nat → Nat → Int32} {n k : Nat} {us wb tr : Nat → Int32} {pr le : Nat → Int64} {tk gf : Int32} {q : Nat} {a0 a1 a2 a3 a4 a5 : Int32}
theorem cws_new {x : Nat × va_E} : (cws cI cL cE cP ad g n k us wb tr pr le tk gf ++ [x])[11 + n + k]? = some x := by
  have hl : (cws cI cL cE cP ad g n k us wb tr pr le tk gf).length = 11 + n + k := by
    unfold cws cwO
    rw [List.length_append, List.length_append, List.length_map, List.length_map, List.length_range, List.length_range]
    show 11 + (n + k) = _; omega
  rw [List.getElem?_append_right (by omega), hl, Nat.sub_self]; rfl
theorem z_had (c : Nat) (hc : c ≤ 10) : va_up ad (11 + n) q c = ad c := by unfold va_up; rw [if_neg (by omega)]
theorem z_hap (c : Nat) (hc : c ≤ 10) : va_up ad (19 + k) q c = ad c := by unfold va_up; rw [if_neg (by omega)]
theorem z_bk (hn : n < 8) : zbk (va_up ad (11 + n) q) (n + 1) = va_up (zbk ad n) (nI n).toNatClampNeg (some q) := by
  rw [nI_clamp (by omega)]
  funext i; unfold zbk va_up; dsimp only
  by_cases h : i = n
  · subst h; simp
  · by_cases h2 : i < n
    · rw [if_pos (by omega), if_neg (by omega), if_neg h, if_pos h2]
    · rw [if_neg (by omega), if_neg h, if_neg h2]
theorem z_cl (hk : k < 5) : zcl (va_up ad (19 + k) q) (k + 1) = va_up (zcl ad k) (nI k).toNatClampNeg (some q) := by
  rw [nI_clamp (by omega)]
  funext i; unfold zcl va_up; dsimp only
  by_cases h : i = k
  · subst h; simp
  · by_cases h2 : i < k
    · rw [if_pos (by omega), if_neg (by omega), if_neg h, if_pos h2]
    · rw [if_neg (by omega), if_neg h, if_neg h2]
theorem z_bk2 (hn : n ≤ 8) : zbk (va_up ad (19 + k) q) n = zbk ad n := by
  funext i; unfold zbk va_up
  by_cases h2 : i < n
  · rw [if_pos h2, if_pos h2, if_neg (by omega)]
  · rw [if_neg h2, if_neg h2]
theorem z_cl2 (hn : n < 8) : zcl (va_up ad (11 + n) q) k = zcl ad k := by
  funext i; unfold zcl va_up
  by_cases h2 : i < k
  · rw [if_pos h2, if_pos h2, if_neg (by omega)]
  · rw [if_neg h2, if_neg h2]
theorem z_addE (hn : n < 8) (h9 : g 9 n = 0) (h10 : g 10 n = 0) : cws cI cL cE cP (va_up ad (11 + n) q) (gAE g n a0 a1 a2 a3 a4 a5) (n + 1) k us wb tr pr le tk gf = ((((cwF cI cL cE cP ad g n k us wb tr pr le tk gf).set 3 (ad 3, .inl (cE, 8, .inr (.inr (.inr (.inr (va_up (zbk ad n) (nI n).toNatClampNeg (some q)))))))).set 0 (ad 0, .inr (3, [.ref (ad 1), .ref (ad 2), .ref (ad 3), .ref (ad 4), .ref (ad 5), .int (nI (n + 1)), .int (nI k), .int (g 2 0), .int (g 2 1)]))) ++ (List.range n).map (fun i => (ad (11 + i), cwE g i))) ++ (([(q, .inr (0, [.int a1, .int a4, .int a5, .int a0, .int a2, .int a3, .int 0, .int 0]))] : va_W) ++ (List.range k).map (fun j => (ad (19 + j), cwP g j))) := by
  unfold cws cwO
  rw [List.range_succ, List.map_append, ← List.append_assoc, ← List.append_assoc, ← List.append_assoc]
  congr 1
  · congr 1
    · congr 1
      · unfold cwF
        rw [z_bk hn, z_cl2 hn]
        simp only [z_had 0 (by omega), z_had 1 (by omega), z_had 2 (by omega), z_had 3 (by omega), z_had 4 (by omega), z_had 5 (by omega), z_had 6 (by omega), z_had 7 (by omega), z_had 8 (by omega), z_had 9 (by omega), z_had 10 (by omega)]
        rfl
      · apply List.map_congr_left
        intro i hi
        have hi : i < n := List.mem_range.mp hi
        have h1 : va_up ad (11 + n) q (11 + i) = ad (11 + i) := by unfold va_up; rw [if_neg (by omega)]
        rw [h1]
        have hne : i ≠ n := by omega
        simp [cwE, gAE, gR, upd_ne hne]
    · have h1 : va_up ad (11 + n) q (11 + n) = q := by unfold va_up; rw [if_pos rfl]
      simp [h1, cwE, gAE, gR, upd, h9, h10]
  · apply List.map_congr_left
    intro j hj
    have h1 : va_up ad (11 + n) q (19 + j) = ad (19 + j) := by unfold va_up; rw [if_neg (by omega)]
    rw [h1]
    simp [cwP, gAE, gR]
theorem z_addP (hn : n ≤ 8) (hk : k < 5) : cws cI cL cE cP (va_up ad (19 + k) q) (gAP g k a0 a1 a2 a3 a4) n (k + 1) us wb tr pr le tk gf = (((cwF cI cL cE cP ad g n k us wb tr pr le tk gf).set 4 (ad 4, .inl (cP, 5, .inr (.inr (.inr (.inr (va_up (zcl ad k) (nI k).toNatClampNeg (some q)))))))).set 0 (ad 0, .inr (3, [.ref (ad 1), .ref (ad 2), .ref (ad 3), .ref (ad 4), .ref (ad 5), .int (nI n), .int (nI (k + 1)), .int (g 2 0), .int (g 2 1)]))) ++ (((List.range n).map (fun i => (ad (11 + i), cwE g i)) ++ (List.range k).map (fun j => (ad (19 + j), cwP g j))) ++ ([(q, .inr (1, [.int a1, .int a2, .int a3, .int a0, .int a4]))] : va_W)) := by
  unfold cws cwO
  rw [List.range_succ, List.map_append, List.append_assoc (List.map _ (List.range n))]
  congr 1
  · unfold cwF
    rw [z_cl hk, z_bk2 hn]
    simp only [z_hap 0 (by omega), z_hap 1 (by omega), z_hap 2 (by omega), z_hap 3 (by omega), z_hap 4 (by omega), z_hap 5 (by omega), z_hap 6 (by omega), z_hap 7 (by omega), z_hap 8 (by omega), z_hap 9 (by omega), z_hap 10 (by omega)]
    rfl
  · congr 1
    · apply List.map_congr_left
      intro i hi
      have hi : i < n := List.mem_range.mp hi
      have h1 : va_up ad (19 + k) q (11 + i) = ad (11 + i) := by unfold va_up; rw [if_neg (by omega)]
      rw [h1]
      simp [cwE, gAP, gR]
    · congr 1
      · apply List.map_congr_left
        intro j hj
        have hj : j < k := List.mem_range.mp hj
        have h1 : va_up ad (19 + k) q (19 + j) = ad (19 + j) := by unfold va_up; rw [if_neg (by omega)]
        rw [h1]
        have hne : j ≠ k := by omega
        simp [cwP, gAP, gR, upd_ne hne]
      · have h1 : va_up ad (19 + k) q (19 + k) = q := by unfold va_up; rw [if_pos rfl]
        simp [h1, cwP, gAP, gR, upd]
theorem z_endE {Rel : va_W → Prop} (hsw : ∀ a b c : va_W, Rel (a ++ (b ++ c)) → Rel (a ++ (c ++ b))) (hn : n < 8) (h9 : g 9 n = 0) (h10 : g 10 n = 0) (h : Rel (((cws cI cL cE cP ad g n k us wb tr pr le tk gf ++ ([(q, .inr (0, [.int a1, .int a4, .int a5, .int a0, .int a2, .int a3, .int 0, .int 0]))] : va_W)).set 3 (ad 3, .inl (cE, 8, .inr (.inr (.inr (.inr (va_up (zbk ad n) (nI n).toNatClampNeg (some q)))))))).set 0 (ad 0, .inr (3, [.ref (ad 1), .ref (ad 2), .ref (ad 3), .ref (ad 4), .ref (ad 5), .int (nI (n + 1)), .int (nI k), .int (g 2 0), .int (g 2 1)])))) : Rel (cws cI cL cE cP (va_up ad (11 + n) q) (gAE g n a0 a1 a2 a3 a4 a5) (n + 1) k us wb tr pr le tk gf) := by
  rw [z_addE hn h9 h10]
  apply hsw
  have e : ∀ (F E P N : va_W), (F ++ E) ++ (P ++ N) = F ++ (E ++ P) ++ N := by intro F E P N; simp
  rw [e]
  exact h
theorem z_endP {Rel : va_W → Prop} (hn : n ≤ 8) (hk : k < 5) (h : Rel (((cws cI cL cE cP ad g n k us wb tr pr le tk gf ++ ([(q, .inr (1, [.int a1, .int a2, .int a3, .int a0, .int a4]))] : va_W)).set 4 (ad 4, .inl (cP, 5, .inr (.inr (.inr (.inr (va_up (zcl ad k) (nI k).toNatClampNeg (some q)))))))).set 0 (ad 0, .inr (3, [.ref (ad 1), .ref (ad 2), .ref (ad 3), .ref (ad 4), .ref (ad 5), .int (nI n), .int (nI (k + 1)), .int (g 2 0), .int (g 2 1)])))) : Rel (cws cI cL cE cP (va_up ad (19 + k) q) (gAP g k a0 a1 a2 a3 a4) n (k + 1) us wb tr pr le tk gf) := by
  rw [z_addP hn hk, ← List.append_assoc]
  exact h
end ZA

set_option maxHeartbeats 4000000 in
set_option maxRecDepth 100000 in
theorem zX3_addExposure (l : Launch) (hfl : l.stackTraces = false) (D : va_G) (cI cL cE cP : ClassId) (ad : Nat → Nat) (g : Nat → Nat → Int32) (n k : Nat) (us wb tr : Nat → Int32) (pr le : Nat → Int64) (tk gf : Int32) (hok : zOk g n k) (h9 : ∀ i, n ≤ i → g 9 i = 0 ∧ g 10 i = 0) (a0 a1 a2 a3 a4 a5 : Int32) (sz : Nat) : vx_Met l yX3_addExposure wsX3_addExposure ({ frames := 6, cells := 1, slots := 8, locals := 90 }) (zPx D cI cL cE cP (cws cI cL cE cP ad g n k us wb tr pr le tk gf) sz [.ref (ad 0), .int a0, .int a1, .int a2, .int a3, .int a4, .int a5]) (va_Qi (fun (r : Int32) (_ : Nat) => T_addExposure n a0 a1 a2 a3 a4 a5 = 0 ∧ r = nI n) (fun q t => zB D (cws cI cL cE cP ad g n k us wb tr pr le tk gf) sz (cws cI cL cE cP (va_up ad (11 + n) q) (gAE g n a0 a1 a2 a3 a4 a5) (n + 1) k us wb tr pr le tk gf) t) (va_A (cws cI cL cE cP ad g n k us wb tr pr le tk gf) sz)) (zXC D (cws cI cL cE cP ad g n k us wb tr pr le tk gf) sz (fun E => (E = "java/lang/IndexOutOfBoundsException" ∧ T_addExposure n a0 a1 a2 a3 a4 a5 = 1) ∨ (E = "java/lang/IllegalArgumentException" ∧ T_addExposure n a0 a1 a2 a3 a4 a5 = 2) ∨ (E = "java/lang/IllegalStateException" ∧ T_addExposure n a0 a1 a2 a3 a4 a5 = 3))) 1 8 (va_A (cws cI cL cE cP ad g n k us wb tr pr le tk gf) sz) := by
  refine vx_ofW (cc := cX3_addExposure) (maxL := 8) (ret := (some .int)) (by decide) rfl ?_
  intro p e s m args below meth c s₁ B hml htab hv
  obtain ⟨rfl, hsz, hE, hP, hD0, hX, hU0⟩ := hv
  subst hsz
  obtain ⟨A, hAe⟩ : ∃ A, A = va_A (cws cI cL cE cP ad g n k us wb tr pr le tk gf) s.heap.size := ⟨_, rfl⟩
  have hD : va_D A (cws cI cL cE cP ad g n k us wb tr pr le tk gf) := by rw [hAe]; exact hD0.self
  have hA : ∀ q : Nat, s.heap.size ≤ q → A q := fun q h => by rw [hAe]; exact Or.inr h
  have hS : va_S A s.heap s.heap [] := va_S.rf
  have hU : zU A s s.heap := by rw [hAe]; exact hU0
  have hx := B.exec
  have hb := B.bytes
  have hr := B.returns
  have hts := atoms_spec (ws := wsX3_addExposure) B.pre
  have hown : s.vm.findClass RX3 = some m.cls := findClass_of_methodNamed B.named
  have hlocks := B.notSynchronized
  have hK := hE.1
  have iX0 : ∀ w ∈ wsX00, w ∈ wsX3_addExposure := by decide +kernel
  have iX3 : ∀ w ∈ wsX30, w ∈ wsX3_addExposure := by decide +kernel
  have hl := lv_entry ([.ref (ad 0), .int a0, .int a1, .int a2, .int a3, .int a4, .int a5]) (n := 8) (Nat.le_of_ble_eq_true rfl)
  rw [lg_entry_eq]
  generalize (lg_sl ([.ref (ad 0), .int a0, .int a1, .int a2, .int a3, .int a4, .int a5]) ++ List.replicate (8 - (lg_sl ([.ref (ad 0), .int a0, .int a1, .int a2, .int a3, .int a4, .int a5])).length) Slot.unset).toArray = ls at hl ⊢
  have hl : lv_has ls 8 [(0, .ref (ad 0)), (1, .int a0), (2, .int a1), (3, .int a2), (4, .int a3), (5, .int a4), (6, .int a5)] := hl
  refine lv_iload_n hx hb dX3_addExposure_0 rfl (lv_at hl 1 rfl) ?_
  refine vp_callSi (va_Run.run (va_runS (As := [.int a0]) (rest := []) ⟨hx, hb, hml, hown, hts⟩ (zX3_isClass l D cI cL cE cP (cws cI cL cE cP ad g n k us wb tr pr le tk gf) a0) (va_cwS 1 hts gX3_addExposure_X3_isClass rfl rfl rfl (by decide +kernel) ⟨Nat.le_of_ble_eq_true rfl, Nat.le_of_ble_eq_true rfl⟩) ⟨zPr_blind, zPr_mk hE hP⟩ rfl rfl hl.1 rfl (lv_room (Nat.le_of_ble_eq_true rfl)) dX3_addExposure_1 ⟨Nat.le_of_ble_eq_true rfl, Nat.le_of_ble_eq_true rfl⟩)) (fun r_1 e_2 => ?_)
  obtain rfl := e_2
  refine lv_if_eq (tgt := 14) hx hb dX3_addExposure_4 (by decide) (fun c_3 => ?_) (fun c_3 => ?_)
  · have c_3 := zb_eq c_3
    have hT : T_addExposure n a0 a1 a2 a3 a4 a5 = 1 := by simp [T_addExposure, c_3]
    exact zthrow (pc := 14) (cls := "java/lang/IndexOutOfBoundsException") (text := "no such class or party") (is := 84) (ic := 56) (ik := 52) hx hb hfl hown hlocks htab hml hl.1 (by decide +kernel) (by decide +kernel) (hts (.classLink RX3 52 "java/lang/IndexOutOfBoundsException") (by decide +kernel)) (hts (.initialized "java/lang/IndexOutOfBoundsException") (by decide +kernel)) (fun w h => hts w (List.mem_cons_of_mem _ (List.mem_append_left _ (List.mem_append_left _ (List.mem_append_right _ h))))) (by decide +kernel) (by decide +kernel) (by decide +kernel) hX hAe hU hP hD hS dX3_addExposure_14 dX3_addExposure_17 dX3_addExposure_18 dX3_addExposure_20 dX3_addExposure_23 (Nat.le_of_ble_eq_true rfl) (Nat.le_of_ble_eq_true rfl) (Nat.le_of_ble_eq_true rfl) (Nat.le_of_ble_eq_true rfl) (Nat.le_of_ble_eq_true rfl) (Nat.le_of_ble_eq_true rfl) (Or.inl ⟨rfl, hT⟩)
  · have c_3 := zb_ne c_3
    refine lv_iload_n hx hb dX3_addExposure_7 rfl (lv_at hl 2 rfl) ?_
    refine vp_callSi (va_Run.run (va_runS (As := [.int a1]) (rest := []) ⟨hx, hb, hml, hown, hts⟩ (zX3_isParty l D cI cL cE cP (cws cI cL cE cP ad g n k us wb tr pr le tk gf) a1) (va_cwS 1 hts gX3_addExposure_X3_isParty rfl rfl rfl (by decide +kernel) ⟨Nat.le_of_ble_eq_true rfl, Nat.le_of_ble_eq_true rfl⟩) ⟨zPr_blind, zPr_mk hE hP⟩ rfl rfl hl.1 rfl (lv_room (Nat.le_of_ble_eq_true rfl)) dX3_addExposure_8 ⟨Nat.le_of_ble_eq_true rfl, Nat.le_of_ble_eq_true rfl⟩)) (fun r_4 e_5 => ?_)
    obtain rfl := e_5
    refine lv_if_ne (tgt := 24) hx hb dX3_addExposure_11 (by decide) (fun c_6 => ?_) (fun c_6 => ?_)
    · have c_6 := zb_ne c_6
      refine lv_iload_n hx hb dX3_addExposure_24 rfl (lv_at hl 3 rfl) ?_
      refine vp_callSi (va_Run.run (va_runS (As := [.int a2]) (rest := []) ⟨hx, hb, hml, hown, hts⟩ (zX3_isPart l D cI cL cE cP (cws cI cL cE cP ad g n k us wb tr pr le tk gf) a2) (va_cwS 1 hts gX3_addExposure_X3_isPart rfl rfl rfl (by decide +kernel) ⟨Nat.le_of_ble_eq_true rfl, Nat.le_of_ble_eq_true rfl⟩) ⟨zPr_blind, zPr_mk hE hP⟩ rfl rfl hl.1 rfl (lv_room (Nat.le_of_ble_eq_true rfl)) dX3_addExposure_25 ⟨Nat.le_of_ble_eq_true rfl, Nat.le_of_ble_eq_true rfl⟩)) (fun r_7 e_8 => ?_)
      obtain rfl := e_8
      refine lv_if_eq (tgt := 55) hx hb dX3_addExposure_28 (by decide) (fun c_9 => ?_) (fun c_9 => ?_)
      · have c_9 := zb_eq c_9
        have hT : T_addExposure n a0 a1 a2 a3 a4 a5 = 2 := by simp [T_addExposure, c_3, c_6, c_9]
        exact zthrow (pc := 55) (cls := "java/lang/IllegalArgumentException") (text := "drawn, promised, currency or days is out of range") (is := 95) (ic := 67) (ik := 63) hx hb hfl hown hlocks htab hml hl.1 (by decide +kernel) (by decide +kernel) (hts (.classLink RX3 63 "java/lang/IllegalArgumentException") (by decide +kernel)) (hts (.initialized "java/lang/IllegalArgumentException") (by decide +kernel)) (fun w h => hts w (List.mem_cons_of_mem _ (List.mem_append_left _ (List.mem_append_right _ h)))) (by decide +kernel) (by decide +kernel) (by decide +kernel) hX hAe hU hP hD hS dX3_addExposure_55 dX3_addExposure_58 dX3_addExposure_59 dX3_addExposure_61 dX3_addExposure_64 (Nat.le_of_ble_eq_true rfl) (Nat.le_of_ble_eq_true rfl) (Nat.le_of_ble_eq_true rfl) (Nat.le_of_ble_eq_true rfl) (Nat.le_of_ble_eq_true rfl) (Nat.le_of_ble_eq_true rfl) (Or.inr (Or.inl ⟨rfl, hT⟩))
      · have c_9 := zb_ne c_9
        refine lv_iload hx hb dX3_addExposure_31 (lv_at hl 4 rfl) ?_
        refine vp_callSi (va_Run.run (va_runS (As := [.int a3]) (rest := []) ⟨hx, hb, hml, hown, hts⟩ (zX3_isPart l D cI cL cE cP (cws cI cL cE cP ad g n k us wb tr pr le tk gf) a3) (va_cwS 1 hts gX3_addExposure_X3_isPart rfl rfl rfl (by decide +kernel) ⟨Nat.le_of_ble_eq_true rfl, Nat.le_of_ble_eq_true rfl⟩) ⟨zPr_blind, zPr_mk hE hP⟩ rfl rfl hl.1 rfl (lv_room (Nat.le_of_ble_eq_true rfl)) dX3_addExposure_33 ⟨Nat.le_of_ble_eq_true rfl, Nat.le_of_ble_eq_true rfl⟩)) (fun r_10 e_11 => ?_)
        obtain rfl := e_11
        refine lv_if_eq (tgt := 55) hx hb dX3_addExposure_36 (by decide) (fun c_12 => ?_) (fun c_12 => ?_)
        · have c_12 := zb_eq c_12
          have hT : T_addExposure n a0 a1 a2 a3 a4 a5 = 2 := by simp [T_addExposure, c_3, c_6, c_9, c_12]
          exact zthrow (pc := 55) (cls := "java/lang/IllegalArgumentException") (text := "drawn, promised, currency or days is out of range") (is := 95) (ic := 67) (ik := 63) hx hb hfl hown hlocks htab hml hl.1 (by decide +kernel) (by decide +kernel) (hts (.classLink RX3 63 "java/lang/IllegalArgumentException") (by decide +kernel)) (hts (.initialized "java/lang/IllegalArgumentException") (by decide +kernel)) (fun w h => hts w (List.mem_cons_of_mem _ (List.mem_append_left _ (List.mem_append_right _ h)))) (by decide +kernel) (by decide +kernel) (by decide +kernel) hX hAe hU hP hD hS dX3_addExposure_55 dX3_addExposure_58 dX3_addExposure_59 dX3_addExposure_61 dX3_addExposure_64 (Nat.le_of_ble_eq_true rfl) (Nat.le_of_ble_eq_true rfl) (Nat.le_of_ble_eq_true rfl) (Nat.le_of_ble_eq_true rfl) (Nat.le_of_ble_eq_true rfl) (Nat.le_of_ble_eq_true rfl) (Or.inr (Or.inl ⟨rfl, hT⟩))
        · have c_12 := zb_ne c_12
          refine lv_iload hx hb dX3_addExposure_39 (lv_at hl 5 rfl) ?_
          refine vp_callSi (va_Run.run (va_runS (As := [.int a4]) (rest := []) ⟨hx, hb, hml, hown, hts⟩ (zX3_isCurrency l D cI cL cE cP (cws cI cL cE cP ad g n k us wb tr pr le tk gf) a4) (va_cwS 1 hts gX3_addExposure_X3_isCurrency rfl rfl rfl (by decide +kernel) ⟨Nat.le_of_ble_eq_true rfl, Nat.le_of_ble_eq_true rfl⟩) ⟨zPr_blind, zPr_mk hE hP⟩ rfl rfl hl.1 rfl (lv_room (Nat.le_of_ble_eq_true rfl)) dX3_addExposure_41 ⟨Nat.le_of_ble_eq_true rfl, Nat.le_of_ble_eq_true rfl⟩)) (fun r_13 e_14 => ?_)
          obtain rfl := e_14
          refine lv_if_eq (tgt := 55) hx hb dX3_addExposure_44 (by decide) (fun c_15 => ?_) (fun c_15 => ?_)
          · have c_15 := zb_eq c_15
            have hT : T_addExposure n a0 a1 a2 a3 a4 a5 = 2 := by simp [T_addExposure, c_3, c_6, c_9, c_12, c_15]
            exact zthrow (pc := 55) (cls := "java/lang/IllegalArgumentException") (text := "drawn, promised, currency or days is out of range") (is := 95) (ic := 67) (ik := 63) hx hb hfl hown hlocks htab hml hl.1 (by decide +kernel) (by decide +kernel) (hts (.classLink RX3 63 "java/lang/IllegalArgumentException") (by decide +kernel)) (hts (.initialized "java/lang/IllegalArgumentException") (by decide +kernel)) (fun w h => hts w (List.mem_cons_of_mem _ (List.mem_append_left _ (List.mem_append_right _ h)))) (by decide +kernel) (by decide +kernel) (by decide +kernel) hX hAe hU hP hD hS dX3_addExposure_55 dX3_addExposure_58 dX3_addExposure_59 dX3_addExposure_61 dX3_addExposure_64 (Nat.le_of_ble_eq_true rfl) (Nat.le_of_ble_eq_true rfl) (Nat.le_of_ble_eq_true rfl) (Nat.le_of_ble_eq_true rfl) (Nat.le_of_ble_eq_true rfl) (Nat.le_of_ble_eq_true rfl) (Or.inr (Or.inl ⟨rfl, hT⟩))
          · have c_15 := zb_ne c_15
            refine lv_iload hx hb dX3_addExposure_47 (lv_at hl 6 rfl) ?_
            refine vp_callSi (va_Run.run (va_runS (As := [.int a5]) (rest := []) ⟨hx, hb, hml, hown, hts⟩ (zX3_isDays l D cI cL cE cP (cws cI cL cE cP ad g n k us wb tr pr le tk gf) a5) (va_cwS 1 hts gX3_addExposure_X3_isDays rfl rfl rfl (by decide +kernel) ⟨Nat.le_of_ble_eq_true rfl, Nat.le_of_ble_eq_true rfl⟩) ⟨zPr_blind, zPr_mk hE hP⟩ rfl rfl hl.1 rfl (lv_room (Nat.le_of_ble_eq_true rfl)) dX3_addExposure_49 ⟨Nat.le_of_ble_eq_true rfl, Nat.le_of_ble_eq_true rfl⟩)) (fun r_16 e_17 => ?_)
            obtain rfl := e_17
            refine lv_if_ne (tgt := 65) hx hb dX3_addExposure_52 (by decide) (fun c_18 => ?_) (fun c_18 => ?_)
            · have c_18 := zb_ne c_18
              refine lv_aload_n hx hb dX3_addExposure_65 rfl (lv_at hl 0 rfl) ?_
              refine va_get (D := D) (ci := 3) (v := .int (nI n)) (C := RX3) (T := TX3) (N := 9) hx hb hts iX3 hown hK hP 0 cws_0 rfl 5 (by decide) (hts (.fieldLink RX3 35 "CapitalReckoner" "exposureCount" "I") (by decide +kernel)) (fun _ h9 => h9) rfl dX3_addExposure_66 ?_
              refine lv_istore (lv' := [(7, .int (nI n)), (0, .ref (ad 0)), (1, .int a0), (2, .int a1), (3, .int a2), (4, .int a3), (5, .int a4), (6, .int a5)]) hx hb dX3_addExposure_69 hl (by decide) rfl (fun ls hl => ?_)
              refine lv_iload hx hb dX3_addExposure_71 (lv_at hl 0 rfl) ?_
              refine lv_if_lt (tgt := 86) hx hb dX3_addExposure_73 (by decide) (fun c_19 => absurd c_19 (nI_pos (by have := hok.n; omega))) (fun c_19 => ?_)
              refine lv_iload hx hb dX3_addExposure_76 (lv_at hl 0 rfl) ?_
              refine lv_aload_n hx hb dX3_addExposure_78 rfl (lv_at hl 1 rfl) ?_
              refine va_get (D := D) (ci := 3) (v := .ref (ad 3)) (C := RX3) (T := TX3) (N := 9) hx hb hts iX3 hown hK hP 0 cws_0 rfl 2 (by decide) (hts (.fieldLink RX3 18 "CapitalReckoner" "book" "[LCapitalReckoner$Exposure;") (by decide +kernel)) (fun _ h9 => h9) rfl dX3_addExposure_79 ?_
              refine va_alen (v := nI 8) hx hb hK hP 3 2 cws_3 rfl (by first | rfl | decide) dX3_addExposure_82 ?_
              refine lv_icmp_lt (tgt := 96) hx hb dX3_addExposure_83 (by decide) (fun c_20 => ?_) (fun c_20 => ?_)
              · have c_20 := zn_lt hok.n c_20
                have hlt : n < 8 := by have := hok.n; omega
                refine lv_aload_n hx hb dX3_addExposure_96 rfl (lv_at hl 1 rfl) ?_
                refine va_get (D := D) (ci := 3) (v := .ref (ad 3)) (C := RX3) (T := TX3) (N := 9) hx hb hts iX3 hown hK hP 0 cws_0 rfl 2 (by decide) (hts (.fieldLink RX3 18 "CapitalReckoner" "book" "[LCapitalReckoner$Exposure;") (by decide +kernel)) (fun _ h9 => h9) rfl dX3_addExposure_97 ?_
                refine lv_iload hx hb dX3_addExposure_100 (lv_at hl 0 rfl) ?_
                refine va_new (ci := 0) (fs := [.int 0, .int 0, .int 0, .int 0, .int 0, .int 0, .int 0, .int 0]) (C := RX0) (T := TX0) (N := 8) hx hb hts iX0 tyX0 tyX0_ok hown (hts (.classLink RX3 16 RX0) (by decide +kernel)) (hts (.instantiable RX0 8) (by decide +kernel)) (hts (.initialized RX0) (by decide +kernel)) hK hP hD hS hA rfl (fun j hj => by rcases (show j = 0 ∨ j = 1 ∨ j = 2 ∨ j = 3 ∨ j = 4 ∨ j = 5 ∨ j = 6 ∨ j = 7 by omega) with rfl | rfl | rfl | rfl | rfl | rfl | rfl | rfl <;> rfl) (Nat.le_of_ble_eq_true rfl) (Nat.le_of_ble_eq_true rfl) dX3_addExposure_102 (fun q_21 H hP hD hS => ?_)
                have hP : va_P D vwCl (cws cI cL cE cP ad g n k us wb tr pr le tk gf ++ ([(q_21, .inr (0, [.int 0, .int 0, .int 0, .int 0, .int 0, .int 0, .int 0, .int 0]))] : va_W)) H := hP
                have hD : va_D A (cws cI cL cE cP ad g n k us wb tr pr le tk gf ++ ([(q_21, .inr (0, [.int 0, .int 0, .int 0, .int 0, .int 0, .int 0, .int 0, .int 0]))] : va_W)) := hD
                refine lv_dup hx hb dX3_addExposure_105 rfl ?_
                refine lv_iload_n hx hb dX3_addExposure_106 rfl (lv_at hl 2 rfl) ?_
                refine lv_iload_n hx hb dX3_addExposure_107 rfl (lv_at hl 3 rfl) ?_
                refine lv_iload_n hx hb dX3_addExposure_108 rfl (lv_at hl 4 rfl) ?_
                refine lv_iload hx hb dX3_addExposure_109 (lv_at hl 5 rfl) ?_
                refine lv_iload hx hb dX3_addExposure_111 (lv_at hl 6 rfl) ?_
                refine lv_iload hx hb dX3_addExposure_113 (lv_at hl 7 rfl) ?_
                have hPc := (zP_app (w1 := (cws cI cL cE cP ad g n k us wb tr pr le tk gf)) (w2 := [(q_21, .inr (0, [.int 0, .int 0, .int 0, .int 0, .int 0, .int 0, .int 0, .int 0]))]) hP).2
                have hDc := (zD_app (w1 := (cws cI cL cE cP ad g n k us wb tr pr le tk gf)) (w2 := [(q_21, .inr (0, [.int 0, .int 0, .int 0, .int 0, .int 0, .int 0, .int 0, .int 0]))]) hD).2.1
                refine zcallvJ (wr := (cws cI cL cE cP ad g n k us wb tr pr le tk gf)) (wc := [(q_21, .inr (0, [.int 0, .int 0, .int 0, .int 0, .int 0, .int 0, .int 0, .int 0]))]) (w1 := fun (u : Unit) => [(q_21, .inr (0, [.int a1, .int a4, .int a5, .int a0, .int a2, .int a3, .int 0, .int 0]))]) (va_runIN (As := [.int a0, .int a1, .int a2, .int a3, .int a4, .int a5]) (rest := [.ref q_21, .int (nI n), .ref (ad 3)]) ⟨hx, hb, hml, hown, hts⟩ (zX0_init l D cI cL cE cP q_21 a0 a1 a2 a3 a4 a5 H.size) ⟨va_cnB 6 hts gX3_addExposure_X0_init_n102 rfl rfl rfl (hE.2 (.methodLinkNest RX3 102 yX0_init RX3) (List.mem_of_getElem? (i := 15) rfl)) (hts (.initialized RX0) (by decide +kernel)) (by decide +kernel) ⟨Nat.le_of_ble_eq_true rfl, Nat.le_of_ble_eq_true rfl⟩, rfl, (hts (.instanceMethod yX0_init) (by decide +kernel))⟩ ⟨zPw_blind, zPw_mk hE hPc hDc⟩ rfl rfl hl.1 rfl (lv_room (Nat.le_of_ble_eq_true rfl)) dX3_addExposure_115 ⟨Nat.le_of_ble_eq_true rfl, Nat.le_of_ble_eq_true rfl⟩) hP hD hS hA (fun u_22 H locs _ hP hD hS => ?_)
                have hP : va_P D vwCl (cws cI cL cE cP ad g n k us wb tr pr le tk gf ++ ([(q_21, .inr (0, [.int a1, .int a4, .int a5, .int a0, .int a2, .int a3, .int 0, .int 0]))] : va_W)) H := hP
                have hD : va_D A (cws cI cL cE cP ad g n k us wb tr pr le tk gf ++ ([(q_21, .inr (0, [.int a1, .int a4, .int a5, .int a0, .int a2, .int a3, .int 0, .int 0]))] : va_W)) := hD
                refine va_astq (r := (RX0, TX0, 8)) hx hb hK hP hD hS 3 2 (11 + n + k) 0 (zapL cws_3) rfl cws_new rfl (vp_in_nI hlt (by decide)) dX3_addExposure_118 (fun H locs hP hD hS => ?_)
                have hP : va_P D vwCl ((cws cI cL cE cP ad g n k us wb tr pr le tk gf ++ ([(q_21, .inr (0, [.int a1, .int a4, .int a5, .int a0, .int a2, .int a3, .int 0, .int 0]))] : va_W)).set 3 (ad 3, .inl (cE, 8, .inr (.inr (.inr (.inr (va_up (zbk ad n) (nI n).toNatClampNeg (some q_21)))))))) H := hP
                have hD : va_D A ((cws cI cL cE cP ad g n k us wb tr pr le tk gf ++ ([(q_21, .inr (0, [.int a1, .int a4, .int a5, .int a0, .int a2, .int a3, .int 0, .int 0]))] : va_W)).set 3 (ad 3, .inl (cE, 8, .inr (.inr (.inr (.inr (va_up (zbk ad n) (nI n).toNatClampNeg (some q_21)))))))) := hD
                refine lv_aload_n hx hb dX3_addExposure_119 rfl (lv_at hl 1 rfl) ?_
                refine lv_iload hx hb dX3_addExposure_120 (lv_at hl 0 rfl) ?_
                refine lv_iconst (v := 1) hx hb dX3_addExposure_122 (by decide) ?_
                refine lv_iadd hx hb dX3_addExposure_123 ?_
                rw [show ((nI n) + 1) = nI (n + 1) from nI_1 n]
                refine va_put (D := D) (ci := 3) (v := .int (nI (n + 1))) (ty := .int) (C := RX3) (T := TX3) (N := 9) hx hb hts iX3 tyX3 tyX3_ok nmX3 hown hK hP hD hS 0 (zset_ne (by decide) (zapL cws_0)) rfl 5 (by decide) (hts (.fieldLink RX3 35 "CapitalReckoner" "exposureCount" "I") (by decide +kernel)) (fun _ h9 => h9) rfl (by decide +kernel) rfl rfl (Nat.le_of_ble_eq_true rfl) dX3_addExposure_124 (fun H locs hP hD hS => ?_)
                have hP : va_P D vwCl (((cws cI cL cE cP ad g n k us wb tr pr le tk gf ++ ([(q_21, .inr (0, [.int a1, .int a4, .int a5, .int a0, .int a2, .int a3, .int 0, .int 0]))] : va_W)).set 3 (ad 3, .inl (cE, 8, .inr (.inr (.inr (.inr (va_up (zbk ad n) (nI n).toNatClampNeg (some q_21)))))))).set 0 (ad 0, .inr (3, [.ref (ad 1), .ref (ad 2), .ref (ad 3), .ref (ad 4), .ref (ad 5), .int (nI (n + 1)), .int (nI k), .int (g 2 0), .int (g 2 1)]))) H := hP
                have hD : va_D A (((cws cI cL cE cP ad g n k us wb tr pr le tk gf ++ ([(q_21, .inr (0, [.int a1, .int a4, .int a5, .int a0, .int a2, .int a3, .int 0, .int 0]))] : va_W)).set 3 (ad 3, .inl (cE, 8, .inr (.inr (.inr (.inr (va_up (zbk ad n) (nI n).toNatClampNeg (some q_21)))))))).set 0 (ad 0, .inr (3, [.ref (ad 1), .ref (ad 2), .ref (ad 3), .ref (ad 4), .ref (ad 5), .int (nI (n + 1)), .int (nI k), .int (g 2 0), .int (g 2 1)]))) := hD
                refine lv_iload hx hb dX3_addExposure_127 (lv_at hl 0 rfl) ?_
                have hT : T_addExposure n a0 a1 a2 a3 a4 a5 = 0 := by simp [T_addExposure, c_3, c_6, c_9, c_12, c_15, c_18, c_19, c_20]
                refine W.widen (k := 1) (n := 8) (Nat.le_of_ble_eq_true rfl) (Nat.le_of_ble_eq_true rfl) ?_
                exact vx_ret (ziretU (u := q_21) hx hb hr hAe ⟨hT, rfl⟩ (z_endE (Rel := fun w => va_P D vwCl w H) (fun _ _ _ => zP_swapR) hlt (h9 n (Nat.le_refl n)).1 (h9 n (Nat.le_refl n)).2 hP) (z_endE (Rel := fun w => va_D A w) (fun _ _ _ => zD_swapR) hlt (h9 n (Nat.le_refl n)).1 (h9 n (Nat.le_refl n)).2 hD) hS dX3_addExposure_129)
              · have c_20 := zn_ge hok.n c_20
                have hT : T_addExposure n a0 a1 a2 a3 a4 a5 = 3 := by simp [T_addExposure, c_3, c_6, c_9, c_12, c_15, c_18, c_19, c_20]
                exact zthrow (pc := 86) (cls := "java/lang/IllegalStateException") (text := "there are 8 exposures") (is := 99) (ic := 101) (ik := 97) hx hb hfl hown hlocks htab hml hl.1 (by decide +kernel) (by decide +kernel) (hts (.classLink RX3 97 "java/lang/IllegalStateException") (by decide +kernel)) (hts (.initialized "java/lang/IllegalStateException") (by decide +kernel)) (fun w h => hts w (List.mem_cons_of_mem _ (List.mem_append_right _ h))) (by decide +kernel) (by decide +kernel) (by decide +kernel) hX hAe hU hP hD hS dX3_addExposure_86 dX3_addExposure_89 dX3_addExposure_90 dX3_addExposure_92 dX3_addExposure_95 (Nat.le_of_ble_eq_true rfl) (Nat.le_of_ble_eq_true rfl) (Nat.le_of_ble_eq_true rfl) (Nat.le_of_ble_eq_true rfl) (Nat.le_of_ble_eq_true rfl) (Nat.le_of_ble_eq_true rfl) (Or.inr (Or.inr (⟨rfl, hT⟩)))
            · have c_18 := zb_eq c_18
              have hT : T_addExposure n a0 a1 a2 a3 a4 a5 = 2 := by simp [T_addExposure, c_3, c_6, c_9, c_12, c_15, c_18]
              exact zthrow (pc := 55) (cls := "java/lang/IllegalArgumentException") (text := "drawn, promised, currency or days is out of range") (is := 95) (ic := 67) (ik := 63) hx hb hfl hown hlocks htab hml hl.1 (by decide +kernel) (by decide +kernel) (hts (.classLink RX3 63 "java/lang/IllegalArgumentException") (by decide +kernel)) (hts (.initialized "java/lang/IllegalArgumentException") (by decide +kernel)) (fun w h => hts w (List.mem_cons_of_mem _ (List.mem_append_left _ (List.mem_append_right _ h)))) (by decide +kernel) (by decide +kernel) (by decide +kernel) hX hAe hU hP hD hS dX3_addExposure_55 dX3_addExposure_58 dX3_addExposure_59 dX3_addExposure_61 dX3_addExposure_64 (Nat.le_of_ble_eq_true rfl) (Nat.le_of_ble_eq_true rfl) (Nat.le_of_ble_eq_true rfl) (Nat.le_of_ble_eq_true rfl) (Nat.le_of_ble_eq_true rfl) (Nat.le_of_ble_eq_true rfl) (Or.inr (Or.inl ⟨rfl, hT⟩))
    · have c_6 := zb_eq c_6
      have hT : T_addExposure n a0 a1 a2 a3 a4 a5 = 1 := by simp [T_addExposure, c_3, c_6]
      exact zthrow (pc := 14) (cls := "java/lang/IndexOutOfBoundsException") (text := "no such class or party") (is := 84) (ic := 56) (ik := 52) hx hb hfl hown hlocks htab hml hl.1 (by decide +kernel) (by decide +kernel) (hts (.classLink RX3 52 "java/lang/IndexOutOfBoundsException") (by decide +kernel)) (hts (.initialized "java/lang/IndexOutOfBoundsException") (by decide +kernel)) (fun w h => hts w (List.mem_cons_of_mem _ (List.mem_append_left _ (List.mem_append_left _ (List.mem_append_right _ h))))) (by decide +kernel) (by decide +kernel) (by decide +kernel) hX hAe hU hP hD hS dX3_addExposure_14 dX3_addExposure_17 dX3_addExposure_18 dX3_addExposure_20 dX3_addExposure_23 (Nat.le_of_ble_eq_true rfl) (Nat.le_of_ble_eq_true rfl) (Nat.le_of_ble_eq_true rfl) (Nat.le_of_ble_eq_true rfl) (Nat.le_of_ble_eq_true rfl) (Nat.le_of_ble_eq_true rfl) (Or.inl ⟨rfl, hT⟩)
set_option maxHeartbeats 4000000 in
set_option maxRecDepth 100000 in
theorem zX3_addPiece (l : Launch) (hfl : l.stackTraces = false) (D : va_G) (cI cL cE cP : ClassId) (ad : Nat → Nat) (g : Nat → Nat → Int32) (n k : Nat) (us wb tr : Nat → Int32) (pr le : Nat → Int64) (tk gf : Int32) (hok : zOk g n k) (a0 a1 a2 a3 a4 : Int32) (sz : Nat) : vx_Met l yX3_addPiece wsX3_addPiece ({ frames := 6, cells := 1, slots := 6, locals := 90 }) (zPx D cI cL cE cP (cws cI cL cE cP ad g n k us wb tr pr le tk gf) sz [.ref (ad 0), .int a0, .int a1, .int a2, .int a3, .int a4]) (va_Qi (fun (r : Int32) (_ : Nat) => T_addPiece k a0 a1 a2 a3 a4 = 0 ∧ r = nI k) (fun q t => zB D (cws cI cL cE cP ad g n k us wb tr pr le tk gf) sz (cws cI cL cE cP (va_up ad (19 + k) q) (gAP g k a0 a1 a2 a3 a4) n (k + 1) us wb tr pr le tk gf) t) (va_A (cws cI cL cE cP ad g n k us wb tr pr le tk gf) sz)) (zXC D (cws cI cL cE cP ad g n k us wb tr pr le tk gf) sz (fun E => (E = "java/lang/IllegalArgumentException" ∧ T_addPiece k a0 a1 a2 a3 a4 = 1) ∨ (E = "java/lang/IllegalStateException" ∧ T_addPiece k a0 a1 a2 a3 a4 = 2))) 1 6 (va_A (cws cI cL cE cP ad g n k us wb tr pr le tk gf) sz) := by
  refine vx_ofW (cc := cX3_addPiece) (maxL := 7) (ret := (some .int)) (by decide) rfl ?_
  intro p e s m args below meth c s₁ B hml htab hv
  obtain ⟨rfl, hsz, hE, hP, hD0, hX, hU0⟩ := hv
  subst hsz
  obtain ⟨A, hAe⟩ : ∃ A, A = va_A (cws cI cL cE cP ad g n k us wb tr pr le tk gf) s.heap.size := ⟨_, rfl⟩
  have hD : va_D A (cws cI cL cE cP ad g n k us wb tr pr le tk gf) := by rw [hAe]; exact hD0.self
  have hA : ∀ q : Nat, s.heap.size ≤ q → A q := fun q h => by rw [hAe]; exact Or.inr h
  have hS : va_S A s.heap s.heap [] := va_S.rf
  have hU : zU A s s.heap := by rw [hAe]; exact hU0
  have hx := B.exec
  have hb := B.bytes
  have hr := B.returns
  have hts := atoms_spec (ws := wsX3_addPiece) B.pre
  have hown : s.vm.findClass RX3 = some m.cls := findClass_of_methodNamed B.named
  have hlocks := B.notSynchronized
  have hK := hE.1
  have iX1 : ∀ w ∈ wsX10, w ∈ wsX3_addPiece := by decide +kernel
  have iX3 : ∀ w ∈ wsX30, w ∈ wsX3_addPiece := by decide +kernel
  have hl := lv_entry ([.ref (ad 0), .int a0, .int a1, .int a2, .int a3, .int a4]) (n := 7) (Nat.le_of_ble_eq_true rfl)
  rw [lg_entry_eq]
  generalize (lg_sl ([.ref (ad 0), .int a0, .int a1, .int a2, .int a3, .int a4]) ++ List.replicate (7 - (lg_sl ([.ref (ad 0), .int a0, .int a1, .int a2, .int a3, .int a4])).length) Slot.unset).toArray = ls at hl ⊢
  have hl : lv_has ls 7 [(0, .ref (ad 0)), (1, .int a0), (2, .int a1), (3, .int a2), (4, .int a3), (5, .int a4)] := hl
  refine lv_iload_n hx hb dX3_addPiece_0 rfl (lv_at hl 1 rfl) ?_
  refine vp_callSi (va_Run.run (va_runS (As := [.int a0]) (rest := []) ⟨hx, hb, hml, hown, hts⟩ (zX3_isPieceSum l D cI cL cE cP (cws cI cL cE cP ad g n k us wb tr pr le tk gf) a0) (va_cwS 1 hts gX3_addPiece_X3_isPieceSum rfl rfl rfl (by decide +kernel) ⟨Nat.le_of_ble_eq_true rfl, Nat.le_of_ble_eq_true rfl⟩) ⟨zPr_blind, zPr_mk hE hP⟩ rfl rfl hl.1 rfl (lv_room (Nat.le_of_ble_eq_true rfl)) dX3_addPiece_1 ⟨Nat.le_of_ble_eq_true rfl, Nat.le_of_ble_eq_true rfl⟩)) (fun r_1 e_2 => ?_)
  obtain rfl := e_2
  refine lv_if_eq (tgt := 40) hx hb dX3_addPiece_4 (by decide) (fun c_3 => ?_) (fun c_3 => ?_)
  · have c_3 := zb_eq c_3
    have hT : T_addPiece k a0 a1 a2 a3 a4 = 1 := by simp [T_addPiece, c_3]
    exact zthrow (pc := 40) (cls := "java/lang/IllegalArgumentException") (text := "an argument is out of range") (is := 142) (ic := 67) (ik := 63) hx hb hfl hown hlocks htab hml hl.1 (by decide +kernel) (by decide +kernel) (hts (.classLink RX3 63 "java/lang/IllegalArgumentException") (by decide +kernel)) (hts (.initialized "java/lang/IllegalArgumentException") (by decide +kernel)) (fun w h => hts w (List.mem_cons_of_mem _ (List.mem_append_left _ (List.mem_append_right _ h)))) (by decide +kernel) (by decide +kernel) (by decide +kernel) hX hAe hU hP hD hS dX3_addPiece_40 dX3_addPiece_43 dX3_addPiece_44 dX3_addPiece_46 dX3_addPiece_49 (Nat.le_of_ble_eq_true rfl) (Nat.le_of_ble_eq_true rfl) (Nat.le_of_ble_eq_true rfl) (Nat.le_of_ble_eq_true rfl) (Nat.le_of_ble_eq_true rfl) (Nat.le_of_ble_eq_true rfl) (Or.inl ⟨rfl, hT⟩)
  · have c_3 := zb_ne c_3
    refine lv_iload_n hx hb dX3_addPiece_7 rfl (lv_at hl 2 rfl) ?_
    refine lv_iconst (v := 0) hx hb dX3_addPiece_8 (by decide) ?_
    refine lv_bipush (v := 100) hx hb dX3_addPiece_9 (by decide) ?_
    refine vp_callSi (va_Run.run (va_runS (As := [.int a1, .int 0, .int 100]) (rest := []) ⟨hx, hb, hml, hown, hts⟩ (zX3_isWithin l D cI cL cE cP (cws cI cL cE cP ad g n k us wb tr pr le tk gf) a1 0 100) (va_cwS 3 hts gX3_addPiece_X3_isWithin rfl rfl rfl (by decide +kernel) ⟨Nat.le_of_ble_eq_true rfl, Nat.le_of_ble_eq_true rfl⟩) ⟨zPr_blind, zPr_mk hE hP⟩ rfl rfl hl.1 rfl (lv_room (Nat.le_of_ble_eq_true rfl)) dX3_addPiece_11 ⟨Nat.le_of_ble_eq_true rfl, Nat.le_of_ble_eq_true rfl⟩)) (fun r_4 e_5 => ?_)
    obtain rfl := e_5
    refine lv_if_eq (tgt := 40) hx hb dX3_addPiece_14 (by decide) (fun c_6 => ?_) (fun c_6 => ?_)
    · have c_6 := zb_eq c_6
      have hT : T_addPiece k a0 a1 a2 a3 a4 = 1 := by simp [T_addPiece, c_3, c_6]
      exact zthrow (pc := 40) (cls := "java/lang/IllegalArgumentException") (text := "an argument is out of range") (is := 142) (ic := 67) (ik := 63) hx hb hfl hown hlocks htab hml hl.1 (by decide +kernel) (by decide +kernel) (hts (.classLink RX3 63 "java/lang/IllegalArgumentException") (by decide +kernel)) (hts (.initialized "java/lang/IllegalArgumentException") (by decide +kernel)) (fun w h => hts w (List.mem_cons_of_mem _ (List.mem_append_left _ (List.mem_append_right _ h)))) (by decide +kernel) (by decide +kernel) (by decide +kernel) hX hAe hU hP hD hS dX3_addPiece_40 dX3_addPiece_43 dX3_addPiece_44 dX3_addPiece_46 dX3_addPiece_49 (Nat.le_of_ble_eq_true rfl) (Nat.le_of_ble_eq_true rfl) (Nat.le_of_ble_eq_true rfl) (Nat.le_of_ble_eq_true rfl) (Nat.le_of_ble_eq_true rfl) (Nat.le_of_ble_eq_true rfl) (Or.inl ⟨rfl, hT⟩)
    · have c_6 := zb_ne c_6
      refine lv_iload_n hx hb dX3_addPiece_17 rfl (lv_at hl 3 rfl) ?_
      refine vp_callSi (va_Run.run (va_runS (As := [.int a2]) (rest := []) ⟨hx, hb, hml, hown, hts⟩ (zX3_isCurrency l D cI cL cE cP (cws cI cL cE cP ad g n k us wb tr pr le tk gf) a2) (va_cwS 1 hts gX3_addPiece_X3_isCurrency rfl rfl rfl (by decide +kernel) ⟨Nat.le_of_ble_eq_true rfl, Nat.le_of_ble_eq_true rfl⟩) ⟨zPr_blind, zPr_mk hE hP⟩ rfl rfl hl.1 rfl (lv_room (Nat.le_of_ble_eq_true rfl)) dX3_addPiece_18 ⟨Nat.le_of_ble_eq_true rfl, Nat.le_of_ble_eq_true rfl⟩)) (fun r_7 e_8 => ?_)
      obtain rfl := e_8
      refine lv_if_eq (tgt := 40) hx hb dX3_addPiece_21 (by decide) (fun c_9 => ?_) (fun c_9 => ?_)
      · have c_9 := zb_eq c_9
        have hT : T_addPiece k a0 a1 a2 a3 a4 = 1 := by simp [T_addPiece, c_3, c_6, c_9]
        exact zthrow (pc := 40) (cls := "java/lang/IllegalArgumentException") (text := "an argument is out of range") (is := 142) (ic := 67) (ik := 63) hx hb hfl hown hlocks htab hml hl.1 (by decide +kernel) (by decide +kernel) (hts (.classLink RX3 63 "java/lang/IllegalArgumentException") (by decide +kernel)) (hts (.initialized "java/lang/IllegalArgumentException") (by decide +kernel)) (fun w h => hts w (List.mem_cons_of_mem _ (List.mem_append_left _ (List.mem_append_right _ h)))) (by decide +kernel) (by decide +kernel) (by decide +kernel) hX hAe hU hP hD hS dX3_addPiece_40 dX3_addPiece_43 dX3_addPiece_44 dX3_addPiece_46 dX3_addPiece_49 (Nat.le_of_ble_eq_true rfl) (Nat.le_of_ble_eq_true rfl) (Nat.le_of_ble_eq_true rfl) (Nat.le_of_ble_eq_true rfl) (Nat.le_of_ble_eq_true rfl) (Nat.le_of_ble_eq_true rfl) (Or.inl ⟨rfl, hT⟩)
      · have c_9 := zb_ne c_9
        refine lv_iload hx hb dX3_addPiece_24 (lv_at hl 4 rfl) ?_
        refine vp_callSi (va_Run.run (va_runS (As := [.int a3]) (rest := []) ⟨hx, hb, hml, hown, hts⟩ (zX3_isDays l D cI cL cE cP (cws cI cL cE cP ad g n k us wb tr pr le tk gf) a3) (va_cwS 1 hts gX3_addPiece_X3_isDays rfl rfl rfl (by decide +kernel) ⟨Nat.le_of_ble_eq_true rfl, Nat.le_of_ble_eq_true rfl⟩) ⟨zPr_blind, zPr_mk hE hP⟩ rfl rfl hl.1 rfl (lv_room (Nat.le_of_ble_eq_true rfl)) dX3_addPiece_26 ⟨Nat.le_of_ble_eq_true rfl, Nat.le_of_ble_eq_true rfl⟩)) (fun r_10 e_11 => ?_)
        obtain rfl := e_11
        refine lv_if_eq (tgt := 40) hx hb dX3_addPiece_29 (by decide) (fun c_12 => ?_) (fun c_12 => ?_)
        · have c_12 := zb_eq c_12
          have hT : T_addPiece k a0 a1 a2 a3 a4 = 1 := by simp [T_addPiece, c_3, c_6, c_9, c_12]
          exact zthrow (pc := 40) (cls := "java/lang/IllegalArgumentException") (text := "an argument is out of range") (is := 142) (ic := 67) (ik := 63) hx hb hfl hown hlocks htab hml hl.1 (by decide +kernel) (by decide +kernel) (hts (.classLink RX3 63 "java/lang/IllegalArgumentException") (by decide +kernel)) (hts (.initialized "java/lang/IllegalArgumentException") (by decide +kernel)) (fun w h => hts w (List.mem_cons_of_mem _ (List.mem_append_left _ (List.mem_append_right _ h)))) (by decide +kernel) (by decide +kernel) (by decide +kernel) hX hAe hU hP hD hS dX3_addPiece_40 dX3_addPiece_43 dX3_addPiece_44 dX3_addPiece_46 dX3_addPiece_49 (Nat.le_of_ble_eq_true rfl) (Nat.le_of_ble_eq_true rfl) (Nat.le_of_ble_eq_true rfl) (Nat.le_of_ble_eq_true rfl) (Nat.le_of_ble_eq_true rfl) (Nat.le_of_ble_eq_true rfl) (Or.inl ⟨rfl, hT⟩)
        · have c_12 := zb_ne c_12
          refine lv_iload hx hb dX3_addPiece_32 (lv_at hl 5 rfl) ?_
          refine vp_callSi (va_Run.run (va_runS (As := [.int a4]) (rest := []) ⟨hx, hb, hml, hown, hts⟩ (zX3_isUses l D cI cL cE cP (cws cI cL cE cP ad g n k us wb tr pr le tk gf) a4) (va_cwS 1 hts gX3_addPiece_X3_isUses rfl rfl rfl (by decide +kernel) ⟨Nat.le_of_ble_eq_true rfl, Nat.le_of_ble_eq_true rfl⟩) ⟨zPr_blind, zPr_mk hE hP⟩ rfl rfl hl.1 rfl (lv_room (Nat.le_of_ble_eq_true rfl)) dX3_addPiece_34 ⟨Nat.le_of_ble_eq_true rfl, Nat.le_of_ble_eq_true rfl⟩)) (fun r_13 e_14 => ?_)
          obtain rfl := e_14
          refine lv_if_ne (tgt := 50) hx hb dX3_addPiece_37 (by decide) (fun c_15 => ?_) (fun c_15 => ?_)
          · have c_15 := zb_ne c_15
            refine lv_aload_n hx hb dX3_addPiece_50 rfl (lv_at hl 0 rfl) ?_
            refine va_get (D := D) (ci := 3) (v := .int (nI k)) (C := RX3) (T := TX3) (N := 9) hx hb hts iX3 hown hK hP 0 cws_0 rfl 6 (by decide) (hts (.fieldLink RX3 39 "CapitalReckoner" "pieceCount" "I") (by decide +kernel)) (fun _ h9 => h9) rfl dX3_addPiece_51 ?_
            refine lv_istore (lv' := [(6, .int (nI k)), (0, .ref (ad 0)), (1, .int a0), (2, .int a1), (3, .int a2), (4, .int a3), (5, .int a4)]) hx hb dX3_addPiece_54 hl (by decide) rfl (fun ls hl => ?_)
            refine lv_iload hx hb dX3_addPiece_56 (lv_at hl 0 rfl) ?_
            refine lv_if_lt (tgt := 71) hx hb dX3_addPiece_58 (by decide) (fun c_16 => absurd c_16 (nI_pos (by have := hok.k; omega))) (fun c_16 => ?_)
            refine lv_iload hx hb dX3_addPiece_61 (lv_at hl 0 rfl) ?_
            refine lv_aload_n hx hb dX3_addPiece_63 rfl (lv_at hl 1 rfl) ?_
            refine va_get (D := D) (ci := 3) (v := .ref (ad 4)) (C := RX3) (T := TX3) (N := 9) hx hb hts iX3 hown hK hP 0 cws_0 rfl 3 (by decide) (hts (.fieldLink RX3 24 "CapitalReckoner" "collateral" "[LCapitalReckoner$Piece;") (by decide +kernel)) (fun _ h9 => h9) rfl dX3_addPiece_64 ?_
            refine va_alen (v := nI 5) hx hb hK hP 4 3 cws_4 rfl (by first | rfl | decide) dX3_addPiece_67 ?_
            refine lv_icmp_lt (tgt := 81) hx hb dX3_addPiece_68 (by decide) (fun c_17 => ?_) (fun c_17 => ?_)
            · have c_17 := zk_lt hok.k c_17
              have hlt : k < 5 := by have := hok.k; omega
              refine lv_aload_n hx hb dX3_addPiece_81 rfl (lv_at hl 1 rfl) ?_
              refine va_get (D := D) (ci := 3) (v := .ref (ad 4)) (C := RX3) (T := TX3) (N := 9) hx hb hts iX3 hown hK hP 0 cws_0 rfl 3 (by decide) (hts (.fieldLink RX3 24 "CapitalReckoner" "collateral" "[LCapitalReckoner$Piece;") (by decide +kernel)) (fun _ h9 => h9) rfl dX3_addPiece_82 ?_
              refine lv_iload hx hb dX3_addPiece_85 (lv_at hl 0 rfl) ?_
              refine va_new (ci := 1) (fs := [.int 0, .int 0, .int 0, .int 0, .int 0]) (C := RX1) (T := TX1) (N := 5) hx hb hts iX1 tyX1 tyX1_ok hown (hts (.classLink RX3 22 RX1) (by decide +kernel)) (hts (.instantiable RX1 5) (by decide +kernel)) (hts (.initialized RX1) (by decide +kernel)) hK hP hD hS hA rfl (fun j hj => by rcases (show j = 0 ∨ j = 1 ∨ j = 2 ∨ j = 3 ∨ j = 4 by omega) with rfl | rfl | rfl | rfl | rfl <;> rfl) (Nat.le_of_ble_eq_true rfl) (Nat.le_of_ble_eq_true rfl) dX3_addPiece_87 (fun q_18 H hP hD hS => ?_)
              have hP : va_P D vwCl (cws cI cL cE cP ad g n k us wb tr pr le tk gf ++ ([(q_18, .inr (1, [.int 0, .int 0, .int 0, .int 0, .int 0]))] : va_W)) H := hP
              have hD : va_D A (cws cI cL cE cP ad g n k us wb tr pr le tk gf ++ ([(q_18, .inr (1, [.int 0, .int 0, .int 0, .int 0, .int 0]))] : va_W)) := hD
              refine lv_dup hx hb dX3_addPiece_90 rfl ?_
              refine lv_iload_n hx hb dX3_addPiece_91 rfl (lv_at hl 2 rfl) ?_
              refine lv_iload_n hx hb dX3_addPiece_92 rfl (lv_at hl 3 rfl) ?_
              refine lv_iload_n hx hb dX3_addPiece_93 rfl (lv_at hl 4 rfl) ?_
              refine lv_iload hx hb dX3_addPiece_94 (lv_at hl 5 rfl) ?_
              refine lv_iload hx hb dX3_addPiece_96 (lv_at hl 6 rfl) ?_
              have hPc := (zP_app (w1 := (cws cI cL cE cP ad g n k us wb tr pr le tk gf)) (w2 := [(q_18, .inr (1, [.int 0, .int 0, .int 0, .int 0, .int 0]))]) hP).2
              have hDc := (zD_app (w1 := (cws cI cL cE cP ad g n k us wb tr pr le tk gf)) (w2 := [(q_18, .inr (1, [.int 0, .int 0, .int 0, .int 0, .int 0]))]) hD).2.1
              refine zcallvJ (wr := (cws cI cL cE cP ad g n k us wb tr pr le tk gf)) (wc := [(q_18, .inr (1, [.int 0, .int 0, .int 0, .int 0, .int 0]))]) (w1 := fun (u : Unit) => [(q_18, .inr (1, [.int a1, .int a2, .int a3, .int a0, .int a4]))]) (va_runIN (As := [.int a0, .int a1, .int a2, .int a3, .int a4]) (rest := [.ref q_18, .int (nI k), .ref (ad 4)]) ⟨hx, hb, hml, hown, hts⟩ (zX1_init l D cI cL cE cP q_18 a0 a1 a2 a3 a4 H.size) ⟨va_cnB 5 hts gX3_addPiece_X1_init_n146 rfl rfl rfl (hE.2 (.methodLinkNest RX3 146 yX1_init RX3) (List.mem_of_getElem? (i := 16) rfl)) (hts (.initialized RX1) (by decide +kernel)) (by decide +kernel) ⟨Nat.le_of_ble_eq_true rfl, Nat.le_of_ble_eq_true rfl⟩, rfl, (hts (.instanceMethod yX1_init) (by decide +kernel))⟩ ⟨zPw_blind, zPw_mk hE hPc hDc⟩ rfl rfl hl.1 rfl (lv_room (Nat.le_of_ble_eq_true rfl)) dX3_addPiece_98 ⟨Nat.le_of_ble_eq_true rfl, Nat.le_of_ble_eq_true rfl⟩) hP hD hS hA (fun u_19 H locs _ hP hD hS => ?_)
              have hP : va_P D vwCl (cws cI cL cE cP ad g n k us wb tr pr le tk gf ++ ([(q_18, .inr (1, [.int a1, .int a2, .int a3, .int a0, .int a4]))] : va_W)) H := hP
              have hD : va_D A (cws cI cL cE cP ad g n k us wb tr pr le tk gf ++ ([(q_18, .inr (1, [.int a1, .int a2, .int a3, .int a0, .int a4]))] : va_W)) := hD
              refine va_astq (r := (RX1, TX1, 5)) hx hb hK hP hD hS 4 3 (11 + n + k) 1 (zapL cws_4) rfl cws_new rfl (vp_in_nI hlt (by decide)) dX3_addPiece_101 (fun H locs hP hD hS => ?_)
              have hP : va_P D vwCl ((cws cI cL cE cP ad g n k us wb tr pr le tk gf ++ ([(q_18, .inr (1, [.int a1, .int a2, .int a3, .int a0, .int a4]))] : va_W)).set 4 (ad 4, .inl (cP, 5, .inr (.inr (.inr (.inr (va_up (zcl ad k) (nI k).toNatClampNeg (some q_18)))))))) H := hP
              have hD : va_D A ((cws cI cL cE cP ad g n k us wb tr pr le tk gf ++ ([(q_18, .inr (1, [.int a1, .int a2, .int a3, .int a0, .int a4]))] : va_W)).set 4 (ad 4, .inl (cP, 5, .inr (.inr (.inr (.inr (va_up (zcl ad k) (nI k).toNatClampNeg (some q_18)))))))) := hD
              refine lv_aload_n hx hb dX3_addPiece_102 rfl (lv_at hl 1 rfl) ?_
              refine lv_iload hx hb dX3_addPiece_103 (lv_at hl 0 rfl) ?_
              refine lv_iconst (v := 1) hx hb dX3_addPiece_105 (by decide) ?_
              refine lv_iadd hx hb dX3_addPiece_106 ?_
              rw [show ((nI k) + 1) = nI (k + 1) from nI_1 k]
              refine va_put (D := D) (ci := 3) (v := .int (nI (k + 1))) (ty := .int) (C := RX3) (T := TX3) (N := 9) hx hb hts iX3 tyX3 tyX3_ok nmX3 hown hK hP hD hS 0 (zset_ne (by decide) (zapL cws_0)) rfl 6 (by decide) (hts (.fieldLink RX3 39 "CapitalReckoner" "pieceCount" "I") (by decide +kernel)) (fun _ h9 => h9) rfl (by decide +kernel) rfl rfl (Nat.le_of_ble_eq_true rfl) dX3_addPiece_107 (fun H locs hP hD hS => ?_)
              have hP : va_P D vwCl (((cws cI cL cE cP ad g n k us wb tr pr le tk gf ++ ([(q_18, .inr (1, [.int a1, .int a2, .int a3, .int a0, .int a4]))] : va_W)).set 4 (ad 4, .inl (cP, 5, .inr (.inr (.inr (.inr (va_up (zcl ad k) (nI k).toNatClampNeg (some q_18)))))))).set 0 (ad 0, .inr (3, [.ref (ad 1), .ref (ad 2), .ref (ad 3), .ref (ad 4), .ref (ad 5), .int (nI n), .int (nI (k + 1)), .int (g 2 0), .int (g 2 1)]))) H := hP
              have hD : va_D A (((cws cI cL cE cP ad g n k us wb tr pr le tk gf ++ ([(q_18, .inr (1, [.int a1, .int a2, .int a3, .int a0, .int a4]))] : va_W)).set 4 (ad 4, .inl (cP, 5, .inr (.inr (.inr (.inr (va_up (zcl ad k) (nI k).toNatClampNeg (some q_18)))))))).set 0 (ad 0, .inr (3, [.ref (ad 1), .ref (ad 2), .ref (ad 3), .ref (ad 4), .ref (ad 5), .int (nI n), .int (nI (k + 1)), .int (g 2 0), .int (g 2 1)]))) := hD
              refine lv_iload hx hb dX3_addPiece_110 (lv_at hl 0 rfl) ?_
              have hT : T_addPiece k a0 a1 a2 a3 a4 = 0 := by simp [T_addPiece, c_3, c_6, c_9, c_12, c_15, c_16, c_17]
              refine W.widen (k := 1) (n := 6) (Nat.le_of_ble_eq_true rfl) (Nat.le_of_ble_eq_true rfl) ?_
              exact vx_ret (ziretU (u := q_18) hx hb hr hAe ⟨hT, rfl⟩ (z_endP (Rel := fun w => va_P D vwCl w H) hok.n hlt hP) (z_endP (Rel := fun w => va_D A w) hok.n hlt hD) hS dX3_addPiece_112)
            · have c_17 := zk_ge hok.k c_17
              have hT : T_addPiece k a0 a1 a2 a3 a4 = 2 := by simp [T_addPiece, c_3, c_6, c_9, c_12, c_15, c_16, c_17]
              exact zthrow (pc := 71) (cls := "java/lang/IllegalStateException") (text := "there are 5 pieces") (is := 144) (ic := 101) (ik := 97) hx hb hfl hown hlocks htab hml hl.1 (by decide +kernel) (by decide +kernel) (hts (.classLink RX3 97 "java/lang/IllegalStateException") (by decide +kernel)) (hts (.initialized "java/lang/IllegalStateException") (by decide +kernel)) (fun w h => hts w (List.mem_cons_of_mem _ (List.mem_append_right _ h))) (by decide +kernel) (by decide +kernel) (by decide +kernel) hX hAe hU hP hD hS dX3_addPiece_71 dX3_addPiece_74 dX3_addPiece_75 dX3_addPiece_77 dX3_addPiece_80 (Nat.le_of_ble_eq_true rfl) (Nat.le_of_ble_eq_true rfl) (Nat.le_of_ble_eq_true rfl) (Nat.le_of_ble_eq_true rfl) (Nat.le_of_ble_eq_true rfl) (Nat.le_of_ble_eq_true rfl) (Or.inr (⟨rfl, hT⟩))
          · have c_15 := zb_eq c_15
            have hT : T_addPiece k a0 a1 a2 a3 a4 = 1 := by simp [T_addPiece, c_3, c_6, c_9, c_12, c_15]
            exact zthrow (pc := 40) (cls := "java/lang/IllegalArgumentException") (text := "an argument is out of range") (is := 142) (ic := 67) (ik := 63) hx hb hfl hown hlocks htab hml hl.1 (by decide +kernel) (by decide +kernel) (hts (.classLink RX3 63 "java/lang/IllegalArgumentException") (by decide +kernel)) (hts (.initialized "java/lang/IllegalArgumentException") (by decide +kernel)) (fun w h => hts w (List.mem_cons_of_mem _ (List.mem_append_left _ (List.mem_append_right _ h)))) (by decide +kernel) (by decide +kernel) (by decide +kernel) hX hAe hU hP hD hS dX3_addPiece_40 dX3_addPiece_43 dX3_addPiece_44 dX3_addPiece_46 dX3_addPiece_49 (Nat.le_of_ble_eq_true rfl) (Nat.le_of_ble_eq_true rfl) (Nat.le_of_ble_eq_true rfl) (Nat.le_of_ble_eq_true rfl) (Nat.le_of_ble_eq_true rfl) (Nat.le_of_ble_eq_true rfl) (Or.inl ⟨rfl, hT⟩)
