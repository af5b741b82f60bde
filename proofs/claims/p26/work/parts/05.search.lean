/-! the search: what its methods answer and leave -/
def zfl {α : Type} (f g : Nat → α) (i : Nat) : Nat → α := fun j => if j < i then f j else g j
theorem zfl_0 {α : Type} (f g : Nat → α) : zfl f g 0 = g := by funext j; simp [zfl]
theorem zfl_u (f g : Nat → Int32) (i : Nat) : upd (zfl f g i) i (f i) = zfl f g (i + 1) := by
  funext j
  unfold upd zfl
  by_cases h : j = i
  · subst h; simp
  · rw [if_neg h]
    by_cases h2 : j < i
    · rw [if_pos h2, if_pos (by omega)]
    · rw [if_neg h2, if_neg (by omega)]
theorem zfl_uL (f g : Nat → Int64) (i : Nat) : vp_updL (zfl f g i) i (f i) = zfl f g (i + 1) := by
  funext j
  unfold vp_updL zfl
  by_cases h : j = i
  · subst h; simp
  · rw [if_neg h]
    by_cases h2 : j < i
    · rw [if_pos h2, if_pos (by omega)]
    · rw [if_neg h2, if_neg (by omega)]
theorem zmin_nI {n N : Nat} (h : n ≤ N) (hN : N < 2 ^ 31) : (if nI N < nI n then nI N else nI n) = nI n := by
  rw [if_neg (nI_nlt h hN)]
theorem zat_nI {N i : Nat} {f : Nat → Int32} (hi : i < N) (hN : N < 2 ^ 31) : zat N f (nI i) = f i := by
  unfold zat
  rw [if_neg (nI_pos (by omega)), if_neg (nI_ge hi hN), nI_clamp (by omega)]
theorem zatL_nI {N i : Nat} {f : Nat → Int64} (hi : i < N) (hN : N < 2 ^ 31) : zatL N f (nI i) = f i := by
  unfold zatL
  rw [if_neg (nI_pos (by omega)), if_neg (nI_ge hi hN), nI_clamp (by omega)]
theorem zput_nI {N i : Nat} {f : Nat → Int32} {x : Int32} (hi : i < N) (hN : N < 2 ^ 31) : zput N f (nI i) x = upd f i x := by
  unfold zput
  rw [if_neg (nI_pos (by omega)), if_neg (nI_ge hi hN), nI_clamp (by omega)]
theorem zlt_nI {a b : Nat} (h : a < b) (hb : b < 2 ^ 31) : nI a < nI b := nI_lt h hb
def dgL (set dg : Int32) : Nat → Int64
  | 0 => 0
  | p + 1 => if zhas set (nI p) = true then dgL set dg p + (dg.toInt64 <<< ((4 * (4 - nI p)).toInt64 &&& 63)) else dgL set dg p
def prF (wb : Nat → Int32) (e S : Int32) : Int64 := ((zat 256 wb (e * 32 + S)).toInt64 <<< (((20 : Int32)).toInt64 &&& 63)) + dgL S e 5
def loL (pr le : Nat → Int64) (S : Nat) (u : Int32) : Nat → Int64
  | 0 => zatL 32 pr 0 + zatL 32 le (nI S)
  | d + 1 => if (nI (d + 1) &&& nI S) &&& u = nI (d + 1) then (if zatL 32 pr (nI (d + 1)) + zatL 32 le (nI S - nI (d + 1)) < loL pr le S u d then zatL 32 pr (nI (d + 1)) + zatL 32 le (nI S - nI (d + 1)) else loL pr le S u d) else loL pr le S u d
def PRO (wb : Nat → Int32) (pr : Nat → Int64) : Nat → Nat → Int64
  | 0 => pr
  | e + 1 => zfl (fun j => prF wb (nI e) (nI j)) (PRO wb pr e) 32
def LEO (us wb : Nat → Int32) (pr le : Nat → Int64) : Nat → Nat → Int64
  | 0 => zfl (fun j => dgL (nI j) 8 5) le 32
  | e + 1 => fun S => if S < 32 then loL (PRO wb pr (e + 1)) (LEO us wb pr le e) S (zat 8 us (nI e)) S else LEO us wb pr le e S
/-- the row of the least keys while one exposure comes in, from the end -/
def zdn (f g : Nat → Int64) (t : Nat) : Nat → Int64 := fun S => if 32 ≤ S + t then f S else g S
def zd (t : Nat) : Int32 := 31 - nI t
theorem zd_0 : zd 0 = nI 32 - 1 := by decide +kernel
theorem zd_nI {t : Nat} (h : t < 32) : zd t = nI (31 - t) := by
  unfold zd
  have : (31 : Int32) = nI 31 := by decide +kernel
  rw [this, pk_sub (by omega)]
theorem zd_dec (t : Nat) : zd t + Int32.ofInt (-1) = zd (t + 1) := by
  unfold zd
  rw [← nI_1]
  have : Int32.ofInt (-1) = -1 := by decide +kernel
  rw [this]
  grind
theorem zd_neg : zd 32 < 0 := by decide +kernel
theorem zd_pos {t : Nat} (h : t < 32) : ¬ zd t < 0 := by rw [zd_nI h]; exact nI_pos (by omega)
theorem loL_congr {pr le le' : Nat → Int64} {S : Nat} {u : Int32} (hS : S < 32) (h : ∀ j, j ≤ S → le j = le' j) : ∀ d, d ≤ S → loL pr le S u d = loL pr le' S u d
  | 0, _ => by unfold loL; rw [zatL_nI hS (by decide), zatL_nI hS (by decide), h S (Nat.le_refl _)]
  | d + 1, hd => by
    unfold loL
    rw [loL_congr hS h d (by omega), pk_sub hd, zatL_nI (f := le) (by omega) (by decide), zatL_nI (f := le') (by omega) (by decide), h _ (by omega)]
theorem zdn_0 (f g : Nat → Int64) (h : ∀ S, 32 ≤ S → f S = g S) : zdn f g 0 = g := by
  funext S; unfold zdn; by_cases hs : 32 ≤ S + 0
  · rw [if_pos hs, h S hs]
  · rw [if_neg hs]
theorem zdn_32 (f g : Nat → Int64) : zdn f g 32 = f := by
  funext S; unfold zdn; rw [if_pos (by omega)]
theorem zdn_u (f g : Nat → Int64) {t : Nat} (ht : t < 32) {x : Int64} (hx : x = f (31 - t)) : vp_updL (zdn f g t) (31 - t) x = zdn f g (t + 1) := by
  funext S; unfold vp_updL zdn
  by_cases h : S = 31 - t
  · subst h; rw [if_pos rfl, if_pos (by omega), hx]
  · rw [if_neg h]
    by_cases h2 : 32 ≤ S + t
    · rw [if_pos h2, if_pos (by omega)]
    · rw [if_neg h2, if_neg (by omega)]
theorem LEO_step {us wb : Nat → Int32} {pr le : Nat → Int64} {e t : Nat} (ht : t < 32) : loL (PRO wb pr (e + 1)) (zdn (LEO us wb pr le (e + 1)) (LEO us wb pr le e) t) (31 - t) (zat 8 us (nI e)) (31 - t) = LEO us wb pr le (e + 1) (31 - t) := by
  rw [loL_congr (le' := LEO us wb pr le e) (by omega) (fun j hj => by unfold zdn; rw [if_neg (by omega)]) _ (Nat.le_refl _)]
  conv => rhs; unfold LEO
  rw [if_pos (by omega)]
def bkE (le : Nat → Int64) (k : Nat) : Int64 := zatL 32 le (((1 : Int32) <<< (nI k &&& 31)) - 1)
def bwE (le : Nat → Int64) (k : Nat) : Int32 := (bkE le k >>> (((20 : Int32)).toInt64 &&& 63)).toInt32
def woE (le : Nat → Int64) (k : Nat) (p : Int32) : Int32 := (zatL 32 le ((((1 : Int32) <<< (nI k &&& 31)) - 1) &&& (((1 : Int32) <<< (p &&& 31)) ^^^ (-1))) >>> (((20 : Int32)).toInt64 &&& 63)).toInt32
def tkE (le : Nat → Int64) (k : Nat) (p : Int32) : Int32 := if (bkE le k >>> ((4 * (4 - p)).toInt64 &&& 63)).toInt32 &&& 15 = 8 then -1 else (bkE le k >>> ((4 * (4 - p)).toInt64 &&& 63)).toInt32 &&& 15
def gsL (le : Nat → Int64) (k : Nat) (e : Int32) : Nat → Int32
  | 0 => 0
  | p + 1 => if tkE le k (nI p) = e then gsL le k e p ||| ((1 : Int32) <<< (nI p &&& 31)) else gsL le k e p
def trL (tr : Nat → Int32) : Nat → Nat → Int32
  | 0 => tr
  | e + 1 => zput 8 (trL tr e) (nI e) 0
def twL (wb : Nat → Int32) : Nat → Int32
  | 0 => 0
  | e + 1 => twL wb e + zat 256 wb (nI e * (32 : Int32) + 0)
/-- the least over the exposures that come in, from a first answer -/
def zfm (c : Nat → Bool) (f : Nat → Int32) (b : Int32) : Nat → Int32
  | 0 => b
  | e + 1 => if c e = true then (if f e < zfm c f b e then f e else zfm c f b e) else zfm c f b e
def tfF (us wb : Nat → Int32) (n : Nat) : Nat → Nat → (Nat → Int32) → Int32 → Int32
  | 0, _, _, s => s
  | d + 1, p, tr, s => zfm (fun e => zhas (zat 8 us (nI e)) (nI p)) (fun e => tfF us wb n d (p + 1) (zput 8 tr (nI e) (zat 8 tr (nI e) ||| ((1 : Int32) <<< (nI p &&& 31)))) (s + (zat 256 wb (nI e * (32 : Int32) + (zat 8 tr (nI e) ||| ((1 : Int32) <<< (nI p &&& 31)))) - zat 256 wb (nI e * (32 : Int32) + zat 8 tr (nI e))))) (tfF us wb n d (p + 1) tr s) n
theorem zput_back {N e : Nat} {f : Nat → Int32} {x : Int32} (he : e < N) (hN : N < 2 ^ 31) : zput N (zput N f (nI e) x) (nI e) (zat N f (nI e)) = f := by
  rw [zput_nI he hN, zput_nI he hN, zat_nI he hN]
  funext j; unfold upd; by_cases h : j = e
  · subst h; simp
  · simp [h]

set_option maxHeartbeats 4000000 in
set_option maxRecDepth 100000 in
theorem zX2_begin (l : Launch) (D : va_G) (cI cL cE cP : ClassId) (ad : Nat → Nat) (g : Nat → Nat → Int32) (n k : Nat) (us wb tr : Nat → Int32) (pr le : Nat → Int64) (tk gf : Int32) (hok : zOk g n k) (sz : Nat) : Met l yX2_begin wsX2_begin ({ frames := 1, cells := 0, slots := 0, locals := 24 }) (zPw D cI cL cE cP (cws cI cL cE cP ad g n k us wb tr pr le tk gf) sz [.ref (ad 5), .int (nI n), .int (nI k)]) (zQv D (cws cI cL cE cP ad g n k us wb tr pr le tk gf) sz (cws cI cL cE cP ad g n k us wb tr pr le (nI n) (nI k))) 0 0 (va_A (cws cI cL cE cP ad g n k us wb tr pr le tk gf) sz) := by
  refine Met.ofW (cc := cX2_begin) (maxL := 3) (ret := none) (by decide) rfl ?_
  intro p e s m args below meth c s₁ B hml hv
  obtain ⟨rfl, hsz, hE, hP, hD0⟩ := hv
  subst hsz
  obtain ⟨A, hAe⟩ : ∃ A, A = va_A (cws cI cL cE cP ad g n k us wb tr pr le tk gf) s.heap.size := ⟨_, rfl⟩
  have hD : va_D A (cws cI cL cE cP ad g n k us wb tr pr le tk gf) := by rw [hAe]; exact hD0.self
  have hA : ∀ q : Nat, s.heap.size ≤ q → A q := fun q h => by rw [hAe]; exact Or.inr h
  have hS : va_S A s.heap s.heap [] := va_S.rf
  have hx := B.exec
  have hb := B.bytes
  have hr := B.returns
  have hts := atoms_spec (ws := wsX2_begin) B.pre
  have hown : s.vm.findClass RX2 = some m.cls := findClass_of_methodNamed B.named
  have hlocks := B.notSynchronized
  have hK := hE.1
  have iX2 : ∀ w ∈ wsX20, w ∈ wsX2_begin := by decide +kernel
  have hl := lv_entry ([.ref (ad 5), .int (nI n), .int (nI k)]) (n := 3) (Nat.le_of_ble_eq_true rfl)
  rw [lg_entry_eq]
  generalize (lg_sl ([.ref (ad 5), .int (nI n), .int (nI k)]) ++ List.replicate (3 - (lg_sl ([.ref (ad 5), .int (nI n), .int (nI k)])).length) Slot.unset).toArray = ls at hl ⊢
  have hl : lv_has ls 3 [(0, .ref (ad 5)), (1, .int (nI n)), (2, .int (nI k))] := hl
  refine lv_aload_n hx hb dX2_begin_0 rfl (lv_at hl 0 rfl) ?_
  refine lv_iload_n hx hb dX2_begin_1 rfl (lv_at hl 1 rfl) ?_
  refine lv_bipush (v := 8) hx hb dX2_begin_2 (by decide) ?_
  refine va_mmin hx hb (hml.trans hl.1.symm) hown (hts (.methodLink RX2 28 Lib.Math.min.name) (by decide +kernel)) (hts (.static Lib.Math.min.name) (by decide +kernel)) (hts (.initialized "java/lang/Math") (by decide +kernel)) (hts (.code Lib.Math.min.name Lib.Math.min.code 2 (some .int)) (by decide +kernel)) (Nat.le_of_ble_eq_true rfl) (Nat.le_of_ble_eq_true rfl) (Nat.zero_le _) (Nat.zero_le _) dX2_begin_4 ?_
  refine va_put (D := D) (ci := 2) (v := .int (if 8 < nI n then 8 else nI n)) (ty := .int) (C := RX2) (T := TX2) (N := 7) hx hb hts iX2 tyX2 tyX2_ok nmX2 hown hK hP hD hS 5 cws_5 rfl 5 (by decide) (hts (.fieldLink RX2 34 "CapitalReckoner$Search" "takers" "I") (by decide +kernel)) (fun _ h9 => h9) rfl (by decide +kernel) rfl rfl (Nat.le_of_ble_eq_true rfl) dX2_begin_7 (fun H locs hP hD hS => ?_)
  have hP : va_P D vwCl (cws cI cL cE cP ad g n k us wb tr pr le (if 8 < nI n then 8 else nI n) gf) H := zP_re hP (cws_s5a).symm
  have hD : va_D A (cws cI cL cE cP ad g n k us wb tr pr le (if 8 < nI n then 8 else nI n) gf) := zD_re hD (cws_s5a).symm
  refine lv_aload_n hx hb dX2_begin_10 rfl (lv_at hl 0 rfl) ?_
  refine lv_iload_n hx hb dX2_begin_11 rfl (lv_at hl 2 rfl) ?_
  refine lv_iconst (v := 5) hx hb dX2_begin_12 (by decide) ?_
  refine va_mmin hx hb (hml.trans hl.1.symm) hown (hts (.methodLink RX2 28 Lib.Math.min.name) (by decide +kernel)) (hts (.static Lib.Math.min.name) (by decide +kernel)) (hts (.initialized "java/lang/Math") (by decide +kernel)) (hts (.code Lib.Math.min.name Lib.Math.min.code 2 (some .int)) (by decide +kernel)) (Nat.le_of_ble_eq_true rfl) (Nat.le_of_ble_eq_true rfl) (Nat.zero_le _) (Nat.zero_le _) dX2_begin_13 ?_
  refine va_put (D := D) (ci := 2) (v := .int (if 5 < nI k then 5 else nI k)) (ty := .int) (C := RX2) (T := TX2) (N := 7) hx hb hts iX2 tyX2 tyX2_ok nmX2 hown hK hP hD hS 5 cws_5 rfl 6 (by decide) (hts (.fieldLink RX2 38 "CapitalReckoner$Search" "gifts" "I") (by decide +kernel)) (fun _ h9 => h9) rfl (by decide +kernel) rfl rfl (Nat.le_of_ble_eq_true rfl) dX2_begin_16 (fun H locs hP hD hS => ?_)
  have hP : va_P D vwCl (cws cI cL cE cP ad g n k us wb tr pr le (if 8 < nI n then 8 else nI n) (if 5 < nI k then 5 else nI k)) H := zP_re hP (cws_s5b).symm
  have hD : va_D A (cws cI cL cE cP ad g n k us wb tr pr le (if 8 < nI n then 8 else nI n) (if 5 < nI k then 5 else nI k)) := zD_re hD (cws_s5b).symm
  exact zvret hx hb hr hAe (zP_re hP (by rw [show (if (8 : Int32) < nI n then 8 else nI n) = nI n from zmin_nI (N := 8) hok.n (by decide), show (if (5 : Int32) < nI k then 5 else nI k) = nI k from zmin_nI (N := 5) hok.k (by decide)])) (zD_re hD (by rw [show (if (8 : Int32) < nI n then 8 else nI n) = nI n from zmin_nI (N := 8) hok.n (by decide), show (if (5 : Int32) < nI k then 5 else nI k) = nI k from zmin_nI (N := 5) hok.k (by decide)])) hS dX2_begin_19
set_option maxHeartbeats 4000000 in
set_option maxRecDepth 100000 in
theorem zX2_setUsable (l : Launch) (D : va_G) (cI cL cE cP : ClassId) (ad : Nat → Nat) (g : Nat → Nat → Int32) (n k : Nat) (us wb tr : Nat → Int32) (pr le : Nat → Int64) (tk gf : Int32) (hok : zOk g n k) (e0 v0 : Int32) (sz : Nat) : Met l yX2_setUsable wsX2_setUsable ({ frames := 1, cells := 0, slots := 0, locals := 22 }) (zPw D cI cL cE cP (cws cI cL cE cP ad g n k us wb tr pr le tk gf) sz [.ref (ad 5), .int e0, .int v0]) (zQv D (cws cI cL cE cP ad g n k us wb tr pr le tk gf) sz (cws cI cL cE cP ad g n k (zput 8 us e0 v0) wb tr pr le tk gf)) 0 0 (va_A (cws cI cL cE cP ad g n k us wb tr pr le tk gf) sz) := by
  refine Met.ofW (cc := cX2_setUsable) (maxL := 3) (ret := none) (by decide) rfl ?_
  intro p e s m args below meth c s₁ B hml hv
  obtain ⟨rfl, hsz, hE, hP, hD0⟩ := hv
  subst hsz
  obtain ⟨A, hAe⟩ : ∃ A, A = va_A (cws cI cL cE cP ad g n k us wb tr pr le tk gf) s.heap.size := ⟨_, rfl⟩
  have hD : va_D A (cws cI cL cE cP ad g n k us wb tr pr le tk gf) := by rw [hAe]; exact hD0.self
  have hA : ∀ q : Nat, s.heap.size ≤ q → A q := fun q h => by rw [hAe]; exact Or.inr h
  have hS : va_S A s.heap s.heap [] := va_S.rf
  have hx := B.exec
  have hb := B.bytes
  have hr := B.returns
  have hts := atoms_spec (ws := wsX2_setUsable) B.pre
  have hown : s.vm.findClass RX2 = some m.cls := findClass_of_methodNamed B.named
  have hlocks := B.notSynchronized
  have hK := hE.1
  have iX2 : ∀ w ∈ wsX20, w ∈ wsX2_setUsable := by decide +kernel
  have hl := lv_entry ([.ref (ad 5), .int e0, .int v0]) (n := 3) (Nat.le_of_ble_eq_true rfl)
  rw [lg_entry_eq]
  generalize (lg_sl ([.ref (ad 5), .int e0, .int v0]) ++ List.replicate (3 - (lg_sl ([.ref (ad 5), .int e0, .int v0])).length) Slot.unset).toArray = ls at hl ⊢
  have hl : lv_has ls 3 [(0, .ref (ad 5)), (1, .int e0), (2, .int v0)] := hl
  refine lv_aload_n hx hb dX2_setUsable_0 rfl (lv_at hl 0 rfl) ?_
  refine va_get (D := D) (ci := 2) (v := .ref (ad 6)) (C := RX2) (T := TX2) (N := 7) hx hb hts iX2 hown hK hP 5 cws_5 rfl 0 (by decide) (hts (.fieldLink RX2 11 "CapitalReckoner$Search" "usable" "[I") (by decide +kernel)) (fun _ h9 => h9) rfl dX2_setUsable_1 ?_
  refine lv_iload_n hx hb dX2_setUsable_4 rfl (lv_at hl 1 rfl) ?_
  refine lv_iload_n hx hb dX2_setUsable_5 rfl (lv_at hl 2 rfl) ?_
  refine zcallv (va_runSN (As := [.ref (ad 6), .int e0, .int v0]) (rest := []) ⟨hx, hb, hml, hown, hts⟩ (zX3_put l D cI cL cE cP (cws cI cL cE cP ad g n k us wb tr pr le tk gf) 6 (ad 6) 8 (us) (by decide) cws_6 (e0) (v0) s.heap.size) ⟨va_cnB 3 hts gX2_setUsable_X3_put_n41 rfl rfl rfl (hE.2 (.methodLinkNest RX2 41 yX3_put RX3) (List.mem_of_getElem? (i := 3) rfl)) (hts (.initialized RX3) (by decide +kernel)) (by decide +kernel) ⟨Nat.le_of_ble_eq_true rfl, Nat.le_of_ble_eq_true rfl⟩, (hts (.static yX3_put) (by decide +kernel)), trivial⟩ ⟨zPw_blind, zPw_mk hE hP hD⟩ rfl rfl hl.1 rfl (lv_room (Nat.le_of_ble_eq_true rfl)) dX2_setUsable_6 ⟨Nat.le_of_ble_eq_true rfl, Nat.le_of_ble_eq_true rfl⟩) hD hS hA (fun H locs hP hD hS => ?_)
  have hP : va_P D vwCl (cws cI cL cE cP ad g n k (zput 8 us e0 v0) wb tr pr le tk gf) H := zP_re hP (cws_s6).symm
  have hD : va_D A (cws cI cL cE cP ad g n k (zput 8 us e0 v0) wb tr pr le tk gf) := zD_re hD (cws_s6).symm
  exact zvret hx hb hr hAe (zP_re hP (rfl)) (zD_re hD (rfl)) hS dX2_setUsable_9
set_option maxHeartbeats 4000000 in
set_option maxRecDepth 100000 in
theorem zX2_setWeighted (l : Launch) (D : va_G) (cI cL cE cP : ClassId) (ad : Nat → Nat) (g : Nat → Nat → Int32) (n k : Nat) (us wb tr : Nat → Int32) (pr le : Nat → Int64) (tk gf : Int32) (hok : zOk g n k) (e0 s0 v0 : Int32) (sz : Nat) : Met l yX2_setWeighted wsX2_setWeighted ({ frames := 1, cells := 0, slots := 0, locals := 22 }) (zPw D cI cL cE cP (cws cI cL cE cP ad g n k us wb tr pr le tk gf) sz [.ref (ad 5), .int e0, .int s0, .int v0]) (zQv D (cws cI cL cE cP ad g n k us wb tr pr le tk gf) sz (cws cI cL cE cP ad g n k us (zput 256 wb ((e0 * 32) + s0) v0) tr pr le tk gf)) 0 0 (va_A (cws cI cL cE cP ad g n k us wb tr pr le tk gf) sz) := by
  refine Met.ofW (cc := cX2_setWeighted) (maxL := 4) (ret := none) (by decide) rfl ?_
  intro p e s m args below meth c s₁ B hml hv
  obtain ⟨rfl, hsz, hE, hP, hD0⟩ := hv
  subst hsz
  obtain ⟨A, hAe⟩ : ∃ A, A = va_A (cws cI cL cE cP ad g n k us wb tr pr le tk gf) s.heap.size := ⟨_, rfl⟩
  have hD : va_D A (cws cI cL cE cP ad g n k us wb tr pr le tk gf) := by rw [hAe]; exact hD0.self
  have hA : ∀ q : Nat, s.heap.size ≤ q → A q := fun q h => by rw [hAe]; exact Or.inr h
  have hS : va_S A s.heap s.heap [] := va_S.rf
  have hx := B.exec
  have hb := B.bytes
  have hr := B.returns
  have hts := atoms_spec (ws := wsX2_setWeighted) B.pre
  have hown : s.vm.findClass RX2 = some m.cls := findClass_of_methodNamed B.named
  have hlocks := B.notSynchronized
  have hK := hE.1
  have iX2 : ∀ w ∈ wsX20, w ∈ wsX2_setWeighted := by decide +kernel
  have hl := lv_entry ([.ref (ad 5), .int e0, .int s0, .int v0]) (n := 4) (Nat.le_of_ble_eq_true rfl)
  rw [lg_entry_eq]
  generalize (lg_sl ([.ref (ad 5), .int e0, .int s0, .int v0]) ++ List.replicate (4 - (lg_sl ([.ref (ad 5), .int e0, .int s0, .int v0])).length) Slot.unset).toArray = ls at hl ⊢
  have hl : lv_has ls 4 [(0, .ref (ad 5)), (1, .int e0), (2, .int s0), (3, .int v0)] := hl
  refine lv_aload_n hx hb dX2_setWeighted_0 rfl (lv_at hl 0 rfl) ?_
  refine va_get (D := D) (ci := 2) (v := .ref (ad 7)) (C := RX2) (T := TX2) (N := 7) hx hb hts iX2 hown hK hP 5 cws_5 rfl 1 (by decide) (hts (.fieldLink RX2 15 "CapitalReckoner$Search" "weightedBySet" "[I") (by decide +kernel)) (fun _ h9 => h9) rfl dX2_setWeighted_1 ?_
  refine lv_iload_n hx hb dX2_setWeighted_4 rfl (lv_at hl 1 rfl) ?_
  refine lv_bipush (v := 32) hx hb dX2_setWeighted_5 (by decide) ?_
  refine lv_imul hx hb dX2_setWeighted_7 ?_
  refine lv_iload_n hx hb dX2_setWeighted_8 rfl (lv_at hl 2 rfl) ?_
  refine lv_iadd hx hb dX2_setWeighted_9 ?_
  refine lv_iload_n hx hb dX2_setWeighted_10 rfl (lv_at hl 3 rfl) ?_
  refine zcallv (va_runSN (As := [.ref (ad 7), .int ((e0 * 32) + s0), .int v0]) (rest := []) ⟨hx, hb, hml, hown, hts⟩ (zX3_put l D cI cL cE cP (cws cI cL cE cP ad g n k us wb tr pr le tk gf) 7 (ad 7) 256 (wb) (by decide) cws_7 ((e0 * 32) + s0) (v0) s.heap.size) ⟨va_cnB 3 hts gX2_setWeighted_X3_put_n41 rfl rfl rfl (hE.2 (.methodLinkNest RX2 41 yX3_put RX3) (List.mem_of_getElem? (i := 3) rfl)) (hts (.initialized RX3) (by decide +kernel)) (by decide +kernel) ⟨Nat.le_of_ble_eq_true rfl, Nat.le_of_ble_eq_true rfl⟩, (hts (.static yX3_put) (by decide +kernel)), trivial⟩ ⟨zPw_blind, zPw_mk hE hP hD⟩ rfl rfl hl.1 rfl (lv_room (Nat.le_of_ble_eq_true rfl)) dX2_setWeighted_11 ⟨Nat.le_of_ble_eq_true rfl, Nat.le_of_ble_eq_true rfl⟩) hD hS hA (fun H locs hP hD hS => ?_)
  have hP : va_P D vwCl (cws cI cL cE cP ad g n k us (zput 256 wb ((e0 * 32) + s0) v0) tr pr le tk gf) H := zP_re hP (cws_s7).symm
  have hD : va_D A (cws cI cL cE cP ad g n k us (zput 256 wb ((e0 * 32) + s0) v0) tr pr le tk gf) := zD_re hD (cws_s7).symm
  exact zvret hx hb hr hAe (zP_re hP (rfl)) (zD_re hD (rfl)) hS dX2_setWeighted_14
set_option maxHeartbeats 4000000 in
set_option maxRecDepth 100000 in
theorem zX2_weightedWith (l : Launch) (D : va_G) (cI cL cE cP : ClassId) (ad : Nat → Nat) (g : Nat → Nat → Int32) (n k : Nat) (us wb tr : Nat → Int32) (pr le : Nat → Int64) (tk gf : Int32) (hok : zOk g n k) (e0 s0 : Int32) : Met l yX2_weightedWith wsX2_weightedWith ({ frames := 1, cells := 0, slots := 0, locals := 21 }) (zPr D cI cL cE cP (cws cI cL cE cP ad g n k us wb tr pr le tk gf) [.ref (ad 5), .int e0, .int s0]) (vp_Si (fun r : Int32 => r = zat 256 wb (e0 * 32 + s0))) 0 0 (fun _ => False) := by
  refine Met.ofW (cc := cX2_weightedWith) (maxL := 3) (ret := (some .int)) (by decide) rfl ?_
  intro p e s m args below meth c s₁ B hml hv
  obtain ⟨rfl, hE, hP⟩ := hv
  have hx := B.exec
  have hb := B.bytes
  have hr := B.returns
  have hts := atoms_spec (ws := wsX2_weightedWith) B.pre
  have hown : s.vm.findClass RX2 = some m.cls := findClass_of_methodNamed B.named
  have hlocks := B.notSynchronized
  have hK := hE.1
  have iX2 : ∀ w ∈ wsX20, w ∈ wsX2_weightedWith := by decide +kernel
  have hl := lv_entry ([.ref (ad 5), .int e0, .int s0]) (n := 3) (Nat.le_of_ble_eq_true rfl)
  rw [lg_entry_eq]
  generalize (lg_sl ([.ref (ad 5), .int e0, .int s0]) ++ List.replicate (3 - (lg_sl ([.ref (ad 5), .int e0, .int s0])).length) Slot.unset).toArray = ls at hl ⊢
  have hl : lv_has ls 3 [(0, .ref (ad 5)), (1, .int e0), (2, .int s0)] := hl
  refine lv_aload_n hx hb dX2_weightedWith_0 rfl (lv_at hl 0 rfl) ?_
  refine va_get (D := D) (ci := 2) (v := .ref (ad 7)) (C := RX2) (T := TX2) (N := 7) hx hb hts iX2 hown hK hP 5 cws_5 rfl 1 (by decide) (hts (.fieldLink RX2 15 "CapitalReckoner$Search" "weightedBySet" "[I") (by decide +kernel)) (fun _ h9 => h9) rfl dX2_weightedWith_1 ?_
  refine lv_iload_n hx hb dX2_weightedWith_4 rfl (lv_at hl 1 rfl) ?_
  refine lv_bipush (v := 32) hx hb dX2_weightedWith_5 (by decide) ?_
  refine lv_imul hx hb dX2_weightedWith_7 ?_
  refine lv_iload_n hx hb dX2_weightedWith_8 rfl (lv_at hl 2 rfl) ?_
  refine lv_iadd hx hb dX2_weightedWith_9 ?_
  refine vp_callSi (va_Run.run (va_runSN (As := [.ref (ad 7), .int ((e0 * 32) + s0)]) (rest := []) ⟨hx, hb, hml, hown, hts⟩ (zX3_at l D cI cL cE cP (cws cI cL cE cP ad g n k us wb tr pr le tk gf) 7 (ad 7) 256 (wb) (by decide) cws_7 ((e0 * 32) + s0)) ⟨va_cnB 2 hts gX2_weightedWith_X3_at_n45 rfl rfl rfl (hE.2 (.methodLinkNest RX2 45 yX3_at RX3) (List.mem_of_getElem? (i := 11) rfl)) (hts (.initialized RX3) (by decide +kernel)) (by decide +kernel) ⟨Nat.le_of_ble_eq_true rfl, Nat.le_of_ble_eq_true rfl⟩, (hts (.static yX3_at) (by decide +kernel)), trivial⟩ ⟨zPr_blind, zPr_mk hE hP⟩ rfl rfl hl.1 rfl (lv_room (Nat.le_of_ble_eq_true rfl)) dX2_weightedWith_10 ⟨Nat.le_of_ble_eq_true rfl, Nat.le_of_ble_eq_true rfl⟩)) (fun r_1 e_2 => ?_)
  obtain rfl := e_2
  exact W.iret (v := zat 256 wb ((e0 * 32) + s0)) hx hb hr (fun t ht hW => ⟨_, rfl, (by first | rfl | (simp only []; done) | (simp only []; rfl) | (simp []; done)), ht⟩) (fun _ h => nomatch h) dX2_weightedWith_13
set_option maxHeartbeats 4000000 in
set_option maxRecDepth 100000 in
theorem zX2_digitShift (l : Launch) (D : va_G) (cI cL cE cP : ClassId) (ws : va_W) (p0 : Int32) : Met l yX2_digitShift wsX2_digitShift ({ frames := 0, cells := 0, slots := 0, locals := 0 }) (zPr D cI cL cE cP (ws) [.int p0]) (vp_Si (fun r : Int32 => r = 4 * (4 - p0))) 0 0 (fun _ => False) := by
  refine Met.ofW (cc := cX2_digitShift) (maxL := 1) (ret := (some .int)) (by decide) rfl ?_
  intro p e s m args below meth c s₁ B hml hv
  obtain ⟨rfl, hE, hP⟩ := hv
  have hx := B.exec
  have hb := B.bytes
  have hr := B.returns
  have hts := atoms_spec (ws := wsX2_digitShift) B.pre
  have hown : s.vm.findClass RX2 = some m.cls := findClass_of_methodNamed B.named
  have hlocks := B.notSynchronized
  have hK := hE.1
  have hl := lv_entry ([.int p0]) (n := 1) (Nat.le_of_ble_eq_true rfl)
  rw [lg_entry_eq]
  generalize (lg_sl ([.int p0]) ++ List.replicate (1 - (lg_sl ([.int p0])).length) Slot.unset).toArray = ls at hl ⊢
  have hl : lv_has ls 1 [(0, .int p0)] := hl
  refine lv_iconst (v := 4) hx hb dX2_digitShift_0 (by decide) ?_
  refine lv_iconst (v := 4) hx hb dX2_digitShift_1 (by decide) ?_
  refine lv_iload_n hx hb dX2_digitShift_2 rfl (lv_at hl 0 rfl) ?_
  refine lv_isub hx hb dX2_digitShift_3 ?_
  refine lv_imul hx hb dX2_digitShift_4 ?_
  exact W.iret (v := 4 * (4 - p0)) hx hb hr (fun t ht hW => ⟨_, rfl, (by first | rfl | (simp only []; done) | (simp only []; rfl) | (simp []; done)), ht⟩) (fun _ h => nomatch h) dX2_digitShift_5
set_option maxHeartbeats 4000000 in
set_option maxRecDepth 100000 in
theorem zX2_digitsOf (l : Launch) (D : va_G) (cI cL cE cP : ClassId) (ws : va_W) (a0 b0 : Int32) : Met l yX2_digitsOf wsX2_digitsOf ({ frames := 1, cells := 0, slots := 0, locals := 21 }) (zPr D cI cL cE cP (ws) [.int a0, .int b0]) (vp_Sl (fun r : Int64 => r = dgL a0 b0 5)) 0 0 (fun _ => False) := by
  refine Met.ofW (cc := cX2_digitsOf) (maxL := 5) (ret := (some .long)) (by decide) rfl ?_
  intro p e s m args below meth c s₁ B hml hv
  obtain ⟨rfl, hE, hP⟩ := hv
  have hx := B.exec
  have hb := B.bytes
  have hr := B.returns
  have hts := atoms_spec (ws := wsX2_digitsOf) B.pre
  have hown : s.vm.findClass RX2 = some m.cls := findClass_of_methodNamed B.named
  have hlocks := B.notSynchronized
  have hK := hE.1
  have hl := lv_entry ([.int a0, .int b0]) (n := 5) (Nat.le_of_ble_eq_true rfl)
  rw [lg_entry_eq]
  generalize (lg_sl ([.int a0, .int b0]) ++ List.replicate (5 - (lg_sl ([.int a0, .int b0])).length) Slot.unset).toArray = ls at hl ⊢
  have hl : lv_has ls 5 [(0, .int a0), (1, .int b0)] := hl
  refine lv_lconst (v := 0) hx hb dX2_digitsOf_0 (by decide) ?_
  refine lv_lstore_n (lv' := [(2, .long 0), (0, .int a0), (1, .int b0)]) hx hb dX2_digitsOf_1 rfl hl (by decide) rfl (fun ls hl => ?_)
  refine lv_iconst (v := 0) hx hb dX2_digitsOf_2 (by decide) ?_
  refine lv_istore (lv' := [(4, .int 0), (2, .long 0), (0, .int a0), (1, .int b0)]) hx hb dX2_digitsOf_3 hl (by decide) rfl (fun ls hl => ?_)
  refine zloop (nL := 5) (lv := fun i => [(0, .int a0), (1, .int b0), (2, .long (dgL a0 b0 (i))), (4, .int (nI (i)))]) (n := 5) (lv_re (lv_sub hl [2, 3, 1, 0] rfl) (by first | rfl | (simp only [dgL, nI_0]; done) | (simp only [dgL, nI_0]; rfl) | (simp [dgL, nI_0]; done))) (fun ls hl => ?_) (fun i hi ih_5 ls hl => ?_)
  · have hl : lv_has ls 5 [(0, .int a0), (1, .int b0), (2, .long (dgL a0 b0 (5))), (4, .int (nI (5)))] := hl
    refine lv_iload hx hb dX2_digitsOf_5 (lv_at hl 3 rfl) ?_
    refine lv_iconst (v := 5) hx hb dX2_digitsOf_7 (by decide) ?_
    refine lv_icmp_ge (tgt := 37) hx hb dX2_digitsOf_8 (by decide) (fun c_1 => ?_) (fun c_1 => absurd (zle_refl (nI 5)) c_1)
    refine lv_lload_n hx hb dX2_digitsOf_37 rfl (lv_at hl 2 rfl) ?_
    exact W.lret (v := dgL a0 b0 (5)) hx hb hr (fun t ht hW => ⟨_, rfl, (by first | rfl | (simp only [dgL, c_1]; done) | (simp only [dgL, c_1]; rfl) | (simp [dgL, c_1]; done)), ht⟩) (fun _ h => nomatch h) dX2_digitsOf_38
  · have hl : lv_has ls 5 [(0, .int a0), (1, .int b0), (2, .long (dgL a0 b0 (i))), (4, .int (nI (i)))] := hl
    refine lv_iload hx hb dX2_digitsOf_5 (lv_at hl 3 rfl) ?_
    refine lv_iconst (v := 5) hx hb dX2_digitsOf_7 (by decide) ?_
    refine lv_icmp_ge (tgt := 37) hx hb dX2_digitsOf_8 (by decide) (fun c_2 => absurd c_2 (nI_ge hi (by decide))) (fun c_2 => ?_)
    refine lv_iload_n hx hb dX2_digitsOf_11 rfl (lv_at hl 0 rfl) ?_
    refine lv_iload hx hb dX2_digitsOf_12 (lv_at hl 3 rfl) ?_
    refine vp_callSi (va_Run.run (va_runSN (As := [.int a0, .int (nI (i))]) (rest := []) ⟨hx, hb, hml, hown, hts⟩ (zX3_has l D cI cL cE cP (ws) a0 (nI (i))) ⟨va_cnB 2 hts gX2_digitsOf_X3_has_n49 rfl rfl rfl (hE.2 (.methodLinkNest RX2 49 yX3_has RX3) (List.mem_of_getElem? (i := 10) rfl)) (hts (.initialized RX3) (by decide +kernel)) (by decide +kernel) ⟨Nat.le_of_ble_eq_true rfl, Nat.le_of_ble_eq_true rfl⟩, (hts (.static yX3_has) (by decide +kernel)), trivial⟩ ⟨zPr_blind, zPr_mk hE hP⟩ rfl rfl hl.1 rfl (lv_room (Nat.le_of_ble_eq_true rfl)) dX2_digitsOf_14 ⟨Nat.le_of_ble_eq_true rfl, Nat.le_of_ble_eq_true rfl⟩)) (fun r_3 e_4 => ?_)
    obtain rfl := e_4
    refine lv_if_eq (tgt := 31) hx hb dX2_digitsOf_17 (by decide) (fun c_5 => ?_) (fun c_5 => ?_)
    · have c_5 := zb_eq c_5
      refine lv_iinc (v := nI ((i) + 1)) (lv' := [(4, .int (nI ((i) + 1))), (0, .int a0), (1, .int b0), (2, .long (dgL a0 b0 (i)))]) hx hb dX2_digitsOf_31 hl (k := 3) rfl (zinc _) (by decide) rfl (fun ls hl => ?_)
      refine lv_goto (tgt := 5) hx hb dX2_digitsOf_34 (by decide) ?_
      exact ih_5 ls (lv_re (lv_sub hl [1, 2, 3, 0] rfl) (by first | rfl | (simp only [dgL, c_2, c_5]; done) | (simp only [dgL, c_2, c_5]; rfl) | (simp [dgL, c_2, c_5]; done)))
    · have c_5 := zb_ne c_5
      refine lv_lload_n hx hb dX2_digitsOf_20 rfl (lv_at hl 2 rfl) ?_
      refine lv_iload_n hx hb dX2_digitsOf_21 rfl (lv_at hl 1 rfl) ?_
      refine lv_i2l hx hb dX2_digitsOf_22 rfl ?_
      refine lv_iload hx hb dX2_digitsOf_23 (lv_at hl 3 rfl) ?_
      refine vp_callSi (va_Run.run (va_runS (As := [.int (nI (i))]) (rest := [.long (b0.toInt64), .long (dgL a0 b0 (i))]) ⟨hx, hb, hml, hown, hts⟩ (zX2_digitShift l D cI cL cE cP (ws) (nI (i))) (va_cwS 1 hts gX2_digitsOf_X2_digitShift rfl rfl rfl (by decide +kernel) ⟨Nat.le_of_ble_eq_true rfl, Nat.le_of_ble_eq_true rfl⟩) ⟨zPr_blind, zPr_mk hE hP⟩ rfl rfl hl.1 rfl (lv_room (Nat.le_of_ble_eq_true rfl)) dX2_digitsOf_25 ⟨Nat.le_of_ble_eq_true rfl, Nat.le_of_ble_eq_true rfl⟩)) (fun r_6 e_7 => ?_)
      obtain rfl := e_7
      refine lv_lshl hx hb dX2_digitsOf_28 rfl ?_
      refine lv_ladd hx hb dX2_digitsOf_29 ?_
      refine lv_lstore_n (lv' := [(2, .long ((dgL a0 b0 (i)) + (b0.toInt64 <<< ((4 * (4 - (nI (i)))).toInt64 &&& 63)))), (0, .int a0), (1, .int b0), (4, .int (nI (i)))]) hx hb dX2_digitsOf_30 rfl hl (by decide) rfl (fun ls hl => ?_)
      refine lv_iinc (v := nI ((i) + 1)) (lv' := [(4, .int (nI ((i) + 1))), (2, .long ((dgL a0 b0 (i)) + (b0.toInt64 <<< ((4 * (4 - (nI (i)))).toInt64 &&& 63)))), (0, .int a0), (1, .int b0)]) hx hb dX2_digitsOf_31 hl (k := 3) rfl (zinc _) (by decide) rfl (fun ls hl => ?_)
      refine lv_goto (tgt := 5) hx hb dX2_digitsOf_34 (by decide) ?_
      exact ih_5 ls (lv_re (lv_sub hl [2, 3, 1, 0] rfl) (by first | rfl | (simp only [dgL, c_2, c_5]; done) | (simp only [dgL, c_2, c_5]; rfl) | (simp [dgL, c_2, c_5]; done)))
set_option maxHeartbeats 4000000 in
set_option maxRecDepth 100000 in
theorem zX2_fillPrices (l : Launch) (D : va_G) (cI cL cE cP : ClassId) (ad : Nat → Nat) (g : Nat → Nat → Int32) (n k : Nat) (us wb tr : Nat → Int32) (pr le : Nat → Int64) (tk gf : Int32) (hok : zOk g n k) (e0 : Int32) (sz : Nat) : Met l yX2_fillPrices wsX2_fillPrices ({ frames := 2, cells := 0, slots := 0, locals := 45 }) (zPw D cI cL cE cP (cws cI cL cE cP ad g n k us wb tr pr le tk gf) sz [.ref (ad 5), .int e0]) (zQv D (cws cI cL cE cP ad g n k us wb tr pr le tk gf) sz (cws cI cL cE cP ad g n k us wb tr (zfl (fun j => prF wb e0 (nI j)) pr 32) le tk gf)) 0 0 (va_A (cws cI cL cE cP ad g n k us wb tr pr le tk gf) sz) := by
  refine Met.ofW (cc := cX2_fillPrices) (maxL := 3) (ret := none) (by decide) rfl ?_
  intro p e s m args below meth c s₁ B hml hv
  obtain ⟨rfl, hsz, hE, hP, hD0⟩ := hv
  subst hsz
  obtain ⟨A, hAe⟩ : ∃ A, A = va_A (cws cI cL cE cP ad g n k us wb tr pr le tk gf) s.heap.size := ⟨_, rfl⟩
  have hD : va_D A (cws cI cL cE cP ad g n k us wb tr pr le tk gf) := by rw [hAe]; exact hD0.self
  have hA : ∀ q : Nat, s.heap.size ≤ q → A q := fun q h => by rw [hAe]; exact Or.inr h
  have hS : va_S A s.heap s.heap [] := va_S.rf
  have hx := B.exec
  have hb := B.bytes
  have hr := B.returns
  have hts := atoms_spec (ws := wsX2_fillPrices) B.pre
  have hown : s.vm.findClass RX2 = some m.cls := findClass_of_methodNamed B.named
  have hlocks := B.notSynchronized
  have hK := hE.1
  have iX2 : ∀ w ∈ wsX20, w ∈ wsX2_fillPrices := by decide +kernel
  have hl := lv_entry ([.ref (ad 5), .int e0]) (n := 3) (Nat.le_of_ble_eq_true rfl)
  rw [lg_entry_eq]
  generalize (lg_sl ([.ref (ad 5), .int e0]) ++ List.replicate (3 - (lg_sl ([.ref (ad 5), .int e0])).length) Slot.unset).toArray = ls at hl ⊢
  have hl : lv_has ls 3 [(0, .ref (ad 5)), (1, .int e0)] := hl
  refine lv_iconst (v := 0) hx hb dX2_fillPrices_0 (by decide) ?_
  refine lv_istore_n (lv' := [(2, .int 0), (0, .ref (ad 5)), (1, .int e0)]) hx hb dX2_fillPrices_1 rfl hl (by decide) rfl (fun ls hl => ?_)
  refine zloopM (nL := 3) (lv := fun i => [(0, .ref (ad 5)), (1, .int e0), (2, .int (nI (i)))]) (wd := fun i => cws cI cL cE cP ad g n k us wb tr (zfl (fun j => prF wb e0 (nI j)) pr (i)) le tk gf) (n := 32) (lv_re (lv_sub hl [1, 2, 0] rfl) (by first | rfl | (simp only [nI_0]; done) | (simp only [nI_0]; rfl) | (simp [nI_0]; done))) (zP_re hP (by rw [zfl_0])) (zD_re hD (by rw [zfl_0])) hS (fun H locs ls hP hD hS hl => ?_) (fun i hi ih_2 H locs ls hP hD hS hl => ?_)
  · have hl : lv_has ls 3 [(0, .ref (ad 5)), (1, .int e0), (2, .int (nI (32)))] := hl
    have hP : va_P D vwCl (cws cI cL cE cP ad g n k us wb tr (zfl (fun j => prF wb e0 (nI j)) pr (32)) le tk gf) H := hP
    have hD : va_D A (cws cI cL cE cP ad g n k us wb tr (zfl (fun j => prF wb e0 (nI j)) pr (32)) le tk gf) := hD
    refine lv_iload_n hx hb dX2_fillPrices_2 rfl (lv_at hl 2 rfl) ?_
    refine lv_aload_n hx hb dX2_fillPrices_3 rfl (lv_at hl 0 rfl) ?_
    refine va_get (D := D) (ci := 2) (v := .ref (ad 9)) (C := RX2) (T := TX2) (N := 7) hx hb hts iX2 hown hK hP 5 cws_5 rfl 3 (by decide) (hts (.fieldLink RX2 21 "CapitalReckoner$Search" "prices" "[J") (by decide +kernel)) (fun _ h9 => h9) rfl dX2_fillPrices_4 ?_
    refine va_alen (v := nI 32) hx hb hK hP 9 1 cws_9 rfl (by first | rfl | decide) dX2_fillPrices_7 ?_
    refine lv_icmp_ge (tgt := 39) hx hb dX2_fillPrices_8 (by decide) (fun c_1 => ?_) (fun c_1 => absurd (zle_refl (nI 32)) c_1)
    exact zvret hx hb hr hAe (zP_re hP (by first | rfl | (simp only [c_1]; done) | (simp only [c_1]; rfl) | (simp [c_1]; done))) (zD_re hD (by first | rfl | (simp only [c_1]; done) | (simp only [c_1]; rfl) | (simp [c_1]; done))) hS dX2_fillPrices_39
  · have hl : lv_has ls 3 [(0, .ref (ad 5)), (1, .int e0), (2, .int (nI (i)))] := hl
    have hP : va_P D vwCl (cws cI cL cE cP ad g n k us wb tr (zfl (fun j => prF wb e0 (nI j)) pr (i)) le tk gf) H := hP
    have hD : va_D A (cws cI cL cE cP ad g n k us wb tr (zfl (fun j => prF wb e0 (nI j)) pr (i)) le tk gf) := hD
    refine lv_iload_n hx hb dX2_fillPrices_2 rfl (lv_at hl 2 rfl) ?_
    refine lv_aload_n hx hb dX2_fillPrices_3 rfl (lv_at hl 0 rfl) ?_
    refine va_get (D := D) (ci := 2) (v := .ref (ad 9)) (C := RX2) (T := TX2) (N := 7) hx hb hts iX2 hown hK hP 5 cws_5 rfl 3 (by decide) (hts (.fieldLink RX2 21 "CapitalReckoner$Search" "prices" "[J") (by decide +kernel)) (fun _ h9 => h9) rfl dX2_fillPrices_4 ?_
    refine va_alen (v := nI 32) hx hb hK hP 9 1 cws_9 rfl (by first | rfl | decide) dX2_fillPrices_7 ?_
    refine lv_icmp_ge (tgt := 39) hx hb dX2_fillPrices_8 (by decide) (fun c_2 => absurd c_2 (nI_ge hi (by decide))) (fun c_2 => ?_)
    refine lv_aload_n hx hb dX2_fillPrices_11 rfl (lv_at hl 0 rfl) ?_
    refine va_get (D := D) (ci := 2) (v := .ref (ad 9)) (C := RX2) (T := TX2) (N := 7) hx hb hts iX2 hown hK hP 5 cws_5 rfl 3 (by decide) (hts (.fieldLink RX2 21 "CapitalReckoner$Search" "prices" "[J") (by decide +kernel)) (fun _ h9 => h9) rfl dX2_fillPrices_12 ?_
    refine lv_iload_n hx hb dX2_fillPrices_15 rfl (lv_at hl 2 rfl) ?_
    refine lv_aload_n hx hb dX2_fillPrices_16 rfl (lv_at hl 0 rfl) ?_
    refine lv_iload_n hx hb dX2_fillPrices_17 rfl (lv_at hl 1 rfl) ?_
    refine lv_iload_n hx hb dX2_fillPrices_18 rfl (lv_at hl 2 rfl) ?_
    refine vp_callSi (va_Run.run (va_runV (As := [.int e0, .int (nI (i))]) (rest := [.int (nI (i)), .ref (ad 9)]) ⟨hx, hb, hml, hown, hts⟩ (zX2_weightedWith l D cI cL cE cP ad g n k us wb tr (zfl (fun j => prF wb e0 (nI j)) pr (i)) le tk gf hok (e0) (nI (i))) (cwV 2 hts gX2_fillPrices_X2_weightedWith rfl rfl rfl (by decide +kernel) ⟨Nat.le_of_ble_eq_true rfl, Nat.le_of_ble_eq_true rfl⟩) ⟨zPr_blind, va_recv hK hP (ci := 2) (q0 := 5) rfl cws_5, zPr_mk hE hP⟩ rfl rfl hl.1 rfl (lv_room (Nat.le_of_ble_eq_true rfl)) dX2_fillPrices_19 ⟨Nat.le_of_ble_eq_true rfl, Nat.le_of_ble_eq_true rfl⟩)) (fun r_3 e_4 => ?_)
    obtain rfl := e_4
    refine lv_i2l hx hb dX2_fillPrices_22 rfl ?_
    refine lv_bipush (v := 20) hx hb dX2_fillPrices_23 (by decide) ?_
    refine lv_lshl hx hb dX2_fillPrices_25 rfl ?_
    refine lv_iload_n hx hb dX2_fillPrices_26 rfl (lv_at hl 2 rfl) ?_
    refine lv_iload_n hx hb dX2_fillPrices_27 rfl (lv_at hl 1 rfl) ?_
    refine vp_callSl (va_Run.run (va_runS (As := [.int (nI (i)), .int e0]) (rest := [.long (((zat 256 wb (e0 * 32 + (nI (i)))).toInt64) <<< (((20 : Int32)).toInt64 &&& 63)), .int (nI (i)), .ref (ad 9)]) ⟨hx, hb, hml, hown, hts⟩ (zX2_digitsOf l D cI cL cE cP (cws cI cL cE cP ad g n k us wb tr (zfl (fun j => prF wb e0 (nI j)) pr (i)) le tk gf) (nI (i)) (e0)) (va_cwS 2 hts gX2_fillPrices_X2_digitsOf rfl rfl rfl (by decide +kernel) ⟨Nat.le_of_ble_eq_true rfl, Nat.le_of_ble_eq_true rfl⟩) ⟨zPr_blind, zPr_mk hE hP⟩ rfl rfl hl.1 rfl (lv_room (Nat.le_of_ble_eq_true rfl)) dX2_fillPrices_28 ⟨Nat.le_of_ble_eq_true rfl, Nat.le_of_ble_eq_true rfl⟩)) (fun r_5 e_6 => ?_)
    obtain rfl := e_6
    refine lv_ladd hx hb dX2_fillPrices_31 ?_
    refine zlast (f2 := zfl (fun j => prF wb e0 (nI j)) pr (i + 1)) hx hb hK hP hD hS 9 1 cws_9 rfl (vp_in_nI hi (by decide)) (by rw [nI_clamp (by omega)]; exact zfl_uL (fun j => prF wb e0 (nI j)) pr i) dX2_fillPrices_32 (fun H locs hP hD hS => ?_)
    have hP : va_P D vwCl (cws cI cL cE cP ad g n k us wb tr (zfl (fun j => prF wb e0 (nI j)) pr (i + 1)) le tk gf) H := zP_re hP (cws_s9).symm
    have hD : va_D A (cws cI cL cE cP ad g n k us wb tr (zfl (fun j => prF wb e0 (nI j)) pr (i + 1)) le tk gf) := zD_re hD (cws_s9).symm
    refine lv_iinc (v := nI ((i) + 1)) (lv' := [(2, .int (nI ((i) + 1))), (0, .ref (ad 5)), (1, .int e0)]) hx hb dX2_fillPrices_33 hl (k := 2) rfl (zinc _) (by decide) rfl (fun ls hl => ?_)
    refine lv_goto (tgt := 2) hx hb dX2_fillPrices_36 (by decide) ?_
    exact ih_2 H locs ls (zP_re hP (by first | rfl | (simp only [c_2]; done) | (simp only [c_2]; rfl) | (simp [c_2]; done))) (zD_re hD (by first | rfl | (simp only [c_2]; done) | (simp only [c_2]; rfl) | (simp [c_2]; done))) hS (lv_re (lv_sub hl [1, 2, 0] rfl) (by first | rfl | (simp only [c_2]; done) | (simp only [c_2]; rfl) | (simp [c_2]; done)))
set_option maxHeartbeats 4000000 in
set_option maxRecDepth 100000 in
theorem zX2_priceOf (l : Launch) (D : va_G) (cI cL cE cP : ClassId) (ad : Nat → Nat) (g : Nat → Nat → Int32) (n k : Nat) (us wb tr : Nat → Int32) (pr le : Nat → Int64) (tk gf : Int32) (hok : zOk g n k) (x : Int32) : Met l yX2_priceOf wsX2_priceOf ({ frames := 0, cells := 0, slots := 0, locals := 0 }) (zPr D cI cL cE cP (cws cI cL cE cP ad g n k us wb tr pr le tk gf) [.ref (ad 5), .int x]) (vp_Sl (fun r : Int64 => r = zatL 32 pr x)) 0 0 (fun _ => False) := by
  refine Met.ofW (cc := cX2_priceOf) (maxL := 2) (ret := (some .long)) (by decide) rfl ?_
  intro p e s m args below meth c s₁ B hml hv
  obtain ⟨rfl, hE, hP⟩ := hv
  have hx := B.exec
  have hb := B.bytes
  have hr := B.returns
  have hts := atoms_spec (ws := wsX2_priceOf) B.pre
  have hown : s.vm.findClass RX2 = some m.cls := findClass_of_methodNamed B.named
  have hlocks := B.notSynchronized
  have hK := hE.1
  have iX2 : ∀ w ∈ wsX20, w ∈ wsX2_priceOf := by decide +kernel
  have hl := lv_entry ([.ref (ad 5), .int x]) (n := 2) (Nat.le_of_ble_eq_true rfl)
  rw [lg_entry_eq]
  generalize (lg_sl ([.ref (ad 5), .int x]) ++ List.replicate (2 - (lg_sl ([.ref (ad 5), .int x])).length) Slot.unset).toArray = ls at hl ⊢
  have hl : lv_has ls 2 [(0, .ref (ad 5)), (1, .int x)] := hl
  refine lv_iconst (v := 0) hx hb dX2_priceOf_0 (by decide) ?_
  refine lv_iload_n hx hb dX2_priceOf_1 rfl (lv_at hl 1 rfl) ?_
  refine lv_icmp_gt (tgt := 23) hx hb dX2_priceOf_2 (by decide) (fun c_1 => ?_) (fun c_1 => ?_)
  · refine lv_lconst (v := 0) hx hb dX2_priceOf_23 (by decide) ?_
    exact W.lret (v := 0) hx hb hr (fun t ht hW => ⟨_, rfl, (by first | rfl | (simp only [zatL, c_1]; done) | (simp only [zatL, c_1]; rfl) | (simp [zatL, c_1]; done)), ht⟩) (fun _ h => nomatch h) dX2_priceOf_24
  · refine lv_iload_n hx hb dX2_priceOf_5 rfl (lv_at hl 1 rfl) ?_
    refine lv_aload_n hx hb dX2_priceOf_6 rfl (lv_at hl 0 rfl) ?_
    refine va_get (D := D) (ci := 2) (v := .ref (ad 9)) (C := RX2) (T := TX2) (N := 7) hx hb hts iX2 hown hK hP 5 cws_5 rfl 3 (by decide) (hts (.fieldLink RX2 21 "CapitalReckoner$Search" "prices" "[J") (by decide +kernel)) (fun _ h9 => h9) rfl dX2_priceOf_7 ?_
    refine va_alen (v := nI 32) hx hb hK hP 9 1 cws_9 rfl (by first | rfl | decide) dX2_priceOf_10 ?_
    refine lv_icmp_ge (tgt := 23) hx hb dX2_priceOf_11 (by decide) (fun c_2 => ?_) (fun c_2 => ?_)
    · refine lv_lconst (v := 0) hx hb dX2_priceOf_23 (by decide) ?_
      exact W.lret (v := 0) hx hb hr (fun t ht hW => ⟨_, rfl, (by first | rfl | (simp only [zatL, c_1, c_2]; done) | (simp only [zatL, c_1, c_2]; rfl) | (simp [zatL, c_1, c_2]; done)), ht⟩) (fun _ h => nomatch h) dX2_priceOf_24
    · refine lv_aload_n hx hb dX2_priceOf_14 rfl (lv_at hl 0 rfl) ?_
      refine va_get (D := D) (ci := 2) (v := .ref (ad 9)) (C := RX2) (T := TX2) (N := 7) hx hb hts iX2 hown hK hP 5 cws_5 rfl 3 (by decide) (hts (.fieldLink RX2 21 "CapitalReckoner$Search" "prices" "[J") (by decide +kernel)) (fun _ h9 => h9) rfl dX2_priceOf_15 ?_
      refine lv_iload_n hx hb dX2_priceOf_18 rfl (lv_at hl 1 rfl) ?_
      refine zlald (v := pr x.toNatClampNeg) hx hb hK hP 9 1 cws_9 rfl (zin_of (N := 32) (by decide) c_1 c_2) (rfl) dX2_priceOf_19 ?_
      refine lv_goto (tgt := 24) hx hb dX2_priceOf_20 (by decide) ?_
      exact W.lret (v := pr x.toNatClampNeg) hx hb hr (fun t ht hW => ⟨_, rfl, (by first | rfl | (simp only [zatL, c_1, c_2]; done) | (simp only [zatL, c_1, c_2]; rfl) | (simp [zatL, c_1, c_2]; done)), ht⟩) (fun _ h => nomatch h) dX2_priceOf_24
set_option maxHeartbeats 4000000 in
set_option maxRecDepth 100000 in
theorem zX2_leastKey (l : Launch) (D : va_G) (cI cL cE cP : ClassId) (ad : Nat → Nat) (g : Nat → Nat → Int32) (n k : Nat) (us wb tr : Nat → Int32) (pr le : Nat → Int64) (tk gf : Int32) (hok : zOk g n k) (x : Int32) : Met l yX2_leastKey wsX2_leastKey ({ frames := 0, cells := 0, slots := 0, locals := 0 }) (zPr D cI cL cE cP (cws cI cL cE cP ad g n k us wb tr pr le tk gf) [.ref (ad 5), .int x]) (vp_Sl (fun r : Int64 => r = zatL 32 le x)) 0 0 (fun _ => False) := by
  refine Met.ofW (cc := cX2_leastKey) (maxL := 2) (ret := (some .long)) (by decide) rfl ?_
  intro p e s m args below meth c s₁ B hml hv
  obtain ⟨rfl, hE, hP⟩ := hv
  have hx := B.exec
  have hb := B.bytes
  have hr := B.returns
  have hts := atoms_spec (ws := wsX2_leastKey) B.pre
  have hown : s.vm.findClass RX2 = some m.cls := findClass_of_methodNamed B.named
  have hlocks := B.notSynchronized
  have hK := hE.1
  have iX2 : ∀ w ∈ wsX20, w ∈ wsX2_leastKey := by decide +kernel
  have hl := lv_entry ([.ref (ad 5), .int x]) (n := 2) (Nat.le_of_ble_eq_true rfl)
  rw [lg_entry_eq]
  generalize (lg_sl ([.ref (ad 5), .int x]) ++ List.replicate (2 - (lg_sl ([.ref (ad 5), .int x])).length) Slot.unset).toArray = ls at hl ⊢
  have hl : lv_has ls 2 [(0, .ref (ad 5)), (1, .int x)] := hl
  refine lv_iconst (v := 0) hx hb dX2_leastKey_0 (by decide) ?_
  refine lv_iload_n hx hb dX2_leastKey_1 rfl (lv_at hl 1 rfl) ?_
  refine lv_icmp_gt (tgt := 23) hx hb dX2_leastKey_2 (by decide) (fun c_1 => ?_) (fun c_1 => ?_)
  · refine lv_lconst (v := 0) hx hb dX2_leastKey_23 (by decide) ?_
    exact W.lret (v := 0) hx hb hr (fun t ht hW => ⟨_, rfl, (by first | rfl | (simp only [zatL, c_1]; done) | (simp only [zatL, c_1]; rfl) | (simp [zatL, c_1]; done)), ht⟩) (fun _ h => nomatch h) dX2_leastKey_24
  · refine lv_iload_n hx hb dX2_leastKey_5 rfl (lv_at hl 1 rfl) ?_
    refine lv_aload_n hx hb dX2_leastKey_6 rfl (lv_at hl 0 rfl) ?_
    refine va_get (D := D) (ci := 2) (v := .ref (ad 10)) (C := RX2) (T := TX2) (N := 7) hx hb hts iX2 hown hK hP 5 cws_5 rfl 4 (by decide) (hts (.fieldLink RX2 25 "CapitalReckoner$Search" "least" "[J") (by decide +kernel)) (fun _ h9 => h9) rfl dX2_leastKey_7 ?_
    refine va_alen (v := nI 32) hx hb hK hP 10 1 cws_10 rfl (by first | rfl | decide) dX2_leastKey_10 ?_
    refine lv_icmp_ge (tgt := 23) hx hb dX2_leastKey_11 (by decide) (fun c_2 => ?_) (fun c_2 => ?_)
    · refine lv_lconst (v := 0) hx hb dX2_leastKey_23 (by decide) ?_
      exact W.lret (v := 0) hx hb hr (fun t ht hW => ⟨_, rfl, (by first | rfl | (simp only [zatL, c_1, c_2]; done) | (simp only [zatL, c_1, c_2]; rfl) | (simp [zatL, c_1, c_2]; done)), ht⟩) (fun _ h => nomatch h) dX2_leastKey_24
    · refine lv_aload_n hx hb dX2_leastKey_14 rfl (lv_at hl 0 rfl) ?_
      refine va_get (D := D) (ci := 2) (v := .ref (ad 10)) (C := RX2) (T := TX2) (N := 7) hx hb hts iX2 hown hK hP 5 cws_5 rfl 4 (by decide) (hts (.fieldLink RX2 25 "CapitalReckoner$Search" "least" "[J") (by decide +kernel)) (fun _ h9 => h9) rfl dX2_leastKey_15 ?_
      refine lv_iload_n hx hb dX2_leastKey_18 rfl (lv_at hl 1 rfl) ?_
      refine zlald (v := le x.toNatClampNeg) hx hb hK hP 10 1 cws_10 rfl (zin_of (N := 32) (by decide) c_1 c_2) (rfl) dX2_leastKey_19 ?_
      refine lv_goto (tgt := 24) hx hb dX2_leastKey_20 (by decide) ?_
      exact W.lret (v := le x.toNatClampNeg) hx hb hr (fun t ht hW => ⟨_, rfl, (by first | rfl | (simp only [zatL, c_1, c_2]; done) | (simp only [zatL, c_1, c_2]; rfl) | (simp [zatL, c_1, c_2]; done)), ht⟩) (fun _ h => nomatch h) dX2_leastKey_24
set_option maxHeartbeats 4000000 in
set_option maxRecDepth 100000 in
theorem zX2_leastOf (l : Launch) (D : va_G) (cI cL cE cP : ClassId) (ad : Nat → Nat) (g : Nat → Nat → Int32) (n k : Nat) (us wb tr : Nat → Int32) (pr le : Nat → Int64) (tk gf : Int32) (hok : zOk g n k) (S : Nat) (hS : S < 32) (u : Int32) : Met l yX2_leastOf wsX2_leastOf ({ frames := 1, cells := 0, slots := 0, locals := 24 }) (zPr D cI cL cE cP (cws cI cL cE cP ad g n k us wb tr pr le tk gf) [.ref (ad 5), .int (nI S), .int u]) (vp_Sl (fun r : Int64 => r = loL pr le S u S)) 0 0 (fun _ => False) := by
  refine Met.ofW (cc := cX2_leastOf) (maxL := 6) (ret := (some .long)) (by decide) rfl ?_
  intro p e s m args below meth c s₁ B hml hv
  obtain ⟨rfl, hE, hP⟩ := hv
  have hx := B.exec
  have hb := B.bytes
  have hr := B.returns
  have hts := atoms_spec (ws := wsX2_leastOf) B.pre
  have hown : s.vm.findClass RX2 = some m.cls := findClass_of_methodNamed B.named
  have hlocks := B.notSynchronized
  have hK := hE.1
  have hl := lv_entry ([.ref (ad 5), .int (nI S), .int u]) (n := 6) (Nat.le_of_ble_eq_true rfl)
  rw [lg_entry_eq]
  generalize (lg_sl ([.ref (ad 5), .int (nI S), .int u]) ++ List.replicate (6 - (lg_sl ([.ref (ad 5), .int (nI S), .int u])).length) Slot.unset).toArray = ls at hl ⊢
  have hl : lv_has ls 6 [(0, .ref (ad 5)), (1, .int (nI S)), (2, .int u)] := hl
  refine lv_aload_n hx hb dX2_leastOf_0 rfl (lv_at hl 0 rfl) ?_
  refine lv_iconst (v := 0) hx hb dX2_leastOf_1 (by decide) ?_
  refine vp_callSl (va_Run.run (va_runV (As := [.int 0]) (rest := []) ⟨hx, hb, hml, hown, hts⟩ (zX2_priceOf l D cI cL cE cP ad g n k us wb tr pr le tk gf hok (0)) (cwV 1 hts gX2_leastOf_X2_priceOf rfl rfl rfl (by decide +kernel) ⟨Nat.le_of_ble_eq_true rfl, Nat.le_of_ble_eq_true rfl⟩) ⟨zPr_blind, va_recv hK hP (ci := 2) (q0 := 5) rfl cws_5, zPr_mk hE hP⟩ rfl rfl hl.1 rfl (lv_room (Nat.le_of_ble_eq_true rfl)) dX2_leastOf_2 ⟨Nat.le_of_ble_eq_true rfl, Nat.le_of_ble_eq_true rfl⟩)) (fun r_1 e_2 => ?_)
  obtain rfl := e_2
  refine lv_aload_n hx hb dX2_leastOf_5 rfl (lv_at hl 0 rfl) ?_
  refine lv_iload_n hx hb dX2_leastOf_6 rfl (lv_at hl 1 rfl) ?_
  refine vp_callSl (va_Run.run (va_runV (As := [.int (nI S)]) (rest := [.long (zatL 32 pr 0)]) ⟨hx, hb, hml, hown, hts⟩ (zX2_leastKey l D cI cL cE cP ad g n k us wb tr pr le tk gf hok (nI S)) (cwV 1 hts gX2_leastOf_X2_leastKey rfl rfl rfl (by decide +kernel) ⟨Nat.le_of_ble_eq_true rfl, Nat.le_of_ble_eq_true rfl⟩) ⟨zPr_blind, va_recv hK hP (ci := 2) (q0 := 5) rfl cws_5, zPr_mk hE hP⟩ rfl rfl hl.1 rfl (lv_room (Nat.le_of_ble_eq_true rfl)) dX2_leastOf_7 ⟨Nat.le_of_ble_eq_true rfl, Nat.le_of_ble_eq_true rfl⟩)) (fun r_3 e_4 => ?_)
  obtain rfl := e_4
  refine lv_ladd hx hb dX2_leastOf_10 ?_
  refine lv_lstore_n (lv' := [(3, .long ((zatL 32 pr 0) + (zatL 32 le (nI S)))), (0, .ref (ad 5)), (1, .int (nI S)), (2, .int u)]) hx hb dX2_leastOf_11 rfl hl (by decide) rfl (fun ls hl => ?_)
  refine lv_iconst (v := 1) hx hb dX2_leastOf_12 (by decide) ?_
  refine lv_istore (lv' := [(5, .int 1), (3, .long ((zatL 32 pr 0) + (zatL 32 le (nI S)))), (0, .ref (ad 5)), (1, .int (nI S)), (2, .int u)]) hx hb dX2_leastOf_13 hl (by decide) rfl (fun ls hl => ?_)
  refine zloop (nL := 6) (lv := fun i => [(0, .ref (ad 5)), (1, .int (nI S)), (2, .int u), (3, .long (loL pr le S u (i))), (5, .int (nI (i + 1)))]) (n := S) (lv_re (lv_sub hl [2, 3, 4, 1, 0] rfl) (by first | rfl | (simp only [loL, nI_0]; done) | (simp only [loL, nI_0]; rfl) | (simp [loL, nI_0]; done))) (fun ls hl => ?_) (fun i hi ih_15 ls hl => ?_)
  · have hl : lv_has ls 6 [(0, .ref (ad 5)), (1, .int (nI S)), (2, .int u), (3, .long (loL pr le S u (S))), (5, .int (nI (S + 1)))] := hl
    refine lv_iload hx hb dX2_leastOf_15 (lv_at hl 4 rfl) ?_
    refine lv_iload_n hx hb dX2_leastOf_17 rfl (lv_at hl 1 rfl) ?_
    refine lv_icmp_gt (tgt := 58) hx hb dX2_leastOf_18 (by decide) (fun c_5 => ?_) (fun c_5 => absurd (nI_lt (Nat.lt_succ_self S) (by omega)) c_5)
    refine lv_lload_n hx hb dX2_leastOf_58 rfl (lv_at hl 3 rfl) ?_
    exact W.lret (v := loL pr le S u (S)) hx hb hr (fun t ht hW => ⟨_, rfl, (by first | rfl | (simp only [loL, c_5]; done) | (simp only [loL, c_5]; rfl) | (simp [loL, c_5]; done)), ht⟩) (fun _ h => nomatch h) dX2_leastOf_59
  · have hl : lv_has ls 6 [(0, .ref (ad 5)), (1, .int (nI S)), (2, .int u), (3, .long (loL pr le S u (i))), (5, .int (nI (i + 1)))] := hl
    refine lv_iload hx hb dX2_leastOf_15 (lv_at hl 4 rfl) ?_
    refine lv_iload_n hx hb dX2_leastOf_17 rfl (lv_at hl 1 rfl) ?_
    refine lv_icmp_gt (tgt := 58) hx hb dX2_leastOf_18 (by decide) (fun c_6 => absurd c_6 (nI_nlt hi (by omega))) (fun c_6 => ?_)
    refine lv_iload hx hb dX2_leastOf_21 (lv_at hl 4 rfl) ?_
    refine lv_iload_n hx hb dX2_leastOf_23 rfl (lv_at hl 1 rfl) ?_
    refine lv_iand hx hb dX2_leastOf_24 ?_
    refine lv_iload_n hx hb dX2_leastOf_25 rfl (lv_at hl 2 rfl) ?_
    refine lv_iand hx hb dX2_leastOf_26 ?_
    refine lv_iload hx hb dX2_leastOf_27 (lv_at hl 4 rfl) ?_
    refine lv_icmp_ne (tgt := 52) hx hb dX2_leastOf_29 (by decide) (fun c_7 => ?_) (fun c_7 => ?_)
    · refine lv_iinc (v := nI ((i + 1) + 1)) (lv' := [(5, .int (nI ((i + 1) + 1))), (0, .ref (ad 5)), (1, .int (nI S)), (2, .int u), (3, .long (loL pr le S u (i)))]) hx hb dX2_leastOf_52 hl (k := 4) rfl (zinc _) (by decide) rfl (fun ls hl => ?_)
      refine lv_goto (tgt := 15) hx hb dX2_leastOf_55 (by decide) ?_
      exact ih_15 ls (lv_re (lv_sub hl [1, 2, 3, 4, 0] rfl) (by first | rfl | (simp only [loL, c_6, c_7]; done) | (simp only [loL, c_6, c_7]; rfl) | (simp [loL, c_6, c_7]; done)))
    · refine lv_lload_n hx hb dX2_leastOf_32 rfl (lv_at hl 3 rfl) ?_
      refine lv_aload_n hx hb dX2_leastOf_33 rfl (lv_at hl 0 rfl) ?_
      refine lv_iload hx hb dX2_leastOf_34 (lv_at hl 4 rfl) ?_
      refine vp_callSl (va_Run.run (va_runV (As := [.int (nI (i + 1))]) (rest := [.long (loL pr le S u (i))]) ⟨hx, hb, hml, hown, hts⟩ (zX2_priceOf l D cI cL cE cP ad g n k us wb tr pr le tk gf hok (nI (i + 1))) (cwV 1 hts gX2_leastOf_X2_priceOf rfl rfl rfl (by decide +kernel) ⟨Nat.le_of_ble_eq_true rfl, Nat.le_of_ble_eq_true rfl⟩) ⟨zPr_blind, va_recv hK hP (ci := 2) (q0 := 5) rfl cws_5, zPr_mk hE hP⟩ rfl rfl hl.1 rfl (lv_room (Nat.le_of_ble_eq_true rfl)) dX2_leastOf_36 ⟨Nat.le_of_ble_eq_true rfl, Nat.le_of_ble_eq_true rfl⟩)) (fun r_8 e_9 => ?_)
      obtain rfl := e_9
      refine lv_aload_n hx hb dX2_leastOf_39 rfl (lv_at hl 0 rfl) ?_
      refine lv_iload_n hx hb dX2_leastOf_40 rfl (lv_at hl 1 rfl) ?_
      refine lv_iload hx hb dX2_leastOf_41 (lv_at hl 4 rfl) ?_
      refine lv_isub hx hb dX2_leastOf_43 ?_
      refine vp_callSl (va_Run.run (va_runV (As := [.int ((nI S) - (nI (i + 1)))]) (rest := [.long (zatL 32 pr (nI (i + 1))), .long (loL pr le S u (i))]) ⟨hx, hb, hml, hown, hts⟩ (zX2_leastKey l D cI cL cE cP ad g n k us wb tr pr le tk gf hok ((nI S) - (nI (i + 1)))) (cwV 1 hts gX2_leastOf_X2_leastKey rfl rfl rfl (by decide +kernel) ⟨Nat.le_of_ble_eq_true rfl, Nat.le_of_ble_eq_true rfl⟩) ⟨zPr_blind, va_recv hK hP (ci := 2) (q0 := 5) rfl cws_5, zPr_mk hE hP⟩ rfl rfl hl.1 rfl (lv_room (Nat.le_of_ble_eq_true rfl)) dX2_leastOf_44 ⟨Nat.le_of_ble_eq_true rfl, Nat.le_of_ble_eq_true rfl⟩)) (fun r_10 e_11 => ?_)
      obtain rfl := e_11
      refine lv_ladd hx hb dX2_leastOf_47 ?_
      refine va_mmin_long hx hb (hml.trans hl.1.symm) hown (hts (.methodLink RX2 78 Lib.MathLoose.min_long.x) (by decide +kernel)) (hts (.static Lib.MathLoose.min_long.x) (by decide +kernel)) (hts (.initialized "java/lang/Math") (by decide +kernel)) (hts (.code Lib.MathLoose.min_long.x Lib.MathLoose.min_long.code 4 (some .long)) (by decide +kernel)) (Nat.le_of_ble_eq_true rfl) (Nat.le_of_ble_eq_true rfl) (Nat.zero_le _) (Nat.zero_le _) dX2_leastOf_48 ?_
      refine lv_lstore_n (lv' := [(3, .long (if (zatL 32 pr (nI (i + 1))) + (zatL 32 le ((nI S) - (nI (i + 1)))) < loL pr le S u (i) then (zatL 32 pr (nI (i + 1))) + (zatL 32 le ((nI S) - (nI (i + 1)))) else loL pr le S u (i))), (0, .ref (ad 5)), (1, .int (nI S)), (2, .int u), (5, .int (nI (i + 1)))]) hx hb dX2_leastOf_51 rfl hl (by decide) rfl (fun ls hl => ?_)
      refine lv_iinc (v := nI ((i + 1) + 1)) (lv' := [(5, .int (nI ((i + 1) + 1))), (3, .long (if (zatL 32 pr (nI (i + 1))) + (zatL 32 le ((nI S) - (nI (i + 1)))) < loL pr le S u (i) then (zatL 32 pr (nI (i + 1))) + (zatL 32 le ((nI S) - (nI (i + 1)))) else loL pr le S u (i))), (0, .ref (ad 5)), (1, .int (nI S)), (2, .int u)]) hx hb dX2_leastOf_52 hl (k := 4) rfl (zinc _) (by decide) rfl (fun ls hl => ?_)
      refine lv_goto (tgt := 15) hx hb dX2_leastOf_55 (by decide) ?_
      exact ih_15 ls (lv_re (lv_sub hl [2, 3, 4, 1, 0] rfl) (by first | rfl | (simp only [loL, c_6, c_7]; done) | (simp only [loL, c_6, c_7]; rfl) | (simp [loL, c_6, c_7]; done)))
set_option maxHeartbeats 4000000 in
set_option maxRecDepth 100000 in
theorem zX2_findLeast (l : Launch) (D : va_G) (cI cL cE cP : ClassId) (ad : Nat → Nat) (g : Nat → Nat → Int32) (n k : Nat) (us wb tr : Nat → Int32) (pr le : Nat → Int64) (hok : zOk g n k) (sz : Nat) : Met l yX2_findLeast wsX2_findLeast ({ frames := 3, cells := 0, slots := 0, locals := 67 }) (zPw D cI cL cE cP (cws cI cL cE cP ad g n k us wb tr pr le (nI n) (nI k)) sz [.ref (ad 5)]) (zQv D (cws cI cL cE cP ad g n k us wb tr pr le (nI n) (nI k)) sz (cws cI cL cE cP ad g n k us wb tr (PRO wb pr (n)) (LEO us wb pr le (n)) (nI n) (nI k))) 0 0 (va_A (cws cI cL cE cP ad g n k us wb tr pr le (nI n) (nI k)) sz) := by
  refine Met.ofW (cc := cX2_findLeast) (maxL := 3) (ret := none) (by decide) rfl ?_
  intro p e s m args below meth c s₁ B hml hv
  obtain ⟨rfl, hsz, hE, hP, hD0⟩ := hv
  subst hsz
  obtain ⟨A, hAe⟩ : ∃ A, A = va_A (cws cI cL cE cP ad g n k us wb tr pr le (nI n) (nI k)) s.heap.size := ⟨_, rfl⟩
  have hD : va_D A (cws cI cL cE cP ad g n k us wb tr pr le (nI n) (nI k)) := by rw [hAe]; exact hD0.self
  have hA : ∀ q : Nat, s.heap.size ≤ q → A q := fun q h => by rw [hAe]; exact Or.inr h
  have hS : va_S A s.heap s.heap [] := va_S.rf
  have hx := B.exec
  have hb := B.bytes
  have hr := B.returns
  have hts := atoms_spec (ws := wsX2_findLeast) B.pre
  have hown : s.vm.findClass RX2 = some m.cls := findClass_of_methodNamed B.named
  have hlocks := B.notSynchronized
  have hK := hE.1
  have iX2 : ∀ w ∈ wsX20, w ∈ wsX2_findLeast := by decide +kernel
  have hl := lv_entry ([.ref (ad 5)]) (n := 3) (Nat.le_of_ble_eq_true rfl)
  rw [lg_entry_eq]
  generalize (lg_sl ([.ref (ad 5)]) ++ List.replicate (3 - (lg_sl ([.ref (ad 5)])).length) Slot.unset).toArray = ls at hl ⊢
  have hl : lv_has ls 3 [(0, .ref (ad 5))] := hl
  refine lv_iconst (v := 0) hx hb dX2_findLeast_0 (by decide) ?_
  refine lv_istore_n (lv' := [(1, .int 0), (0, .ref (ad 5))]) hx hb dX2_findLeast_1 rfl hl (by decide) rfl (fun ls hl => ?_)
  refine zloopM (nL := 3) (lv := fun i => [(0, .ref (ad 5)), (1, .int (nI (i)))]) (wd := fun i => cws cI cL cE cP ad g n k us wb tr pr (zfl (fun j => dgL (nI j) 8 5) le (i)) (nI n) (nI k)) (n := 32) (lv_re (lv_sub hl [1, 0] rfl) (by first | rfl | (simp only [nI_0]; done) | (simp only [nI_0]; rfl) | (simp [nI_0]; done))) (zP_re hP (by rw [zfl_0])) (zD_re hD (by rw [zfl_0])) hS (fun H locs ls hP hD hS hl => ?_) (fun i hi ih_2 H locs ls hP hD hS hl => ?_)
  · have hl : lv_has ls 3 [(0, .ref (ad 5)), (1, .int (nI (32)))] := hl
    have hP : va_P D vwCl (cws cI cL cE cP ad g n k us wb tr pr (zfl (fun j => dgL (nI j) 8 5) le (32)) (nI n) (nI k)) H := hP
    have hD : va_D A (cws cI cL cE cP ad g n k us wb tr pr (zfl (fun j => dgL (nI j) 8 5) le (32)) (nI n) (nI k)) := hD
    refine lv_iload_n hx hb dX2_findLeast_2 rfl (lv_at hl 1 rfl) ?_
    refine lv_aload_n hx hb dX2_findLeast_3 rfl (lv_at hl 0 rfl) ?_
    refine va_get (D := D) (ci := 2) (v := .ref (ad 10)) (C := RX2) (T := TX2) (N := 7) hx hb hts iX2 hown hK hP 5 cws_5 rfl 4 (by decide) (hts (.fieldLink RX2 25 "CapitalReckoner$Search" "least" "[J") (by decide +kernel)) (fun _ h9 => h9) rfl dX2_findLeast_4 ?_
    refine va_alen (v := nI 32) hx hb hK hP 10 1 cws_10 rfl (by first | rfl | decide) dX2_findLeast_7 ?_
    refine lv_icmp_ge (tgt := 29) hx hb dX2_findLeast_8 (by decide) (fun c_1 => ?_) (fun c_1 => absurd (zle_refl (nI 32)) c_1)
    refine lv_iconst (v := 0) hx hb dX2_findLeast_29 (by decide) ?_
    refine lv_istore_n (lv' := [(1, .int 0), (0, .ref (ad 5))]) hx hb dX2_findLeast_30 rfl hl (by decide) rfl (fun ls hl => ?_)
    refine zloopM (nL := 3) (lv := fun e => [(0, .ref (ad 5)), (1, .int (nI (e)))]) (wd := fun e => cws cI cL cE cP ad g n k us wb tr (PRO wb pr (e)) (LEO us wb pr le (e)) (nI n) (nI k)) (n := n) (lv_re (lv_sub hl [1, 0] rfl) (by first | rfl | (simp only [nI_0]; done) | (simp only [nI_0]; rfl) | (simp [nI_0]; done))) (zP_re hP (by rfl)) (zD_re hD (by rfl)) hS (fun H locs ls hP hD hS hl => ?_) (fun e he ih_31 H locs ls hP hD hS hl => ?_)
    · have hl : lv_has ls 3 [(0, .ref (ad 5)), (1, .int (nI (n)))] := hl
      have hP : va_P D vwCl (cws cI cL cE cP ad g n k us wb tr (PRO wb pr (n)) (LEO us wb pr le (n)) (nI n) (nI k)) H := hP
      have hD : va_D A (cws cI cL cE cP ad g n k us wb tr (PRO wb pr (n)) (LEO us wb pr le (n)) (nI n) (nI k)) := hD
      refine lv_iload_n hx hb dX2_findLeast_31 rfl (lv_at hl 1 rfl) ?_
      refine lv_aload_n hx hb dX2_findLeast_32 rfl (lv_at hl 0 rfl) ?_
      refine va_get (D := D) (ci := 2) (v := .int (nI n)) (C := RX2) (T := TX2) (N := 7) hx hb hts iX2 hown hK hP 5 cws_5 rfl 5 (by decide) (hts (.fieldLink RX2 34 "CapitalReckoner$Search" "takers" "I") (by decide +kernel)) (fun _ h9 => h9) rfl dX2_findLeast_33 ?_
      refine lv_icmp_ge (tgt := 87) hx hb dX2_findLeast_36 (by decide) (fun c_2 => ?_) (fun c_2 => absurd (zle_refl (nI n)) c_2)
      exact zvret hx hb hr hAe (zP_re hP (rfl)) (zD_re hD (rfl)) hS dX2_findLeast_87
    · have hl : lv_has ls 3 [(0, .ref (ad 5)), (1, .int (nI (e)))] := hl
      have hP : va_P D vwCl (cws cI cL cE cP ad g n k us wb tr (PRO wb pr (e)) (LEO us wb pr le (e)) (nI n) (nI k)) H := hP
      have hD : va_D A (cws cI cL cE cP ad g n k us wb tr (PRO wb pr (e)) (LEO us wb pr le (e)) (nI n) (nI k)) := hD
      refine lv_iload_n hx hb dX2_findLeast_31 rfl (lv_at hl 1 rfl) ?_
      refine lv_aload_n hx hb dX2_findLeast_32 rfl (lv_at hl 0 rfl) ?_
      refine va_get (D := D) (ci := 2) (v := .int (nI n)) (C := RX2) (T := TX2) (N := 7) hx hb hts iX2 hown hK hP 5 cws_5 rfl 5 (by decide) (hts (.fieldLink RX2 34 "CapitalReckoner$Search" "takers" "I") (by decide +kernel)) (fun _ h9 => h9) rfl dX2_findLeast_33 ?_
      refine lv_icmp_ge (tgt := 87) hx hb dX2_findLeast_36 (by decide) (fun c_3 => absurd c_3 (nI_ge he (by have := hok.n; omega))) (fun c_3 => ?_)
      refine lv_aload_n hx hb dX2_findLeast_39 rfl (lv_at hl 0 rfl) ?_
      refine lv_iload_n hx hb dX2_findLeast_40 rfl (lv_at hl 1 rfl) ?_
      refine zcallv (va_runV (As := [.int (nI (e))]) (rest := []) ⟨hx, hb, hml, hown, hts⟩ (zX2_fillPrices l D cI cL cE cP ad g n k us wb tr (PRO wb pr (e)) (LEO us wb pr le (e)) (nI n) (nI k) hok (nI (e)) H.size) (cwV 1 hts gX2_findLeast_X2_fillPrices rfl rfl rfl (by decide +kernel) ⟨Nat.le_of_ble_eq_true rfl, Nat.le_of_ble_eq_true rfl⟩) ⟨zPw_blind, va_recv hK hP (ci := 2) (q0 := 5) rfl cws_5, zPw_mk hE hP hD⟩ rfl rfl hl.1 rfl (lv_room (Nat.le_of_ble_eq_true rfl)) dX2_findLeast_41 ⟨Nat.le_of_ble_eq_true rfl, Nat.le_of_ble_eq_true rfl⟩) hD hS hA (fun H locs hP hD hS => ?_)
      have hP : va_P D vwCl (cws cI cL cE cP ad g n k us wb tr (zfl (fun j => prF wb (nI (e)) (nI j)) (PRO wb pr (e)) 32) (LEO us wb pr le (e)) (nI n) (nI k)) H := hP
      have hD : va_D A (cws cI cL cE cP ad g n k us wb tr (zfl (fun j => prF wb (nI (e)) (nI j)) (PRO wb pr (e)) 32) (LEO us wb pr le (e)) (nI n) (nI k)) := hD
      refine lv_aload_n hx hb dX2_findLeast_44 rfl (lv_at hl 0 rfl) ?_
      refine va_get (D := D) (ci := 2) (v := .ref (ad 10)) (C := RX2) (T := TX2) (N := 7) hx hb hts iX2 hown hK hP 5 cws_5 rfl 4 (by decide) (hts (.fieldLink RX2 25 "CapitalReckoner$Search" "least" "[J") (by decide +kernel)) (fun _ h9 => h9) rfl dX2_findLeast_45 ?_
      refine va_alen (v := nI 32) hx hb hK hP 10 1 cws_10 rfl (by first | rfl | decide) dX2_findLeast_48 ?_
      refine lv_iconst (v := 1) hx hb dX2_findLeast_49 (by decide) ?_
      refine lv_isub hx hb dX2_findLeast_50 ?_
      refine lv_istore_n (lv' := [(2, .int ((nI 32) - 1)), (0, .ref (ad 5)), (1, .int (nI (e)))]) hx hb dX2_findLeast_51 rfl hl (by decide) rfl (fun ls hl => ?_)
      refine zloopM (nL := 3) (lv := fun t => [(0, .ref (ad 5)), (1, .int (nI e)), (2, .int (zd (t)))]) (wd := fun t => cws cI cL cE cP ad g n k us wb tr (PRO wb pr (e + 1)) (zdn (LEO us wb pr le (e + 1)) (LEO us wb pr le e) (t)) (nI n) (nI k)) (n := 32) (lv_re (lv_sub hl [1, 2, 0] rfl) (by simp only [zd_0]; rfl)) (zP_re hP (by rw [zdn_0 _ _ (fun S hS => by simp only [LEO]; rw [if_neg (by omega)])]; rfl)) (zD_re hD (by rw [zdn_0 _ _ (fun S hS => by simp only [LEO]; rw [if_neg (by omega)])]; rfl)) hS (fun H locs ls hP hD hS hl => ?_) (fun t ht ih_52 H locs ls hP hD hS hl => ?_)
      · have hl : lv_has ls 3 [(0, .ref (ad 5)), (1, .int (nI e)), (2, .int (zd (32)))] := hl
        have hP : va_P D vwCl (cws cI cL cE cP ad g n k us wb tr (PRO wb pr (e + 1)) (zdn (LEO us wb pr le (e + 1)) (LEO us wb pr le e) (32)) (nI n) (nI k)) H := hP
        have hD : va_D A (cws cI cL cE cP ad g n k us wb tr (PRO wb pr (e + 1)) (zdn (LEO us wb pr le (e + 1)) (LEO us wb pr le e) (32)) (nI n) (nI k)) := hD
        rw [zdn_32] at hP hD
        refine lv_iload_n hx hb dX2_findLeast_52 rfl (lv_at hl 2 rfl) ?_
        refine lv_if_lt (tgt := 81) hx hb dX2_findLeast_53 (by decide) (fun c_6 => ?_) (fun c_6 => absurd (zd_neg) c_6)
        refine lv_iinc (v := nI (e + 1)) (lv' := [(1, .int (nI (e + 1))), (0, .ref (ad 5)), (2, .int (zd (32)))]) hx hb dX2_findLeast_81 hl (k := 1) rfl (zinc _) (by decide) rfl (fun ls hl => ?_)
        refine lv_goto (tgt := 31) hx hb dX2_findLeast_84 (by decide) ?_
        exact ih_31 H locs ls (zP_re hP (by rfl)) (zD_re hD (by rfl)) hS (lv_re (lv_sub hl [1, 0] rfl) (by first | rfl | (simp only [c_1, c_3, c_6]; done) | (simp only [c_1, c_3, c_6]; rfl) | (simp [c_1, c_3, c_6]; done)))
      · have hl : lv_has ls 3 [(0, .ref (ad 5)), (1, .int (nI e)), (2, .int (zd (t)))] := hl
        have hP : va_P D vwCl (cws cI cL cE cP ad g n k us wb tr (PRO wb pr (e + 1)) (zdn (LEO us wb pr le (e + 1)) (LEO us wb pr le e) (t)) (nI n) (nI k)) H := hP
        have hD : va_D A (cws cI cL cE cP ad g n k us wb tr (PRO wb pr (e + 1)) (zdn (LEO us wb pr le (e + 1)) (LEO us wb pr le e) (t)) (nI n) (nI k)) := hD
        refine lv_iload_n hx hb dX2_findLeast_52 rfl (lv_at hl 2 rfl) ?_
        refine lv_if_lt (tgt := 81) hx hb dX2_findLeast_53 (by decide) (fun c_7 => absurd c_7 (zd_pos ht)) (fun c_7 => ?_)
        refine lv_aload_n hx hb dX2_findLeast_56 rfl (lv_at hl 0 rfl) ?_
        refine va_get (D := D) (ci := 2) (v := .ref (ad 10)) (C := RX2) (T := TX2) (N := 7) hx hb hts iX2 hown hK hP 5 cws_5 rfl 4 (by decide) (hts (.fieldLink RX2 25 "CapitalReckoner$Search" "least" "[J") (by decide +kernel)) (fun _ h9 => h9) rfl dX2_findLeast_57 ?_
        refine lv_iload_n hx hb dX2_findLeast_60 rfl (lv_at hl 2 rfl) ?_
        refine lv_aload_n hx hb dX2_findLeast_61 rfl (lv_at hl 0 rfl) ?_
        rw [show zd t = nI (31 - t) from zd_nI ht] at hl ⊢
        refine lv_iload_n hx hb dX2_findLeast_62 rfl (lv_at hl 2 rfl) ?_
        refine lv_aload_n hx hb dX2_findLeast_63 rfl (lv_at hl 0 rfl) ?_
        refine va_get (D := D) (ci := 2) (v := .ref (ad 6)) (C := RX2) (T := TX2) (N := 7) hx hb hts iX2 hown hK hP 5 cws_5 rfl 0 (by decide) (hts (.fieldLink RX2 11 "CapitalReckoner$Search" "usable" "[I") (by decide +kernel)) (fun _ h9 => h9) rfl dX2_findLeast_64 ?_
        refine lv_iload_n hx hb dX2_findLeast_67 rfl (lv_at hl 1 rfl) ?_
        refine vp_callSi (va_Run.run (va_runSN (As := [.ref (ad 6), .int (nI e)]) (rest := [.int (nI (31 - t)), .ref (ad 5), .int (nI (31 - t)), .ref (ad 10)]) ⟨hx, hb, hml, hown, hts⟩ (zX3_at l D cI cL cE cP (cws cI cL cE cP ad g n k us wb tr (PRO wb pr (e + 1)) (zdn (LEO us wb pr le (e + 1)) (LEO us wb pr le e) (t)) (nI n) (nI k)) 6 (ad 6) 8 (us) (by decide) cws_6 (nI e)) ⟨va_cnB 2 hts gX2_findLeast_X3_at_n45 rfl rfl rfl (hE.2 (.methodLinkNest RX2 45 yX3_at RX3) (List.mem_of_getElem? (i := 11) rfl)) (hts (.initialized RX3) (by decide +kernel)) (by decide +kernel) ⟨Nat.le_of_ble_eq_true rfl, Nat.le_of_ble_eq_true rfl⟩, (hts (.static yX3_at) (by decide +kernel)), trivial⟩ ⟨zPr_blind, zPr_mk hE hP⟩ rfl rfl hl.1 rfl (lv_room (Nat.le_of_ble_eq_true rfl)) dX2_findLeast_68 ⟨Nat.le_of_ble_eq_true rfl, Nat.le_of_ble_eq_true rfl⟩)) (fun r_8 e_9 => ?_)
        obtain rfl := e_9
        refine vp_callSl (va_Run.run (va_runV (As := [.int (nI (31 - t)), .int (zat 8 us (nI e))]) (rest := [.int (nI (31 - t)), .ref (ad 10)]) ⟨hx, hb, hml, hown, hts⟩ (zX2_leastOf l D cI cL cE cP ad g n k us wb tr (PRO wb pr (e + 1)) (zdn (LEO us wb pr le (e + 1)) (LEO us wb pr le e) (t)) (nI n) (nI k) hok (31 - t) (by omega) (zat 8 us (nI e))) (cwV 2 hts gX2_findLeast_X2_leastOf rfl rfl rfl (by decide +kernel) ⟨Nat.le_of_ble_eq_true rfl, Nat.le_of_ble_eq_true rfl⟩) ⟨zPr_blind, va_recv hK hP (ci := 2) (q0 := 5) rfl cws_5, zPr_mk hE hP⟩ rfl rfl hl.1 rfl (lv_room (Nat.le_of_ble_eq_true rfl)) dX2_findLeast_71 ⟨Nat.le_of_ble_eq_true rfl, Nat.le_of_ble_eq_true rfl⟩)) (fun r_10 e_11 => ?_)
        obtain rfl := e_11
        refine zlast (f2 := zdn (LEO us wb pr le (e + 1)) (LEO us wb pr le e) (t + 1)) hx hb hK hP hD hS 10 1 cws_10 rfl (vp_in_nI (by omega) (by decide)) (by rw [nI_clamp (by omega)]; exact zdn_u _ _ ht (LEO_step ht)) dX2_findLeast_74 (fun H locs hP hD hS => ?_)
        have hP : va_P D vwCl (cws cI cL cE cP ad g n k us wb tr (PRO wb pr (e + 1)) (zdn (LEO us wb pr le (e + 1)) (LEO us wb pr le e) (t + 1)) (nI n) (nI k)) H := zP_re hP (cws_s10).symm
        have hD : va_D A (cws cI cL cE cP ad g n k us wb tr (PRO wb pr (e + 1)) (zdn (LEO us wb pr le (e + 1)) (LEO us wb pr le e) (t + 1)) (nI n) (nI k)) := zD_re hD (cws_s10).symm
        refine lv_iinc (v := zd (t + 1)) (lv' := [(2, .int (zd (t + 1))), (0, .ref (ad 5)), (1, .int (nI e))]) hx hb dX2_findLeast_75 hl (k := 2) rfl (by rw [← zd_nI ht]; exact zd_dec t) (by decide) rfl (fun ls hl => ?_)
        refine lv_goto (tgt := 52) hx hb dX2_findLeast_78 (by decide) ?_
        exact ih_52 H locs ls (zP_re hP (by rfl)) (zD_re hD (by rfl)) hS (lv_re (lv_sub hl [1, 2, 0] rfl) (by first | rfl | (simp only [c_1, c_3, c_7]; done) | (simp only [c_1, c_3, c_7]; rfl) | (simp [c_1, c_3, c_7]; done)))
  · have hl : lv_has ls 3 [(0, .ref (ad 5)), (1, .int (nI (i)))] := hl
    have hP : va_P D vwCl (cws cI cL cE cP ad g n k us wb tr pr (zfl (fun j => dgL (nI j) 8 5) le (i)) (nI n) (nI k)) H := hP
    have hD : va_D A (cws cI cL cE cP ad g n k us wb tr pr (zfl (fun j => dgL (nI j) 8 5) le (i)) (nI n) (nI k)) := hD
    refine lv_iload_n hx hb dX2_findLeast_2 rfl (lv_at hl 1 rfl) ?_
    refine lv_aload_n hx hb dX2_findLeast_3 rfl (lv_at hl 0 rfl) ?_
    refine va_get (D := D) (ci := 2) (v := .ref (ad 10)) (C := RX2) (T := TX2) (N := 7) hx hb hts iX2 hown hK hP 5 cws_5 rfl 4 (by decide) (hts (.fieldLink RX2 25 "CapitalReckoner$Search" "least" "[J") (by decide +kernel)) (fun _ h9 => h9) rfl dX2_findLeast_4 ?_
    refine va_alen (v := nI 32) hx hb hK hP 10 1 cws_10 rfl (by first | rfl | decide) dX2_findLeast_7 ?_
    refine lv_icmp_ge (tgt := 29) hx hb dX2_findLeast_8 (by decide) (fun c_12 => absurd c_12 (nI_ge hi (by decide))) (fun c_12 => ?_)
    refine lv_aload_n hx hb dX2_findLeast_11 rfl (lv_at hl 0 rfl) ?_
    refine va_get (D := D) (ci := 2) (v := .ref (ad 10)) (C := RX2) (T := TX2) (N := 7) hx hb hts iX2 hown hK hP 5 cws_5 rfl 4 (by decide) (hts (.fieldLink RX2 25 "CapitalReckoner$Search" "least" "[J") (by decide +kernel)) (fun _ h9 => h9) rfl dX2_findLeast_12 ?_
    refine lv_iload_n hx hb dX2_findLeast_15 rfl (lv_at hl 1 rfl) ?_
    refine lv_iload_n hx hb dX2_findLeast_16 rfl (lv_at hl 1 rfl) ?_
    refine lv_bipush (v := 8) hx hb dX2_findLeast_17 (by decide) ?_
    refine vp_callSl (va_Run.run (va_runS (As := [.int (nI (i)), .int 8]) (rest := [.int (nI (i)), .ref (ad 10)]) ⟨hx, hb, hml, hown, hts⟩ (zX2_digitsOf l D cI cL cE cP (cws cI cL cE cP ad g n k us wb tr pr (zfl (fun j => dgL (nI j) 8 5) le (i)) (nI n) (nI k)) (nI (i)) (8)) (va_cwS 2 hts gX2_findLeast_X2_digitsOf rfl rfl rfl (by decide +kernel) ⟨Nat.le_of_ble_eq_true rfl, Nat.le_of_ble_eq_true rfl⟩) ⟨zPr_blind, zPr_mk hE hP⟩ rfl rfl hl.1 rfl (lv_room (Nat.le_of_ble_eq_true rfl)) dX2_findLeast_19 ⟨Nat.le_of_ble_eq_true rfl, Nat.le_of_ble_eq_true rfl⟩)) (fun r_13 e_14 => ?_)
    obtain rfl := e_14
    refine zlast (f2 := zfl (fun j => dgL (nI j) 8 5) le (i + 1)) hx hb hK hP hD hS 10 1 cws_10 rfl (vp_in_nI hi (by decide)) (by rw [nI_clamp (by omega)]; exact zfl_uL (fun j => dgL (nI j) 8 5) le i) dX2_findLeast_22 (fun H locs hP hD hS => ?_)
    have hP : va_P D vwCl (cws cI cL cE cP ad g n k us wb tr pr (zfl (fun j => dgL (nI j) 8 5) le (i + 1)) (nI n) (nI k)) H := zP_re hP (cws_s10).symm
    have hD : va_D A (cws cI cL cE cP ad g n k us wb tr pr (zfl (fun j => dgL (nI j) 8 5) le (i + 1)) (nI n) (nI k)) := zD_re hD (cws_s10).symm
    refine lv_iinc (v := nI ((i) + 1)) (lv' := [(1, .int (nI ((i) + 1))), (0, .ref (ad 5))]) hx hb dX2_findLeast_23 hl (k := 1) rfl (zinc _) (by decide) rfl (fun ls hl => ?_)
    refine lv_goto (tgt := 2) hx hb dX2_findLeast_26 (by decide) ?_
    exact ih_2 H locs ls (zP_re hP (by first | rfl | (simp only [c_12]; done) | (simp only [c_12]; rfl) | (simp [c_12]; done))) (zD_re hD (by first | rfl | (simp only [c_12]; done) | (simp only [c_12]; rfl) | (simp [c_12]; done))) hS (lv_re (lv_sub hl [1, 0] rfl) (by first | rfl | (simp only [c_12]; done) | (simp only [c_12]; rfl) | (simp [c_12]; done)))
set_option maxHeartbeats 4000000 in
set_option maxRecDepth 100000 in
theorem zX2_allGifts (l : Launch) (D : va_G) (cI cL cE cP : ClassId) (ad : Nat → Nat) (g : Nat → Nat → Int32) (n k : Nat) (us wb tr : Nat → Int32) (pr le : Nat → Int64) (hok : zOk g n k) : Met l yX2_allGifts wsX2_allGifts ({ frames := 0, cells := 0, slots := 0, locals := 0 }) (zPr D cI cL cE cP (cws cI cL cE cP ad g n k us wb tr pr le (nI n) (nI k)) [.ref (ad 5)]) (vp_Si (fun r : Int32 => r = ((1 : Int32) <<< (nI k &&& 31)) - 1)) 0 0 (fun _ => False) := by
  refine Met.ofW (cc := cX2_allGifts) (maxL := 1) (ret := (some .int)) (by decide) rfl ?_
  intro p e s m args below meth c s₁ B hml hv
  obtain ⟨rfl, hE, hP⟩ := hv
  have hx := B.exec
  have hb := B.bytes
  have hr := B.returns
  have hts := atoms_spec (ws := wsX2_allGifts) B.pre
  have hown : s.vm.findClass RX2 = some m.cls := findClass_of_methodNamed B.named
  have hlocks := B.notSynchronized
  have hK := hE.1
  have iX2 : ∀ w ∈ wsX20, w ∈ wsX2_allGifts := by decide +kernel
  have hl := lv_entry ([.ref (ad 5)]) (n := 1) (Nat.le_of_ble_eq_true rfl)
  rw [lg_entry_eq]
  generalize (lg_sl ([.ref (ad 5)]) ++ List.replicate (1 - (lg_sl ([.ref (ad 5)])).length) Slot.unset).toArray = ls at hl ⊢
  have hl : lv_has ls 1 [(0, .ref (ad 5))] := hl
  refine lv_iconst (v := 1) hx hb dX2_allGifts_0 (by decide) ?_
  refine lv_aload_n hx hb dX2_allGifts_1 rfl (lv_at hl 0 rfl) ?_
  refine va_get (D := D) (ci := 2) (v := .int (nI k)) (C := RX2) (T := TX2) (N := 7) hx hb hts iX2 hown hK hP 5 cws_5 rfl 6 (by decide) (hts (.fieldLink RX2 38 "CapitalReckoner$Search" "gifts" "I") (by decide +kernel)) (fun _ h9 => h9) rfl dX2_allGifts_2 ?_
  refine lv_ishl hx hb dX2_allGifts_5 ?_
  refine lv_iconst (v := 1) hx hb dX2_allGifts_6 (by decide) ?_
  refine lv_isub hx hb dX2_allGifts_7 ?_
  exact W.iret (v := ((1 : Int32) <<< ((nI k) &&& 31)) - 1) hx hb hr (fun t ht hW => ⟨_, rfl, (by first | rfl | (simp only []; done) | (simp only []; rfl) | (simp []; done)), ht⟩) (fun _ h => nomatch h) dX2_allGifts_8
set_option maxHeartbeats 4000000 in
set_option maxRecDepth 100000 in
theorem zX2_bestKey (l : Launch) (D : va_G) (cI cL cE cP : ClassId) (ad : Nat → Nat) (g : Nat → Nat → Int32) (n k : Nat) (us wb tr : Nat → Int32) (pr le : Nat → Int64) (hok : zOk g n k) : Met l yX2_bestKey wsX2_bestKey ({ frames := 1, cells := 0, slots := 0, locals := 21 }) (zPr D cI cL cE cP (cws cI cL cE cP ad g n k us wb tr pr le (nI n) (nI k)) [.ref (ad 5)]) (vp_Sl (fun r : Int64 => r = bkE le k)) 0 0 (fun _ => False) := by
  refine Met.ofW (cc := cX2_bestKey) (maxL := 1) (ret := (some .long)) (by decide) rfl ?_
  intro p e s m args below meth c s₁ B hml hv
  obtain ⟨rfl, hE, hP⟩ := hv
  have hx := B.exec
  have hb := B.bytes
  have hr := B.returns
  have hts := atoms_spec (ws := wsX2_bestKey) B.pre
  have hown : s.vm.findClass RX2 = some m.cls := findClass_of_methodNamed B.named
  have hlocks := B.notSynchronized
  have hK := hE.1
  have hl := lv_entry ([.ref (ad 5)]) (n := 1) (Nat.le_of_ble_eq_true rfl)
  rw [lg_entry_eq]
  generalize (lg_sl ([.ref (ad 5)]) ++ List.replicate (1 - (lg_sl ([.ref (ad 5)])).length) Slot.unset).toArray = ls at hl ⊢
  have hl : lv_has ls 1 [(0, .ref (ad 5))] := hl
  refine lv_aload_n hx hb dX2_bestKey_0 rfl (lv_at hl 0 rfl) ?_
  refine lv_aload_n hx hb dX2_bestKey_1 rfl (lv_at hl 0 rfl) ?_
  refine vp_callSi (va_Run.run (va_runV (As := []) (rest := [.ref (ad 5)]) ⟨hx, hb, hml, hown, hts⟩ (zX2_allGifts l D cI cL cE cP ad g n k us wb tr pr le hok ) (cwV 0 hts gX2_bestKey_X2_allGifts rfl rfl rfl (by decide +kernel) ⟨Nat.le_of_ble_eq_true rfl, Nat.le_of_ble_eq_true rfl⟩) ⟨zPr_blind, va_recv hK hP (ci := 2) (q0 := 5) rfl cws_5, zPr_mk hE hP⟩ rfl rfl hl.1 rfl (lv_room (Nat.le_of_ble_eq_true rfl)) dX2_bestKey_2 ⟨Nat.le_of_ble_eq_true rfl, Nat.le_of_ble_eq_true rfl⟩)) (fun r_1 e_2 => ?_)
  obtain rfl := e_2
  refine vp_callSl (va_Run.run (va_runV (As := [.int (((1 : Int32) <<< (nI k &&& 31)) - 1)]) (rest := []) ⟨hx, hb, hml, hown, hts⟩ (zX2_leastKey l D cI cL cE cP ad g n k us wb tr pr le (nI n) (nI k) hok (((1 : Int32) <<< (nI k &&& 31)) - 1)) (cwV 1 hts gX2_bestKey_X2_leastKey rfl rfl rfl (by decide +kernel) ⟨Nat.le_of_ble_eq_true rfl, Nat.le_of_ble_eq_true rfl⟩) ⟨zPr_blind, va_recv hK hP (ci := 2) (q0 := 5) rfl cws_5, zPr_mk hE hP⟩ rfl rfl hl.1 rfl (lv_room (Nat.le_of_ble_eq_true rfl)) dX2_bestKey_5 ⟨Nat.le_of_ble_eq_true rfl, Nat.le_of_ble_eq_true rfl⟩)) (fun r_3 e_4 => ?_)
  obtain rfl := e_4
  exact W.lret (v := zatL 32 le (((1 : Int32) <<< (nI k &&& 31)) - 1)) hx hb hr (fun t ht hW => ⟨_, rfl, (by first | rfl | (simp only [bkE]; done) | (simp only [bkE]; rfl) | (simp [bkE]; done)), ht⟩) (fun _ h => nomatch h) dX2_bestKey_8
set_option maxHeartbeats 4000000 in
set_option maxRecDepth 100000 in
theorem zX2_bestWhole (l : Launch) (D : va_G) (cI cL cE cP : ClassId) (ad : Nat → Nat) (g : Nat → Nat → Int32) (n k : Nat) (us wb tr : Nat → Int32) (pr le : Nat → Int64) (hok : zOk g n k) : Met l yX2_bestWhole wsX2_bestWhole ({ frames := 2, cells := 0, slots := 0, locals := 41 }) (zPr D cI cL cE cP (cws cI cL cE cP ad g n k us wb tr pr le (nI n) (nI k)) [.ref (ad 5)]) (vp_Si (fun r : Int32 => r = bwE le k)) 0 0 (fun _ => False) := by
  refine Met.ofW (cc := cX2_bestWhole) (maxL := 1) (ret := (some .int)) (by decide) rfl ?_
  intro p e s m args below meth c s₁ B hml hv
  obtain ⟨rfl, hE, hP⟩ := hv
  have hx := B.exec
  have hb := B.bytes
  have hr := B.returns
  have hts := atoms_spec (ws := wsX2_bestWhole) B.pre
  have hown : s.vm.findClass RX2 = some m.cls := findClass_of_methodNamed B.named
  have hlocks := B.notSynchronized
  have hK := hE.1
  have hl := lv_entry ([.ref (ad 5)]) (n := 1) (Nat.le_of_ble_eq_true rfl)
  rw [lg_entry_eq]
  generalize (lg_sl ([.ref (ad 5)]) ++ List.replicate (1 - (lg_sl ([.ref (ad 5)])).length) Slot.unset).toArray = ls at hl ⊢
  have hl : lv_has ls 1 [(0, .ref (ad 5))] := hl
  refine lv_aload_n hx hb dX2_bestWhole_0 rfl (lv_at hl 0 rfl) ?_
  refine vp_callSl (va_Run.run (va_runV (As := []) (rest := []) ⟨hx, hb, hml, hown, hts⟩ (zX2_bestKey l D cI cL cE cP ad g n k us wb tr pr le hok ) (cwV 0 hts gX2_bestWhole_X2_bestKey rfl rfl rfl (by decide +kernel) ⟨Nat.le_of_ble_eq_true rfl, Nat.le_of_ble_eq_true rfl⟩) ⟨zPr_blind, va_recv hK hP (ci := 2) (q0 := 5) rfl cws_5, zPr_mk hE hP⟩ rfl rfl hl.1 rfl (lv_room (Nat.le_of_ble_eq_true rfl)) dX2_bestWhole_1 ⟨Nat.le_of_ble_eq_true rfl, Nat.le_of_ble_eq_true rfl⟩)) (fun r_1 e_2 => ?_)
  obtain rfl := e_2
  refine lv_bipush (v := 20) hx hb dX2_bestWhole_4 (by decide) ?_
  refine lv_lshr hx hb dX2_bestWhole_6 rfl ?_
  refine lv_l2i hx hb dX2_bestWhole_7 rfl ?_
  exact W.iret (v := ((bkE le k) >>> (((20 : Int32)).toInt64 &&& 63)).toInt32) hx hb hr (fun t ht hW => ⟨_, rfl, (by first | rfl | (simp only [bwE]; done) | (simp only [bwE]; rfl) | (simp [bwE]; done)), ht⟩) (fun _ h => nomatch h) dX2_bestWhole_8
set_option maxHeartbeats 4000000 in
set_option maxRecDepth 100000 in
theorem zX2_wholeWithout (l : Launch) (D : va_G) (cI cL cE cP : ClassId) (ad : Nat → Nat) (g : Nat → Nat → Int32) (n k : Nat) (us wb tr : Nat → Int32) (pr le : Nat → Int64) (hok : zOk g n k) (p0 : Int32) : Met l yX2_wholeWithout wsX2_wholeWithout ({ frames := 1, cells := 0, slots := 0, locals := 21 }) (zPr D cI cL cE cP (cws cI cL cE cP ad g n k us wb tr pr le (nI n) (nI k)) [.ref (ad 5), .int p0]) (vp_Si (fun r : Int32 => r = woE le k p0)) 0 0 (fun _ => False) := by
  refine Met.ofW (cc := cX2_wholeWithout) (maxL := 2) (ret := (some .int)) (by decide) rfl ?_
  intro p e s m args below meth c s₁ B hml hv
  obtain ⟨rfl, hE, hP⟩ := hv
  have hx := B.exec
  have hb := B.bytes
  have hr := B.returns
  have hts := atoms_spec (ws := wsX2_wholeWithout) B.pre
  have hown : s.vm.findClass RX2 = some m.cls := findClass_of_methodNamed B.named
  have hlocks := B.notSynchronized
  have hK := hE.1
  have hl := lv_entry ([.ref (ad 5), .int p0]) (n := 2) (Nat.le_of_ble_eq_true rfl)
  rw [lg_entry_eq]
  generalize (lg_sl ([.ref (ad 5), .int p0]) ++ List.replicate (2 - (lg_sl ([.ref (ad 5), .int p0])).length) Slot.unset).toArray = ls at hl ⊢
  have hl : lv_has ls 2 [(0, .ref (ad 5)), (1, .int p0)] := hl
  refine lv_aload_n hx hb dX2_wholeWithout_0 rfl (lv_at hl 0 rfl) ?_
  refine lv_aload_n hx hb dX2_wholeWithout_1 rfl (lv_at hl 0 rfl) ?_
  refine vp_callSi (va_Run.run (va_runV (As := []) (rest := [.ref (ad 5)]) ⟨hx, hb, hml, hown, hts⟩ (zX2_allGifts l D cI cL cE cP ad g n k us wb tr pr le hok ) (cwV 0 hts gX2_wholeWithout_X2_allGifts rfl rfl rfl (by decide +kernel) ⟨Nat.le_of_ble_eq_true rfl, Nat.le_of_ble_eq_true rfl⟩) ⟨zPr_blind, va_recv hK hP (ci := 2) (q0 := 5) rfl cws_5, zPr_mk hE hP⟩ rfl rfl hl.1 rfl (lv_room (Nat.le_of_ble_eq_true rfl)) dX2_wholeWithout_2 ⟨Nat.le_of_ble_eq_true rfl, Nat.le_of_ble_eq_true rfl⟩)) (fun r_1 e_2 => ?_)
  obtain rfl := e_2
  refine lv_iconst (v := 1) hx hb dX2_wholeWithout_5 (by decide) ?_
  refine lv_iload_n hx hb dX2_wholeWithout_6 rfl (lv_at hl 1 rfl) ?_
  refine lv_ishl hx hb dX2_wholeWithout_7 ?_
  refine lv_iconst (v := (-1)) hx hb dX2_wholeWithout_8 (by decide) ?_
  refine lv_ixor hx hb dX2_wholeWithout_9 ?_
  refine lv_iand hx hb dX2_wholeWithout_10 ?_
  refine vp_callSl (va_Run.run (va_runV (As := [.int ((((1 : Int32) <<< (nI k &&& 31)) - 1) &&& (((1 : Int32) <<< (p0 &&& 31)) ^^^ (-1)))]) (rest := []) ⟨hx, hb, hml, hown, hts⟩ (zX2_leastKey l D cI cL cE cP ad g n k us wb tr pr le (nI n) (nI k) hok ((((1 : Int32) <<< (nI k &&& 31)) - 1) &&& (((1 : Int32) <<< (p0 &&& 31)) ^^^ (-1)))) (cwV 1 hts gX2_wholeWithout_X2_leastKey rfl rfl rfl (by decide +kernel) ⟨Nat.le_of_ble_eq_true rfl, Nat.le_of_ble_eq_true rfl⟩) ⟨zPr_blind, va_recv hK hP (ci := 2) (q0 := 5) rfl cws_5, zPr_mk hE hP⟩ rfl rfl hl.1 rfl (lv_room (Nat.le_of_ble_eq_true rfl)) dX2_wholeWithout_11 ⟨Nat.le_of_ble_eq_true rfl, Nat.le_of_ble_eq_true rfl⟩)) (fun r_3 e_4 => ?_)
  obtain rfl := e_4
  refine lv_bipush (v := 20) hx hb dX2_wholeWithout_14 (by decide) ?_
  refine lv_lshr hx hb dX2_wholeWithout_16 rfl ?_
  refine lv_l2i hx hb dX2_wholeWithout_17 rfl ?_
  exact W.iret (v := ((zatL 32 le ((((1 : Int32) <<< (nI k &&& 31)) - 1) &&& (((1 : Int32) <<< (p0 &&& 31)) ^^^ (-1)))) >>> (((20 : Int32)).toInt64 &&& 63)).toInt32) hx hb hr (fun t ht hW => ⟨_, rfl, (by first | rfl | (simp only [woE]; done) | (simp only [woE]; rfl) | (simp [woE]; done)), ht⟩) (fun _ h => nomatch h) dX2_wholeWithout_18
set_option maxHeartbeats 4000000 in
set_option maxRecDepth 100000 in
theorem zX2_takerOf (l : Launch) (D : va_G) (cI cL cE cP : ClassId) (ad : Nat → Nat) (g : Nat → Nat → Int32) (n k : Nat) (us wb tr : Nat → Int32) (pr le : Nat → Int64) (hok : zOk g n k) (p0 : Int32) : Met l yX2_takerOf wsX2_takerOf ({ frames := 2, cells := 0, slots := 0, locals := 41 }) (zPr D cI cL cE cP (cws cI cL cE cP ad g n k us wb tr pr le (nI n) (nI k)) [.ref (ad 5), .int p0]) (vp_Si (fun r : Int32 => r = tkE le k p0)) 0 0 (fun _ => False) := by
  refine Met.ofW (cc := cX2_takerOf) (maxL := 3) (ret := (some .int)) (by decide) rfl ?_
  intro p e s m args below meth c s₁ B hml hv
  obtain ⟨rfl, hE, hP⟩ := hv
  have hx := B.exec
  have hb := B.bytes
  have hr := B.returns
  have hts := atoms_spec (ws := wsX2_takerOf) B.pre
  have hown : s.vm.findClass RX2 = some m.cls := findClass_of_methodNamed B.named
  have hlocks := B.notSynchronized
  have hK := hE.1
  have hl := lv_entry ([.ref (ad 5), .int p0]) (n := 3) (Nat.le_of_ble_eq_true rfl)
  rw [lg_entry_eq]
  generalize (lg_sl ([.ref (ad 5), .int p0]) ++ List.replicate (3 - (lg_sl ([.ref (ad 5), .int p0])).length) Slot.unset).toArray = ls at hl ⊢
  have hl : lv_has ls 3 [(0, .ref (ad 5)), (1, .int p0)] := hl
  refine lv_aload_n hx hb dX2_takerOf_0 rfl (lv_at hl 0 rfl) ?_
  refine vp_callSl (va_Run.run (va_runV (As := []) (rest := []) ⟨hx, hb, hml, hown, hts⟩ (zX2_bestKey l D cI cL cE cP ad g n k us wb tr pr le hok ) (cwV 0 hts gX2_takerOf_X2_bestKey rfl rfl rfl (by decide +kernel) ⟨Nat.le_of_ble_eq_true rfl, Nat.le_of_ble_eq_true rfl⟩) ⟨zPr_blind, va_recv hK hP (ci := 2) (q0 := 5) rfl cws_5, zPr_mk hE hP⟩ rfl rfl hl.1 rfl (lv_room (Nat.le_of_ble_eq_true rfl)) dX2_takerOf_1 ⟨Nat.le_of_ble_eq_true rfl, Nat.le_of_ble_eq_true rfl⟩)) (fun r_1 e_2 => ?_)
  obtain rfl := e_2
  refine lv_iload_n hx hb dX2_takerOf_4 rfl (lv_at hl 1 rfl) ?_
  refine vp_callSi (va_Run.run (va_runS (As := [.int p0]) (rest := [.long (bkE le k)]) ⟨hx, hb, hml, hown, hts⟩ (zX2_digitShift l D cI cL cE cP (cws cI cL cE cP ad g n k us wb tr pr le (nI n) (nI k)) p0) (va_cwS 1 hts gX2_takerOf_X2_digitShift rfl rfl rfl (by decide +kernel) ⟨Nat.le_of_ble_eq_true rfl, Nat.le_of_ble_eq_true rfl⟩) ⟨zPr_blind, zPr_mk hE hP⟩ rfl rfl hl.1 rfl (lv_room (Nat.le_of_ble_eq_true rfl)) dX2_takerOf_5 ⟨Nat.le_of_ble_eq_true rfl, Nat.le_of_ble_eq_true rfl⟩)) (fun r_3 e_4 => ?_)
  obtain rfl := e_4
  refine lv_lshr hx hb dX2_takerOf_8 rfl ?_
  refine lv_l2i hx hb dX2_takerOf_9 rfl ?_
  refine lv_bipush (v := 15) hx hb dX2_takerOf_10 (by decide) ?_
  refine lv_iand hx hb dX2_takerOf_12 ?_
  refine lv_istore_n (lv' := [(2, .int ((((bkE le k) >>> ((4 * (4 - p0)).toInt64 &&& 63)).toInt32) &&& 15)), (0, .ref (ad 5)), (1, .int p0)]) hx hb dX2_takerOf_13 rfl hl (by decide) rfl (fun ls hl => ?_)
  refine lv_iload_n hx hb dX2_takerOf_14 rfl (lv_at hl 0 rfl) ?_
  refine lv_bipush (v := 8) hx hb dX2_takerOf_15 (by decide) ?_
  refine lv_icmp_ne (tgt := 24) hx hb dX2_takerOf_17 (by decide) (fun c_5 => ?_) (fun c_5 => ?_)
  · refine lv_iload_n hx hb dX2_takerOf_24 rfl (lv_at hl 0 rfl) ?_
    exact W.iret (v := (((bkE le k) >>> ((4 * (4 - p0)).toInt64 &&& 63)).toInt32) &&& 15) hx hb hr (fun t ht hW => ⟨_, rfl, (by first | rfl | (simp only [tkE, c_5]; done) | (simp only [tkE, c_5]; rfl) | (simp [tkE, c_5]; done)), ht⟩) (fun _ h => nomatch h) dX2_takerOf_25
  · refine lv_iconst (v := (-1)) hx hb dX2_takerOf_20 (by decide) ?_
    refine lv_goto (tgt := 25) hx hb dX2_takerOf_21 (by decide) ?_
    exact W.iret (v := -1) hx hb hr (fun t ht hW => ⟨_, rfl, (by first | rfl | (simp only [tkE, c_5]; done) | (simp only [tkE, c_5]; rfl) | (simp [tkE, c_5]; done)), ht⟩) (fun _ h => nomatch h) dX2_takerOf_25
set_option maxHeartbeats 4000000 in
set_option maxRecDepth 100000 in
theorem zX2_givenSet (l : Launch) (D : va_G) (cI cL cE cP : ClassId) (ad : Nat → Nat) (g : Nat → Nat → Int32) (n k : Nat) (us wb tr : Nat → Int32) (pr le : Nat → Int64) (hok : zOk g n k) (e0 : Int32) : Met l yX2_givenSet wsX2_givenSet ({ frames := 3, cells := 0, slots := 0, locals := 63 }) (zPr D cI cL cE cP (cws cI cL cE cP ad g n k us wb tr pr le (nI n) (nI k)) [.ref (ad 5), .int e0]) (vp_Si (fun r : Int32 => r = gsL le k e0 k)) 0 0 (fun _ => False) := by
  refine Met.ofW (cc := cX2_givenSet) (maxL := 4) (ret := (some .int)) (by decide) rfl ?_
  intro p e s m args below meth c s₁ B hml hv
  obtain ⟨rfl, hE, hP⟩ := hv
  have hx := B.exec
  have hb := B.bytes
  have hr := B.returns
  have hts := atoms_spec (ws := wsX2_givenSet) B.pre
  have hown : s.vm.findClass RX2 = some m.cls := findClass_of_methodNamed B.named
  have hlocks := B.notSynchronized
  have hK := hE.1
  have iX2 : ∀ w ∈ wsX20, w ∈ wsX2_givenSet := by decide +kernel
  have hl := lv_entry ([.ref (ad 5), .int e0]) (n := 4) (Nat.le_of_ble_eq_true rfl)
  rw [lg_entry_eq]
  generalize (lg_sl ([.ref (ad 5), .int e0]) ++ List.replicate (4 - (lg_sl ([.ref (ad 5), .int e0])).length) Slot.unset).toArray = ls at hl ⊢
  have hl : lv_has ls 4 [(0, .ref (ad 5)), (1, .int e0)] := hl
  refine lv_iconst (v := 0) hx hb dX2_givenSet_0 (by decide) ?_
  refine lv_istore_n (lv' := [(2, .int 0), (0, .ref (ad 5)), (1, .int e0)]) hx hb dX2_givenSet_1 rfl hl (by decide) rfl (fun ls hl => ?_)
  refine lv_iconst (v := 0) hx hb dX2_givenSet_2 (by decide) ?_
  refine lv_istore_n (lv' := [(3, .int 0), (2, .int 0), (0, .ref (ad 5)), (1, .int e0)]) hx hb dX2_givenSet_3 rfl hl (by decide) rfl (fun ls hl => ?_)
  refine zloop (nL := 4) (lv := fun i => [(0, .ref (ad 5)), (1, .int e0), (2, .int (gsL le k e0 (i))), (3, .int (nI (i)))]) (n := k) (lv_re (lv_sub hl [2, 3, 1, 0] rfl) (by first | rfl | (simp only [gsL, nI_0]; done) | (simp only [gsL, nI_0]; rfl) | (simp [gsL, nI_0]; done))) (fun ls hl => ?_) (fun i hi ih_4 ls hl => ?_)
  · have hl : lv_has ls 4 [(0, .ref (ad 5)), (1, .int e0), (2, .int (gsL le k e0 (k))), (3, .int (nI (k)))] := hl
    refine lv_iload_n hx hb dX2_givenSet_4 rfl (lv_at hl 3 rfl) ?_
    refine lv_aload_n hx hb dX2_givenSet_5 rfl (lv_at hl 0 rfl) ?_
    refine va_get (D := D) (ci := 2) (v := .int (nI k)) (C := RX2) (T := TX2) (N := 7) hx hb hts iX2 hown hK hP 5 cws_5 rfl 6 (by decide) (hts (.fieldLink RX2 38 "CapitalReckoner$Search" "gifts" "I") (by decide +kernel)) (fun _ h9 => h9) rfl dX2_givenSet_6 ?_
    refine lv_icmp_ge (tgt := 33) hx hb dX2_givenSet_9 (by decide) (fun c_1 => ?_) (fun c_1 => absurd (zle_refl (nI k)) c_1)
    refine lv_iload_n hx hb dX2_givenSet_33 rfl (lv_at hl 2 rfl) ?_
    exact W.iret (v := gsL le k e0 (k)) hx hb hr (fun t ht hW => ⟨_, rfl, (by first | rfl | (simp only [gsL, c_1]; done) | (simp only [gsL, c_1]; rfl) | (simp [gsL, c_1]; done)), ht⟩) (fun _ h => nomatch h) dX2_givenSet_34
  · have hl : lv_has ls 4 [(0, .ref (ad 5)), (1, .int e0), (2, .int (gsL le k e0 (i))), (3, .int (nI (i)))] := hl
    refine lv_iload_n hx hb dX2_givenSet_4 rfl (lv_at hl 3 rfl) ?_
    refine lv_aload_n hx hb dX2_givenSet_5 rfl (lv_at hl 0 rfl) ?_
    refine va_get (D := D) (ci := 2) (v := .int (nI k)) (C := RX2) (T := TX2) (N := 7) hx hb hts iX2 hown hK hP 5 cws_5 rfl 6 (by decide) (hts (.fieldLink RX2 38 "CapitalReckoner$Search" "gifts" "I") (by decide +kernel)) (fun _ h9 => h9) rfl dX2_givenSet_6 ?_
    refine lv_icmp_ge (tgt := 33) hx hb dX2_givenSet_9 (by decide) (fun c_2 => absurd c_2 (nI_ge hi (by have := hok.k; omega))) (fun c_2 => ?_)
    refine lv_aload_n hx hb dX2_givenSet_12 rfl (lv_at hl 0 rfl) ?_
    refine lv_iload_n hx hb dX2_givenSet_13 rfl (lv_at hl 3 rfl) ?_
    refine vp_callSi (va_Run.run (va_runV (As := [.int (nI (i))]) (rest := []) ⟨hx, hb, hml, hown, hts⟩ (zX2_takerOf l D cI cL cE cP ad g n k us wb tr pr le hok (nI (i))) (cwV 1 hts gX2_givenSet_X2_takerOf rfl rfl rfl (by decide +kernel) ⟨Nat.le_of_ble_eq_true rfl, Nat.le_of_ble_eq_true rfl⟩) ⟨zPr_blind, va_recv hK hP (ci := 2) (q0 := 5) rfl cws_5, zPr_mk hE hP⟩ rfl rfl hl.1 rfl (lv_room (Nat.le_of_ble_eq_true rfl)) dX2_givenSet_14 ⟨Nat.le_of_ble_eq_true rfl, Nat.le_of_ble_eq_true rfl⟩)) (fun r_3 e_4 => ?_)
    obtain rfl := e_4
    refine lv_iload_n hx hb dX2_givenSet_17 rfl (lv_at hl 1 rfl) ?_
    refine lv_icmp_ne (tgt := 27) hx hb dX2_givenSet_18 (by decide) (fun c_5 => ?_) (fun c_5 => ?_)
    · refine lv_iinc (v := nI ((i) + 1)) (lv' := [(3, .int (nI ((i) + 1))), (0, .ref (ad 5)), (1, .int e0), (2, .int (gsL le k e0 (i)))]) hx hb dX2_givenSet_27 hl (k := 3) rfl (zinc _) (by decide) rfl (fun ls hl => ?_)
      refine lv_goto (tgt := 4) hx hb dX2_givenSet_30 (by decide) ?_
      exact ih_4 ls (lv_re (lv_sub hl [1, 2, 3, 0] rfl) (by first | rfl | (simp only [gsL, c_2, c_5]; done) | (simp only [gsL, c_2, c_5]; rfl) | (simp [gsL, c_2, c_5]; done)))
    · refine lv_iload_n hx hb dX2_givenSet_21 rfl (lv_at hl 2 rfl) ?_
      refine lv_iconst (v := 1) hx hb dX2_givenSet_22 (by decide) ?_
      refine lv_iload_n hx hb dX2_givenSet_23 rfl (lv_at hl 3 rfl) ?_
      refine lv_ishl hx hb dX2_givenSet_24 ?_
      refine lv_ior hx hb dX2_givenSet_25 ?_
      refine lv_istore_n (lv' := [(2, .int ((gsL le k e0 (i)) ||| ((1 : Int32) <<< ((nI (i)) &&& 31)))), (0, .ref (ad 5)), (1, .int e0), (3, .int (nI (i)))]) hx hb dX2_givenSet_26 rfl hl (by decide) rfl (fun ls hl => ?_)
      refine lv_iinc (v := nI ((i) + 1)) (lv' := [(3, .int (nI ((i) + 1))), (2, .int ((gsL le k e0 (i)) ||| ((1 : Int32) <<< ((nI (i)) &&& 31)))), (0, .ref (ad 5)), (1, .int e0)]) hx hb dX2_givenSet_27 hl (k := 3) rfl (zinc _) (by decide) rfl (fun ls hl => ?_)
      refine lv_goto (tgt := 4) hx hb dX2_givenSet_30 (by decide) ?_
      exact ih_4 ls (lv_re (lv_sub hl [2, 3, 1, 0] rfl) (by first | rfl | (simp only [gsL, c_2, c_5]; done) | (simp only [gsL, c_2, c_5]; rfl) | (simp [gsL, c_2, c_5]; done)))
set_option maxHeartbeats 4000000 in
set_option maxRecDepth 100000 in
theorem zX2_tryFrom0 (l : Launch) (D : va_G) (cI cL cE cP : ClassId) (ad : Nat → Nat) (g : Nat → Nat → Int32) (n k : Nat) (us wb tr : Nat → Int32) (pr le : Nat → Int64) (hok : zOk g n k) (sum : Int32) (sz : Nat) : Met l yX2_tryFrom wsX2_tryFrom ({ frames := 5, cells := 0, slots := 0, locals := 100 }) (zPw D cI cL cE cP (cws cI cL cE cP ad g n k us wb tr pr le (nI n) (nI k)) sz [.ref (ad 5), .int (nI k), .int sum]) (zQi D (cws cI cL cE cP ad g n k us wb tr pr le (nI n) (nI k)) sz (fun r : Int32 => r = sum) (cws cI cL cE cP ad g n k us wb tr pr le (nI n) (nI k))) 0 0 (va_A (cws cI cL cE cP ad g n k us wb tr pr le (nI n) (nI k)) sz) := by
  refine Met.ofW (cc := cX2_tryFrom) (maxL := 8) (ret := (some .int)) (by decide) rfl ?_
  intro p e s m args below meth c s₁ B hml hv
  obtain ⟨rfl, hsz, hE, hP, hD0⟩ := hv
  subst hsz
  obtain ⟨A, hAe⟩ : ∃ A, A = va_A (cws cI cL cE cP ad g n k us wb tr pr le (nI n) (nI k)) s.heap.size := ⟨_, rfl⟩
  have hD : va_D A (cws cI cL cE cP ad g n k us wb tr pr le (nI n) (nI k)) := by rw [hAe]; exact hD0.self
  have hA : ∀ q : Nat, s.heap.size ≤ q → A q := fun q h => by rw [hAe]; exact Or.inr h
  have hS : va_S A s.heap s.heap [] := va_S.rf
  have hx := B.exec
  have hb := B.bytes
  have hr := B.returns
  have hts := atoms_spec (ws := wsX2_tryFrom) B.pre
  have hown : s.vm.findClass RX2 = some m.cls := findClass_of_methodNamed B.named
  have hlocks := B.notSynchronized
  have hK := hE.1
  have iX2 : ∀ w ∈ wsX20, w ∈ wsX2_tryFrom := by decide +kernel
  have hl := lv_entry ([.ref (ad 5), .int (nI k), .int sum]) (n := 8) (Nat.le_of_ble_eq_true rfl)
  rw [lg_entry_eq]
  generalize (lg_sl ([.ref (ad 5), .int (nI k), .int sum]) ++ List.replicate (8 - (lg_sl ([.ref (ad 5), .int (nI k), .int sum])).length) Slot.unset).toArray = ls at hl ⊢
  have hl : lv_has ls 8 [(0, .ref (ad 5)), (1, .int (nI k)), (2, .int sum)] := hl
  refine lv_iload_n hx hb dX2_tryFrom_0 rfl (lv_at hl 1 rfl) ?_
  refine lv_if_lt (tgt := 12) hx hb dX2_tryFrom_1 (by decide) (fun c_1 => absurd c_1 (nI_pos (by have := hok.k; omega))) (fun c_1 => ?_)
  refine lv_iload_n hx hb dX2_tryFrom_4 rfl (lv_at hl 1 rfl) ?_
  refine lv_aload_n hx hb dX2_tryFrom_5 rfl (lv_at hl 0 rfl) ?_
  refine va_get (D := D) (ci := 2) (v := .int (nI k)) (C := RX2) (T := TX2) (N := 7) hx hb hts iX2 hown hK hP 5 cws_5 rfl 6 (by decide) (hts (.fieldLink RX2 38 "CapitalReckoner$Search" "gifts" "I") (by decide +kernel)) (fun _ h9 => h9) rfl dX2_tryFrom_6 ?_
  refine lv_icmp_lt (tgt := 14) hx hb dX2_tryFrom_9 (by decide) (fun c_2 => absurd c_2 (nI_nlt (Nat.le_refl k) (by have := hok.k; omega))) (fun c_2 => ?_)
  refine lv_iload_n hx hb dX2_tryFrom_12 rfl (lv_at hl 2 rfl) ?_
  exact ziret (v := sum) hx hb hr hAe (by first | rfl | (simp only [c_1, c_2]; done) | (simp only [c_1, c_2]; rfl) | (simp [c_1, c_2]; done)) (zP_re hP (rfl)) (zD_re hD (rfl)) hS dX2_tryFrom_13
set_option maxHeartbeats 4000000 in
set_option maxRecDepth 100000 in
theorem zX2_tryFromS (l : Launch) (D : va_G) (cI cL cE cP : ClassId) (ad : Nat → Nat) (g : Nat → Nat → Int32) (n k : Nat) (us wb tr : Nat → Int32) (pr le : Nat → Int64) (hok : zOk g n k) (sum : Int32) (F Lo F2 Lo2 d pp : Nat) (hF : 3 ≤ F) (hF2 : F + 1 ≤ F2) (hLo : Lo + 100 ≤ Lo2) (hp : pp < k) (ih : ∀ (tr : Nat → Int32) (sum : Int32) (sz : Nat), Met l yX2_tryFrom wsX2_tryFrom ({ frames := F, cells := 0, slots := 0, locals := Lo }) (zPw D cI cL cE cP (cws cI cL cE cP ad g n k us wb tr pr le (nI n) (nI k)) sz [.ref (ad 5), .int (nI (pp + 1)), .int sum]) (zQi D (cws cI cL cE cP ad g n k us wb tr pr le (nI n) (nI k)) sz (fun r : Int32 => r = tfF us wb n d (pp + 1) tr sum) (cws cI cL cE cP ad g n k us wb tr pr le (nI n) (nI k))) 0 0 (va_A (cws cI cL cE cP ad g n k us wb tr pr le (nI n) (nI k)) sz)) (sz : Nat) : Met l yX2_tryFrom wsX2_tryFrom ({ frames := F2, cells := 0, slots := 0, locals := Lo2 }) (zPw D cI cL cE cP (cws cI cL cE cP ad g n k us wb tr pr le (nI n) (nI k)) sz [.ref (ad 5), .int (nI pp), .int sum]) (zQi D (cws cI cL cE cP ad g n k us wb tr pr le (nI n) (nI k)) sz (fun r : Int32 => r = tfF us wb n (d + 1) pp tr sum) (cws cI cL cE cP ad g n k us wb tr pr le (nI n) (nI k))) 0 0 (va_A (cws cI cL cE cP ad g n k us wb tr pr le (nI n) (nI k)) sz) := by
  refine Met.ofW (cc := cX2_tryFrom) (maxL := 8) (ret := (some .int)) (by decide) rfl ?_
  intro p e s m args below meth c s₁ B hml hv
  obtain ⟨rfl, hsz, hE, hP, hD0⟩ := hv
  subst hsz
  obtain ⟨A, hAe⟩ : ∃ A, A = va_A (cws cI cL cE cP ad g n k us wb tr pr le (nI n) (nI k)) s.heap.size := ⟨_, rfl⟩
  have hD : va_D A (cws cI cL cE cP ad g n k us wb tr pr le (nI n) (nI k)) := by rw [hAe]; exact hD0.self
  have hA : ∀ q : Nat, s.heap.size ≤ q → A q := fun q h => by rw [hAe]; exact Or.inr h
  have hS : va_S A s.heap s.heap [] := va_S.rf
  have hx := B.exec
  have hb := B.bytes
  have hr := B.returns
  have hts := atoms_spec (ws := wsX2_tryFrom) B.pre
  have hown : s.vm.findClass RX2 = some m.cls := findClass_of_methodNamed B.named
  have hlocks := B.notSynchronized
  have hK := hE.1
  have iX2 : ∀ w ∈ wsX20, w ∈ wsX2_tryFrom := by decide +kernel
  have hl := lv_entry ([.ref (ad 5), .int (nI pp), .int sum]) (n := 8) (Nat.le_of_ble_eq_true rfl)
  rw [lg_entry_eq]
  generalize (lg_sl ([.ref (ad 5), .int (nI pp), .int sum]) ++ List.replicate (8 - (lg_sl ([.ref (ad 5), .int (nI pp), .int sum])).length) Slot.unset).toArray = ls at hl ⊢
  have hl : lv_has ls 8 [(0, .ref (ad 5)), (1, .int (nI pp)), (2, .int sum)] := hl
  refine lv_iload_n hx hb dX2_tryFrom_0 rfl (lv_at hl 1 rfl) ?_
  refine lv_if_lt (tgt := 12) hx hb dX2_tryFrom_1 (by decide) (fun c_1 => absurd c_1 (nI_pos (by have := hok.k; omega))) (fun c_1 => ?_)
  refine lv_iload_n hx hb dX2_tryFrom_4 rfl (lv_at hl 1 rfl) ?_
  refine lv_aload_n hx hb dX2_tryFrom_5 rfl (lv_at hl 0 rfl) ?_
  refine va_get (D := D) (ci := 2) (v := .int (nI k)) (C := RX2) (T := TX2) (N := 7) hx hb hts iX2 hown hK hP 5 cws_5 rfl 6 (by decide) (hts (.fieldLink RX2 38 "CapitalReckoner$Search" "gifts" "I") (by decide +kernel)) (fun _ h9 => h9) rfl dX2_tryFrom_6 ?_
  refine lv_icmp_lt (tgt := 14) hx hb dX2_tryFrom_9 (by decide) (fun c_2 => ?_) (fun c_2 => absurd (nI_lt hp (by have := hok.k; omega)) c_2)
  refine lv_aload_n hx hb dX2_tryFrom_14 rfl (lv_at hl 0 rfl) ?_
  refine lv_iload_n hx hb dX2_tryFrom_15 rfl (lv_at hl 1 rfl) ?_
  refine lv_iconst (v := 1) hx hb dX2_tryFrom_16 (by decide) ?_
  refine lv_iadd hx hb dX2_tryFrom_17 ?_
  rw [show ((nI pp) + 1) = nI (pp + 1) from nI_1 pp]
  refine lv_iload_n hx hb dX2_tryFrom_18 rfl (lv_at hl 2 rfl) ?_
  refine zcalli (va_runS (As := [.ref (ad 5), .int (nI (pp + 1)), .int sum]) (rest := []) ⟨hx, hb, hml, hown, hts⟩ (ih (tr) (sum) s.heap.size) (va_cwS 3 hts gX2_tryFrom_X2_tryFrom rfl rfl rfl (by decide +kernel) ⟨show F + 1 ≤ F2 by omega, show 8 +  (8 + 11) + Lo ≤ Lo2 by omega⟩) ⟨zPw_blind, zPw_mk hE hP hD⟩ rfl rfl hl.1 rfl (lv_room (Nat.le_of_ble_eq_true rfl)) dX2_tryFrom_19 ⟨Nat.le_of_ble_eq_true rfl, Nat.le_of_ble_eq_true rfl⟩) hD hS hA (fun r_3 H locs e_4 hP hD hS => ?_)
  obtain rfl := e_4
  have hP : va_P D vwCl (cws cI cL cE cP ad g n k us wb tr pr le (nI n) (nI k)) H := hP
  have hD : va_D A (cws cI cL cE cP ad g n k us wb tr pr le (nI n) (nI k)) := hD
  refine lv_istore_n (lv' := [(3, .int (tfF us wb n d (pp + 1) tr sum)), (0, .ref (ad 5)), (1, .int (nI pp)), (2, .int sum)]) hx hb dX2_tryFrom_22 rfl hl (by decide) rfl (fun ls hl => ?_)
  refine lv_iconst (v := 0) hx hb dX2_tryFrom_23 (by decide) ?_
  refine lv_istore (lv' := [(4, .int 0), (3, .int (tfF us wb n d (pp + 1) tr sum)), (0, .ref (ad 5)), (1, .int (nI pp)), (2, .int sum)]) hx hb dX2_tryFrom_24 hl (by decide) rfl (fun ls hl => ?_)
  refine zloopM (nL := 8) (lv := fun i => [(0, .ref (ad 5)), (1, .int (nI pp)), (2, .int sum), (3, .int (zfm (fun e => zhas (zat 8 us (nI e)) (nI pp)) (fun e => tfF us wb n d (pp + 1) (zput 8 tr (nI e) (zat 8 tr (nI e) ||| ((1 : Int32) <<< (nI pp &&& 31)))) (sum + (zat 256 wb (nI e * 32 + (zat 8 tr (nI e) ||| ((1 : Int32) <<< (nI pp &&& 31)))) - zat 256 wb (nI e * 32 + zat 8 tr (nI e))))) (tfF us wb n d (pp + 1) tr sum) (i))), (4, .int (nI (i)))]) (wd := fun i => cws cI cL cE cP ad g n k us wb tr pr le (nI n) (nI k)) (n := n) (lv_re (lv_sub hl [2, 3, 4, 1, 0] rfl) (by first | rfl | (simp only [tfF, zfm, nI_0]; done) | (simp only [tfF, zfm, nI_0]; rfl) | (simp [tfF, zfm, nI_0]; done))) (zP_re hP (rfl)) (zD_re hD (rfl)) hS (fun H locs ls hP hD hS hl => ?_) (fun i hi ih_26 H locs ls hP hD hS hl => ?_)
  · have hl : lv_has ls 8 [(0, .ref (ad 5)), (1, .int (nI pp)), (2, .int sum), (3, .int (zfm (fun e => zhas (zat 8 us (nI e)) (nI pp)) (fun e => tfF us wb n d (pp + 1) (zput 8 tr (nI e) (zat 8 tr (nI e) ||| ((1 : Int32) <<< (nI pp &&& 31)))) (sum + (zat 256 wb (nI e * 32 + (zat 8 tr (nI e) ||| ((1 : Int32) <<< (nI pp &&& 31)))) - zat 256 wb (nI e * 32 + zat 8 tr (nI e))))) (tfF us wb n d (pp + 1) tr sum) (n))), (4, .int (nI (n)))] := hl
    have hP : va_P D vwCl (cws cI cL cE cP ad g n k us wb tr pr le (nI n) (nI k)) H := hP
    have hD : va_D A (cws cI cL cE cP ad g n k us wb tr pr le (nI n) (nI k)) := hD
    refine lv_iload hx hb dX2_tryFrom_26 (lv_at hl 4 rfl) ?_
    refine lv_aload_n hx hb dX2_tryFrom_28 rfl (lv_at hl 0 rfl) ?_
    refine va_get (D := D) (ci := 2) (v := .int (nI n)) (C := RX2) (T := TX2) (N := 7) hx hb hts iX2 hown hK hP 5 cws_5 rfl 5 (by decide) (hts (.fieldLink RX2 34 "CapitalReckoner$Search" "takers" "I") (by decide +kernel)) (fun _ h9 => h9) rfl dX2_tryFrom_29 ?_
    refine lv_icmp_ge (tgt := 133) hx hb dX2_tryFrom_32 (by decide) (fun c_5 => ?_) (fun c_5 => absurd (zle_refl (nI n)) c_5)
    refine lv_iload_n hx hb dX2_tryFrom_133 rfl (lv_at hl 3 rfl) ?_
    exact ziret (v := zfm (fun e => zhas (zat 8 us (nI e)) (nI pp)) (fun e => tfF us wb n d (pp + 1) (zput 8 tr (nI e) (zat 8 tr (nI e) ||| ((1 : Int32) <<< (nI pp &&& 31)))) (sum + (zat 256 wb (nI e * 32 + (zat 8 tr (nI e) ||| ((1 : Int32) <<< (nI pp &&& 31)))) - zat 256 wb (nI e * 32 + zat 8 tr (nI e))))) (tfF us wb n d (pp + 1) tr sum) (n)) hx hb hr hAe (by rfl) (zP_re hP (rfl)) (zD_re hD (rfl)) hS dX2_tryFrom_134
  · have hl : lv_has ls 8 [(0, .ref (ad 5)), (1, .int (nI pp)), (2, .int sum), (3, .int (zfm (fun e => zhas (zat 8 us (nI e)) (nI pp)) (fun e => tfF us wb n d (pp + 1) (zput 8 tr (nI e) (zat 8 tr (nI e) ||| ((1 : Int32) <<< (nI pp &&& 31)))) (sum + (zat 256 wb (nI e * 32 + (zat 8 tr (nI e) ||| ((1 : Int32) <<< (nI pp &&& 31)))) - zat 256 wb (nI e * 32 + zat 8 tr (nI e))))) (tfF us wb n d (pp + 1) tr sum) (i))), (4, .int (nI (i)))] := hl
    have hP : va_P D vwCl (cws cI cL cE cP ad g n k us wb tr pr le (nI n) (nI k)) H := hP
    have hD : va_D A (cws cI cL cE cP ad g n k us wb tr pr le (nI n) (nI k)) := hD
    refine lv_iload hx hb dX2_tryFrom_26 (lv_at hl 4 rfl) ?_
    refine lv_aload_n hx hb dX2_tryFrom_28 rfl (lv_at hl 0 rfl) ?_
    refine va_get (D := D) (ci := 2) (v := .int (nI n)) (C := RX2) (T := TX2) (N := 7) hx hb hts iX2 hown hK hP 5 cws_5 rfl 5 (by decide) (hts (.fieldLink RX2 34 "CapitalReckoner$Search" "takers" "I") (by decide +kernel)) (fun _ h9 => h9) rfl dX2_tryFrom_29 ?_
    refine lv_icmp_ge (tgt := 133) hx hb dX2_tryFrom_32 (by decide) (fun c_6 => absurd c_6 (nI_ge hi (by have := hok.n; omega))) (fun c_6 => ?_)
    refine lv_aload_n hx hb dX2_tryFrom_35 rfl (lv_at hl 0 rfl) ?_
    refine va_get (D := D) (ci := 2) (v := .ref (ad 6)) (C := RX2) (T := TX2) (N := 7) hx hb hts iX2 hown hK hP 5 cws_5 rfl 0 (by decide) (hts (.fieldLink RX2 11 "CapitalReckoner$Search" "usable" "[I") (by decide +kernel)) (fun _ h9 => h9) rfl dX2_tryFrom_36 ?_
    refine lv_iload hx hb dX2_tryFrom_39 (lv_at hl 4 rfl) ?_
    refine vp_callSi (va_Run.run (va_runSN (As := [.ref (ad 6), .int (nI (i))]) (rest := []) ⟨hx, hb, hml, hown, hts⟩ (zX3_at l D cI cL cE cP (cws cI cL cE cP ad g n k us wb tr pr le (nI n) (nI k)) 6 (ad 6) 8 (us) (by decide) cws_6 (nI (i))) ⟨va_cnB 2 hts gX2_tryFrom_X3_at_n45 rfl rfl rfl (hE.2 (.methodLinkNest RX2 45 yX3_at RX3) (List.mem_of_getElem? (i := 11) rfl)) (hts (.initialized RX3) (by decide +kernel)) (by decide +kernel) ⟨show 0 + 1 ≤ F2 by omega, show 8 + (2 + 11) + 0 ≤ Lo2 by omega⟩, (hts (.static yX3_at) (by decide +kernel)), trivial⟩ ⟨zPr_blind, zPr_mk hE hP⟩ rfl rfl hl.1 rfl (lv_room (Nat.le_of_ble_eq_true rfl)) dX2_tryFrom_41 ⟨Nat.le_of_ble_eq_true rfl, Nat.le_of_ble_eq_true rfl⟩)) (fun r_7 e_8 => ?_)
    obtain rfl := e_8
    refine lv_iload_n hx hb dX2_tryFrom_44 rfl (lv_at hl 1 rfl) ?_
    refine vp_callSi (va_Run.run (va_runSN (As := [.int (zat 8 us (nI (i))), .int (nI pp)]) (rest := []) ⟨hx, hb, hml, hown, hts⟩ (zX3_has l D cI cL cE cP (cws cI cL cE cP ad g n k us wb tr pr le (nI n) (nI k)) (zat 8 us (nI (i))) (nI pp)) ⟨va_cnB 2 hts gX2_tryFrom_X3_has_n49 rfl rfl rfl (hE.2 (.methodLinkNest RX2 49 yX3_has RX3) (List.mem_of_getElem? (i := 10) rfl)) (hts (.initialized RX3) (by decide +kernel)) (by decide +kernel) ⟨show 0 + 1 ≤ F2 by omega, show 8 + (2 + 11) + 0 ≤ Lo2 by omega⟩, (hts (.static yX3_has) (by decide +kernel)), trivial⟩ ⟨zPr_blind, zPr_mk hE hP⟩ rfl rfl hl.1 rfl (lv_room (Nat.le_of_ble_eq_true rfl)) dX2_tryFrom_45 ⟨Nat.le_of_ble_eq_true rfl, Nat.le_of_ble_eq_true rfl⟩)) (fun r_9 e_10 => ?_)
    obtain rfl := e_10
    refine lv_if_eq (tgt := 127) hx hb dX2_tryFrom_48 (by decide) (fun c_11 => ?_) (fun c_11 => ?_)
    · have c_11 := zb_eq c_11
      refine lv_iinc (v := nI ((i) + 1)) (lv' := [(4, .int (nI ((i) + 1))), (0, .ref (ad 5)), (1, .int (nI pp)), (2, .int sum), (3, .int (zfm (fun e => zhas (zat 8 us (nI e)) (nI pp)) (fun e => tfF us wb n d (pp + 1) (zput 8 tr (nI e) (zat 8 tr (nI e) ||| ((1 : Int32) <<< (nI pp &&& 31)))) (sum + (zat 256 wb (nI e * 32 + (zat 8 tr (nI e) ||| ((1 : Int32) <<< (nI pp &&& 31)))) - zat 256 wb (nI e * 32 + zat 8 tr (nI e))))) (tfF us wb n d (pp + 1) tr sum) (i)))]) hx hb dX2_tryFrom_127 hl (k := 4) rfl (zinc _) (by decide) rfl (fun ls hl => ?_)
      refine lv_goto (tgt := 26) hx hb dX2_tryFrom_130 (by decide) ?_
      exact ih_26 H locs ls (zP_re hP (by first | rfl | rw [zput_back (show i < 8 by have := hok.n; omega) (by decide)])) (zD_re hD (by first | rfl | rw [zput_back (show i < 8 by have := hok.n; omega) (by decide)])) hS (lv_re (lv_sub hl [1, 2, 3, 4, 0] rfl) (by first | rfl | (simp only [tfF, zfm, c_1, c_2, c_6, c_11]; done) | (simp only [tfF, zfm, c_1, c_2, c_6, c_11]; rfl) | (simp [tfF, zfm, c_1, c_2, c_6, c_11]; done)))
    · have c_11 := zb_ne c_11
      refine lv_aload_n hx hb dX2_tryFrom_51 rfl (lv_at hl 0 rfl) ?_
      refine va_get (D := D) (ci := 2) (v := .ref (ad 8)) (C := RX2) (T := TX2) (N := 7) hx hb hts iX2 hown hK hP 5 cws_5 rfl 2 (by decide) (hts (.fieldLink RX2 18 "CapitalReckoner$Search" "tried" "[I") (by decide +kernel)) (fun _ h9 => h9) rfl dX2_tryFrom_52 ?_
      refine lv_iload hx hb dX2_tryFrom_55 (lv_at hl 4 rfl) ?_
      refine vp_callSi (va_Run.run (va_runSN (As := [.ref (ad 8), .int (nI (i))]) (rest := []) ⟨hx, hb, hml, hown, hts⟩ (zX3_at l D cI cL cE cP (cws cI cL cE cP ad g n k us wb tr pr le (nI n) (nI k)) 8 (ad 8) 8 (tr) (by decide) cws_8 (nI (i))) ⟨va_cnB 2 hts gX2_tryFrom_X3_at_n45 rfl rfl rfl (hE.2 (.methodLinkNest RX2 45 yX3_at RX3) (List.mem_of_getElem? (i := 11) rfl)) (hts (.initialized RX3) (by decide +kernel)) (by decide +kernel) ⟨show 0 + 1 ≤ F2 by omega, show 8 + (2 + 11) + 0 ≤ Lo2 by omega⟩, (hts (.static yX3_at) (by decide +kernel)), trivial⟩ ⟨zPr_blind, zPr_mk hE hP⟩ rfl rfl hl.1 rfl (lv_room (Nat.le_of_ble_eq_true rfl)) dX2_tryFrom_57 ⟨Nat.le_of_ble_eq_true rfl, Nat.le_of_ble_eq_true rfl⟩)) (fun r_12 e_13 => ?_)
      obtain rfl := e_13
      refine lv_istore (lv' := [(5, .int (zat 8 tr (nI (i)))), (0, .ref (ad 5)), (1, .int (nI pp)), (2, .int sum), (3, .int (zfm (fun e => zhas (zat 8 us (nI e)) (nI pp)) (fun e => tfF us wb n d (pp + 1) (zput 8 tr (nI e) (zat 8 tr (nI e) ||| ((1 : Int32) <<< (nI pp &&& 31)))) (sum + (zat 256 wb (nI e * 32 + (zat 8 tr (nI e) ||| ((1 : Int32) <<< (nI pp &&& 31)))) - zat 256 wb (nI e * 32 + zat 8 tr (nI e))))) (tfF us wb n d (pp + 1) tr sum) (i))), (4, .int (nI (i)))]) hx hb dX2_tryFrom_60 hl (by decide) rfl (fun ls hl => ?_)
      refine lv_iload hx hb dX2_tryFrom_62 (lv_at hl 0 rfl) ?_
      refine lv_iconst (v := 1) hx hb dX2_tryFrom_64 (by decide) ?_
      refine lv_iload_n hx hb dX2_tryFrom_65 rfl (lv_at hl 2 rfl) ?_
      refine lv_ishl hx hb dX2_tryFrom_66 ?_
      refine lv_ior hx hb dX2_tryFrom_67 ?_
      refine lv_istore (lv' := [(6, .int ((zat 8 tr (nI (i))) ||| ((1 : Int32) <<< ((nI pp) &&& 31)))), (5, .int (zat 8 tr (nI (i)))), (0, .ref (ad 5)), (1, .int (nI pp)), (2, .int sum), (3, .int (zfm (fun e => zhas (zat 8 us (nI e)) (nI pp)) (fun e => tfF us wb n d (pp + 1) (zput 8 tr (nI e) (zat 8 tr (nI e) ||| ((1 : Int32) <<< (nI pp &&& 31)))) (sum + (zat 256 wb (nI e * 32 + (zat 8 tr (nI e) ||| ((1 : Int32) <<< (nI pp &&& 31)))) - zat 256 wb (nI e * 32 + zat 8 tr (nI e))))) (tfF us wb n d (pp + 1) tr sum) (i))), (4, .int (nI (i)))]) hx hb dX2_tryFrom_68 hl (by decide) rfl (fun ls hl => ?_)
      refine lv_aload_n hx hb dX2_tryFrom_70 rfl (lv_at hl 2 rfl) ?_
      refine lv_iload hx hb dX2_tryFrom_71 (lv_at hl 6 rfl) ?_
      refine lv_iload hx hb dX2_tryFrom_73 (lv_at hl 0 rfl) ?_
      refine vp_callSi (va_Run.run (va_runV (As := [.int (nI (i)), .int ((zat 8 tr (nI (i))) ||| ((1 : Int32) <<< ((nI pp) &&& 31)))]) (rest := []) ⟨hx, hb, hml, hown, hts⟩ (zX2_weightedWith l D cI cL cE cP ad g n k us wb tr pr le (nI n) (nI k) hok (nI (i)) ((zat 8 tr (nI (i))) ||| ((1 : Int32) <<< ((nI pp) &&& 31)))) (cwV 2 hts gX2_tryFrom_X2_weightedWith rfl rfl rfl (by decide +kernel) ⟨show 1 + 1 ≤ F2 by omega, show 8 + (3 + 11) + 21 ≤ Lo2 by omega⟩) ⟨zPr_blind, va_recv hK hP (ci := 2) (q0 := 5) rfl cws_5, zPr_mk hE hP⟩ rfl rfl hl.1 rfl (lv_room (Nat.le_of_ble_eq_true rfl)) dX2_tryFrom_75 ⟨Nat.le_of_ble_eq_true rfl, Nat.le_of_ble_eq_true rfl⟩)) (fun r_14 e_15 => ?_)
      obtain rfl := e_15
      refine lv_aload_n hx hb dX2_tryFrom_78 rfl (lv_at hl 2 rfl) ?_
      refine lv_iload hx hb dX2_tryFrom_79 (lv_at hl 6 rfl) ?_
      refine lv_iload hx hb dX2_tryFrom_81 (lv_at hl 1 rfl) ?_
      refine vp_callSi (va_Run.run (va_runV (As := [.int (nI (i)), .int (zat 8 tr (nI (i)))]) (rest := [.int (zat 256 wb ((nI (i)) * 32 + ((zat 8 tr (nI (i))) ||| ((1 : Int32) <<< ((nI pp) &&& 31)))))]) ⟨hx, hb, hml, hown, hts⟩ (zX2_weightedWith l D cI cL cE cP ad g n k us wb tr pr le (nI n) (nI k) hok (nI (i)) (zat 8 tr (nI (i)))) (cwV 2 hts gX2_tryFrom_X2_weightedWith rfl rfl rfl (by decide +kernel) ⟨show 1 + 1 ≤ F2 by omega, show 8 + (3 + 11) + 21 ≤ Lo2 by omega⟩) ⟨zPr_blind, va_recv hK hP (ci := 2) (q0 := 5) rfl cws_5, zPr_mk hE hP⟩ rfl rfl hl.1 rfl (lv_room (Nat.le_of_ble_eq_true rfl)) dX2_tryFrom_83 ⟨Nat.le_of_ble_eq_true rfl, Nat.le_of_ble_eq_true rfl⟩)) (fun r_16 e_17 => ?_)
      obtain rfl := e_17
      refine lv_isub hx hb dX2_tryFrom_86 ?_
      refine lv_istore (lv' := [(7, .int ((zat 256 wb ((nI (i)) * 32 + ((zat 8 tr (nI (i))) ||| ((1 : Int32) <<< ((nI pp) &&& 31))))) - (zat 256 wb ((nI (i)) * 32 + (zat 8 tr (nI (i))))))), (6, .int ((zat 8 tr (nI (i))) ||| ((1 : Int32) <<< ((nI pp) &&& 31)))), (5, .int (zat 8 tr (nI (i)))), (0, .ref (ad 5)), (1, .int (nI pp)), (2, .int sum), (3, .int (zfm (fun e => zhas (zat 8 us (nI e)) (nI pp)) (fun e => tfF us wb n d (pp + 1) (zput 8 tr (nI e) (zat 8 tr (nI e) ||| ((1 : Int32) <<< (nI pp &&& 31)))) (sum + (zat 256 wb (nI e * 32 + (zat 8 tr (nI e) ||| ((1 : Int32) <<< (nI pp &&& 31)))) - zat 256 wb (nI e * 32 + zat 8 tr (nI e))))) (tfF us wb n d (pp + 1) tr sum) (i))), (4, .int (nI (i)))]) hx hb dX2_tryFrom_87 hl (by decide) rfl (fun ls hl => ?_)
      refine lv_aload_n hx hb dX2_tryFrom_89 rfl (lv_at hl 3 rfl) ?_
      refine va_get (D := D) (ci := 2) (v := .ref (ad 8)) (C := RX2) (T := TX2) (N := 7) hx hb hts iX2 hown hK hP 5 cws_5 rfl 2 (by decide) (hts (.fieldLink RX2 18 "CapitalReckoner$Search" "tried" "[I") (by decide +kernel)) (fun _ h9 => h9) rfl dX2_tryFrom_90 ?_
      refine lv_iload hx hb dX2_tryFrom_93 (lv_at hl 7 rfl) ?_
      refine lv_iload hx hb dX2_tryFrom_95 (lv_at hl 1 rfl) ?_
      refine zcallv (va_runSN (As := [.ref (ad 8), .int (nI (i)), .int ((zat 8 tr (nI (i))) ||| ((1 : Int32) <<< ((nI pp) &&& 31)))]) (rest := []) ⟨hx, hb, hml, hown, hts⟩ (zX3_put l D cI cL cE cP (cws cI cL cE cP ad g n k us wb tr pr le (nI n) (nI k)) 8 (ad 8) 8 (tr) (by decide) cws_8 (nI (i)) ((zat 8 tr (nI (i))) ||| ((1 : Int32) <<< ((nI pp) &&& 31))) H.size) ⟨va_cnB 3 hts gX2_tryFrom_X3_put_n41 rfl rfl rfl (hE.2 (.methodLinkNest RX2 41 yX3_put RX3) (List.mem_of_getElem? (i := 3) rfl)) (hts (.initialized RX3) (by decide +kernel)) (by decide +kernel) ⟨show 0 + 1 ≤ F2 by omega, show 8 + (3 + 11) + 0 ≤ Lo2 by omega⟩, (hts (.static yX3_put) (by decide +kernel)), trivial⟩ ⟨zPw_blind, zPw_mk hE hP hD⟩ rfl rfl hl.1 rfl (lv_room (Nat.le_of_ble_eq_true rfl)) dX2_tryFrom_97 ⟨Nat.le_of_ble_eq_true rfl, Nat.le_of_ble_eq_true rfl⟩) hD hS hA (fun H locs hP hD hS => ?_)
      have hP : va_P D vwCl (cws cI cL cE cP ad g n k us wb (zput 8 tr (nI (i)) ((zat 8 tr (nI (i))) ||| ((1 : Int32) <<< ((nI pp) &&& 31)))) pr le (nI n) (nI k)) H := zP_re hP (cws_s8).symm
      have hD : va_D A (cws cI cL cE cP ad g n k us wb (zput 8 tr (nI (i)) ((zat 8 tr (nI (i))) ||| ((1 : Int32) <<< ((nI pp) &&& 31)))) pr le (nI n) (nI k)) := zD_re hD (cws_s8).symm
      refine lv_iload_n hx hb dX2_tryFrom_100 rfl (lv_at hl 6 rfl) ?_
      refine lv_aload_n hx hb dX2_tryFrom_101 rfl (lv_at hl 3 rfl) ?_
      refine lv_iload_n hx hb dX2_tryFrom_102 rfl (lv_at hl 4 rfl) ?_
      refine lv_iconst (v := 1) hx hb dX2_tryFrom_103 (by decide) ?_
      refine lv_iadd hx hb dX2_tryFrom_104 ?_
      rw [show ((nI pp) + 1) = nI (pp + 1) from nI_1 pp]
      refine lv_iload_n hx hb dX2_tryFrom_105 rfl (lv_at hl 5 rfl) ?_
      refine lv_iload hx hb dX2_tryFrom_106 (lv_at hl 0 rfl) ?_
      refine lv_iadd hx hb dX2_tryFrom_108 ?_
      refine zcalli (va_runS (As := [.ref (ad 5), .int (nI (pp + 1)), .int (sum + ((zat 256 wb ((nI (i)) * 32 + ((zat 8 tr (nI (i))) ||| ((1 : Int32) <<< ((nI pp) &&& 31))))) - (zat 256 wb ((nI (i)) * 32 + (zat 8 tr (nI (i)))))))]) (rest := [.int (zfm (fun e => zhas (zat 8 us (nI e)) (nI pp)) (fun e => tfF us wb n d (pp + 1) (zput 8 tr (nI e) (zat 8 tr (nI e) ||| ((1 : Int32) <<< (nI pp &&& 31)))) (sum + (zat 256 wb (nI e * 32 + (zat 8 tr (nI e) ||| ((1 : Int32) <<< (nI pp &&& 31)))) - zat 256 wb (nI e * 32 + zat 8 tr (nI e))))) (tfF us wb n d (pp + 1) tr sum) (i))]) ⟨hx, hb, hml, hown, hts⟩ (ih (zput 8 tr (nI (i)) ((zat 8 tr (nI (i))) ||| ((1 : Int32) <<< ((nI pp) &&& 31)))) (sum + ((zat 256 wb ((nI (i)) * 32 + ((zat 8 tr (nI (i))) ||| ((1 : Int32) <<< ((nI pp) &&& 31))))) - (zat 256 wb ((nI (i)) * 32 + (zat 8 tr (nI (i))))))) H.size) (va_cwS 3 hts gX2_tryFrom_X2_tryFrom rfl rfl rfl (by decide +kernel) ⟨show F + 1 ≤ F2 by omega, show 8 +  (8 + 11) + Lo ≤ Lo2 by omega⟩) ⟨zPw_blind, zPw_mk hE hP hD⟩ rfl rfl hl.1 rfl (lv_room (Nat.le_of_ble_eq_true rfl)) dX2_tryFrom_109 ⟨Nat.le_of_ble_eq_true rfl, Nat.le_of_ble_eq_true rfl⟩) hD hS hA (fun r_20 H locs e_21 hP hD hS => ?_)
      obtain rfl := e_21
      have hP : va_P D vwCl (cws cI cL cE cP ad g n k us wb (zput 8 tr (nI (i)) ((zat 8 tr (nI (i))) ||| ((1 : Int32) <<< ((nI pp) &&& 31)))) pr le (nI n) (nI k)) H := hP
      have hD : va_D A (cws cI cL cE cP ad g n k us wb (zput 8 tr (nI (i)) ((zat 8 tr (nI (i))) ||| ((1 : Int32) <<< ((nI pp) &&& 31)))) pr le (nI n) (nI k)) := hD
      refine va_mmin hx hb (hml.trans hl.1.symm) hown (hts (.methodLink RX2 28 Lib.Math.min.name) (by decide +kernel)) (hts (.static Lib.Math.min.name) (by decide +kernel)) (hts (.initialized "java/lang/Math") (by decide +kernel)) (hts (.code Lib.Math.min.name Lib.Math.min.code 2 (some .int)) (by decide +kernel)) (by show 1 ≤ F2; omega) (by show 0 + 13 ≤ Lo2; omega) (Nat.zero_le _) (Nat.zero_le _) dX2_tryFrom_112 ?_
      refine lv_istore_n (lv' := [(3, .int (if tfF us wb n d (pp + 1) (zput 8 tr (nI (i)) ((zat 8 tr (nI (i))) ||| ((1 : Int32) <<< ((nI pp) &&& 31)))) (sum + ((zat 256 wb ((nI (i)) * 32 + ((zat 8 tr (nI (i))) ||| ((1 : Int32) <<< ((nI pp) &&& 31))))) - (zat 256 wb ((nI (i)) * 32 + (zat 8 tr (nI (i))))))) < zfm (fun e => zhas (zat 8 us (nI e)) (nI pp)) (fun e => tfF us wb n d (pp + 1) (zput 8 tr (nI e) (zat 8 tr (nI e) ||| ((1 : Int32) <<< (nI pp &&& 31)))) (sum + (zat 256 wb (nI e * 32 + (zat 8 tr (nI e) ||| ((1 : Int32) <<< (nI pp &&& 31)))) - zat 256 wb (nI e * 32 + zat 8 tr (nI e))))) (tfF us wb n d (pp + 1) tr sum) (i) then tfF us wb n d (pp + 1) (zput 8 tr (nI (i)) ((zat 8 tr (nI (i))) ||| ((1 : Int32) <<< ((nI pp) &&& 31)))) (sum + ((zat 256 wb ((nI (i)) * 32 + ((zat 8 tr (nI (i))) ||| ((1 : Int32) <<< ((nI pp) &&& 31))))) - (zat 256 wb ((nI (i)) * 32 + (zat 8 tr (nI (i))))))) else zfm (fun e => zhas (zat 8 us (nI e)) (nI pp)) (fun e => tfF us wb n d (pp + 1) (zput 8 tr (nI e) (zat 8 tr (nI e) ||| ((1 : Int32) <<< (nI pp &&& 31)))) (sum + (zat 256 wb (nI e * 32 + (zat 8 tr (nI e) ||| ((1 : Int32) <<< (nI pp &&& 31)))) - zat 256 wb (nI e * 32 + zat 8 tr (nI e))))) (tfF us wb n d (pp + 1) tr sum) (i))), (7, .int ((zat 256 wb ((nI (i)) * 32 + ((zat 8 tr (nI (i))) ||| ((1 : Int32) <<< ((nI pp) &&& 31))))) - (zat 256 wb ((nI (i)) * 32 + (zat 8 tr (nI (i))))))), (6, .int ((zat 8 tr (nI (i))) ||| ((1 : Int32) <<< ((nI pp) &&& 31)))), (5, .int (zat 8 tr (nI (i)))), (0, .ref (ad 5)), (1, .int (nI pp)), (2, .int sum), (4, .int (nI (i)))]) hx hb dX2_tryFrom_115 rfl hl (by decide) rfl (fun ls hl => ?_)
      refine lv_aload_n hx hb dX2_tryFrom_116 rfl (lv_at hl 4 rfl) ?_
      refine va_get (D := D) (ci := 2) (v := .ref (ad 8)) (C := RX2) (T := TX2) (N := 7) hx hb hts iX2 hown hK hP 5 cws_5 rfl 2 (by decide) (hts (.fieldLink RX2 18 "CapitalReckoner$Search" "tried" "[I") (by decide +kernel)) (fun _ h9 => h9) rfl dX2_tryFrom_117 ?_
      refine lv_iload hx hb dX2_tryFrom_120 (lv_at hl 7 rfl) ?_
      refine lv_iload hx hb dX2_tryFrom_122 (lv_at hl 3 rfl) ?_
      refine zcallv (va_runSN (As := [.ref (ad 8), .int (nI (i)), .int (zat 8 tr (nI (i)))]) (rest := []) ⟨hx, hb, hml, hown, hts⟩ (zX3_put l D cI cL cE cP (cws cI cL cE cP ad g n k us wb (zput 8 tr (nI (i)) ((zat 8 tr (nI (i))) ||| ((1 : Int32) <<< ((nI pp) &&& 31)))) pr le (nI n) (nI k)) 8 (ad 8) 8 (zput 8 tr (nI (i)) ((zat 8 tr (nI (i))) ||| ((1 : Int32) <<< ((nI pp) &&& 31)))) (by decide) cws_8 (nI (i)) (zat 8 tr (nI (i))) H.size) ⟨va_cnB 3 hts gX2_tryFrom_X3_put_n41 rfl rfl rfl (hE.2 (.methodLinkNest RX2 41 yX3_put RX3) (List.mem_of_getElem? (i := 3) rfl)) (hts (.initialized RX3) (by decide +kernel)) (by decide +kernel) ⟨show 0 + 1 ≤ F2 by omega, show 8 + (3 + 11) + 0 ≤ Lo2 by omega⟩, (hts (.static yX3_put) (by decide +kernel)), trivial⟩ ⟨zPw_blind, zPw_mk hE hP hD⟩ rfl rfl hl.1 rfl (lv_room (Nat.le_of_ble_eq_true rfl)) dX2_tryFrom_124 ⟨Nat.le_of_ble_eq_true rfl, Nat.le_of_ble_eq_true rfl⟩) hD hS hA (fun H locs hP hD hS => ?_)
      have hP : va_P D vwCl (cws cI cL cE cP ad g n k us wb (zput 8 (zput 8 tr (nI (i)) ((zat 8 tr (nI (i))) ||| ((1 : Int32) <<< ((nI pp) &&& 31)))) (nI (i)) (zat 8 tr (nI (i)))) pr le (nI n) (nI k)) H := zP_re hP (cws_s8).symm
      have hD : va_D A (cws cI cL cE cP ad g n k us wb (zput 8 (zput 8 tr (nI (i)) ((zat 8 tr (nI (i))) ||| ((1 : Int32) <<< ((nI pp) &&& 31)))) (nI (i)) (zat 8 tr (nI (i)))) pr le (nI n) (nI k)) := zD_re hD (cws_s8).symm
      refine lv_iinc (v := nI ((i) + 1)) (lv' := [(4, .int (nI ((i) + 1))), (3, .int (if tfF us wb n d (pp + 1) (zput 8 tr (nI (i)) ((zat 8 tr (nI (i))) ||| ((1 : Int32) <<< ((nI pp) &&& 31)))) (sum + ((zat 256 wb ((nI (i)) * 32 + ((zat 8 tr (nI (i))) ||| ((1 : Int32) <<< ((nI pp) &&& 31))))) - (zat 256 wb ((nI (i)) * 32 + (zat 8 tr (nI (i))))))) < zfm (fun e => zhas (zat 8 us (nI e)) (nI pp)) (fun e => tfF us wb n d (pp + 1) (zput 8 tr (nI e) (zat 8 tr (nI e) ||| ((1 : Int32) <<< (nI pp &&& 31)))) (sum + (zat 256 wb (nI e * 32 + (zat 8 tr (nI e) ||| ((1 : Int32) <<< (nI pp &&& 31)))) - zat 256 wb (nI e * 32 + zat 8 tr (nI e))))) (tfF us wb n d (pp + 1) tr sum) (i) then tfF us wb n d (pp + 1) (zput 8 tr (nI (i)) ((zat 8 tr (nI (i))) ||| ((1 : Int32) <<< ((nI pp) &&& 31)))) (sum + ((zat 256 wb ((nI (i)) * 32 + ((zat 8 tr (nI (i))) ||| ((1 : Int32) <<< ((nI pp) &&& 31))))) - (zat 256 wb ((nI (i)) * 32 + (zat 8 tr (nI (i))))))) else zfm (fun e => zhas (zat 8 us (nI e)) (nI pp)) (fun e => tfF us wb n d (pp + 1) (zput 8 tr (nI e) (zat 8 tr (nI e) ||| ((1 : Int32) <<< (nI pp &&& 31)))) (sum + (zat 256 wb (nI e * 32 + (zat 8 tr (nI e) ||| ((1 : Int32) <<< (nI pp &&& 31)))) - zat 256 wb (nI e * 32 + zat 8 tr (nI e))))) (tfF us wb n d (pp + 1) tr sum) (i))), (7, .int ((zat 256 wb ((nI (i)) * 32 + ((zat 8 tr (nI (i))) ||| ((1 : Int32) <<< ((nI pp) &&& 31))))) - (zat 256 wb ((nI (i)) * 32 + (zat 8 tr (nI (i))))))), (6, .int ((zat 8 tr (nI (i))) ||| ((1 : Int32) <<< ((nI pp) &&& 31)))), (5, .int (zat 8 tr (nI (i)))), (0, .ref (ad 5)), (1, .int (nI pp)), (2, .int sum)]) hx hb dX2_tryFrom_127 hl (k := 7) rfl (zinc _) (by decide) rfl (fun ls hl => ?_)
      refine lv_goto (tgt := 26) hx hb dX2_tryFrom_130 (by decide) ?_
      exact ih_26 H locs ls (zP_re hP (by first | rfl | rw [zput_back (show i < 8 by have := hok.n; omega) (by decide)])) (zD_re hD (by first | rfl | rw [zput_back (show i < 8 by have := hok.n; omega) (by decide)])) hS (lv_re (lv_sub hl [5, 6, 7, 1, 0] rfl) (by first | rfl | (simp only [tfF, zfm, c_1, c_2, c_6, c_11]; done) | (simp only [tfF, zfm, c_1, c_2, c_6, c_11]; rfl) | (simp [tfF, zfm, c_1, c_2, c_6, c_11]; done)))
theorem zX2_tryFrom (l : Launch) (D : va_G) (cI cL cE cP : ClassId) (ad : Nat → Nat) (g : Nat → Nat → Int32) (n k : Nat) (us wb tr : Nat → Int32) (pr le : Nat → Int64) (hok : zOk g n k) : ∀ (d pp : Nat) (tr : Nat → Int32) (sum : Int32) (sz : Nat), pp + d = k → Met l yX2_tryFrom wsX2_tryFrom ({ frames := d + 5, cells := 0, slots := 0, locals := 100 * (d + 1) }) (zPw D cI cL cE cP (cws cI cL cE cP ad g n k us wb tr pr le (nI n) (nI k)) sz [.ref (ad 5), .int (nI pp), .int sum]) (zQi D (cws cI cL cE cP ad g n k us wb tr pr le (nI n) (nI k)) sz (fun r : Int32 => r = tfF us wb n d pp tr sum) (cws cI cL cE cP ad g n k us wb tr pr le (nI n) (nI k))) 0 0 (va_A (cws cI cL cE cP ad g n k us wb tr pr le (nI n) (nI k)) sz)
  | 0, pp, tr, sum, sz, h => by
    have h : pp = k := h
    subst h
    exact zX2_tryFrom0 l D cI cL cE cP ad g n pp us wb tr pr le hok sum sz
  | d + 1, pp, tr, sum, sz, h => zX2_tryFromS l D cI cL cE cP ad g n k us wb tr pr le hok sum (d + 5) (100 * (d + 1)) (d + 1 + 5) (100 * (d + 1 + 1)) d pp (by omega) (by omega) (by omega) (by omega) (fun tr sum sz => zX2_tryFrom l D cI cL cE cP ad g n k us wb tr pr le hok d (pp + 1) tr sum sz (by omega)) sz
set_option maxHeartbeats 4000000 in
set_option maxRecDepth 100000 in
theorem zX2_triedWhole (l : Launch) (D : va_G) (cI cL cE cP : ClassId) (ad : Nat → Nat) (g : Nat → Nat → Int32) (n k : Nat) (us wb tr : Nat → Int32) (pr le : Nat → Int64) (hok : zOk g n k) (sz : Nat) : Met l yX2_triedWhole wsX2_triedWhole ({ frames := 12, cells := 0, slots := 0, locals := 700 }) (zPw D cI cL cE cP (cws cI cL cE cP ad g n k us wb tr pr le (nI n) (nI k)) sz [.ref (ad 5)]) (zQi D (cws cI cL cE cP ad g n k us wb tr pr le (nI n) (nI k)) sz (fun r : Int32 => r = tfF us wb n k 0 (trL tr n) (twL wb n)) (cws cI cL cE cP ad g n k us wb (trL tr n) pr le (nI n) (nI k))) 0 0 (va_A (cws cI cL cE cP ad g n k us wb tr pr le (nI n) (nI k)) sz) := by
  refine Met.ofW (cc := cX2_triedWhole) (maxL := 3) (ret := (some .int)) (by decide) rfl ?_
  intro p e s m args below meth c s₁ B hml hv
  obtain ⟨rfl, hsz, hE, hP, hD0⟩ := hv
  subst hsz
  obtain ⟨A, hAe⟩ : ∃ A, A = va_A (cws cI cL cE cP ad g n k us wb tr pr le (nI n) (nI k)) s.heap.size := ⟨_, rfl⟩
  have hD : va_D A (cws cI cL cE cP ad g n k us wb tr pr le (nI n) (nI k)) := by rw [hAe]; exact hD0.self
  have hA : ∀ q : Nat, s.heap.size ≤ q → A q := fun q h => by rw [hAe]; exact Or.inr h
  have hS : va_S A s.heap s.heap [] := va_S.rf
  have hx := B.exec
  have hb := B.bytes
  have hr := B.returns
  have hts := atoms_spec (ws := wsX2_triedWhole) B.pre
  have hown : s.vm.findClass RX2 = some m.cls := findClass_of_methodNamed B.named
  have hlocks := B.notSynchronized
  have hK := hE.1
  have iX2 : ∀ w ∈ wsX20, w ∈ wsX2_triedWhole := by decide +kernel
  have hl := lv_entry ([.ref (ad 5)]) (n := 3) (Nat.le_of_ble_eq_true rfl)
  rw [lg_entry_eq]
  generalize (lg_sl ([.ref (ad 5)]) ++ List.replicate (3 - (lg_sl ([.ref (ad 5)])).length) Slot.unset).toArray = ls at hl ⊢
  have hl : lv_has ls 3 [(0, .ref (ad 5))] := hl
  refine lv_iconst (v := 0) hx hb dX2_triedWhole_0 (by decide) ?_
  refine lv_istore_n (lv' := [(1, .int 0), (0, .ref (ad 5))]) hx hb dX2_triedWhole_1 rfl hl (by decide) rfl (fun ls hl => ?_)
  refine lv_iconst (v := 0) hx hb dX2_triedWhole_2 (by decide) ?_
  refine lv_istore_n (lv' := [(2, .int 0), (1, .int 0), (0, .ref (ad 5))]) hx hb dX2_triedWhole_3 rfl hl (by decide) rfl (fun ls hl => ?_)
  refine zloopM (nL := 3) (lv := fun i => [(0, .ref (ad 5)), (1, .int (twL wb (i))), (2, .int (nI (i)))]) (wd := fun i => cws cI cL cE cP ad g n k us wb (trL tr (i)) pr le (nI n) (nI k)) (n := n) (lv_re (lv_sub hl [2, 1, 0] rfl) (by first | rfl | (simp only [trL, twL, nI_0]; done) | (simp only [trL, twL, nI_0]; rfl) | (simp [trL, twL, nI_0]; done))) (zP_re hP (rfl)) (zD_re hD (rfl)) hS (fun H locs ls hP hD hS hl => ?_) (fun i hi ih_4 H locs ls hP hD hS hl => ?_)
  · have hl : lv_has ls 3 [(0, .ref (ad 5)), (1, .int (twL wb (n))), (2, .int (nI (n)))] := hl
    have hP : va_P D vwCl (cws cI cL cE cP ad g n k us wb (trL tr (n)) pr le (nI n) (nI k)) H := hP
    have hD : va_D A (cws cI cL cE cP ad g n k us wb (trL tr (n)) pr le (nI n) (nI k)) := hD
    refine lv_iload_n hx hb dX2_triedWhole_4 rfl (lv_at hl 2 rfl) ?_
    refine lv_aload_n hx hb dX2_triedWhole_5 rfl (lv_at hl 0 rfl) ?_
    refine va_get (D := D) (ci := 2) (v := .int (nI n)) (C := RX2) (T := TX2) (N := 7) hx hb hts iX2 hown hK hP 5 cws_5 rfl 5 (by decide) (hts (.fieldLink RX2 34 "CapitalReckoner$Search" "takers" "I") (by decide +kernel)) (fun _ h9 => h9) rfl dX2_triedWhole_6 ?_
    refine lv_icmp_ge (tgt := 36) hx hb dX2_triedWhole_9 (by decide) (fun c_1 => ?_) (fun c_1 => absurd (zle_refl (nI n)) c_1)
    refine lv_aload_n hx hb dX2_triedWhole_36 rfl (lv_at hl 0 rfl) ?_
    refine lv_iconst (v := nI 0) hx hb dX2_triedWhole_37 (by decide +kernel) ?_
    refine lv_iload_n hx hb dX2_triedWhole_38 rfl (lv_at hl 1 rfl) ?_
    refine zcalli (va_runS (As := [.ref (ad 5), .int (nI 0), .int (twL wb (n))]) (rest := []) ⟨hx, hb, hml, hown, hts⟩ (zX2_tryFrom l D cI cL cE cP ad g n k us wb (trL tr (n)) pr le hok k 0 (trL tr (n)) (twL wb (n)) H.size (by omega)) (va_cwS 3 hts gX2_triedWhole_X2_tryFrom rfl rfl rfl (by decide +kernel) ⟨show (k + 5) + 1 ≤ 12 by have := hok.k; omega, show 8 +  (8 + 11) + 100 * (k + 1) ≤ 700 by have := hok.k; omega⟩) ⟨zPw_blind, zPw_mk hE hP hD⟩ rfl rfl hl.1 rfl (lv_room (Nat.le_of_ble_eq_true rfl)) dX2_triedWhole_39 ⟨Nat.le_of_ble_eq_true rfl, Nat.le_of_ble_eq_true rfl⟩) hD hS hA (fun r_2 H locs e_3 hP hD hS => ?_)
    obtain rfl := e_3
    have hP : va_P D vwCl (cws cI cL cE cP ad g n k us wb (trL tr (n)) pr le (nI n) (nI k)) H := hP
    have hD : va_D A (cws cI cL cE cP ad g n k us wb (trL tr (n)) pr le (nI n) (nI k)) := hD
    exact ziret (v := tfF us wb n k 0 (trL tr (n)) (twL wb (n))) hx hb hr hAe (by first | rfl | (simp only [trL, twL, c_1]; done) | (simp only [trL, twL, c_1]; rfl) | (simp [trL, twL, c_1]; done)) (zP_re hP (by first | rfl | (simp only [trL, twL, c_1]; done) | (simp only [trL, twL, c_1]; rfl) | (simp [trL, twL, c_1]; done))) (zD_re hD (by first | rfl | (simp only [trL, twL, c_1]; done) | (simp only [trL, twL, c_1]; rfl) | (simp [trL, twL, c_1]; done))) hS dX2_triedWhole_42
  · have hl : lv_has ls 3 [(0, .ref (ad 5)), (1, .int (twL wb (i))), (2, .int (nI (i)))] := hl
    have hP : va_P D vwCl (cws cI cL cE cP ad g n k us wb (trL tr (i)) pr le (nI n) (nI k)) H := hP
    have hD : va_D A (cws cI cL cE cP ad g n k us wb (trL tr (i)) pr le (nI n) (nI k)) := hD
    refine lv_iload_n hx hb dX2_triedWhole_4 rfl (lv_at hl 2 rfl) ?_
    refine lv_aload_n hx hb dX2_triedWhole_5 rfl (lv_at hl 0 rfl) ?_
    refine va_get (D := D) (ci := 2) (v := .int (nI n)) (C := RX2) (T := TX2) (N := 7) hx hb hts iX2 hown hK hP 5 cws_5 rfl 5 (by decide) (hts (.fieldLink RX2 34 "CapitalReckoner$Search" "takers" "I") (by decide +kernel)) (fun _ h9 => h9) rfl dX2_triedWhole_6 ?_
    refine lv_icmp_ge (tgt := 36) hx hb dX2_triedWhole_9 (by decide) (fun c_4 => absurd c_4 (nI_ge hi (by have := hok.n; omega))) (fun c_4 => ?_)
    refine lv_aload_n hx hb dX2_triedWhole_12 rfl (lv_at hl 0 rfl) ?_
    refine va_get (D := D) (ci := 2) (v := .ref (ad 8)) (C := RX2) (T := TX2) (N := 7) hx hb hts iX2 hown hK hP 5 cws_5 rfl 2 (by decide) (hts (.fieldLink RX2 18 "CapitalReckoner$Search" "tried" "[I") (by decide +kernel)) (fun _ h9 => h9) rfl dX2_triedWhole_13 ?_
    refine lv_iload_n hx hb dX2_triedWhole_16 rfl (lv_at hl 2 rfl) ?_
    refine lv_iconst (v := 0) hx hb dX2_triedWhole_17 (by decide) ?_
    refine zcallv (va_runSN (As := [.ref (ad 8), .int (nI (i)), .int 0]) (rest := []) ⟨hx, hb, hml, hown, hts⟩ (zX3_put l D cI cL cE cP (cws cI cL cE cP ad g n k us wb (trL tr (i)) pr le (nI n) (nI k)) 8 (ad 8) 8 (trL tr (i)) (by decide) cws_8 (nI (i)) (0) H.size) ⟨va_cnB 3 hts gX2_triedWhole_X3_put_n41 rfl rfl rfl (hE.2 (.methodLinkNest RX2 41 yX3_put RX3) (List.mem_of_getElem? (i := 3) rfl)) (hts (.initialized RX3) (by decide +kernel)) (by decide +kernel) ⟨show 0 + 1 ≤ 12 by have := hok.k; omega, show 8 + (3 + 11) + 0 ≤ 700 by have := hok.k; omega⟩, (hts (.static yX3_put) (by decide +kernel)), trivial⟩ ⟨zPw_blind, zPw_mk hE hP hD⟩ rfl rfl hl.1 rfl (lv_room (Nat.le_of_ble_eq_true rfl)) dX2_triedWhole_18 ⟨Nat.le_of_ble_eq_true rfl, Nat.le_of_ble_eq_true rfl⟩) hD hS hA (fun H locs hP hD hS => ?_)
    have hP : va_P D vwCl (cws cI cL cE cP ad g n k us wb (zput 8 (trL tr (i)) (nI (i)) 0) pr le (nI n) (nI k)) H := zP_re hP (cws_s8).symm
    have hD : va_D A (cws cI cL cE cP ad g n k us wb (zput 8 (trL tr (i)) (nI (i)) 0) pr le (nI n) (nI k)) := zD_re hD (cws_s8).symm
    refine lv_iload_n hx hb dX2_triedWhole_21 rfl (lv_at hl 1 rfl) ?_
    refine lv_aload_n hx hb dX2_triedWhole_22 rfl (lv_at hl 0 rfl) ?_
    refine lv_iload_n hx hb dX2_triedWhole_23 rfl (lv_at hl 2 rfl) ?_
    refine lv_iconst (v := 0) hx hb dX2_triedWhole_24 (by decide) ?_
    refine vp_callSi (va_Run.run (va_runV (As := [.int (nI (i)), .int 0]) (rest := [.int (twL wb (i))]) ⟨hx, hb, hml, hown, hts⟩ (zX2_weightedWith l D cI cL cE cP ad g n k us wb (zput 8 (trL tr (i)) (nI (i)) 0) pr le (nI n) (nI k) hok (nI (i)) (0)) (cwV 2 hts gX2_triedWhole_X2_weightedWith rfl rfl rfl (by decide +kernel) ⟨show 1 + 1 ≤ 12 by have := hok.k; omega, show 8 + (3 + 11) + 21 ≤ 700 by have := hok.k; omega⟩) ⟨zPr_blind, va_recv hK hP (ci := 2) (q0 := 5) rfl cws_5, zPr_mk hE hP⟩ rfl rfl hl.1 rfl (lv_room (Nat.le_of_ble_eq_true rfl)) dX2_triedWhole_25 ⟨Nat.le_of_ble_eq_true rfl, Nat.le_of_ble_eq_true rfl⟩)) (fun r_7 e_8 => ?_)
    obtain rfl := e_8
    refine lv_iadd hx hb dX2_triedWhole_28 ?_
    refine lv_istore_n (lv' := [(1, .int ((twL wb (i)) + (zat 256 wb ((nI (i)) * 32 + 0)))), (0, .ref (ad 5)), (2, .int (nI (i)))]) hx hb dX2_triedWhole_29 rfl hl (by decide) rfl (fun ls hl => ?_)
    refine lv_iinc (v := nI ((i) + 1)) (lv' := [(2, .int (nI ((i) + 1))), (1, .int ((twL wb (i)) + (zat 256 wb ((nI (i)) * 32 + 0)))), (0, .ref (ad 5))]) hx hb dX2_triedWhole_30 hl (k := 2) rfl (zinc _) (by decide) rfl (fun ls hl => ?_)
    refine lv_goto (tgt := 4) hx hb dX2_triedWhole_33 (by decide) ?_
    exact ih_4 H locs ls (zP_re hP (by rfl)) (zD_re hD (by rfl)) hS (lv_re (lv_sub hl [2, 1, 0] rfl) (by first | rfl | (simp only [trL, twL, c_4]; done) | (simp only [trL, twL, c_4]; rfl) | (simp [trL, twL, c_4]; done)))
