/-! the least keys without what stood in the rows before; the answers that are read off a key -/
def KE (g : Nat → Nat → Int32) (n k : Nat) : Nat → Int64 := LEO (zfl (US g k) (fun _ => 0) n) (zfl (WB g k) (fun _ => 0) (32 * n)) (fun _ => 0) (fun _ => 0) n
theorem KE_eq {g : Nat → Nat → Int32} {n k : Nat} (hok : zOk g n k) (us wb : Nat → Int32) (pr le : Nat → Int64) : ∀ S, S < 32 → LEO (zfl (US g k) us n) (zfl (WB g k) wb (32 * n)) pr le n S = KE g n k S := by
  intro S hS
  obtain ⟨a, ha, e1, h1⟩ := zbest (pr := pr) (le := le) hok.n (zu_ok (us := us) hok) (zw_ok (wb := wb) hok) hS
  obtain ⟨b, hb, e2, h2⟩ := zbest (pr := fun _ => 0) (le := fun _ => 0) hok.n (zu_ok (us := fun _ => 0) hok) (zw_ok (wb := fun _ => 0) hok) hS
  have q1 := h1 b hb
  have q2 := h2 a ha
  unfold KE
  rw [e1, e2, Nat.le_antisymm q1 q2]
section ZCG
variable {le le' : Nat → Int64} {k : Nat}
theorem zatL_c (h : ∀ S, S < 32 → le S = le' S) (i : Int32) : zatL 32 le i = zatL 32 le' i := by
  unfold zatL
  by_cases h1 : i < 0
  · rw [if_pos h1, if_pos h1]
  · rw [if_neg h1, if_neg h1]
    by_cases h2 : nI 32 ≤ i
    · rw [if_pos h2, if_pos h2]
    · rw [if_neg h2, if_neg h2]
      obtain ⟨j, hj, e⟩ := vp_in_of (zin_of (N := 32) (by decide) h1 h2) (by decide)
      rw [e, nI_clamp (by omega)]; exact h j hj
theorem bkE_c (h : ∀ S, S < 32 → le S = le' S) : bkE le k = bkE le' k := zatL_c h _
theorem bwE_c (h : ∀ S, S < 32 → le S = le' S) : bwE le k = bwE le' k := by unfold bwE; rw [bkE_c h]
theorem tkE_c (h : ∀ S, S < 32 → le S = le' S) (p : Int32) : tkE le k p = tkE le' k p := by unfold tkE; rw [bkE_c h]
theorem gsL_c (h : ∀ S, S < 32 → le S = le' S) (e : Int32) : ∀ m, gsL le k e m = gsL le' k e m
  | 0 => rfl
  | m + 1 => by unfold gsL; rw [gsL_c h e m, tkE_c h]
theorem woE_c (h : ∀ S, S < 32 → le S = le' S) (p : Int32) : woE le k p = woE le' k p := by unfold woE; rw [zatL_c h]
theorem bpL_c {g : Nat → Nat → Int32} (h : ∀ S, S < 32 → le S = le' S) (x : Int32) : ∀ m, bpL g k le x m = bpL g k le' x m
  | 0 => rfl
  | m + 1 => by unfold bpL; rw [bpL_c h x m, gsL_c h]
theorem tlL_c {g : Nat → Nat → Int32} {n : Nat} (h : ∀ S, S < 32 → le S = le' S) : ∀ m, tlL g n k le m = tlL g n k le' m
  | 0 => rfl
  | m + 1 => by unfold tlL; rw [tlL_c h m, bpL_c h]
end ZCG
theorem KE_try {g : Nat → Nat → Int32} {n k : Nat} (hok : zOk g n k) (us wb tr : Nat → Int32) : tfF (zfl (US g k) us n) (zfl (WB g k) wb (32 * n)) n k 0 (trL tr n) (twL (zfl (WB g k) wb (32 * n)) n) = bwE (KE g n k) k :=
  (ztrying hok us wb tr (fun _ => 0) (fun _ => 0)).trans (zwhole hok (fun _ => 0) (fun _ => 0) (fun _ => 0) (fun _ => 0) (fun _ => 0) (fun _ => 0)).symm
/-- a key's answers -/
def bwK (K : Int64) : Int32 := (K >>> (((20 : Int32)).toInt64 &&& 63)).toInt32
def tkK (K : Int64) (p : Int32) : Int32 := if (K >>> ((4 * (4 - p)).toInt64 &&& 63)).toInt32 &&& 15 = 8 then -1 else (K >>> ((4 * (4 - p)).toInt64 &&& 63)).toInt32 &&& 15
def gsK (K : Int64) (e : Int32) : Nat → Int32
  | 0 => 0
  | p + 1 => if tkK K (nI p) = e then gsK K e p ||| ((1 : Int32) <<< (nI p &&& 31)) else gsK K e p
def bpK (g : Nat → Nat → Int32) (k : Nat) (K : Int64) (party : Int32) : Nat → Int32
  | 0 => 0
  | i + 1 => if g 4 i = party then bpK g k K party i + bw g k i (gsK K (nI i) k) else bpK g k K party i
def tlK (g : Nat → Nat → Int32) (n k : Nat) (K : Int64) : Nat → Int32
  | 0 => 0
  | p + 1 => if bpK g k K (nI p) n ≤ g 2 1 / 4 then tlK g n k K p else tlK g n k K p ||| ((1 : Int32) <<< (nI p &&& 31))
section ZKK
variable {le : Nat → Int64} {k : Nat} {K : Int64}
theorem bwE_K (h : bkE le k = K) : bwE le k = bwK K := by unfold bwE bwK; rw [h]
theorem tkE_K (h : bkE le k = K) (p : Int32) : tkE le k p = tkK K p := by unfold tkE tkK; rw [h]
theorem gsL_K (h : bkE le k = K) (e : Int32) : ∀ m, gsL le k e m = gsK K e m
  | 0 => rfl
  | m + 1 => by unfold gsL gsK; rw [gsL_K h e m, tkE_K h]
theorem bpL_K {g : Nat → Nat → Int32} (h : bkE le k = K) (x : Int32) : ∀ m, bpL g k le x m = bpK g k K x m
  | 0 => rfl
  | m + 1 => by unfold bpL bpK; rw [bpL_K h x m, gsL_K h]
theorem tlL_K {g : Nat → Nat → Int32} {n : Nat} (h : bkE le k = K) : ∀ m, tlL g n k le m = tlK g n k K m
  | 0 => rfl
  | m + 1 => by unfold tlL tlK; rw [tlL_K h m, bpL_K h]
theorem zw_mask2 : ∀ k, k < 6 → ∀ p, p < k → ((((1 : Int32) <<< (nI k &&& 31)) - 1) &&& (((1 : Int32) <<< (nI p &&& 31)) ^^^ (-1))) = nI (2 ^ k - 1 - 2 ^ p) := by decide +kernel
theorem woE_K {p : Nat} {K' : Int64} (hk : k ≤ 5) (hp : p < k) (h : le (2 ^ k - 1 - 2 ^ p) = K') : woE le k (nI p) = bwK K' := by
  have h32 := z2k hk; have h2 := z2p p; have h3 := z2p k
  unfold woE bwK
  rw [zw_mask2 k (by omega) p hp, zatL_nI (by omega) (by decide), h]
end ZKK
/-! the least keys as lists of numbers -/
def ix : List Nat → Nat → Nat
  | [], _ => 0
  | x :: _, 0 => x
  | _ :: t, i + 1 => ix t i
theorem ix_all {P : Nat → Prop} (h0 : P 0) : ∀ {t : List Nat}, (∀ x ∈ t, P x) → ∀ i, P (ix t i)
  | [], _, _ => h0
  | x :: _, h, 0 => h x List.mem_cons_self
  | _ :: t, h, i + 1 => ix_all h0 (t := t) (fun y hy => h y (List.mem_cons_of_mem _ hy)) i
def lo (P f : Nat → Nat) (S U : Nat) : Nat → Nat
  | 0 => P 0 + f S
  | d + 1 => if ((d + 1) &&& S) &&& U = d + 1 then (P (d + 1) + f (S - (d + 1))) - ((P (d + 1) + f (S - (d + 1))) - lo P f S U d) else lo P f S U d
theorem loL_lo {pr le : Nat → Int64} {P f : Nat → Nat} {S U : Nat} (hS : S < 32) (hU : U < 32) (hp : ∀ G, G ≤ S → pr G = lN (P G) ∧ P G < 2 ^ 58) (hf : ∀ G, G ≤ S → le G = lN (f G) ∧ f G < 2 ^ 58) : ∀ d, d ≤ S → loL pr le S (nI U) d = lN (lo P f S U d) ∧ lo P f S U d < 2 ^ 59
  | 0, _ => by
    obtain ⟨h1, h2⟩ := hp 0 (by omega)
    obtain ⟨h3, h4⟩ := hf S (Nat.le_refl S)
    unfold loL lo
    refine ⟨?_, by omega⟩
    rw [show (0 : Int32) = nI 0 from nI_0.symm, zatL_nI (by omega) (by decide), zatL_nI hS (by decide), h1, h3, lN_add]
  | d + 1, hd => by
    obtain ⟨em, hm⟩ := loL_lo hS hU hp hf d (by omega)
    obtain ⟨h1, h2⟩ := hp (d + 1) hd
    obtain ⟨h3, h4⟩ := hf (S - (d + 1)) (by omega)
    have ec : (nI (d + 1) &&& nI S) &&& nI U = nI (d + 1) ↔ ((d + 1) &&& S) &&& U = d + 1 := by
      rw [fa_and, fa_and, nI_eq (by have := Nat.and_le_right (n := (d + 1) &&& S) (m := U); omega) (by omega)]
    have ev : zatL 32 pr (nI (d + 1)) + zatL 32 le (nI S - nI (d + 1)) = lN (P (d + 1) + f (S - (d + 1))) := by
      rw [pk_sub hd, zatL_nI (by omega) (by decide), zatL_nI (by omega) (by decide), h1, h3, lN_add]
    unfold loL lo
    by_cases hc : ((d + 1) &&& S) &&& U = d + 1
    · rw [if_pos (ec.mpr hc), if_pos hc, ev, em]
      by_cases hlt : P (d + 1) + f (S - (d + 1)) < lo P f S U d
      · rw [if_pos ((pk_lLT (by omega) (by omega)).mpr hlt)]
        exact ⟨by congr 1; omega, by omega⟩
      · rw [if_neg (fun q => hlt ((pk_lLT (by omega) (by omega)).mp q))]
        exact ⟨by congr 1; omega, by omega⟩
    · rw [if_neg (fun q => hc (ec.mp q)), if_neg hc]
      exact ⟨em, hm⟩
/-- what holds of the keys behind e exposures, by a list of z numbers -/
def KT (g : Nat → Nat → Int32) (n k e z : Nat) (t : List Nat) : Prop := (∀ x ∈ t, x < 2 ^ 58) ∧ ∀ S, S < z → LEO (zfl (US g k) (fun _ => 0) n) (zfl (WB g k) (fun _ => 0) (32 * n)) (fun _ => 0) (fun _ => 0) e S = lN (ix t S)
theorem KT_0 {g : Nat → Nat → Int32} {n k z : Nat} {t : List Nat} (hz : z ≤ 32) (h1 : ∀ x ∈ t, x < 2 ^ 58) (ht : ∀ S, S < z → 8 * sb S = ix t S) : KT g n k 0 z t := by
  refine ⟨h1, fun S hS => ?_⟩
  have h8 := dgL_sb S (by omega) 8 (by omega)
  rw [← ht S hS]
  show (if S < 32 then dgL (nI S) 8 5 else _) = _
  rw [if_pos (by omega), ← h8]; rfl
theorem KT_s {g : Nat → Nat → Int32} {n k e z U : Nat} {t t' wl : List Nat} (hn : n ≤ 8) (he : e < n) (hz : z ≤ 32) (h : KT g n k e z t) (hU : US g k e = nI U ∧ U < 32) (hw : (∀ x ∈ wl, x ≤ 56000000) ∧ ∀ G, G < z → WB g k (32 * e + G) = nI (ix wl G)) (h1 : ∀ x ∈ t', x < 2 ^ 58)
    (ht : ∀ S, S < z → lo (fun G => ix wl G * 1048576 + e * sb G) (ix t) S U S = ix t' S) : KT g n k (e + 1) z t' := by
  refine ⟨h1, fun S hS => ?_⟩
  have hp : ∀ G, G ≤ S → PRO (zfl (WB g k) (fun _ => 0) (32 * n)) (fun _ => 0) (e + 1) G = lN (ix wl G * 1048576 + e * sb G) ∧ ix wl G * 1048576 + e * sb G < 2 ^ 58 := fun G hG => by
    have hG32 : G < 32 := by omega
    have hb := sb_le G hG32
    have hx : ix wl G ≤ 56000000 := ix_all (P := fun x => x ≤ 56000000) (Nat.zero_le _) hw.1 G
    have he8 : e * sb G ≤ 8 * 69905 := Nat.mul_le_mul (by omega) hb
    refine ⟨?_, by omega⟩
    show (if G < 32 then prF (zfl (WB g k) (fun _ => 0) (32 * n)) (nI e) (nI G) else _) = _
    rw [if_pos hG32]
    refine prF_N (by omega) hG32 ?_ hx
    show (if 32 * e + G < 32 * n then WB g k (32 * e + G) else _) = _
    rw [if_pos (by omega)]; exact hw.2 G (by omega)
  have hf : ∀ G, G ≤ S → LEO (zfl (US g k) (fun _ => 0) n) (zfl (WB g k) (fun _ => 0) (32 * n)) (fun _ => 0) (fun _ => 0) e G = lN (ix t G) ∧ ix t G < 2 ^ 58 := fun G hG => ⟨h.2 G (by omega), ix_all (P := fun x => x < 2 ^ 58) (by decide) h.1 G⟩
  have key := loL_lo (S := S) (U := U) (by omega) hU.2 hp hf S (Nat.le_refl S)
  rw [← ht S hS, ← key.1]
  show (if S < 32 then loL (PRO (zfl (WB g k) (fun _ => 0) (32 * n)) (fun _ => 0) (e + 1)) (LEO (zfl (US g k) (fun _ => 0) n) (zfl (WB g k) (fun _ => 0) (32 * n)) (fun _ => 0) (fun _ => 0) e) S (zat 8 (zfl (US g k) (fun _ => 0) n) (nI e)) S else _) = _
  have hus : zfl (US g k) (fun _ => 0) n e = nI U := by
    show (if e < n then US g k e else _) = _
    rw [if_pos he]; exact hU.1
  rw [if_pos (by omega), zat_nI (by omega) (by decide), hus]
theorem KT_K {g : Nat → Nat → Int32} {n k z : Nat} {t : List Nat} (h : KT g n k n z t) {S x : Nat} (hS : S < z) (hx : ix t S = x) : KE g n k S = lN x := by
  rw [← hx]; exact h.2 S hS
theorem KT_B {g : Nat → Nat → Int32} {n k z : Nat} {t : List Nat} (h : KT g n k n z t) (hk : k ≤ 5) (hz : 2 ^ k - 1 < z) {x : Nat} (hx : ix t (2 ^ k - 1) = x) : bkE (KE g n k) k = lN x := by
  rw [bkE_F hk]; exact KT_K h hz hx
