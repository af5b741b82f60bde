/-! numbers: sums, percentages, what is weighted, with their bounds -/
theorem fa_and (a b : Nat) : nI a &&& nI b = nI (a &&& b) := by
  apply Int32.toBitVec_inj.1
  show BitVec.ofNat 32 a &&& BitVec.ofNat 32 b = BitVec.ofNat 32 (a &&& b)
  apply BitVec.eq_of_getLsbD_eq
  intro i hi
  simp [hi]
theorem fa_or (a b : Nat) : nI a ||| nI b = nI (a ||| b) := by
  apply Int32.toBitVec_inj.1
  show BitVec.ofNat 32 a ||| BitVec.ofNat 32 b = BitVec.ofNat 32 (a ||| b)
  apply BitVec.eq_of_getLsbD_eq
  intro i hi
  simp [hi]
theorem zsubI {x y : Int32} (h1 : -2147483648 ≤ x.toInt - y.toInt) (h2 : x.toInt - y.toInt < 2147483648) : (x - y).toInt = x.toInt - y.toInt := by
  rw [Int32.toInt_sub, Int.bmod_eq_of_le (by omega) (by omega)]
theorem zaddI {x y : Int32} (h1 : -2147483648 ≤ x.toInt + y.toInt) (h2 : x.toInt + y.toInt < 2147483648) : (x + y).toInt = x.toInt + y.toInt := by
  rw [Int32.toInt_add, Int.bmod_eq_of_le (by omega) (by omega)]
theorem znat {x : Int32} {M : Nat} (h0 : 0 ≤ x.toInt) (h1 : x.toInt ≤ M) : ∃ v, v ≤ M ∧ x = nI v := by
  obtain ⟨j, hj, e⟩ := nI_of (x := x) (by rw [Int32.lt_iff_toInt_lt, Int32.toInt_zero]; omega)
  refine ⟨j, ?_, e⟩
  rw [e, nI_toInt hj] at h1; omega
theorem zpct {a b : Nat} (ha : a ≤ 100000000) (hb : b ≤ 400) : pct (nI a) (nI b) = nI (a * b / 100) := by
  have hab : a * b ≤ 100000000 * 400 := Nat.mul_le_mul ha hb
  unfold pct
  rw [nI_l (by omega), nI_l (by omega), lN_mul, show (100 : Int64) = lN 100 by decide +kernel, pk_lDiv (by omega) (by omega) (by omega), lN_i]
theorem zdiv_le {a b : Nat} (hb : b ≤ 100) : a * b / 100 ≤ a := by
  have : a * b ≤ a * 100 := Nat.mul_le_mul_left a hb
  omega
theorem zamt {g : Nat → Nat → Int32} {n k i : Nat} (hok : zOk g n k) (hi : i < n) : ∃ v, v ≤ 14000000 ∧ amt g i = nI v := by
  obtain ⟨-, -, ⟨h1, h2⟩, ⟨h3, h4⟩, -⟩ := hok.2.2.2.2.2.1 i hi
  obtain ⟨a, ha, ea⟩ := znat (M := 10000000) h1 h2
  obtain ⟨b, hb, eb⟩ := znat (M := 10000000) h3 h4
  refine ⟨a + b * 40 / 100, by omega, ?_⟩
  unfold amt
  rw [ea, eb, show (40 : Int32) = nI 40 by decide +kernel, zpct (by omega) (by omega), nI_add]
theorem zvl {g : Nat → Nat → Int32} {n k i j : Nat} (hok : zOk g n k) (hi : i < n) (hj : j < k) : ∃ v, v ≤ 10000000 ∧ vl g j i = nI v := by
  obtain ⟨-, -, -, -, -, ⟨d1, d2⟩, -⟩ := hok.2.2.2.2.2.1 i hi
  obtain ⟨⟨m1, m2⟩, ⟨c1, c2⟩, -, ⟨t1, t2⟩, -⟩ := hok.2.2.2.2.2.2 j hj
  obtain ⟨m, hm, em⟩ := znat (M := 10000000) (by omega) m2
  obtain ⟨c, hc, ec⟩ := znat (M := 100) c1 c2
  obtain ⟨t, ht, et⟩ := znat (M := 3650) (by omega) t2
  obtain ⟨d, hd, ed⟩ := znat (M := 3650) (by omega) d2
  have hd1 : 1 ≤ d := by rw [ed, nI_toInt (by omega)] at d1; omega
  have h1 : ∃ v, v ≤ 10000000 ∧ vl1 g j i = nI v := by
    have e1 : pct (g 11 j) (100 - g 12 j) = nI (m * (100 - c) / 100) := by
      rw [em, ec, show (100 : Int32) = nI 100 by decide +kernel, pk_sub hc, zpct (by omega) (by omega)]
    have l1 : m * (100 - c) / 100 ≤ m := zdiv_le (by omega)
    unfold vl1
    by_cases h : g 13 j = g 7 i
    · rw [if_pos h, e1]; exact ⟨_, by omega, rfl⟩
    · rw [if_neg h, e1, show (92 : Int32) = nI 92 by decide +kernel, zpct (by omega) (by omega)]
      have l2 : m * (100 - c) / 100 * 92 / 100 ≤ m * (100 - c) / 100 := zdiv_le (by omega)
      exact ⟨_, by omega, rfl⟩
  obtain ⟨v, hv, ev⟩ := h1
  unfold vl
  by_cases h : g 8 i ≤ g 14 j
  · rw [if_pos h, ev]; exact ⟨v, hv, rfl⟩
  · rw [if_neg h, ev, et, ed, nI_l (by omega), nI_l (by omega), nI_l (by omega), lN_mul]
    have htd : t ≤ d := by
      rw [et, ed, nI_leI (by omega) (by omega)] at h; omega
    have hvt : v * t ≤ v * d := Nat.mul_le_mul_left v htd
    have hvd : v * d ≤ 10000000 * 3650 := Nat.mul_le_mul hv hd
    rw [pk_lDiv (by omega) (by omega) (by omega), lN_i]
    refine ⟨_, ?_, rfl⟩
    have : v * t / d ≤ v := Nat.div_le_of_le_mul (by rw [Nat.mul_comm d v]; exact hvt)
    omega
theorem zbw {g : Nat → Nat → Int32} {n k i : Nat} {set : Int32} (hok : zOk g n k) (hi : i < n) : ∃ v, v ≤ 14000000 ∧ bw g k i set = nI v := by
  have key : ∀ j, j ≤ k → -(10000000 * (j : Int)) ≤ (bwL g i set j).toInt ∧ (bwL g i set j).toInt ≤ 14000000 := by
    intro j
    induction j with
    | zero =>
      intro _
      obtain ⟨v, hv, e⟩ := zamt hok hi
      unfold bwL; rw [e, nI_toInt (by omega)]; omega
    | succ j ih =>
      intro hj
      have ih := ih (by omega)
      obtain ⟨v, hv, e⟩ := zvl hok hi (show j < k by omega)
      have hk := hok.k
      unfold bwL
      by_cases h : zhas set (nI j) = true
      · rw [if_pos h]
        have ev : (vl g j i).toInt = v := by rw [e, nI_toInt (by omega)]
        rw [zsubI (by rw [ev]; omega) (by rw [ev]; omega), ev]; omega
      · rw [if_neg h]; omega
  have hk := key k (Nat.le_refl k)
  unfold bw
  by_cases h : bwL g i set k < 0
  · rw [if_pos h]; exact ⟨0, by omega, nI_0.symm⟩
  · rw [if_neg h]
    rw [Int32.lt_iff_toInt_lt, Int32.toInt_zero] at h
    exact znat (M := 14000000) (by omega) hk.2
theorem zwo {g : Nat → Nat → Int32} {n k i b : Nat} (hok : zOk g n k) (hi : i < n) (hb : b ≤ 14000000) : ∃ v, v ≤ 56000000 ∧ wo g i (nI b) = nI v := by
  obtain ⟨k1, -, -, -, -, -, k2, ⟨s1, s2⟩⟩ := hok.2.2.2.2.2.1 i hi
  have hw : ∀ x : Int32, vp_in x 4 → ∃ v, v ≤ 400 ∧ zat 4 (g 0) x = nI v := fun x hx => by
    rw [zat_in (by decide) hx]
    obtain ⟨c, hc, e⟩ := vp_in_of hx (by decide)
    rw [e, nI_clamp (by omega)]
    exact znat (M := 400) (hok.2.2.1 c hc).1.1 (hok.2.2.1 c hc).1.2
  obtain ⟨o, ho, eo⟩ := hw _ k1
  obtain ⟨p, hp, ep⟩ := hw _ k2
  obtain ⟨s, hs, es⟩ := znat (M := 10000000) s1 s2
  have bound : ∀ u, u ≤ b → ∃ v, v ≤ 56000000 ∧ pct (nI u) (nI p) + pct (nI b - nI u) (nI o) = nI v := fun u hu => by
    rw [pk_sub hu, zpct (by omega) (by omega), zpct (by omega) (by omega), nI_add]
    refine ⟨_, ?_, rfl⟩
    have a1 : u * p ≤ u * 400 := Nat.mul_le_mul_left u hp
    have a2 : (b - u) * o ≤ (b - u) * 400 := Nat.mul_le_mul_left _ ho
    omega
  unfold wo
  rw [eo, ep, es]
  by_cases h : nI o ≤ nI p
  · rw [if_pos h, show (0 : Int32) = nI 0 from nI_0.symm]
    exact bound 0 (Nat.zero_le b)
  · rw [if_neg h]
    by_cases h2 : nI s < nI b
    · rw [if_pos h2]
      exact bound s (Nat.le_of_lt ((nI_ltI (by omega) (by omega)).mp h2))
    · rw [if_neg h2]; exact bound b (Nat.le_refl b)
def wN (g : Nat → Nat → Int32) (k : Nat) : Nat → Nat → Nat := fun e S => (wo g e (bw g k e (nI S))).toInt.toNat
theorem wN_ok {g : Nat → Nat → Int32} {n k e : Nat} (hok : zOk g n k) (he : e < n) (S : Nat) : wN g k e S ≤ 56000000 ∧ wo g e (bw g k e (nI S)) = nI (wN g k e S) := by
  obtain ⟨b, hb, eb⟩ := zbw (set := nI S) hok he
  obtain ⟨v, hv, ev⟩ := zwo hok he hb
  have : wN g k e S = v := by unfold wN; rw [eb, ev, nI_toInt (by omega)]; rfl
  rw [this]; exact ⟨hv, by rw [eb, ev]⟩
theorem WB_wN {g : Nat → Nat → Int32} {n k e S : Nat} (hok : zOk g n k) (he : e < n) (hS : S < 32) : WB g k (32 * e + S) = nI (wN g k e S) := by
  rw [← (wN_ok hok he S).2]
  unfold WB
  rw [show (32 * e + S) / 32 = e by omega, show (32 * e + S) % 32 = S by omega]
/-! which pieces can be used: as sets -/
def uN (g : Nat → Nat → Int32) (e : Nat) : Nat → Nat
  | 0 => 0
  | j + 1 => uN g e j ||| (if zhas (g 15 j) (nI e) = true then 2 ^ j else 0)
theorem uN_bit (g : Nat → Nat → Int32) (e : Nat) : ∀ m q, (uN g e m).testBit q = (decide (q < m) && zhas (g 15 q) (nI e))
  | 0, q => by simp [uN]
  | m + 1, q => by
    unfold uN
    rw [Nat.testBit_or, uN_bit g e m q]
    by_cases h : q = m
    · subst h
      cases h2 : zhas (g 15 q) (nI e)
      · simp
      · simp [Nat.testBit_two_pow_self]
    · have h1 : decide (q < m) = decide (q < m + 1) := decide_eq_decide.mpr (by omega)
      rw [h1]
      have h3 : (if zhas (g 15 m) (nI e) = true then 2 ^ m else 0).testBit q = false := by
        split
        · exact Nat.testBit_two_pow_of_ne (fun e => h e.symm)
        · exact Nat.zero_testBit q
      rw [h3, Bool.or_false]
theorem uN_us {g : Nat → Nat → Int32} {e : Nat} : ∀ {m : Nat}, m ≤ 5 → usL g (nI e) m = nI (uN g e m)
  | 0, _ => nI_0.symm
  | m + 1, h => by
    unfold usL uN
    rw [uN_us (by omega)]
    by_cases hz : zhas (g 15 m) (nI e) = true
    · rw [if_pos hz, if_pos hz, z_shl1 (by omega), fa_or]
    · rw [if_neg hz, if_neg hz, Nat.or_zero]
theorem uN_lt {g : Nat → Nat → Int32} {e k : Nat} (hk : k ≤ 5) : uN g e k < 32 := by
  refine Nat.lt_pow_two_of_testBit (n := 5) _ (fun i hi => ?_)
  rw [uN_bit, decide_eq_false (by omega), Bool.false_and]
theorem zhas_b : ∀ S, S < 32 → ∀ p, p < 5 → zhas (nI S) (nI p) = S.testBit p := by decide +kernel
theorem dgL_sb : ∀ S, S < 32 → ∀ d, d < 9 → dgL (nI S) (nI d) 5 = lN (d * sb S) := by decide +kernel
theorem sb_le : ∀ S, S < 32 → sb S ≤ 69905 := by decide +kernel
theorem zshl20 {a : Nat} (ha : a < 2 ^ 32) : lN a <<< (((20 : Int32)).toInt64 &&& 63) = lN (a * 1048576) := by
  apply Int64.toBitVec_inj.mp
  have hy : ((((20 : Int32)).toInt64 &&& 63).toBitVec.smod 64) = BitVec.ofNat 64 20 := by decide
  rw [Int64.toBitVec_shiftLeft, hy]
  apply BitVec.eq_of_toNat_eq
  have hb : (lN a).toBitVec.toNat = a := Nat.mod_eq_of_lt (by omega)
  have hk' : (BitVec.ofNat 64 20).toNat = 20 := rfl
  have h : ((lN a).toBitVec <<< BitVec.ofNat 64 20).toNat = (a * 2 ^ 20) % 2 ^ 64 := by simp only [BitVec.shiftLeft_eq', BitVec.toNat_shiftLeft, hb, hk', Nat.shiftLeft_eq]
  exact h
theorem zshr {a d : Nat} {Y : Int64} (hD : (Y.toBitVec.smod 64).toNat = d) (h : a < 2 ^ 62) : lN a >>> Y = lN (a / 2 ^ d) := by
  have hd : a / 2 ^ d ≤ a := Nat.div_le_self _ _
  apply Int64.toInt_inj.mp
  have e : (lN a >>> Y).toInt = (lN a).toInt >>> d := by
    rw [← hD]
    exact BitVec.toInt_sshiftRight ..
  rw [e, Int.shiftRight_eq_div_pow, pk_lT (by omega), pk_lT (by omega)]
  rfl
theorem prF_N {wb : Nat → Int32} {e G w : Nat} (he : e < 8) (hG : G < 32) (hw : wb (32 * e + G) = nI w) (hb : w ≤ 56000000) : prF wb (nI e) (nI G) = lN (w * 1048576 + e * sb G) := by
  unfold prF
  have e1 : nI e * 32 + nI G = nI (32 * e + G) := by rw [n32, pk_mul, nI_add, Nat.mul_comm]
  rw [e1, zat_nI (by omega) (by decide), hw, nI_l (by omega), zshl20 (by omega), dgL_sb G hG e (by omega), lN_add]
/-! the class's least keys -/
def Mc (U : Nat → Nat) : Nat → Nat → Bool := fun p e => (e == 8) || (U e).testBit p
theorem zand_all {G S U : Nat} (hG : G < 32) : (G &&& S) &&& U = G ↔ (G &&& S = G ∧ ∀ p, p < 5 → G.testBit p = true → U.testBit p = true) := by
  constructor
  · intro h
    have h1 : G &&& S = G := zand_of hG (fun p hp hg => by
      have := congrArg (fun x => Nat.testBit x p) h
      simp only [Nat.testBit_and, hg, Bool.true_and, Bool.and_eq_true] at this
      exact this.1)
    rw [h1] at h
    exact ⟨h1, fun p hp hg => zand_bit h hg⟩
  · rintro ⟨h1, h2⟩
    rw [h1]; exact zand_of hG h2
theorem zlo {pr le : Nat → Int64} {P f : Nat → Nat} {S U : Nat} (hS : S < 32) (hU : U < 32) (hp : ∀ G, G < 32 → pr G = lN (P G) ∧ P G < 2 ^ 58) (hf : ∀ G, G < 32 → le G = lN (f G) ∧ f G < 2 ^ 58) : ∀ d, d ≤ S → ∃ m, m < 2 ^ 60 ∧ loL pr le S (nI U) d = lN m ∧ (∀ G, G ≤ d → (G &&& S) &&& U = G → m ≤ P G + f (S - G)) ∧ ∃ G, G ≤ d ∧ (G &&& S) &&& U = G ∧ m = P G + f (S - G)
  | 0, _ => by
    obtain ⟨h1, h2⟩ := hp 0 (by omega)
    obtain ⟨h3, h4⟩ := hf S hS
    refine ⟨P 0 + f S, by omega, ?_, fun G hG _ => ?_, 0, Nat.le_refl 0, by simp, by simp⟩
    · unfold loL
      rw [show (0 : Int32) = nI 0 from nI_0.symm, zatL_nI (by omega) (by decide), zatL_nI hS (by decide), h1, h3, lN_add]
    · have : G = 0 := by omega
      subst this; simp
  | d + 1, hd => by
    obtain ⟨m, hm, e, h5, G0, h6, h7, h8⟩ := zlo hS hU hp hf d (by omega)
    obtain ⟨h1, h2⟩ := hp (d + 1) (by omega)
    obtain ⟨h3, h4⟩ := hf (S - (d + 1)) (by omega)
    have ec : (nI (d + 1) &&& nI S) &&& nI U = nI (d + 1) ↔ ((d + 1) &&& S) &&& U = d + 1 := by
      rw [fa_and, fa_and, nI_eq (by have := Nat.and_le_right (n := (d + 1) &&& S) (m := U); omega) (by omega)]
    have ev : zatL 32 pr (nI (d + 1)) + zatL 32 le (nI S - nI (d + 1)) = lN (P (d + 1) + f (S - (d + 1))) := by
      rw [pk_sub hd, zatL_nI (by omega) (by decide), zatL_nI (by omega) (by decide), h1, h3, lN_add]
    by_cases hc : ((d + 1) &&& S) &&& U = d + 1
    · unfold loL
      rw [if_pos (ec.mpr hc), ev, e]
      by_cases hlt : P (d + 1) + f (S - (d + 1)) < m
      · rw [if_pos ((pk_lLT (by omega) (by omega)).mpr hlt)]
        refine ⟨_, by omega, rfl, fun G hG hGc => ?_, d + 1, Nat.le_refl _, hc, rfl⟩
        rcases Nat.lt_or_ge d G with q | q
        · have : G = d + 1 := by omega
          subst this; exact Nat.le_refl _
        · have := h5 G q hGc; omega
      · rw [if_neg (fun q => hlt ((pk_lLT (by omega) (by omega)).mp q))]
        refine ⟨m, hm, rfl, fun G hG hGc => ?_, G0, by omega, h7, h8⟩
        rcases Nat.lt_or_ge d G with q | q
        · have : G = d + 1 := by omega
          subst this; omega
        · exact h5 G q hGc
    · unfold loL
      rw [if_neg (fun q => hc (ec.mp q)), e]
      refine ⟨m, hm, rfl, fun G hG hGc => ?_, G0, by omega, h7, h8⟩
      rcases Nat.lt_or_ge d G with q | q
      · have : G = d + 1 := by omega
        subst this; exact absurd hGc hc
      · exact h5 G q hGc
theorem zLE {us wb : Nat → Int32} {pr le : Nat → Int64} {U : Nat → Nat} {w : Nat → Nat → Nat} {n : Nat} (hn : n ≤ 8) (hu : ∀ i, i < n → us i = nI (U i) ∧ U i < 32) (hw : ∀ i S, i < n → S < 32 → wb (32 * i + S) = nI (w i S) ∧ w i S ≤ 56000000) :
    ∀ e, e ≤ n → ∃ f : Nat → Nat, ∀ S, S < 32 → LEO us wb pr le e S = lN (f S) ∧ f S ≤ (e * 56000000 + 1) * 1048576 ∧ zop (Mc U) (kc w) kb (2 ^ 62) (dn e) S (f S)
  | 0, _ => by
    refine ⟨fun S => 8 * sb S, fun S hS => ?_⟩
    have hb := sb_le S hS
    refine ⟨?_, by simp only []; omega, zbase hS (by show 8 * sb S ≤ 2 ^ 62; omega) (fun _ => rfl) (fun h => absurd (fun p _ _ => rfl) h)⟩
    have h8 := dgL_sb S hS 8 (by omega)
    show zfl (fun j => dgL (nI j) 8 5) le 32 S = _
    unfold zfl
    rw [if_pos hS, ← h8]; rfl
  | e + 1, he => by
    obtain ⟨f, hf⟩ := zLE (pr := pr) (le := le) hn hu hw e (by omega)
    obtain ⟨hu1, hu2⟩ := hu e (by omega)
    have hP : ∀ G, G < 32 → PRO wb pr (e + 1) G = lN (kc w e G) ∧ kc w e G < 2 ^ 58 := fun G hG => by
      obtain ⟨h1, h2⟩ := hw e G (by omega) hG
      have hb := sb_le G hG
      have he8 : e * sb G ≤ 8 * 69905 := Nat.mul_le_mul (by omega) hb
      refine ⟨?_, by unfold kc; omega⟩
      show zfl (fun j => prF wb (nI e) (nI j)) (PRO wb pr e) 32 G = _
      unfold zfl
      rw [if_pos hG]
      show prF wb (nI e) (nI G) = _
      rw [prF_N (by omega) hG h1 h2]; rfl
    have hf2 : ∀ G, G < 32 → LEO us wb pr le e G = lN (f G) ∧ f G < 2 ^ 58 := fun G hG => by
      obtain ⟨h1, h2, -⟩ := hf G hG
      refine ⟨h1, ?_⟩
      have : (e * 56000000 + 1) * 1048576 ≤ (8 * 56000000 + 1) * 1048576 := Nat.mul_le_mul_right _ (by omega)
      omega
    have hz : ∀ S, S < 32 → ∃ v, LEO us wb pr le (e + 1) S = lN v ∧ v ≤ ((e + 1) * 56000000 + 1) * 1048576 ∧ zop (Mc U) (kc w) kb (2 ^ 62) (dn (e + 1)) S v := fun S hS => by
      obtain ⟨m, hm, em, h5, G0, h6, h7, h8⟩ := zlo hS hu2 hP hf2 S (Nat.le_refl S)
      have hM : ∀ p, Mc U p e = (U e).testBit p := fun p => by
        have : (e == 8) = false := by simp; omega
        unfold Mc; rw [this, Bool.false_or]
      refine ⟨m, ?_, ?_, ?_⟩
      · show (if S < 32 then loL (PRO wb pr (e + 1)) (LEO us wb pr le e) S (zat 8 us (nI e)) S else LEO us wb pr le e S) = lN m
        rw [if_pos hS, zat_nI (by omega) (by decide), hu1]; exact em
      · have h0 := h5 0 (Nat.zero_le S) (by simp)
        have h1 := (hf S hS).2.1
        have h2 := (hw e 0 (by omega) (by omega)).2
        have h3 : sb 0 = 0 := rfl
        unfold kc at h0
        rw [h3, Nat.sub_zero] at h0
        omega
      · refine zstep (f := f) hS (fun q => by have := dn_mem.mp q; omega) (by omega) (fun S' hS' _ => (hf S' hS').2.2) (by omega) (fun G hG hGS hGM => ?_) (Or.inr ⟨G0, ?_⟩)
        · refine h5 G ?_ ((zand_all hG).mpr ⟨hGS, fun p hp hg => by rw [← hM]; exact hGM p hp hg⟩)
          have : G &&& S ≤ S := Nat.and_le_right
          rw [hGS] at this; exact this
        · have hG0 : G0 < 32 := by omega
          obtain ⟨q1, q2⟩ := (zand_all hG0).mp h7
          exact ⟨q1, fun p hp hg => by rw [hM]; exact q2 p hp hg, h8⟩
    refine ⟨fun S => (LEO us wb pr le (e + 1) S).toInt.toNat, fun S hS => ?_⟩
    obtain ⟨v, h1, h2, h3⟩ := hz S hS
    have hv : v < 2 ^ 62 := by
      have : ((e + 1) * 56000000 + 1) * 1048576 ≤ (8 * 56000000 + 1) * 1048576 := Nat.mul_le_mul_right _ (by omega)
      omega
    have hvv : (LEO us wb pr le (e + 1) S).toInt.toNat = v := by rw [h1, pk_lT (by omega)]; rfl
    show LEO us wb pr le (e + 1) S = lN ((LEO us wb pr le (e + 1) S).toInt.toNat) ∧ (LEO us wb pr le (e + 1) S).toInt.toNat ≤ _ ∧ zop _ _ _ _ _ _ ((LEO us wb pr le (e + 1) S).toInt.toNat)
    rw [hvv]; exact ⟨h1, h2, h3⟩
