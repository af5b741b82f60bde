/-! the drawn reckoner: its numbers -/
theorem zrem {X d : Nat} {y : Int32} (hy : y = nI d) (hX : X < 2 ^ 31) (h0 : 0 < d) (hd : d < 2 ^ 31) : nI X - nI X / y * y = nI (X % d) := by subst hy; exact pk_rem hX h0 hd
theorem zdv {X d : Nat} {y : Int32} (hy : y = nI d) (hX : X < 2 ^ 31) (h0 : 0 < d) (hd : d < 2 ^ 31) : nI X / y = nI (X / d) := by subst hy; exact pk_div hX h0 hd
theorem zadd1 (Y : Nat) : (1 : Int32) + nI Y = nI (1 + Y) := by rw [show (1 : Int32) = nI 1 from by decide +kernel, nI_add]
theorem zwiN {a lo hi : Nat} {x y : Int32} (hx : x = nI lo) (hy : y = nI hi) (h : lo ≤ a ∧ a ≤ hi) (hh : hi < 2 ^ 31) : zwi (nI a) x y = true := by
  subst hx; subst hy
  refine zwi_of ?_
  rw [nI_toInt (by omega), nI_toInt (by omega), nI_toInt (by omega)]; omega
theorem x_shr (x : Int32) : ∃ X, X < 16777216 ∧ (x.toUInt32 >>> ((8 : Int32).toUInt32 &&& Int32.toUInt32 31)).toInt32 = nI X := by
  have h8 : ((8 : Int32).toUInt32 &&& Int32.toUInt32 31).toNat % 32 = 8 := by decide +kernel
  refine ⟨(x.toUInt32 >>> ((8 : Int32).toUInt32 &&& Int32.toUInt32 31)).toNat, ?_, ?_⟩
  · rw [UInt32.toNat_shiftRight, h8, Nat.shiftRight_eq_div_pow]
    have := x.toUInt32.toNat_lt
    omega
  · apply Int32.toBitVec_inj.mp
    apply BitVec.eq_of_toNat_eq
    show (x.toUInt32 >>> ((8 : Int32).toUInt32 &&& Int32.toUInt32 31)).toBitVec.toNat = (BitVec.ofNat 32 _).toNat
    rw [BitVec.toNat_ofNat, Nat.mod_eq_of_lt (by have := (x.toUInt32 >>> ((8 : Int32).toUInt32 &&& Int32.toUInt32 31)).toNat_lt; omega)]
    rfl
theorem amt_new {g : Nat → Nat → Int32} {j s p : Nat} {a0 a1 a4 a5 : Int32} (hs : s ≤ 10000000) (hp : p ≤ 10000000) (hj : j < 2 ^ 31) : amt (gAE g j a0 a1 (nI s) (nI p) a4 a5) (nI j).toNatClampNeg = nI (s + p * 40 / 100) := by
  rw [nI_clamp hj]
  show upd (g 5) j (nI s) j + pct (upd (g 6) j (nI p) j) 40 = _
  rw [upd_at, upd_at, show (40 : Int32) = nI 40 from by decide +kernel, zpct (by omega) (by omega), nI_add]
theorem zvl2 {g : Nat → Nat → Int32} {n k i j m : Nat} (hok : zOk g n k) (hi : i < n) (hj : j < k) (em : g 11 j = nI m) (hm : m ≤ 10000000) : ∃ v, v ≤ m ∧ vl g j i = nI v := by
  obtain ⟨-, -, -, -, -, ⟨d1, d2⟩, -⟩ := hok.2.2.2.2.2.1 i hi
  obtain ⟨-, ⟨c1, c2⟩, -, ⟨t1, t2⟩, -⟩ := hok.2.2.2.2.2.2 j hj
  obtain ⟨c, hc, ec⟩ := znat (M := 100) c1 c2
  obtain ⟨t, ht, et⟩ := znat (M := 3650) (by omega) t2
  obtain ⟨d, hd, ed⟩ := znat (M := 3650) (by omega) d2
  have hd1 : 1 ≤ d := by rw [ed, nI_toInt (by omega)] at d1; omega
  have h1 : ∃ v, v ≤ m ∧ vl1 g j i = nI v := by
    have e1 : pct (g 11 j) (100 - g 12 j) = nI (m * (100 - c) / 100) := by
      rw [em, ec, show (100 : Int32) = nI 100 by decide +kernel, pk_sub hc, zpct (by omega) (by omega)]
    have l1 : m * (100 - c) / 100 ≤ m := zdiv_le (by omega)
    unfold vl1
    by_cases h : g 13 j = g 7 i
    · rw [if_pos h, e1]; exact ⟨_, by omega, rfl⟩
    · rw [if_neg h, e1, show (92 : Int32) = nI 92 by decide +kernel, zpct (by omega) (by omega)]
      have l2 : m * (100 - c) / 100 * 92 / 100 ≤ m * (100 - c) / 100 := zdiv_le (by omega)
      exact ⟨_, by omega, rfl⟩
  obtain ⟨v, hv, ev⟩ := h1
  unfold vl
  by_cases h : g 8 i ≤ g 14 j
  · rw [if_pos h, ev]; exact ⟨v, hv, rfl⟩
  · rw [if_neg h, ev, et, ed, nI_l (by omega), nI_l (by omega), nI_l (by omega), lN_mul]
    have htd : t ≤ d := by
      rw [et, ed, nI_leI (by omega) (by omega)] at h; omega
    have hvt : v * t ≤ v * d := Nat.mul_le_mul_left v htd
    have hvd : v * d ≤ 10000000 * 3650 := Nat.mul_le_mul (by omega) hd
    rw [pk_lDiv (by omega) (by omega) (by omega), lN_i]
    refine ⟨_, ?_, rfl⟩
    have : v * t / d ≤ v := Nat.div_le_of_le_mul (by rw [Nat.mul_comm d v]; exact hvt)
    omega
theorem req_ge {a b : Int32} : ¬ (if a < b then b else a) < a := by
  by_cases h : a < b
  · rw [if_pos h]
    intro h2
    rw [Int32.lt_iff_toInt_lt] at h h2; omega
  · rw [if_neg h]
    intro h2
    rw [Int32.lt_iff_toInt_lt] at h2; omega
theorem zw_bits2 : ∀ k, k < 6 → 0 < k → ∀ q, q < 5 → (2 ^ k - 1 - 2 ^ 0).testBit q = (decide (q < k) && !decide (q = 0)) := by decide +kernel
theorem bwK_N {K : Nat} (h : K < 2 ^ 62) : bwK (lN K) = nI (K / 2 ^ 20) := by unfold bwK; rw [zshr (d := 20) (by decide) h, lN_i]
theorem worth_nn {g : Nat → Nat → Int32} {n k : Nat} (hok : zOk g n k) (hk0 : 0 < k) : ∃ v, v ≤ 448000000 ∧ woE (KE g n k) k 0 - bwE (KE g n k) k = nI v := by
  have hn := hok.n; have hk := hok.k; have h32 := z2k hk; have h2p := z2p k
  have h20 : 2 ^ 0 = 1 := rfl
  have hS : 2 ^ k - 1 - 2 ^ 0 < 32 := by omega
  obtain ⟨a, ha, e1, -, h2, -, hds, hc⟩ := zmain hok (fun _ => 0) (fun _ => 0) (fun _ => 0) (fun _ => 0) (fun _ => 0) (fun _ => 0)
  obtain ⟨b, hb, e3, -⟩ := zbest (pr := fun _ => 0) (le := fun _ => 0) hn (zu_ok (us := fun _ => 0) hok) (zw_ok (wb := fun _ => 0) hok) hS
  have hdb := ds_lt hn hb
  have hcb := zcw_le (w := wN g k) (a := b) (S := 2 ^ k - 1 - 2 ^ 0) (n := n) (fun i S hi _ => (wN_ok hok hi S).1)
  have hbits := zw_bits2 k (by omega) hk0
  have hv : ∀ p, p < k → ((if p = 0 then 8 else b p) < n ∨ (if p = 0 then 8 else b p) = 8) ∧ Mc (fun e => uN g e k) p (if p = 0 then 8 else b p) = true := by
    intro p hp
    by_cases h0 : p = 0
    · rw [if_pos h0]; exact ⟨Or.inr rfl, rfl⟩
    · rw [if_neg h0]
      have := hb p (by omega) (by rw [hbits p (by omega), decide_eq_true hp, decide_eq_false h0]; rfl)
      exact ⟨this.1.imp dn_mem.mp id, this.2⟩
  have hz : ∀ m, m ≤ n → zcw (wN g k) (fun p => if p = 0 then 8 else b p) (2 ^ k - 1) m = zcw (wN g k) b (2 ^ k - 1 - 2 ^ 0) m := by
    intro m
    induction m with
    | zero => intro _; rfl
    | succ m ih =>
      intro hm
      unfold zcw
      rw [ih (by omega)]
      have : zF (fun p => if p = 0 then 8 else b p) (2 ^ k - 1) m = zF b (2 ^ k - 1 - 2 ^ 0) m := by
        apply zext (zF_lt _ _ _) (zF_lt _ _ _)
        intro q hq
        rw [zF_bit hq, zF_bit hq, zF_full, hbits q hq]
        by_cases hq0 : q = 0
        · subst hq0
          simp only [if_true]
          rw [decide_eq_false (show ¬ 8 = m by omega)]; simp
        · simp only [if_neg hq0]; simp [hq0]
      rw [this]
  have hle := h2 (fun p => if p = 0 then 8 else b p) hv
  rw [hz n (Nat.le_refl n)] at hle
  have q1 : bkE (KE g n k) k = lN (zcw (wN g k) a (2 ^ k - 1) n * 1048576 + ds a (2 ^ k - 1)) := by rw [bkE_F hk]; exact e1
  have q2 : KE g n k (2 ^ k - 1 - 2 ^ 0) = lN (zcw (wN g k) b (2 ^ k - 1 - 2 ^ 0) n * 1048576 + ds b (2 ^ k - 1 - 2 ^ 0)) := e3
  have hc8 : n * 56000000 ≤ 448000000 := by omega
  rw [woE_K2 hk hk0 nI_0.symm q2, bwE_K q1, bwK_N (by omega), bwK_N (by omega)]
  rw [show (zcw (wN g k) b (2 ^ k - 1 - 2 ^ 0) n * 1048576 + ds b (2 ^ k - 1 - 2 ^ 0)) / 2 ^ 20 = zcw (wN g k) b (2 ^ k - 1 - 2 ^ 0) n from by omega, show (zcw (wN g k) a (2 ^ k - 1) n * 1048576 + ds a (2 ^ k - 1)) / 2 ^ 20 = zcw (wN g k) a (2 ^ k - 1) n from by omega, pk_sub hle]
  exact ⟨_, by omega, rfl⟩
/-- the drawn reckoner's calls go through -/
theorem T_ae {n X : Nat} (hn : n < 8) : T_addExposure n (nI (X % 4)) (nI (X / 4 % 4)) (nI (X % 10000001)) (nI (X / 3 % 10000001)) (nI (X % 3)) (nI (1 + X % 3650)) = 0 := by
  unfold T_addExposure
  rw [zwiN (a := X % 4) (lo := 0) (hi := 3) nI_0.symm (by decide +kernel) (by omega) (by decide), zwiN (a := X / 4 % 4) (lo := 0) (hi := 3) nI_0.symm (by decide +kernel) (by omega) (by decide), zwiN (a := X % 10000001) (lo := 0) (hi := 10000000) nI_0.symm (by decide +kernel) (by omega) (by decide), zwiN (a := X / 3 % 10000001) (lo := 0) (hi := 10000000) nI_0.symm (by decide +kernel) (by omega) (by decide), zwiN (a := X % 3) (lo := 0) (hi := 2) nI_0.symm (by decide +kernel) (by omega) (by decide), zwiN (a := 1 + X % 3650) (lo := 1) (hi := 3650) (by decide +kernel) (by decide +kernel) (by omega) (by decide)]
  rw [if_neg (by decide), if_neg (by decide), if_neg (by omega)]
theorem T_ap {k X : Nat} (hk : k < 5) : T_addPiece k (nI (1 + X % 9999)) (nI (X % 101)) (nI (X / 7 % 3)) (nI (1 + X / 5 % 3650)) (nI (X % 256)) = 0 := by
  unfold T_addPiece
  rw [zwiN (a := 1 + X % 9999) (lo := 1) (hi := 10000000) (by decide +kernel) (by decide +kernel) (by omega) (by decide), zwiN (a := X % 101) (lo := 0) (hi := 100) nI_0.symm (by decide +kernel) (by omega) (by decide), zwiN (a := X / 7 % 3) (lo := 0) (hi := 2) nI_0.symm (by decide +kernel) (by omega) (by decide), zwiN (a := 1 + X / 5 % 3650) (lo := 1) (hi := 3650) (by decide +kernel) (by decide +kernel) (by omega) (by decide), zwiN (a := X % 256) (lo := 0) (hi := 255) nI_0.symm (by decide +kernel) (by omega) (by decide)]
  rw [if_neg (by decide), if_neg (by omega)]
theorem T_am {n i : Nat} (hn : n ≤ 8) (hi : i < n) : T_amount n (nI i) = 0 := by unfold T_amount; rw [zex_t hn hi rfl, if_neg (by decide)]
theorem T_va {n k i j : Nat} (hn : n ≤ 8) (hk : k ≤ 8) (hi : i < n) (hj : j < k) : T_value n k (nI j) (nI i) = 0 := by unfold T_value; rw [zex_t hn hi rfl, zex_t hk hj rfl, if_neg (by decide)]
