/-! the answers that stand on the best allocation -/
theorem gvF_val {my : Nat → Int32} {p n x : Nat} (hn : n ≤ 8) (hx : x < n ∨ x = 8) (hm : my p = (1 : Int32) <<< (nI x &&& 31)) : ∀ d, d ≤ n → gvF my p n d = if n - d ≤ x ∧ x < n then nI x else -1
  | 0, _ => by unfold gvF; rw [if_neg (by omega)]
  | d + 1, hd => by
    unfold gvF
    rw [hm, gvF_val hn hx hm d (by omega)]
    have hi := zsh_inj x (by omega) (n - 1 - d) (by omega)
    by_cases h : x = n - 1 - d
    · rw [if_pos (hi.mpr h), if_pos (by omega), h]
    · rw [if_neg (fun q => h (hi.mp q))]
      by_cases h2 : n - d ≤ x ∧ x < n
      · rw [if_pos h2, if_pos (by omega)]
      · rw [if_neg h2, if_neg (by omega)]
theorem zm1_ne {i : Nat} (hi : i < 2 ^ 31) : (-1 : Int32) ≠ nI i := by
  intro h
  have := congrArg Int32.toInt h
  rw [nI_toInt hi] at this
  have e : (-1 : Int32).toInt = -1 := by decide
  rw [e] at this; omega
/-- the class's and the reference's best allocation, as one -/
theorem zbests {g : Nat → Nat → Int32} {n k : Nat} (hok : zOk g n k) (us wb : Nat → Int32) (pr le : Nat → Int64) (tb my lt : Nat → Int32) :
    ∃ a : Nat → Nat, (∀ p, p < k → a p < n ∨ a p = 8) ∧ (∀ p, p < k → tkE (LEO (zfl (US g k) us n) (zfl (WB g k) wb (32 * n)) pr le n) k (nI p) = if a p = 8 then -1 else nI (a p))
      ∧ ∀ p, p < k → (BSO (zfl (WB g k) tb (32 * n)) n k (LW (zfl (WB g k) tb (32 * n)) (zfl (MY g n) my k) n k n (2 ^ k - 1)) (zfl (MY g n) my k, lt) k).1 p = (1 : Int32) <<< (nI (a p) &&& 31) := by
  obtain ⟨a, ha, e1, h1, h2, e2, h3, h4⟩ := zmain hok us wb pr le tb my
  refine ⟨a, fun p hp => (ha p hp).1, fun p hp => ztk_a hok hp (fun q hq => (ha q hq).1) h4 e1, fun p hp => ?_⟩
  rw [zgreedy hok tb my lt a _ ha h1 h2 e2 h4 k (Nat.le_refl k) p hp, if_pos hp]
theorem zgiven {g : Nat → Nat → Int32} {n k : Nat} (hok : zOk g n k) (us wb : Nat → Int32) (pr le : Nat → Int64) (tb my lt : Nat → Int32) {p : Nat} (hp : p < k) :
    tkE (LEO (zfl (US g k) us n) (zfl (WB g k) wb (32 * n)) pr le n) k (nI p) = gvF (BSO (zfl (WB g k) tb (32 * n)) n k (LW (zfl (WB g k) tb (32 * n)) (zfl (MY g n) my k) n k n (2 ^ k - 1)) (zfl (MY g n) my k, lt) k).1 p n n := by
  obtain ⟨a, h1, h2, h3⟩ := zbests hok us wb pr le tb my lt
  have hn := hok.n
  rw [h2 p hp, gvF_val hn (h1 p hp) (h3 p hp) n (Nat.le_refl n)]
  rcases h1 p hp with h | h
  · rw [if_neg (by omega), if_pos (by omega)]
  · rw [if_pos h, if_neg (by omega)]
theorem zsets {g : Nat → Nat → Int32} {n k : Nat} (hok : zOk g n k) (us wb : Nat → Int32) (pr le : Nat → Int64) (tb my lt : Nat → Int32) {i : Nat} (hi : i < n) :
    gsL (LEO (zfl (US g k) us n) (zfl (WB g k) wb (32 * n)) pr le n) k (nI i) k = stL (BSO (zfl (WB g k) tb (32 * n)) n k (LW (zfl (WB g k) tb (32 * n)) (zfl (MY g n) my k) n k n (2 ^ k - 1)) (zfl (MY g n) my k, lt) k).1 (nI i) k := by
  obtain ⟨a, h1, h2, h3⟩ := zbests hok us wb pr le tb my lt
  have hn := hok.n
  have key : ∀ m, m ≤ k → gsL (LEO (zfl (US g k) us n) (zfl (WB g k) wb (32 * n)) pr le n) k (nI i) m = stL (BSO (zfl (WB g k) tb (32 * n)) n k (LW (zfl (WB g k) tb (32 * n)) (zfl (MY g n) my k) n k n (2 ^ k - 1)) (zfl (MY g n) my k, lt) k).1 (nI i) m := by
    intro m
    induction m with
    | zero => intro _; rfl
    | succ m ih =>
      intro hm
      have h1m := h1 m (by omega)
      unfold gsL stL
      rw [ih (by omega), h2 m (by omega), h3 m (by omega)]
      have hinj := zsh_inj (a m) (by omega) i (by omega)
      by_cases h : a m = i
      · rw [if_pos (hinj.mpr h), if_neg (show ¬ a m = 8 by omega), h, if_pos rfl]
      · rw [if_neg (fun q => h (hinj.mp q)), Int32.or_zero]
        by_cases h8 : a m = 8
        · rw [if_pos h8, if_neg (zm1_ne (by omega))]
        · rw [if_neg h8, if_neg (fun q => h ((nI_eq (by omega) (by omega)).mp q))]
  exact key k (Nat.le_refl k)
theorem zparty {g : Nat → Nat → Int32} {n k : Nat} (hok : zOk g n k) (us wb : Nat → Int32) (pr le : Nat → Int64) (tb my lt : Nat → Int32) (x : Int32) :
    bpL g k (LEO (zfl (US g k) us n) (zfl (WB g k) wb (32 * n)) pr le n) x n = bdL g k (BSO (zfl (WB g k) tb (32 * n)) n k (LW (zfl (WB g k) tb (32 * n)) (zfl (MY g n) my k) n k n (2 ^ k - 1)) (zfl (MY g n) my k, lt) k).1 x n := by
  have key : ∀ m, m ≤ n → bpL g k (LEO (zfl (US g k) us n) (zfl (WB g k) wb (32 * n)) pr le n) x m = bdL g k (BSO (zfl (WB g k) tb (32 * n)) n k (LW (zfl (WB g k) tb (32 * n)) (zfl (MY g n) my k) n k n (2 ^ k - 1)) (zfl (MY g n) my k, lt) k).1 x m := by
    intro m
    induction m with
    | zero => intro _; rfl
    | succ m ih =>
      intro hm
      unfold bpL bdL
      rw [ih (by omega), zsets hok us wb pr le tb my lt (show m < n by omega)]
      by_cases h : g 4 m = x
      · rw [if_pos h, if_pos h]
      · rw [if_neg h, if_neg h, Int32.add_zero]
  exact key n (Nat.le_refl n)
set_option maxRecDepth 8000 in
theorem zbd {g : Nat → Nat → Int32} {n k : Nat} (hok : zOk g n k) (m : Nat → Int32) (x : Int32) : ∃ v, v ≤ 112000000 ∧ bdL g k m x n = nI v := by
  have hn := hok.n
  have key : ∀ i, i ≤ n → ∃ v, v ≤ i * 14000000 ∧ bdL g k m x i = nI v := by
    intro i
    induction i with
    | zero => intro _; exact ⟨0, Nat.zero_le _, nI_0.symm⟩
    | succ i ih =>
      intro hi
      obtain ⟨v, hv, ev⟩ := ih (by omega)
      obtain ⟨b, hb, eb⟩ := zbw (set := stL m (nI i) k) hok (show i < n by omega)
      unfold bdL
      rw [ev]
      by_cases h : g 4 i = x
      · rw [if_pos h, eb, nI_add]; exact ⟨_, by omega, rfl⟩
      · rw [if_neg h, Int32.add_zero]; exact ⟨v, Nat.le_trans hv (Nat.mul_le_mul_right _ (Nat.le_succ i)), rfl⟩
  obtain ⟨v, hv, e⟩ := key n (Nat.le_refl n)
  exact ⟨v, by omega, e⟩
theorem zcmp {a b : Nat} (ha : a < 2 ^ 62) (hb : b < 2 ^ 62) : lg_cmp (lN a) (lN b) ≤ 0 ↔ a ≤ b := by
  rw [lg_cmp_le, Int64.le_iff_toInt_le, pk_lT (by omega), pk_lT (by omega)]; omega
theorem zlarge {g : Nat → Nat → Int32} {n k : Nat} (hok : zOk g n k) (us wb : Nat → Int32) (pr le : Nat → Int64) (tb my lt : Nat → Int32) :
    tlL g n k (LEO (zfl (US g k) us n) (zfl (WB g k) wb (32 * n)) pr le n) 4 = tgL g n k (BSO (zfl (WB g k) tb (32 * n)) n k (LW (zfl (WB g k) tb (32 * n)) (zfl (MY g n) my k) n k n (2 ^ k - 1)) (zfl (MY g n) my k, lt) k).1 4 := by
  obtain ⟨c, hc, ec⟩ := znat (M := 1000000000) hok.2.2.2.2.1.1 hok.2.2.2.2.1.2
  have key : ∀ m, m ≤ 4 → tlL g n k (LEO (zfl (US g k) us n) (zfl (WB g k) wb (32 * n)) pr le n) m = tgL g n k (BSO (zfl (WB g k) tb (32 * n)) n k (LW (zfl (WB g k) tb (32 * n)) (zfl (MY g n) my k) n k n (2 ^ k - 1)) (zfl (MY g n) my k, lt) k).1 m := by
    intro m
    induction m with
    | zero => intro _; rfl
    | succ m ih =>
      intro hm
      obtain ⟨v, hv, ev⟩ := zbd hok (BSO (zfl (WB g k) tb (32 * n)) n k (LW (zfl (WB g k) tb (32 * n)) (zfl (MY g n) my k) n k n (2 ^ k - 1)) (zfl (MY g n) my k, lt) k).1 (nI m)
      unfold tlL tgL
      rw [ih (by omega), zparty hok us wb pr le tb my lt, ev, ec, nI_l (by omega), nI_l (by omega), show (4 : Int64) = lN 4 by decide +kernel, lN_mul, show (4 : Int32) = nI 4 by decide +kernel, pk_div (by omega) (by omega) (by omega)]
      have h1 : (nI v ≤ nI (c / 4)) ↔ v ≤ c / 4 := nI_leI (by omega) (by omega)
      have h2 : lg_cmp (lN (4 * v)) (lN c) ≤ 0 ↔ 4 * v ≤ c := zcmp (by omega) (by omega)
      by_cases h : v ≤ c / 4
      · rw [if_pos (h1.mpr h), if_pos (h2.mpr (by omega)), Int32.or_zero]
      · rw [if_neg (fun q => h (h1.mp q)), if_neg (fun q => h (by have := h2.mp q; omega))]
  exact key 4 (Nat.le_refl 4)
/-! the worth of a piece -/
theorem zw_mask : ∀ k, k < 6 → ∀ p, p < k → ((((1 : Int32) <<< (nI k &&& 31)) - 1) &&& (((1 : Int32) <<< (nI p &&& 31)) ^^^ (-1))) = nI (2 ^ k - 1 - 2 ^ p) := by decide +kernel
theorem zw_bits : ∀ k, k < 6 → ∀ p, p < k → ∀ q, q < 5 → (2 ^ k - 1 - 2 ^ p).testBit q = (decide (q < k) && !decide (q = p)) := by decide +kernel
theorem zworth {g : Nat → Nat → Int32} {n k : Nat} (hok : zOk g n k) (us wb : Nat → Int32) (pr le : Nat → Int64) (tb my : Nat → Int32) {p : Nat} (hp : p < k) :
    woE (LEO (zfl (US g k) us n) (zfl (WB g k) wb (32 * n)) pr le n) k (nI p) = LW (zfl (WB g k) tb (32 * n)) (upd (zfl (MY g n) my k) p 256) n k n (2 ^ k - 1) := by
  have hn := hok.n; have hk := hok.k; have h32 := z2k hk; have h2p := z2p k
  have h2q := z2p p
  have hS : 2 ^ k - 1 - 2 ^ p < 32 := by omega
  have hbits := zw_bits k (by omega) p hp
  obtain ⟨a, ha, e1, h1⟩ := zbest (pr := pr) (le := le) hn (zu_ok (us := us) hok) (zw_ok (wb := wb) hok) hS
  have hds := ds_lt hn ha
  have hc := zcw_le (w := wN g k) (a := a) (S := 2 ^ k - 1 - 2 ^ p) (n := n) (fun i S hi _ => (wN_ok hok hi S).1)
  obtain ⟨v, hv, ev, h5, h6⟩ := zleast (my := upd (zfl (MY g n) my k) p 256) hn hk (zw_ok (wb := tb) hok)
  have h256 : ∀ e, e < 9 → (zhas 256 (nI e) = decide (e = 8)) := by decide
  -- fibres: the piece p at none changes nothing
  have hz : ∀ b : Nat → Nat, b p = 8 → ∀ m, m ≤ n → zcw (wN g k) b (2 ^ k - 1) m = zcw (wN g k) b (2 ^ k - 1 - 2 ^ p) m := by
    intro b hb m
    induction m with
    | zero => intro _; rfl
    | succ m ih =>
      intro hm
      unfold zcw
      rw [ih (by omega)]
      congr 2
      apply zext (zF_lt _ _ _) (zF_lt _ _ _)
      intro q hq
      rw [zF_bit hq, zF_bit hq, zF_full, hbits q hq]
      by_cases hqp : q = p
      · subst hqp; rw [hb, decide_eq_false (show ¬ 8 = m by omega), Bool.and_false, Bool.and_false]
      · rw [decide_eq_false hqp]; simp
  have hzc : ∀ (b b' : Nat → Nat), (∀ q, q ≠ p → b q = b' q) → ∀ m, zcw (wN g k) b (2 ^ k - 1 - 2 ^ p) m = zcw (wN g k) b' (2 ^ k - 1 - 2 ^ p) m := by
    intro b b' hbb m
    induction m with
    | zero => rfl
    | succ m ih =>
      unfold zcw
      rw [ih]
      congr 2
      apply zext (zF_lt _ _ _) (zF_lt _ _ _)
      intro q hq
      rw [zF_bit hq, zF_bit hq, hbits q hq]
      by_cases hqp : q = p
      · subst hqp; simp
      · rw [hbb q hqp]
  have hMu : ∀ q e, q ≠ p → Mm (upd (zfl (MY g n) my k) p 256) q e = Mm (zfl (MY g n) my k) q e := fun q e hq => by unfold Mm; rw [upd_ne hq]
  -- from the reference's allocations to the class's and back
  have to1 : ∀ b, zva (Mm (upd (zfl (MY g n) my k) p 256)) (un n n) b (2 ^ k - 1) → b p = 8 ∧ zva (Mc fun e => uN g e k) (dn n) b (2 ^ k - 1 - 2 ^ p) := by
    intro b hb
    rw [zva_F hk] at hb
    have hb1 : ∀ q, q < k → b q < n ∨ b q = 8 := fun q hq => (hb q hq).1.imp un_iff.mp id
    refine ⟨?_, fun q hq hs => ?_⟩
    · have h := (hb p hp).2
      unfold Mm at h
      have e : upd (zfl (MY g n) my k) p 256 p = 256 := if_pos rfl
      rw [e, h256 _ (by have := hb1 p hp; omega)] at h
      exact of_decide_eq_true h
    · rw [hbits q hq] at hs
      simp at hs
      refine ⟨(hb1 q hs.1).imp dn_mem.mpr id, ?_⟩
      rw [← zM_eq (my := my) hok hs.1 (hb1 q hs.1), ← hMu q _ hs.2]
      exact (hb q hs.1).2
  have to2 : ∀ b, zva (Mc fun e => uN g e k) (dn n) b (2 ^ k - 1 - 2 ^ p) → zva (Mm (upd (zfl (MY g n) my k) p 256)) (un n n) (fun q => if q = p then 8 else b q) (2 ^ k - 1) := by
    intro b hb
    rw [zva_F hk]
    intro q hq
    by_cases hqp : q = p
    · subst hqp
      simp only [if_true]
      refine ⟨Or.inr trivial, ?_⟩
      unfold Mm
      have e : upd (zfl (MY g n) my k) q 256 q = 256 := if_pos rfl
      rw [e, h256 8 (by omega)]; rfl
    · simp only [if_neg hqp]
      have := hb q (by omega) (by rw [hbits q (by omega)]; simp [hq, hqp])
      have hb1 : b q < n ∨ b q = 8 := this.1.imp dn_mem.mp id
      refine ⟨hb1.imp un_iff.mpr id, ?_⟩
      rw [hMu q _ hqp, zM_eq hok hq hb1]; exact this.2
  have hcost : ∀ b, zva (Mc fun e => uN g e k) (dn n) b (2 ^ k - 1 - 2 ^ p) → zcw (wN g k) a (2 ^ k - 1 - 2 ^ p) n ≤ zcw (wN g k) b (2 ^ k - 1 - 2 ^ p) n := fun b hb => by
    have h3 := h1 b hb
    have h4 := ds_lt hn hb
    omega
  have hva : v = zcw (wN g k) a (2 ^ k - 1 - 2 ^ p) n := by
    have h7 := h5 _ (to2 a ha)
    rw [hz (fun q => if q = p then 8 else a q) (if_pos rfl) n (Nat.le_refl n), hzc (fun q => if q = p then 8 else a q) a (fun q hq => if_neg hq) n] at h7
    rcases h6 with ⟨b, hb, h6⟩ | h6
    · obtain ⟨b1, b2⟩ := to1 b hb
      have := hcost b b2
      rw [h6, hz b b1 n (Nat.le_refl n)] at h7 ⊢
      omega
    · omega
  unfold woE
  rw [zw_mask k (by omega) p hp, zatL_nI (by omega) (by decide), e1, zshr (d := 20) (by decide) (by omega), lN_i, ev, hva]
  congr 1; omega
