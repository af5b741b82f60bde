/-! both sides are one: the least whole, the best allocation -/
theorem zhas_gen {x e : Nat} (hx : x < 2 ^ 31) (he : e < 9) : zhas (nI x) (nI e) = x.testBit e := by
  have hs : ∀ e, e < 9 → ((nI e &&& 31).toBitVec.smod 32).toNat = e := by decide
  unfold zhas
  rw [pk_shrN hx _ e (hs e he)]
  have hlt : x / 2 ^ e < 2 ^ 31 := Nat.lt_of_le_of_lt (Nat.div_le_self _ _) hx
  rw [pk_andN (by omega) 1 (by decide), Nat.testBit_eq_decide_div_mod_eq, Nat.pow_one]
  have h2 : x / 2 ^ e % 2 < 2 := Nat.mod_lt _ (by decide)
  rcases (show x / 2 ^ e % 2 = 0 ∨ x / 2 ^ e % 2 = 1 by omega) with h | h
  · rw [h]; decide
  · rw [h]; decide
theorem zF_full {k p : Nat} : (2 ^ k - 1).testBit p = decide (p < k) := Nat.testBit_two_pow_sub_one k p
theorem zu_ok {g : Nat → Nat → Int32} {n k : Nat} {us : Nat → Int32} (hok : zOk g n k) : ∀ i, i < n → zfl (US g k) us n i = nI (uN g i k) ∧ uN g i k < 32 := fun i hi => by
  refine ⟨?_, uN_lt hok.k⟩
  unfold zfl; rw [if_pos hi]
  exact uN_us hok.k
theorem zw_ok {g : Nat → Nat → Int32} {n k : Nat} {wb : Nat → Int32} (hok : zOk g n k) : ∀ i S, i < n → S < 32 → zfl (WB g k) wb (32 * n) (32 * i + S) = nI (wN g k i S) ∧ wN g k i S ≤ 56000000 := fun i S hi hS => by
  refine ⟨?_, (wN_ok hok hi S).1⟩
  unfold zfl; rw [if_pos (by omega)]
  exact WB_wN hok hi hS
theorem zM_eq {g : Nat → Nat → Int32} {n k : Nat} {my : Nat → Int32} (hok : zOk g n k) {p e : Nat} (hp : p < k) (he : e < n ∨ e = 8) : Mm (zfl (MY g n) my k) p e = Mc (fun e => uN g e k) p e := by
  have hn := hok.n
  obtain ⟨-, -, -, -, ⟨h1, h2⟩⟩ := hok.2.2.2.2.2.2 p hp
  obtain ⟨u, hu, eu⟩ := znat (M := 255) h1 h2
  have e1 : zfl (MY g n) my k p = nI ((u &&& (2 ^ n - 1)) ||| 256) := by
    unfold zfl; rw [if_pos hp]
    unfold MY
    rw [eu, z_shl1 hn, z_m1 (z2p n), fa_and, show (256 : Int32) = nI 256 by decide +kernel, fa_or]
  have hlt : (u &&& (2 ^ n - 1)) ||| 256 < 2 ^ 31 := by
    have h9 : (u &&& (2 ^ n - 1)) ||| 256 < 2 ^ 9 := Nat.or_lt_two_pow (by have := Nat.and_le_left (n := u) (m := 2 ^ n - 1); omega) (by decide)
    omega
  unfold Mm Mc
  rw [e1, zhas_gen hlt (by omega), Nat.testBit_or, Nat.testBit_and, zF_full, show (256 : Nat) = 2 ^ 8 from rfl, Nat.testBit_two_pow, uN_bit, decide_eq_true hp, Bool.true_and, eu, zhas_gen (by omega) (by omega)]
  rcases he with he | he
  · have h8 : (e == 8) = false := by simp; omega
    rw [h8, decide_eq_true he, decide_eq_false (show ¬ 8 = e by omega), Bool.and_true, Bool.or_false, Bool.false_or]
  · subst he; simp
theorem zva_F {M : Nat → Nat → Bool} {L : List Nat} {a : Nat → Nat} {k : Nat} (hk : k ≤ 5) : zva M L a (2 ^ k - 1) ↔ ∀ p, p < k → (a p ∈ L ∨ a p = 8) ∧ M p (a p) = true := by
  unfold zva
  constructor
  · intro h p hp; exact h p (by omega) (by rw [zF_full]; exact decide_eq_true hp)
  · intro h p _ hs; rw [zF_full] at hs; exact h p (of_decide_eq_true hs)
theorem un_iff {n x : Nat} : x ∈ un n n ↔ x < n := by
  rw [un_mem (Nat.le_refl n), Nat.sub_self]; exact ⟨fun h => h.2, fun h => ⟨Nat.zero_le _, h⟩⟩
/-- the state's data, and what the two searches find -/
theorem zmain {g : Nat → Nat → Int32} {n k : Nat} (hok : zOk g n k) (us wb : Nat → Int32) (pr le : Nat → Int64) (tb my : Nat → Int32) :
    ∃ a, (∀ p, p < k → (a p < n ∨ a p = 8) ∧ Mc (fun e => uN g e k) p (a p) = true)
      ∧ LEO (zfl (US g k) us n) (zfl (WB g k) wb (32 * n)) pr le n (2 ^ k - 1) = lN (zcw (wN g k) a (2 ^ k - 1) n * 1048576 + ds a (2 ^ k - 1))
      ∧ (∀ b, (∀ p, p < k → (b p < n ∨ b p = 8) ∧ Mc (fun e => uN g e k) p (b p) = true) → zcw (wN g k) a (2 ^ k - 1) n * 1048576 + ds a (2 ^ k - 1) ≤ zcw (wN g k) b (2 ^ k - 1) n * 1048576 + ds b (2 ^ k - 1))
      ∧ (∀ b, (∀ p, p < k → (b p < n ∨ b p = 8) ∧ Mc (fun e => uN g e k) p (b p) = true) → zcw (wN g k) a (2 ^ k - 1) n ≤ zcw (wN g k) b (2 ^ k - 1) n)
      ∧ LW (zfl (WB g k) tb (32 * n)) (zfl (MY g n) my k) n k n (2 ^ k - 1) = nI (zcw (wN g k) a (2 ^ k - 1) n) ∧ ds a (2 ^ k - 1) < 1048576 ∧ zcw (wN g k) a (2 ^ k - 1) n ≤ 448000000 := by
  have hn := hok.n; have hk := hok.k; have h32 := z2k hk; have h2p := z2p k
  obtain ⟨a, ha, e1, h1⟩ := zbest (pr := pr) (le := le) hn (zu_ok (us := us) hok) (zw_ok (wb := wb) hok) (show 2 ^ k - 1 < 32 by omega)
  have cv : ∀ b, zva (Mc fun e => uN g e k) (dn n) b (2 ^ k - 1) ↔ ∀ p, p < k → (b p < n ∨ b p = 8) ∧ Mc (fun e => uN g e k) p (b p) = true := fun b => by
    rw [zva_F hk]
    constructor
    · intro h p hp; exact ⟨(h p hp).1.imp dn_mem.mp id, (h p hp).2⟩
    · intro h p hp; exact ⟨(h p hp).1.imp dn_mem.mpr id, (h p hp).2⟩
  have hds := ds_lt hn ha
  have hle : ∀ b, (∀ p, p < k → (b p < n ∨ b p = 8) ∧ Mc (fun e => uN g e k) p (b p) = true) → zcw (wN g k) a (2 ^ k - 1) n ≤ zcw (wN g k) b (2 ^ k - 1) n := fun b hb => by
    have h3 := h1 b ((cv b).mpr hb)
    have h4 := ds_lt hn ((cv b).mpr hb)
    omega
  have hc := zcw_le (w := wN g k) (a := a) (S := 2 ^ k - 1) (n := n) (fun i S hi _ => (wN_ok hok hi S).1)
  have hc8 : n * 56000000 ≤ 448000000 := by omega
  refine ⟨a, (cv a).mp ha, e1, fun b hb => h1 b ((cv b).mpr hb), hle, ?_, hds, by omega⟩
  obtain ⟨v, hv, ev, h5, h6⟩ := zleast (my := zfl (MY g n) my k) hn hk (zw_ok (wb := tb) hok)
  have mv : ∀ b, zva (Mm (zfl (MY g n) my k)) (un n n) b (2 ^ k - 1) ↔ ∀ p, p < k → (b p < n ∨ b p = 8) ∧ Mc (fun e => uN g e k) p (b p) = true := fun b => by
    rw [zva_F hk]
    constructor
    · intro h p hp
      have q := (h p hp).1.imp un_iff.mp id
      exact ⟨q, by rw [← zM_eq (my := my) hok hp q]; exact (h p hp).2⟩
    · intro h p hp
      exact ⟨(h p hp).1.imp un_iff.mpr id, by rw [zM_eq hok hp (h p hp).1]; exact (h p hp).2⟩
  have h7 := h5 a ((mv a).mpr ((cv a).mp ha))
  rcases h6 with ⟨b, hb, h6⟩ | h6
  · have := hle b ((mv b).mp hb)
    rw [ev]; congr 1; omega
  · omega
theorem bkE_F {le : Nat → Int64} {k : Nat} (hk : k ≤ 5) : bkE le k = le (2 ^ k - 1) := by
  have h32 := z2k hk; have h2p := z2p k
  unfold bkE
  rw [z_shl1 (by omega), z_m1 h2p, zatL_nI (by omega) (by decide)]
theorem zwhole {g : Nat → Nat → Int32} {n k : Nat} (hok : zOk g n k) (us wb : Nat → Int32) (pr le : Nat → Int64) (tb my : Nat → Int32) :
    bwE (LEO (zfl (US g k) us n) (zfl (WB g k) wb (32 * n)) pr le n) k = LW (zfl (WB g k) tb (32 * n)) (zfl (MY g n) my k) n k n (2 ^ k - 1) := by
  obtain ⟨a, -, h2, -, -, h5, h6, h7⟩ := zmain hok us wb pr le tb my
  unfold bwE
  rw [bkE_F hok.k, h2, h5, zshr (d := 20) (by decide) (by omega), lN_i]
  congr 1; omega
def xd (a : Nat → Nat) (S p : Nat) : Nat := if S.testBit p = true then a p else 0
theorem ds_xd (a : Nat → Nat) (S : Nat) : ds a S = xd a S 0 * 65536 + xd a S 1 * 4096 + xd a S 2 * 256 + xd a S 3 * 16 + xd a S 4 := by
  have c : ∀ p m, (if S.testBit p = true then a p * m else 0) = xd a S p * m := fun p m => by
    unfold xd; split
    · rfl
    · rw [Nat.zero_mul]
  unfold ds
  rw [c, c, c, c]; rfl
theorem zdig {W x0 x1 x2 x3 x4 : Nat} (h0 : x0 ≤ 8) (h1 : x1 ≤ 8) (h2 : x2 ≤ 8) (h3 : x3 ≤ 8) (h4 : x4 ≤ 8) : ∀ j, j < 5 → (W * 1048576 + (x0 * 65536 + x1 * 4096 + x2 * 256 + x3 * 16 + x4)) / 2 ^ (4 * (4 - j)) % 16 = (if j = 0 then x0 else if j = 1 then x1 else if j = 2 then x2 else if j = 3 then x3 else x4) := by
  intro j hj
  rcases (show j = 0 ∨ j = 1 ∨ j = 2 ∨ j = 3 ∨ j = 4 by omega) with rfl | rfl | rfl | rfl | rfl <;> simp <;> omega
theorem ztk {le : Nat → Int64} {k j K : Nat} (hk : k ≤ 5) (hj : j < 5) (hle : le (2 ^ k - 1) = lN K) (hK : K < 2 ^ 62) : tkE le k (nI j) = if K / 2 ^ (4 * (4 - j)) % 16 = 8 then -1 else nI (K / 2 ^ (4 * (4 - j)) % 16) := by
  have hs : ∀ j, j < 5 → ((((4 : Int32) * (4 - nI j)).toInt64 &&& 63).toBitVec.smod 64).toNat = 4 * (4 - j) := by decide
  unfold tkE
  rw [bkE_F hk, hle, zshr (hs j hj) hK, lN_i, show (15 : Int32) = nI (2 ^ 4 - 1) by decide +kernel, fa_and, Nat.and_two_pow_sub_one_eq_mod]
  have h16 : K / 2 ^ (4 * (4 - j)) % 2 ^ 4 < 16 := Nat.mod_lt _ (by decide)
  have e8 : (nI (K / 2 ^ (4 * (4 - j)) % 2 ^ 4) = (8 : Int32)) ↔ K / 2 ^ (4 * (4 - j)) % 16 = 8 := by
    rw [show (8 : Int32) = nI 8 by decide +kernel, nI_eq (by omega) (by decide)]
  by_cases h : K / 2 ^ (4 * (4 - j)) % 16 = 8
  · rw [if_pos (e8.mpr h), if_pos h]
  · rw [if_neg (fun q => h (e8.mp q)), if_neg h]
theorem ztk_a {g : Nat → Nat → Int32} {n k j : Nat} {le : Nat → Int64} {a : Nat → Nat} {W : Nat} (hok : zOk g n k) (hj : j < k) (ha : ∀ p, p < k → a p < n ∨ a p = 8) (hW : W ≤ 448000000) (hle : le (2 ^ k - 1) = lN (W * 1048576 + ds a (2 ^ k - 1))) : tkE le k (nI j) = if a j = 8 then -1 else nI (a j) := by
  have hk := hok.k; have hn := hok.n
  have hx : ∀ p, xd a (2 ^ k - 1) p ≤ 8 := fun p => by
    unfold xd; rw [zF_full]
    by_cases hp : p < k
    · rw [decide_eq_true hp, if_pos rfl]; have := ha p hp; omega
    · rw [decide_eq_false hp]; simp
  have hj2 : xd a (2 ^ k - 1) j = a j := by unfold xd; rw [zF_full, decide_eq_true hj, if_pos rfl]
  have hd := zdig (W := W) (hx 0) (hx 1) (hx 2) (hx 3) (hx 4) j (by omega)
  have hb0 := hx 0; have hb1 := hx 1; have hb2 := hx 2; have hb3 := hx 3; have hb4 := hx 4
  rw [ds_xd] at hle
  rw [ztk hk (by omega) hle (by omega), hd]
  have : (if j = 0 then xd a (2 ^ k - 1) 0 else if j = 1 then xd a (2 ^ k - 1) 1 else if j = 2 then xd a (2 ^ k - 1) 2 else if j = 3 then xd a (2 ^ k - 1) 3 else xd a (2 ^ k - 1) 4) = a j := by
    rw [← hj2]
    rcases (show j = 0 ∨ j = 1 ∨ j = 2 ∨ j = 3 ∨ j = 4 by omega) with rfl | rfl | rfl | rfl | rfl <;> rfl
  rw [this]
theorem ds_less {a b : Nat → Nat} {k j : Nat} (hk : k ≤ 5) (hj : j < k) (hb : ∀ p, p < k → b p ≤ 8) (h1 : ∀ p, p < j → b p = a p) (h2 : b j < a j) : ds b (2 ^ k - 1) < ds a (2 ^ k - 1) := by
  have hx : ∀ p, xd b (2 ^ k - 1) p ≤ 8 := fun p => by
    unfold xd; rw [zF_full]
    by_cases hp : p < k
    · rw [decide_eq_true hp, if_pos rfl]; exact hb p hp
    · rw [decide_eq_false hp]; simp
  have e1 : ∀ p, p < j → xd b (2 ^ k - 1) p = xd a (2 ^ k - 1) p := fun p hp => by unfold xd; rw [h1 p hp]
  have e2 : xd b (2 ^ k - 1) j < xd a (2 ^ k - 1) j := by unfold xd; rw [zF_full, decide_eq_true hj, if_pos rfl, if_pos rfl]; exact h2
  have hb0 := hx 0; have hb1 := hx 1; have hb2 := hx 2; have hb3 := hx 3; have hb4 := hx 4
  rw [ds_xd, ds_xd]
  rcases (show j = 0 ∨ j = 1 ∨ j = 2 ∨ j = 3 ∨ j = 4 by omega) with rfl | rfl | rfl | rfl | rfl
  · omega
  · have := e1 0 (by omega); omega
  · have := e1 0 (by omega); have := e1 1 (by omega); omega
  · have := e1 0 (by omega); have := e1 1 (by omega); have := e1 2 (by omega); omega
  · have := e1 0 (by omega); have := e1 1 (by omega); have := e1 2 (by omega); have := e1 3 (by omega); omega
theorem zsh : ∀ x, x < 9 → ∀ e, e < 9 → zhas ((1 : Int32) <<< (nI x &&& 31)) (nI e) = decide (x = e) := by decide +kernel
theorem zsh_inj : ∀ x, x < 9 → ∀ y, y < 9 → ((1 : Int32) <<< (nI x &&& 31) = (1 : Int32) <<< (nI y &&& 31) ↔ x = y) := by decide +kernel
theorem BSI_s {tb : Nat → Int32} {n k : Nat} {low all : Int32} {p : Nat} {s0 : (Nat → Int32) × (Nat → Int32)} {i : Nat} (hF : (BSI tb n k low all p s0 i).2.2 = false) :
    BSI tb n k low all p s0 (i + 1) = if zhas all (nI i) = true then (upd (BSI tb n k low all p s0 i).1 p ((1 : Int32) <<< (nI i &&& 31)), LTA tb (upd (BSI tb n k low all p s0 i).1 p ((1 : Int32) <<< (nI i &&& 31))) n k (BSI tb n k low all p s0 i).2.1 n, decide (LW tb (upd (BSI tb n k low all p s0 i).1 p ((1 : Int32) <<< (nI i &&& 31))) n k n (2 ^ k - 1) = low)) else BSI tb n k low all p s0 i := by
  conv => lhs; unfold BSI
  rw [hF]; rfl
/-- the reference lays the class's allocation, piece by piece -/
theorem zgreedy {g : Nat → Nat → Int32} {n k : Nat} (hok : zOk g n k) (tb my lt : Nat → Int32) (a : Nat → Nat) (low : Int32)
    (ha : ∀ p, p < k → (a p < n ∨ a p = 8) ∧ Mc (fun e => uN g e k) p (a p) = true)
    (h1 : ∀ b, (∀ p, p < k → (b p < n ∨ b p = 8) ∧ Mc (fun e => uN g e k) p (b p) = true) → zcw (wN g k) a (2 ^ k - 1) n * 1048576 + ds a (2 ^ k - 1) ≤ zcw (wN g k) b (2 ^ k - 1) n * 1048576 + ds b (2 ^ k - 1))
    (h2 : ∀ b, (∀ p, p < k → (b p < n ∨ b p = 8) ∧ Mc (fun e => uN g e k) p (b p) = true) → zcw (wN g k) a (2 ^ k - 1) n ≤ zcw (wN g k) b (2 ^ k - 1) n)
    (hlow : low = nI (zcw (wN g k) a (2 ^ k - 1) n)) (hc : zcw (wN g k) a (2 ^ k - 1) n ≤ 448000000) :
    ∀ j, j ≤ k → ∀ p, p < k → (BSO (zfl (WB g k) tb (32 * n)) n k low (zfl (MY g n) my k, lt) j).1 p = if p < j then (1 : Int32) <<< (nI (a p) &&& 31) else zfl (MY g n) my k p
  | 0, _ => fun p hp => by rw [if_neg (by omega)]; rfl
  | j + 1, hj => by
    have hn := hok.n; have hk := hok.k
    have ih := zgreedy hok tb my lt a low ha h1 h2 hlow hc j (by omega)
    have ha8 : ∀ p, p < k → a p < 9 := fun p hp => by have := (ha p hp).1; omega
    generalize hs : BSO (zfl (WB g k) tb (32 * n)) n k low (zfl (MY g n) my k, lt) j = s0 at ih
    have hall : s0.1 j = zfl (MY g n) my k j := by rw [ih j (by omega), if_neg (by omega)]
    -- a choice i for the piece j, after the first j pieces: what an allocation for it is
    have valid : ∀ (m : Nat → Int32) (i : Nat), i < 9 → zhas (s0.1 j) (nI i) = true → (∀ p, p < k → p ≠ j → m p = s0.1 p) → m j = (1 : Int32) <<< (nI i &&& 31) → ∀ b, zva (Mm m) (un n n) b (2 ^ k - 1) → (∀ p, p < k → (b p < n ∨ b p = 8) ∧ Mc (fun e => uN g e k) p (b p) = true) ∧ (∀ p, p < j → b p = a p) ∧ b j = i := by
      intro m i hi hz hm hmj b hb
      rw [zva_F hk] at hb
      have hb1 : ∀ p, p < k → b p < n ∨ b p = 8 := fun p hp => (hb p hp).1.imp un_iff.mp id
      have hb9 : ∀ p, p < k → b p < 9 := fun p hp => by have := hb1 p hp; omega
      have hbl : ∀ p, p < j → b p = a p := fun p hp => by
        have h := (hb p (by omega)).2
        unfold Mm at h
        rw [hm p (by omega) (by omega), ih p (by omega), if_pos hp, zsh _ (ha8 p (by omega)) _ (hb9 p (by omega))] at h
        exact (of_decide_eq_true h).symm
      have hbj : b j = i := by
        have h := (hb j (by omega)).2
        unfold Mm at h
        rw [hmj, zsh _ hi _ (hb9 j (by omega))] at h
        exact (of_decide_eq_true h).symm
      refine ⟨fun p hp => ⟨hb1 p hp, ?_⟩, hbl, hbj⟩
      rcases Nat.lt_trichotomy p j with q | q | q
      · rw [hbl p q]; exact (ha p hp).2
      · subst q
        rw [← zM_eq (my := my) hok hp (hb1 p hp), hbj]
        unfold Mm; rw [← hall]; exact hz
      · have h := (hb p hp).2
        unfold Mm at h
        rw [hm p hp (by omega), ih p hp, if_neg (by omega)] at h
        rw [← zM_eq (my := my) hok hp (hb1 p hp)]; exact h
    have inner : ∀ i, i ≤ a j → (BSI (zfl (WB g k) tb (32 * n)) n k low (s0.1 j) j s0 i).2.2 = false ∧ ∀ p, p < k → p ≠ j → (BSI (zfl (WB g k) tb (32 * n)) n k low (s0.1 j) j s0 i).1 p = s0.1 p := by
      intro i
      induction i with
      | zero => intro _; exact ⟨rfl, fun p _ _ => rfl⟩
      | succ i ihi =>
        intro hi
        obtain ⟨hF, hM⟩ := ihi (by omega)
        have haj := ha8 j (by omega)
        rw [BSI_s hF]
        by_cases hz : zhas (s0.1 j) (nI i) = true
        · rw [if_pos hz]
          generalize hm' : upd (BSI (zfl (WB g k) tb (32 * n)) n k low (s0.1 j) j s0 i).1 j ((1 : Int32) <<< (nI i &&& 31)) = m'
          have m1 : ∀ p, p < k → p ≠ j → m' p = s0.1 p := fun p hp hpj => by rw [← hm', upd_ne hpj]; exact hM p hp hpj
          have m2 : m' j = (1 : Int32) <<< (nI i &&& 31) := by rw [← hm']; exact if_pos rfl
          refine ⟨?_, m1⟩
          obtain ⟨v, hv, ev, h5, h6⟩ := zleast (my := m') hn hk (zw_ok (wb := tb) hok)
          show decide (LW (zfl (WB g k) tb (32 * n)) m' n k n (2 ^ k - 1) = low) = false
          rw [ev, hlow]
          refine decide_eq_false (fun q => ?_)
          have q := (nI_eq (by omega) (by omega)).mp q
          rcases h6 with ⟨b, hb, h6⟩ | h6
          · obtain ⟨b1, b2, b3⟩ := valid m' i (by omega) hz m1 m2 b hb
            have hk1 := h1 b b1
            have hk2 := ds_less (a := a) (b := b) hk (show j < k by omega) (fun p hp => by have := (b1 p hp).1; omega) b2 (by omega)
            omega
          · omega
        · rw [if_neg hz]; exact ⟨hF, hM⟩
    obtain ⟨hF, hM⟩ := inner (a j) (Nat.le_refl _)
    have haj := ha8 j (by omega)
    have hz : zhas (s0.1 j) (nI (a j)) = true := by
      have := (ha j (by omega)).2
      rw [← zM_eq (my := my) hok (show j < k by omega) (ha j (by omega)).1] at this
      rw [hall]; exact this
    have hstep := BSI_s hF
    rw [if_pos hz] at hstep
    generalize hm' : upd (BSI (zfl (WB g k) tb (32 * n)) n k low (s0.1 j) j s0 (a j)).1 j ((1 : Int32) <<< (nI (a j) &&& 31)) = m' at hstep
    have m1 : ∀ p, p < k → p ≠ j → m' p = s0.1 p := fun p hp hpj => by rw [← hm', upd_ne hpj]; exact hM p hp hpj
    have m2 : m' j = (1 : Int32) <<< (nI (a j) &&& 31) := by rw [← hm']; exact if_pos rfl
    have hfound : LW (zfl (WB g k) tb (32 * n)) m' n k n (2 ^ k - 1) = low := by
      obtain ⟨v, hv, ev, h5, h6⟩ := zleast (my := m') hn hk (zw_ok (wb := tb) hok)
      have hav : zva (Mm m') (un n n) a (2 ^ k - 1) := by
        rw [zva_F hk]
        intro p hp
        refine ⟨(ha p hp).1.imp un_iff.mpr id, ?_⟩
        unfold Mm
        rcases Nat.lt_trichotomy p j with q | q | q
        · rw [m1 p hp (by omega), ih p hp, if_pos q, zsh _ (ha8 p hp) _ (ha8 p hp)]; exact decide_eq_true rfl
        · subst q; rw [m2, zsh _ haj _ haj]; exact decide_eq_true rfl
        · rw [m1 p hp (by omega), ih p hp, if_neg (by omega)]
          have := (ha p hp).2
          rw [← zM_eq (my := my) hok hp (ha p hp).1] at this; exact this
      have h7 := h5 a hav
      rw [ev, hlow]; congr 1
      rcases h6 with ⟨b, hb, h6⟩ | h6
      · obtain ⟨b1, -, -⟩ := valid m' (a j) haj hz m1 m2 b hb
        have := h2 b b1; omega
      · omega
    rw [hfound] at hstep
    have hlast : BSI (zfl (WB g k) tb (32 * n)) n k low (s0.1 j) j s0 9 = BSI (zfl (WB g k) tb (32 * n)) n k low (s0.1 j) j s0 (a j + 1) := by
      have := BSI_stop (tb := zfl (WB g k) tb (32 * n)) (n := n) (k := k) (low := low) (all := s0.1 j) (p := j) (s0 := s0) (i := a j + 1) (by rw [hstep]; exact decide_eq_true rfl) (9 - (a j + 1))
      rw [show a j + 1 + (9 - (a j + 1)) = 9 by omega] at this
      exact this
    intro p hp
    show ((BSI (zfl (WB g k) tb (32 * n)) n k low ((BSO (zfl (WB g k) tb (32 * n)) n k low (zfl (MY g n) my k, lt) j).1 j) j (BSO (zfl (WB g k) tb (32 * n)) n k low (zfl (MY g n) my k, lt) j) 9).1) p = _
    rw [hs, hlast, hstep]
    show m' p = _
    by_cases hpj : p = j
    · subst hpj; rw [m2, if_pos (by omega)]
    · rw [m1 p hp hpj, ih p hp]
      by_cases q : p < j
      · rw [if_pos q, if_pos (by omega)]
      · rw [if_neg q, if_neg (by omega)]
