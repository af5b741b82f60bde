/-! words for a call that throws, numbers, the least whole by another search (as mathematics alone) -/
def gR (g : Nat → Nat → Int32) (r : Nat) (f : Nat → Int32) : Nat → Nat → Int32 := fun r' => if r' = r then f else g r'
def zex (n : Nat) (x : Int32) : Bool := zwi x 0 (nI n - 1)
theorem zwi_t {x lo hi : Int32} (h : zwi x lo hi = true) : lo.toInt ≤ x.toInt ∧ x.toInt ≤ hi.toInt := by
  simp only [zwi, Bool.and_eq_true, Bool.not_eq_true', decide_eq_false_iff_not, Int32.lt_iff_toInt_lt] at h
  omega
theorem zwi_of {x lo hi : Int32} (h : lo.toInt ≤ x.toInt ∧ x.toInt ≤ hi.toInt) : zwi x lo hi = true := by
  simp only [zwi, Bool.and_eq_true, Bool.not_eq_true', decide_eq_false_iff_not, Int32.lt_iff_toInt_lt]
  omega
theorem nI_m1 {n : Nat} (h : n < 2 ^ 30) : (nI n - 1).toInt = (n : Int) - 1 := by
  have : (1 : Int32) = nI 1 := by decide +kernel
  rw [this, pk_sub_toInt h (by decide)]; rfl
theorem zex_vp {n : Nat} {x : Int32} (hn : n ≤ 8) (h : zex n x = true) : vp_in x n := by
  have := zwi_t h
  rw [nI_m1 (by omega), Int32.toInt_zero] at this
  rw [vp_in_iff]; omega
theorem zex_lt {n : Nat} {x : Int32} (hn : n ≤ 8) (h : zex n x = true) : x.toNatClampNeg < n := by
  obtain ⟨j, hj, e⟩ := vp_in_of (zex_vp hn h) (by omega)
  rw [e, nI_clamp (by omega)]; exact hj
theorem zex_eq {n : Nat} {x : Int32} (hn : n ≤ 8) (h : zex n x = true) : x = nI x.toNatClampNeg := by
  obtain ⟨j, hj, e⟩ := vp_in_of (zex_vp hn h) (by omega)
  rw [e, nI_clamp (by omega)]
theorem zex_t {n i : Nat} {x : Int32} (hn : n ≤ 8) (hi : i < n) (e : x = nI i) : zex n x = true := by
  subst e
  refine zwi_of ?_
  rw [nI_m1 (by omega), Int32.toInt_zero, nI_toInt (by omega)]; omega
theorem zex_f {n : Nat} {x : Int32} (hn : n ≤ 8) (h : ∀ i, i < n → x ≠ nI i) : zex n x = false := by
  cases hz : zex n x
  · rfl
  · exact absurd (zex_eq hn hz) (h _ (zex_lt hn hz))
theorem vp_in_le {x : Int32} {a b : Nat} (h : vp_in x a) (hab : a ≤ b) : vp_in x b := by
  rw [vp_in_iff] at h ⊢; omega
theorem zwi_in {x : Int32} (N : Nat) {hi : Int32} (e : hi.toInt + 1 = N) (h : zwi x 0 hi = true) : vp_in x N := by
  have := zwi_t h
  rw [Int32.toInt_zero] at this
  rw [vp_in_iff]; omega
theorem zat_in {N : Nat} {f : Nat → Int32} {x : Int32} (hN : N < 2 ^ 31) (h : vp_in x N) : zat N f x = f x.toNatClampNeg := by
  obtain ⟨j, hj, e⟩ := vp_in_of h hN
  subst e; rw [zat_nI hj hN, nI_clamp (by omega)]
theorem zput_in {N : Nat} {f : Nat → Int32} {x v : Int32} (hN : N < 2 ^ 31) (h : vp_in x N) : zput N f x v = upd f x.toNatClampNeg v := by
  obtain ⟨j, hj, e⟩ := vp_in_of h hN
  subst e; rw [zput_nI hj hN, nI_clamp (by omega)]
theorem zbit1 {a : Int32} (h : ¬ a &&& 1 = 0) : a &&& 1 = 1 := by
  obtain ⟨j, hj, e⟩ := pk_andE a (m := 1) 1 (by decide)
  rw [e] at h ⊢
  have : j = 0 ∨ j = 1 := by omega
  rcases this with rfl | rfl
  · exact absurd nI_0 h
  · decide
theorem zhas_1 {a b : Int32} (h : (a >>> (b &&& 31)) &&& 1 = 1) : zhas a b = true := by
  unfold zhas; rw [h]; rfl
theorem zhas_n1 {a b : Int32} (h : ¬ (a >>> (b &&& 31)) &&& 1 = 1) : zhas a b = false := by
  unfold zhas
  by_cases h0 : (a >>> (b &&& 31)) &&& 1 = 0
  · rw [h0]; rfl
  · exact absurd (zbit1 h0) h
theorem zhas_0 {a b : Int32} (h : (a >>> (b &&& 31)) &&& 1 = 0) : zhas a b = false := by
  unfold zhas; rw [h]; rfl
theorem zhas_n0 {a b : Int32} (h : ¬ (a >>> (b &&& 31)) &&& 1 = 0) : zhas a b = true := by
  unfold zhas; simp [h]
theorem zmin_sym (a b : Int32) : (if a < b then a else b) = (if b < a then b else a) := by
  by_cases h1 : a < b
  · rw [if_pos h1, if_neg (fun h2 => by rw [Int32.lt_iff_toInt_lt] at h1 h2; omega)]
  · by_cases h2 : b < a
    · rw [if_neg h1, if_pos h2]
    · rw [if_neg h1, if_neg h2]
      apply Int32.toInt_inj.mp
      rw [Int32.lt_iff_toInt_lt] at h1 h2; omega
theorem zmA {s b : Int32} (h : ¬ s ≤ b) : (if s < b then s else b) = b := by
  rw [if_neg (fun h2 => by rw [Int32.lt_iff_toInt_lt] at h2; rw [Int32.le_iff_toInt_le] at h; omega)]
theorem zmB {s b : Int32} (h : s ≤ b) : (if s < b then s else b) = s := by
  by_cases h2 : s < b
  · rw [if_pos h2]
  · rw [if_neg h2]
    apply Int32.toInt_inj.mp
    rw [Int32.lt_iff_toInt_lt] at h2; rw [Int32.le_iff_toInt_le] at h; omega
theorem zOk.n8 {g : Nat → Nat → Int32} {n k : Nat} (h : zOk g n k) : n ≤ 8 := h.1
theorem zOk.k8 {g : Nat → Nat → Int32} {n k : Nat} (h : zOk g n k) : k ≤ 8 := Nat.le_trans h.2.1 (by decide)
def T_setWeights (x w0 p0 : Int32) : Int32 := if zwi x 0 3 = false then 1 else if (zwi w0 0 400 && zwi p0 0 400) = false then 2 else 0
def T_setFloor (x : Int32) : Int32 := if zwi x 0 100 = false then 1 else 0
def T_setCapital (x : Int32) : Int32 := if zwi x 0 1000000000 = false then 1 else 0
def T_addExposure (n : Nat) (a0 a1 a2 a3 a4 a5 : Int32) : Int32 := if (zwi a0 0 3 && zwi a1 0 3) = false then 1 else if (zwi a2 0 10000000 && zwi a3 0 10000000 && zwi a4 0 2 && zwi a5 1 3650) = false then 2 else if n = 8 then 3 else 0
def T_addPiece (k : Nat) (a0 a1 a2 a3 a4 : Int32) : Int32 := if (zwi a0 1 10000000 && zwi a1 0 100 && zwi a2 0 2 && zwi a3 1 3650 && zwi a4 0 255) = false then 1 else if k = 5 then 2 else 0
def T_draw (g : Nat → Nat → Int32) (n : Nat) (x d0 : Int32) : Int32 := if zex n x = false then 1 else if zwi d0 (-10000000) 10000000 = false then 2 else if (zwi (g 5 x.toNatClampNeg + d0) 0 10000000 && zwi (g 6 x.toNatClampNeg - d0) 0 10000000) = false then 3 else 0
def T_setClass (n : Nat) (x k0 : Int32) : Int32 := if (zex n x && zwi k0 0 3) = false then 1 else 0
def T_guarantee (n : Nat) (x k0 s0 : Int32) : Int32 := if (zex n x && zwi k0 0 3) = false then 1 else if zwi s0 0 10000000 = false then 2 else 0
def T_amount (n : Nat) (x : Int32) : Int32 := if zex n x = false then 1 else 0
def T_setPiece (k : Nat) (x m0 u0 : Int32) : Int32 := if zex k x = false then 1 else if (zwi m0 1 10000000 && zwi u0 0 255) = false then 2 else 0
def T_value (n k : Nat) (y x : Int32) : Int32 := if (zex k y && zex n x) = false then 1 else 0
theorem nI_8 {n : Nat} (h : n ≤ 8) (e : nI n = 8) : n = 8 := by
  have : (8 : Int32) = nI 8 := by decide +kernel
  rw [this] at e
  exact (nI_eq (by omega) (by decide)).mp e
theorem nI_n8 {n : Nat} (e : ¬ nI n = 8) : n ≠ 8 := by
  intro h; subst h; exact e (by decide +kernel)
theorem nI_5 {n : Nat} (h : n ≤ 5) (e : nI n = 5) : n = 5 := by
  have : (5 : Int32) = nI 5 := by decide +kernel
  rw [this] at e
  exact (nI_eq (by omega) (by decide)).mp e
theorem nI_n5 {n : Nat} (e : ¬ nI n = 5) : n ≠ 5 := by
  intro h; subst h; exact e (by decide +kernel)

def zro (f : Nat → Int32) (b i : Nat) (g : Nat → Int32) : Nat → Int32 := fun j => if b ≤ j ∧ j < b + i then f (j - b) else g j
theorem zro_0 (f : Nat → Int32) (b : Nat) (g : Nat → Int32) : zro f b 0 g = g := by
  funext j; unfold zro; rw [if_neg (by omega)]
theorem zro_u (f : Nat → Int32) (b i : Nat) (g : Nat → Int32) : upd (zro f b i g) (b + i) (f i) = zro f b (i + 1) g := by
  funext j; unfold upd zro
  by_cases h : j = b + i
  · subst h; rw [if_pos rfl, if_pos (by omega), show b + i - b = i by omega]
  · rw [if_neg h]
    by_cases h2 : b ≤ j ∧ j < b + i
    · rw [if_pos h2, if_pos (by omega)]
    · rw [if_neg h2, if_neg (by omega)]
theorem zro_out {f : Nat → Int32} {b i : Nat} {g : Nat → Int32} {j : Nat} (h : j < b ∨ b + i ≤ j) : zro f b i g j = g j := by
  unfold zro; rw [if_neg (by omega)]
theorem zro_in {f : Nat → Int32} {b i : Nat} {g : Nat → Int32} {j : Nat} (h : j < i) : zro f b i g (b + j) = f j := by
  unfold zro; rw [if_pos (by omega), show b + j - b = j by omega]
def fitB (my : Nat → Int32) (set e : Int32) : Nat → Bool
  | 0 => true
  | j + 1 => fitB my set e j && (!zhas set (nI j) || zhas (my j) e)
theorem zb_and1 (b : Bool) : zb b &&& 1 = zb b := by cases b <;> decide
theorem zb_and0 (b : Bool) : zb b &&& 0 = zb false := by cases b <;> decide
def MY (g : Nat → Nat → Int32) (n : Nat) : Nat → Int32 := fun j => ((g 15 j) &&& (((1 : Int32) <<< (nI n &&& 31)) - 1)) ||| 256
theorem n32 : (32 : Int32) = nI 32 := by decide +kernel
theorem z32 (n : Nat) : (32 : Int32) * nI n = nI (32 * n) := by rw [n32, pk_mul]
theorem z_div32 {i : Nat} (h : i < 2 ^ 31) : nI i / 32 = nI (i / 32) := by rw [n32, pk_div h (by decide) (by decide)]
theorem z_rem32 {i : Nat} (h : i < 2 ^ 31) : nI i - nI i / 32 * 32 = nI (i % 32) := by rw [n32, pk_rem h (by decide) (by decide)]
theorem z_shl1 {k : Nat} (h : k ≤ 8) : (1 : Int32) <<< (nI k &&& 31) = nI (2 ^ k) := by
  have : ∀ k, k < 9 → (1 : Int32) <<< (nI k &&& 31) = nI (2 ^ k) := by decide +kernel
  exact this k (by omega)
theorem z2k {k : Nat} (h : k ≤ 5) : 2 ^ k ≤ 32 := by
  have : ∀ k, k < 6 → 2 ^ k ≤ 32 := by decide
  exact this k (by omega)
theorem z2p (k : Nat) : 0 < 2 ^ k := Nat.two_pow_pos k
theorem z_ix (e S : Nat) : (32 : Int32) * nI e + nI S = nI (32 * e + S) := by rw [z32, nI_add]
theorem z_ix2 {e S q : Nat} (h : q ≤ S) : ((32 : Int32) * nI e + 32 + nI S) - nI q = nI (32 * e + 32 + (S - q)) := by
  rw [z32, show (32 : Int32) = nI 32 from n32, nI_add, nI_add, pk_sub (by omega)]
  congr 1; omega
theorem z_m1 {a : Nat} (h : 0 < a) : nI a - 1 = nI (a - 1) := by
  obtain ⟨b, rfl⟩ : ∃ b, a = b + 1 := ⟨a - 1, by omega⟩
  rw [nI_pred]; rfl
def zed (n d : Nat) : Int32 := (nI n - 1) - nI d
theorem zed_0 (n : Nat) : zed n 0 = nI n - 1 := by unfold zed; rw [nI_0]; grind
theorem zed_nI {n d : Nat} (h : d < n) : zed n d = nI (n - 1 - d) := by
  unfold zed; rw [z_m1 (by omega), pk_sub (by omega)]
theorem zed_dec (n d : Nat) : zed n d + Int32.ofInt (-1) = zed n (d + 1) := by
  unfold zed; rw [← nI_1]
  have : Int32.ofInt (-1) = -1 := by decide +kernel
  rw [this]; grind
theorem zed_neg {n : Nat} (h : n < 2 ^ 30) : zed n n < 0 := by
  have : zed n n = -1 := by unfold zed; grind
  rw [this]; decide
theorem zed_pos {n d : Nat} (h : d < n) (hn : n < 2 ^ 30) : ¬ zed n d < 0 := by rw [zed_nI h]; exact nI_pos (by omega)
def rwN (my : Nat → Int32) (k : Nat) : Nat → Int32 := fun S => if fitB my (nI S) 8 k = true then 0 else 1000000000
def lwL (tb my : Nat → Int32) (k : Nat) (f : Nat → Int32) (e S : Nat) : Nat → Int32
  | 0 => 1000000000
  | q + 1 => if nI q &&& nI S = nI q then (if fitB my (nI q) (nI e) k = true then (if lwL tb my k f e S q ≤ f (S - q) + tb (32 * e + q) then lwL tb my k f e S q else f (S - q) + tb (32 * e + q)) else lwL tb my k f e S q) else lwL tb my k f e S q
def LTA (tb my : Nat → Int32) (n k : Nat) (lt : Nat → Int32) : Nat → Nat → Int32
  | 0 => zro (rwN my k) (32 * n) (2 ^ k) lt
  | d + 1 => zro (fun S => lwL tb my k (fun z => LTA tb my n k lt d (32 * (n - 1 - d) + 32 + z)) (n - 1 - d) S (S + 1)) (32 * (n - 1 - d)) (2 ^ k) (LTA tb my n k lt d)
def LW (tb my : Nat → Int32) (n k : Nat) : Nat → Nat → Int32
  | 0 => rwN my k
  | d + 1 => fun S => lwL tb my k (LW tb my n k d) (n - 1 - d) S (S + 1)
theorem lwL_congr {tb my : Nat → Int32} {k : Nat} {f f' : Nat → Int32} {e S : Nat} (h : ∀ z, z ≤ S → f z = f' z) : ∀ q, lwL tb my k f e S q = lwL tb my k f' e S q
  | 0 => rfl
  | q + 1 => by unfold lwL; rw [lwL_congr h q, h (S - q) (by omega)]
theorem LTA_LW (tb my : Nat → Int32) (n k : Nat) (lt : Nat → Int32) (hk : k ≤ 5) : ∀ d S, d ≤ n → S < 2 ^ k → LTA tb my n k lt d (32 * (n - d) + S) = LW tb my n k d S
  | 0, S, _, hS => by unfold LTA LW; exact zro_in hS
  | d + 1, S, hd, hS => by
    unfold LTA LW
    rw [show 32 * (n - (d + 1)) = 32 * (n - 1 - d) by omega, zro_in hS]
    exact lwL_congr (fun z hz => by
      have := LTA_LW tb my n k lt hk d z (by omega) (by omega)
      rw [← this]; congr 1; omega) _
def BSI (tb : Nat → Int32) (n k : Nat) (low all : Int32) (p : Nat) (s0 : (Nat → Int32) × (Nat → Int32)) : Nat → (Nat → Int32) × (Nat → Int32) × Bool
  | 0 => (s0.1, s0.2, false)
  | i + 1 => if (BSI tb n k low all p s0 i).2.2 = true then BSI tb n k low all p s0 i else if zhas all (nI i) = true then (upd (BSI tb n k low all p s0 i).1 p ((1 : Int32) <<< (nI i &&& 31)), LTA tb (upd (BSI tb n k low all p s0 i).1 p ((1 : Int32) <<< (nI i &&& 31))) n k (BSI tb n k low all p s0 i).2.1 n, decide (LW tb (upd (BSI tb n k low all p s0 i).1 p ((1 : Int32) <<< (nI i &&& 31))) n k n (2 ^ k - 1) = low)) else BSI tb n k low all p s0 i
def BSO (tb : Nat → Int32) (n k : Nat) (low : Int32) (s0 : (Nat → Int32) × (Nat → Int32)) : Nat → (Nat → Int32) × (Nat → Int32)
  | 0 => s0
  | j + 1 => ((BSI tb n k low ((BSO tb n k low s0 j).1 j) j (BSO tb n k low s0 j) 9).1, (BSI tb n k low ((BSO tb n k low s0 j).1 j) j (BSO tb n k low s0 j) 9).2.1)
theorem BSI_stop {tb : Nat → Int32} {n k : Nat} {low all : Int32} {p : Nat} {s0 : (Nat → Int32) × (Nat → Int32)} {i : Nat} (h : (BSI tb n k low all p s0 i).2.2 = true) : ∀ d, BSI tb n k low all p s0 (i + d) = BSI tb n k low all p s0 i
  | 0 => rfl
  | d + 1 => by
    rw [← Nat.add_assoc]
    conv => lhs; unfold BSI
    rw [BSI_stop h d, if_pos h]
theorem BSI_9 {tb : Nat → Int32} {n k : Nat} {low all : Int32} {p : Nat} {s0 : (Nat → Int32) × (Nat → Int32)} {i : Nat} (hi : i < 9) (h : (BSI tb n k low all p s0 i).2.2 = true) : BSI tb n k low all p s0 9 = BSI tb n k low all p s0 i := by
  have := BSI_stop h (9 - i)
  rw [show i + (9 - i) = 9 by omega] at this
  exact this
def stL (my : Nat → Int32) (e : Int32) : Nat → Int32
  | 0 => 0
  | j + 1 => stL my e j ||| (if my j = (1 : Int32) <<< (e &&& 31) then (1 : Int32) <<< (nI j &&& 31) else 0)
def bdL (g : Nat → Nat → Int32) (k : Nat) (my : Nat → Int32) (party : Int32) : Nat → Int32
  | 0 => 0
  | i + 1 => bdL g k my party i + (if g 4 i = party then bw g k i (stL my (nI i) k) else 0)
def gvF (my : Nat → Int32) (p n : Nat) : Nat → Int32
  | 0 => -1
  | d + 1 => if my p = (1 : Int32) <<< (nI (n - 1 - d) &&& 31) then nI (n - 1 - d) else gvF my p n d
theorem gvF_hit {my : Nat → Int32} {p n i : Nat} (hi : i < n) (h : gvF my p n (n - i) = gvF my p n n) (c : my p = (1 : Int32) <<< (nI i &&& 31)) : nI i = gvF my p n n := by
  rw [← h, show n - i = (n - 1 - i) + 1 by omega]
  unfold gvF
  rw [show n - 1 - (n - 1 - i) = i by omega, if_pos c]
theorem gvF_step {my : Nat → Int32} {p n i : Nat} (hi : i < n) (h : gvF my p n (n - i) = gvF my p n n) (c : ¬ my p = (1 : Int32) <<< (nI i &&& 31)) : gvF my p n (n - (i + 1)) = gvF my p n n := by
  rw [← h]
  conv => rhs; rw [show n - i = (n - 1 - i) + 1 by omega]; unfold gvF
  rw [show n - 1 - (n - 1 - i) = i by omega, if_neg c, show n - (i + 1) = n - 1 - i by omega]
theorem gvF_end {my : Nat → Int32} {p n : Nat} (h : gvF my p n (n - n) = gvF my p n n) : -1 = gvF my p n n := by
  rw [← h, Nat.sub_self]; rfl
def T_party (x : Int32) : Int32 := if zwi x 0 3 = false then 1 else 0
def tgL (g : Nat → Nat → Int32) (n k : Nat) (my : Nat → Int32) : Nat → Int32
  | 0 => 0
  | p + 1 => tgL g n k my p ||| (if lg_cmp (4 * (bdL g k my (nI p) n).toInt64) (g 2 1).toInt64 ≤ 0 then 0 else (1 : Int32) <<< (nI p &&& 31))
