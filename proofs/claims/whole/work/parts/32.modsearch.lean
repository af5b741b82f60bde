/-! the reference's search -/
def zQiX (D : va_G) (ws0 : va_W) (sz : Nat) (post : Int32 → Prop) (ws1 : (Nat → Int32) × (Nat → Int32) × (Nat → Int32) → va_W) : Array Value → State → Outcome → State → Prop := va_Qi (fun (r : Int32) (_ : (Nat → Int32) × (Nat → Int32) × (Nat → Int32)) => post r) (fun u t => zB D ws0 sz (ws1 u) t) (va_A ws0 sz)
theorem ziretX {p : Program} {l : Launch} {e : Env} {R : Room} {s : State} {m : MethodId} {args : Array Value} {below : List Frame} {meth : Method} {c : Code} {H : Heap} {locs : List Loc} {cells slots : Nat} {cc : ByteArray} {pc : Nat} {ls : Array Slot} {D : va_G} {A : Nat → Prop} {W0 : va_W} {ws1 : (Nat → Int32) × (Nat → Int32) × (Nat → Int32) → va_W} {v : Int32} {post : Int32 → Prop} (u : (Nat → Int32) × (Nat → Int32) × (Nat → Int32)) (hx : p.tables.exec = Jvm.exec) (hb : c.code = cc) (hr : meth.sig.returnType = some .int) (hAe : A = va_A W0 s.heap.size) (hv : post v) (hP : va_P D vwCl (ws1 u) H) (hD : va_D A (ws1 u)) (hS : va_S A s.heap H locs) (hdg : decode cc pc = .ok (.ireturn, 1)) (hlocks : meth.locks = false := by assumption) :
    W p l e R s m args below meth c H locs cells slots (MQ below (zQiX D W0 s.heap.size post ws1) args s cells slots (va_A W0 s.heap.size)) (F0 m pc ls [.int v]) := by
  subst hAe
  exact W.iret hx hb hr (fun t ht hW => ⟨⟨v, u, rfl, hv, by rw [ht]; exact hP, hD⟩, hS.F ht⟩) hS.2.2 hdg
def zro (f : Nat → Int32) (b i : Nat) (g : Nat → Int32) : Nat → Int32 := fun j => if b ≤ j ∧ j < b + i then f (j - b) else g j
theorem zro_0 (f : Nat → Int32) (b : Nat) (g : Nat → Int32) : zro f b 0 g = g := by
  funext j; unfold zro; rw [if_neg (by omega)]
theorem zro_u (f : Nat → Int32) (b i : Nat) (g : Nat → Int32) : upd (zro f b i g) (b + i) (f i) = zro f b (i + 1) g := by
  funext j; unfold upd zro
  by_cases h : j = b + i
  · subst h; rw [if_pos rfl, if_pos (by omega), show b + i - b = i by omega]
  · rw [if_neg h]
    by_cases h2 : b ≤ j ∧ j < b + i
    · rw [if_pos h2, if_pos (by omega)]
    · rw [if_neg h2, if_neg (by omega)]
theorem zro_out {f : Nat → Int32} {b i : Nat} {g : Nat → Int32} {j : Nat} (h : j < b ∨ b + i ≤ j) : zro f b i g j = g j := by
  unfold zro; rw [if_neg (by omega)]
theorem zro_in {f : Nat → Int32} {b i : Nat} {g : Nat → Int32} {j : Nat} (h : j < i) : zro f b i g (b + j) = f j := by
  unfold zro; rw [if_pos (by omega), show b + j - b = j by omega]
def fitB (my : Nat → Int32) (set e : Int32) : Nat → Bool
  | 0 => true
  | j + 1 => fitB my set e j && (!zhas set (nI j) || zhas (my j) e)
theorem zb_and1 (b : Bool) : zb b &&& 1 = zb b := by cases b <;> decide
theorem zb_and0 (b : Bool) : zb b &&& 0 = zb false := by cases b <;> decide
def MY (g : Nat → Nat → Int32) (n : Nat) : Nat → Int32 := fun j => ((g 15 j) &&& (((1 : Int32) <<< (nI n &&& 31)) - 1)) ||| 256
theorem n32 : (32 : Int32) = nI 32 := by decide +kernel
theorem z32 (n : Nat) : (32 : Int32) * nI n = nI (32 * n) := by rw [n32, pk_mul]
theorem z_div32 {i : Nat} (h : i < 2 ^ 31) : nI i / 32 = nI (i / 32) := by rw [n32, pk_div h (by decide) (by decide)]
theorem z_rem32 {i : Nat} (h : i < 2 ^ 31) : nI i - nI i / 32 * 32 = nI (i % 32) := by rw [n32, pk_rem h (by decide) (by decide)]
theorem z_shl1 {k : Nat} (h : k ≤ 8) : (1 : Int32) <<< (nI k &&& 31) = nI (2 ^ k) := by
  have : ∀ k, k < 9 → (1 : Int32) <<< (nI k &&& 31) = nI (2 ^ k) := by decide +kernel
  exact this k (by omega)
theorem z2k {k : Nat} (h : k ≤ 5) : 2 ^ k ≤ 32 := by
  have : ∀ k, k < 6 → 2 ^ k ≤ 32 := by decide
  exact this k (by omega)
theorem z2p (k : Nat) : 0 < 2 ^ k := Nat.two_pow_pos k
theorem z_ix (e S : Nat) : (32 : Int32) * nI e + nI S = nI (32 * e + S) := by rw [z32, nI_add]
theorem z_ix2 {e S q : Nat} (h : q ≤ S) : ((32 : Int32) * nI e + 32 + nI S) - nI q = nI (32 * e + 32 + (S - q)) := by
  rw [z32, show (32 : Int32) = nI 32 from n32, nI_add, nI_add, pk_sub (by omega)]
  congr 1; omega
theorem z_m1 {a : Nat} (h : 0 < a) : nI a - 1 = nI (a - 1) := by
  obtain ⟨b, rfl⟩ : ∃ b, a = b + 1 := ⟨a - 1, by omega⟩
  rw [nI_pred]; rfl
def zed (n d : Nat) : Int32 := (nI n - 1) - nI d
theorem zed_0 (n : Nat) : zed n 0 = nI n - 1 := by unfold zed; rw [nI_0]; grind
theorem zed_nI {n d : Nat} (h : d < n) : zed n d = nI (n - 1 - d) := by
  unfold zed; rw [z_m1 (by omega), pk_sub (by omega)]
theorem zed_dec (n d : Nat) : zed n d + Int32.ofInt (-1) = zed n (d + 1) := by
  unfold zed; rw [← nI_1]
  have : Int32.ofInt (-1) = -1 := by decide +kernel
  rw [this]; grind
theorem zed_neg {n : Nat} (h : n < 2 ^ 30) : zed n n < 0 := by
  have : zed n n = -1 := by unfold zed; grind
  rw [this]; decide
theorem zed_pos {n d : Nat} (h : d < n) (hn : n < 2 ^ 30) : ¬ zed n d < 0 := by rw [zed_nI h]; exact nI_pos (by omega)
def rwN (my : Nat → Int32) (k : Nat) : Nat → Int32 := fun S => if fitB my (nI S) 8 k = true then 0 else 1000000000
def lwL (tb my : Nat → Int32) (k : Nat) (f : Nat → Int32) (e S : Nat) : Nat → Int32
  | 0 => 1000000000
  | q + 1 => if nI q &&& nI S = nI q then (if fitB my (nI q) (nI e) k = true then (if lwL tb my k f e S q ≤ f (S - q) + tb (32 * e + q) then lwL tb my k f e S q else f (S - q) + tb (32 * e + q)) else lwL tb my k f e S q) else lwL tb my k f e S q
def LTA (tb my : Nat → Int32) (n k : Nat) (lt : Nat → Int32) : Nat → Nat → Int32
  | 0 => zro (rwN my k) (32 * n) (2 ^ k) lt
  | d + 1 => zro (fun S => lwL tb my k (fun z => LTA tb my n k lt d (32 * (n - 1 - d) + 32 + z)) (n - 1 - d) S (S + 1)) (32 * (n - 1 - d)) (2 ^ k) (LTA tb my n k lt d)
def LW (tb my : Nat → Int32) (n k : Nat) : Nat → Nat → Int32
  | 0 => rwN my k
  | d + 1 => fun S => lwL tb my k (LW tb my n k d) (n - 1 - d) S (S + 1)
theorem lwL_congr {tb my : Nat → Int32} {k : Nat} {f f' : Nat → Int32} {e S : Nat} (h : ∀ z, z ≤ S → f z = f' z) : ∀ q, lwL tb my k f e S q = lwL tb my k f' e S q
  | 0 => rfl
  | q + 1 => by unfold lwL; rw [lwL_congr h q, h (S - q) (by omega)]
theorem LTA_LW (tb my : Nat → Int32) (n k : Nat) (lt : Nat → Int32) (hk : k ≤ 5) : ∀ d S, d ≤ n → S < 2 ^ k → LTA tb my n k lt d (32 * (n - d) + S) = LW tb my n k d S
  | 0, S, _, hS => by unfold LTA LW; exact zro_in hS
  | d + 1, S, hd, hS => by
    unfold LTA LW
    rw [show 32 * (n - (d + 1)) = 32 * (n - 1 - d) by omega, zro_in hS]
    exact lwL_congr (fun z hz => by
      have := LTA_LW tb my n k lt hk d z (by omega) (by omega)
      rw [← this]; congr 1; omega) _
def BSI (tb : Nat → Int32) (n k : Nat) (low all : Int32) (p : Nat) (s0 : (Nat → Int32) × (Nat → Int32)) : Nat → (Nat → Int32) × (Nat → Int32) × Bool
  | 0 => (s0.1, s0.2, false)
  | i + 1 => if (BSI tb n k low all p s0 i).2.2 = true then BSI tb n k low all p s0 i else if zhas all (nI i) = true then (upd (BSI tb n k low all p s0 i).1 p ((1 : Int32) <<< (nI i &&& 31)), LTA tb (upd (BSI tb n k low all p s0 i).1 p ((1 : Int32) <<< (nI i &&& 31))) n k (BSI tb n k low all p s0 i).2.1 n, decide (LW tb (upd (BSI tb n k low all p s0 i).1 p ((1 : Int32) <<< (nI i &&& 31))) n k n (2 ^ k - 1) = low)) else BSI tb n k low all p s0 i
def BSO (tb : Nat → Int32) (n k : Nat) (low : Int32) (s0 : (Nat → Int32) × (Nat → Int32)) : Nat → (Nat → Int32) × (Nat → Int32)
  | 0 => s0
  | j + 1 => ((BSI tb n k low ((BSO tb n k low s0 j).1 j) j (BSO tb n k low s0 j) 9).1, (BSI tb n k low ((BSO tb n k low s0 j).1 j) j (BSO tb n k low s0 j) 9).2.1)
theorem BSI_stop {tb : Nat → Int32} {n k : Nat} {low all : Int32} {p : Nat} {s0 : (Nat → Int32) × (Nat → Int32)} {i : Nat} (h : (BSI tb n k low all p s0 i).2.2 = true) : ∀ d, BSI tb n k low all p s0 (i + d) = BSI tb n k low all p s0 i
  | 0 => rfl
  | d + 1 => by
    rw [← Nat.add_assoc]
    conv => lhs; unfold BSI
    rw [BSI_stop h d, if_pos h]
theorem BSI_9 {tb : Nat → Int32} {n k : Nat} {low all : Int32} {p : Nat} {s0 : (Nat → Int32) × (Nat → Int32)} {i : Nat} (hi : i < 9) (h : (BSI tb n k low all p s0 i).2.2 = true) : BSI tb n k low all p s0 9 = BSI tb n k low all p s0 i := by
  have := BSI_stop h (9 - i)
  rw [show i + (9 - i) = 9 by omega] at this
  exact this
def stL (my : Nat → Int32) (e : Int32) : Nat → Int32
  | 0 => 0
  | j + 1 => stL my e j ||| (if my j = (1 : Int32) <<< (e &&& 31) then (1 : Int32) <<< (nI j &&& 31) else 0)
def bdL (g : Nat → Nat → Int32) (k : Nat) (my : Nat → Int32) (party : Int32) : Nat → Int32
  | 0 => 0
  | i + 1 => bdL g k my party i + (if g 4 i = party then bw g k i (stL my (nI i) k) else 0)
def gvF (my : Nat → Int32) (p n : Nat) : Nat → Int32
  | 0 => -1
  | d + 1 => if my p = (1 : Int32) <<< (nI (n - 1 - d) &&& 31) then nI (n - 1 - d) else gvF my p n d
theorem gvF_hit {my : Nat → Int32} {p n i : Nat} (hi : i < n) (h : gvF my p n (n - i) = gvF my p n n) (c : my p = (1 : Int32) <<< (nI i &&& 31)) : nI i = gvF my p n n := by
  rw [← h, show n - i = (n - 1 - i) + 1 by omega]
  unfold gvF
  rw [show n - 1 - (n - 1 - i) = i by omega, if_pos c]
theorem gvF_step {my : Nat → Int32} {p n i : Nat} (hi : i < n) (h : gvF my p n (n - i) = gvF my p n n) (c : ¬ my p = (1 : Int32) <<< (nI i &&& 31)) : gvF my p n (n - (i + 1)) = gvF my p n n := by
  rw [← h]
  conv => rhs; rw [show n - i = (n - 1 - i) + 1 by omega]; unfold gvF
  rw [show n - 1 - (n - 1 - i) = i by omega, if_neg c, show n - (i + 1) = n - 1 - i by omega]
theorem gvF_end {my : Nat → Int32} {p n : Nat} (h : gvF my p n (n - n) = gvF my p n n) : -1 = gvF my p n n := by
  rw [← h, Nat.sub_self]; rfl
def T_party (x : Int32) : Int32 := if zwi x 0 3 = false then 1 else 0
def tgL (g : Nat → Nat → Int32) (n k : Nat) (my : Nat → Int32) : Nat → Int32
  | 0 => 0
  | p + 1 => tgL g n k my p ||| (if lg_cmp (4 * (bdL g k my (nI p) n).toInt64) (g 2 1).toInt64 ≤ 0 then 0 else (1 : Int32) <<< (nI p &&& 31))
section ZI
variable {p : Program} {l : Launch} {e : Env} {R : Room} {s : State} {m : MethodId} {args : Array Value} {below : List Frame} {meth : Method} {c : Code} {H : Heap} {locs : List Loc} {cells slots : Nat} {Q : State → Prop}
theorem zloopI {nL head : Nat} {lv : Nat → List (Nat × Value)} {n : Nat} {ls0 : Array Slot} (Inv : Nat → Prop) (h0 : Inv 0) (hl : lv_has ls0 nL (lv 0)) (hx : ∀ ls, Inv n → lv_has ls nL (lv n) → W p l e R s m args below meth c H locs cells slots Q (F0 m head ls []))
    (hs : ∀ i, i < n → Inv i → (∀ ls, Inv (i + 1) → lv_has ls nL (lv (i + 1)) → W p l e R s m args below meth c H locs cells slots Q (F0 m head ls [])) → ∀ ls, lv_has ls nL (lv i) → W p l e R s m args below meth c H locs cells slots Q (F0 m head ls [])) : W p l e R s m args below meth c H locs cells slots Q (F0 m head ls0 []) := by
  have key : ∀ d i, i + d = n → ∀ ls, Inv i → lv_has ls nL (lv i) → W p l e R s m args below meth c H locs cells slots Q (F0 m head ls []) := by
    intro d
    induction d with
    | zero => intro i hi ls h1 h; have : i = n := by omega
              subst this; exact hx ls h1 h
    | succ d ih => intro i hi ls h1 h; exact hs i (by omega) h1 (ih (i + 1) (by omega)) ls h
  exact key n 0 (by omega) ls0 h0 hl
end ZI

set_option maxHeartbeats 4000000 in
set_option maxRecDepth 100000 in
theorem zX4_lays (l : Launch) (D : va_G) (cI cL cE cP : ClassId) (am : Nat → Nat) (g : Nat → Nat → Int32) (n k : Nat) (tb my lt : Nat → Int32) (th : Int32) (hok : zOk g n k) (sz : Nat) : Met l yX4_lays wsX4_lays ({ frames := 4, cells := 0, slots := 0, locals := 94 }) (zPw D cI cL cE cP (mws cI am g n k tb my lt th) sz [.ref (am 0)]) (zQv D (mws cI am g n k tb my lt th) sz (mws cI am g n k (zfl (WB g k) tb (32 * n)) (zfl (MY g n) my k) lt th)) 0 0 (va_A (mws cI am g n k tb my lt th) sz) := by
  refine Met.ofW (cc := cX4_lays) (maxL := 2) (ret := none) (by decide) rfl ?_
  intro p e s m args below meth c s₁ B hml hv
  obtain ⟨rfl, hsz, hE, hP, hD0⟩ := hv
  subst hsz
  obtain ⟨A, hAe⟩ : ∃ A, A = va_A (mws cI am g n k tb my lt th) s.heap.size := ⟨_, rfl⟩
  have hD : va_D A (mws cI am g n k tb my lt th) := by rw [hAe]; exact hD0.self
  have hA : ∀ q : Nat, s.heap.size ≤ q → A q := fun q h => by rw [hAe]; exact Or.inr h
  have hS : va_S A s.heap s.heap [] := va_S.rf
  have hx := B.exec
  have hb := B.bytes
  have hr := B.returns
  have hts := atoms_spec (ws := wsX4_lays) B.pre
  have hown : s.vm.findClass RX4 = some m.cls := findClass_of_methodNamed B.named
  have hlocks := B.notSynchronized
  have hK := hE.1
  have iX4 : ∀ w ∈ wsX40, w ∈ wsX4_lays := by decide +kernel
  have hl := lv_entry ([.ref (am 0)]) (n := 2) (Nat.le_of_ble_eq_true rfl)
  rw [lg_entry_eq]
  generalize (lg_sl ([.ref (am 0)]) ++ List.replicate (2 - (lg_sl ([.ref (am 0)])).length) Slot.unset).toArray = ls at hl ⊢
  have hl : lv_has ls 2 [(0, .ref (am 0))] := hl
  refine lv_iconst (v := 0) hx hb dX4_lays_0 (by decide) ?_
  refine lv_istore_n (lv' := [(1, .int 0), (0, .ref (am 0))]) hx hb dX4_lays_1 rfl hl (by decide) rfl (fun ls hl => ?_)
  refine zloopM (nL := 2) (lv := fun i => [(0, .ref (am 0)), (1, .int (nI (i)))]) (wd := fun i => mws cI am g n k (zfl (WB g k) tb (i)) my lt th) (n := 32 * n) (lv_re (lv_sub hl [1, 0] rfl) (by first | rfl | (simp only [nI_0]; done) | (simp only [nI_0]; rfl) | (simp [nI_0]; done))) (zP_re hP (by rw [zfl_0])) (zD_re hD (by rw [zfl_0])) hS (fun H locs ls hP hD hS hl => ?_) (fun i hi ih_2 H locs ls hP hD hS hl => ?_)
  · have hl : lv_has ls 2 [(0, .ref (am 0)), (1, .int (nI (32 * n)))] := hl
    have hP : va_P D vwCl (mws cI am g n k (zfl (WB g k) tb (32 * n)) my lt th) H := hP
    have hD : va_D A (mws cI am g n k (zfl (WB g k) tb (32 * n)) my lt th) := hD
    refine lv_iload_n hx hb dX4_lays_2 rfl (lv_at hl 1 rfl) ?_
    refine lv_bipush (v := 32) hx hb dX4_lays_3 (by decide) ?_
    refine lv_aload_n hx hb dX4_lays_5 rfl (lv_at hl 0 rfl) ?_
    refine va_get (D := D) (ci := 4) (v := .int (nI n)) (C := RX4) (T := TX4) (N := 23) hx hb hts iX4 hown hK hP 0 mws_0 rfl 4 (by decide) (hts (.fieldLink RX4 75 "CapitalReckonerModel" "exposures" "I") (by decide +kernel)) (fun _ h9 => h9) rfl dX4_lays_6 ?_
    refine lv_imul hx hb dX4_lays_9 ?_
    refine lv_icmp_ge (tgt := 37) hx hb dX4_lays_10 (by decide) (fun c_1 => ?_) (fun c_1 => absurd (by rw [z32]; exact zle_refl _) c_1)
    refine lv_iconst (v := 0) hx hb dX4_lays_37 (by decide) ?_
    refine lv_istore_n (lv' := [(1, .int 0), (0, .ref (am 0))]) hx hb dX4_lays_38 rfl hl (by decide) rfl (fun ls hl => ?_)
    refine zloopM (nL := 2) (lv := fun j => [(0, .ref (am 0)), (1, .int (nI (j)))]) (wd := fun j => mws cI am g n k (zfl (WB g k) tb (32 * n)) (zfl (MY g n) my (j)) lt th) (n := k) (lv_re (lv_sub hl [1, 0] rfl) (by first | rfl | (simp only [nI_0]; done) | (simp only [nI_0]; rfl) | (simp [nI_0]; done))) (zP_re hP (by rw [zfl_0])) (zD_re hD (by rw [zfl_0])) hS (fun H locs ls hP hD hS hl => ?_) (fun j hj ih_39 H locs ls hP hD hS hl => ?_)
    · have hl : lv_has ls 2 [(0, .ref (am 0)), (1, .int (nI (k)))] := hl
      have hP : va_P D vwCl (mws cI am g n k (zfl (WB g k) tb (32 * n)) (zfl (MY g n) my (k)) lt th) H := hP
      have hD : va_D A (mws cI am g n k (zfl (WB g k) tb (32 * n)) (zfl (MY g n) my (k)) lt th) := hD
      refine lv_iload_n hx hb dX4_lays_39 rfl (lv_at hl 1 rfl) ?_
      refine lv_aload_n hx hb dX4_lays_40 rfl (lv_at hl 0 rfl) ?_
      refine va_get (D := D) (ci := 4) (v := .int (nI k)) (C := RX4) (T := TX4) (N := 23) hx hb hts iX4 hown hK hP 0 mws_0 rfl 13 (by decide) (hts (.fieldLink RX4 78 "CapitalReckonerModel" "pieces" "I") (by decide +kernel)) (fun _ h9 => h9) rfl dX4_lays_41 ?_
      refine lv_icmp_ge (tgt := 78) hx hb dX4_lays_44 (by decide) (fun c_2 => ?_) (fun c_2 => absurd (zle_refl (nI k)) c_2)
      exact zvret hx hb hr hAe (zP_re hP (by first | rfl | (simp only [c_1, c_2]; done) | (simp only [c_1, c_2]; rfl) | (simp [c_1, c_2]; done))) (zD_re hD (by first | rfl | (simp only [c_1, c_2]; done) | (simp only [c_1, c_2]; rfl) | (simp [c_1, c_2]; done))) hS dX4_lays_78
    · have hl : lv_has ls 2 [(0, .ref (am 0)), (1, .int (nI (j)))] := hl
      have hP : va_P D vwCl (mws cI am g n k (zfl (WB g k) tb (32 * n)) (zfl (MY g n) my (j)) lt th) H := hP
      have hD : va_D A (mws cI am g n k (zfl (WB g k) tb (32 * n)) (zfl (MY g n) my (j)) lt th) := hD
      refine lv_iload_n hx hb dX4_lays_39 rfl (lv_at hl 1 rfl) ?_
      refine lv_aload_n hx hb dX4_lays_40 rfl (lv_at hl 0 rfl) ?_
      refine va_get (D := D) (ci := 4) (v := .int (nI k)) (C := RX4) (T := TX4) (N := 23) hx hb hts iX4 hown hK hP 0 mws_0 rfl 13 (by decide) (hts (.fieldLink RX4 78 "CapitalReckonerModel" "pieces" "I") (by decide +kernel)) (fun _ h9 => h9) rfl dX4_lays_41 ?_
      refine lv_icmp_ge (tgt := 78) hx hb dX4_lays_44 (by decide) (fun c_3 => absurd c_3 (nI_ge hj (by have := hok.k; omega))) (fun c_3 => ?_)
      refine lv_aload_n hx hb dX4_lays_47 rfl (lv_at hl 0 rfl) ?_
      refine va_get (D := D) (ci := 4) (v := .ref (am 17)) (C := RX4) (T := TX4) (N := 23) hx hb hts iX4 hown hK hP 0 mws_0 rfl 20 (by decide) (hts (.fieldLink RX4 62 "CapitalReckonerModel" "may" "[I") (by decide +kernel)) (fun _ h9 => h9) rfl dX4_lays_48 ?_
      refine lv_iload_n hx hb dX4_lays_51 rfl (lv_at hl 1 rfl) ?_
      refine lv_aload_n hx hb dX4_lays_52 rfl (lv_at hl 0 rfl) ?_
      refine va_get (D := D) (ci := 4) (v := .ref (am 15)) (C := RX4) (T := TX4) (N := 23) hx hb hts iX4 hown hK hP 0 mws_0 rfl 18 (by decide) (hts (.fieldLink RX4 56 "CapitalReckonerModel" "uses" "[I") (by decide +kernel)) (fun _ h9 => h9) rfl dX4_lays_53 ?_
      refine lv_iload_n hx hb dX4_lays_56 rfl (lv_at hl 1 rfl) ?_
      refine ziald (v := (g 15) j) hx hb hK hP 15 0 mws_15 rfl (vp_in_nI (show j < 5 by have := hok.k; omega) (by decide)) (by rw [nI_clamp (by have := hok.k; omega)]) dX4_lays_57 ?_
      refine lv_iconst (v := 1) hx hb dX4_lays_58 (by decide) ?_
      refine lv_aload_n hx hb dX4_lays_59 rfl (lv_at hl 0 rfl) ?_
      refine va_get (D := D) (ci := 4) (v := .int (nI n)) (C := RX4) (T := TX4) (N := 23) hx hb hts iX4 hown hK hP 0 mws_0 rfl 4 (by decide) (hts (.fieldLink RX4 75 "CapitalReckonerModel" "exposures" "I") (by decide +kernel)) (fun _ h9 => h9) rfl dX4_lays_60 ?_
      refine lv_ishl hx hb dX4_lays_63 ?_
      refine lv_iconst (v := 1) hx hb dX4_lays_64 (by decide) ?_
      refine lv_isub hx hb dX4_lays_65 ?_
      refine lv_iand hx hb dX4_lays_66 ?_
      refine lv_sipush (v := 256) hx hb dX4_lays_67 (by decide) ?_
      refine lv_ior hx hb dX4_lays_70 ?_
      refine ziast (f2 := zfl (MY g n) my (j + 1)) hx hb hK hP hD hS 17 0 mws_17 rfl (vp_in_nI (show j < 5 by have := hok.k; omega) (by decide)) (by rw [nI_clamp (by have := hok.k; omega)]; exact zfl_u (MY g n) my j) dX4_lays_71 (fun H locs hP hD hS => ?_)
      have hP : va_P D vwCl (mws cI am g n k (zfl (WB g k) tb (32 * n)) (zfl (MY g n) my (j + 1)) lt th) H := zP_re hP (mws_s17).symm
      have hD : va_D A (mws cI am g n k (zfl (WB g k) tb (32 * n)) (zfl (MY g n) my (j + 1)) lt th) := zD_re hD (mws_s17).symm
      refine lv_iinc (v := nI ((j) + 1)) (lv' := [(1, .int (nI ((j) + 1))), (0, .ref (am 0))]) hx hb dX4_lays_72 hl (k := 1) rfl (zinc _) (by decide) rfl (fun ls hl => ?_)
      refine lv_goto (tgt := 39) hx hb dX4_lays_75 (by decide) ?_
      exact ih_39 H locs ls (zP_re hP (by rfl)) (zD_re hD (by rfl)) hS (lv_re (lv_sub hl [1, 0] rfl) (by first | rfl | (simp only [c_1, c_3]; done) | (simp only [c_1, c_3]; rfl) | (simp [c_1, c_3]; done)))
  · have hl : lv_has ls 2 [(0, .ref (am 0)), (1, .int (nI (i)))] := hl
    have hP : va_P D vwCl (mws cI am g n k (zfl (WB g k) tb (i)) my lt th) H := hP
    have hD : va_D A (mws cI am g n k (zfl (WB g k) tb (i)) my lt th) := hD
    refine lv_iload_n hx hb dX4_lays_2 rfl (lv_at hl 1 rfl) ?_
    refine lv_bipush (v := 32) hx hb dX4_lays_3 (by decide) ?_
    refine lv_aload_n hx hb dX4_lays_5 rfl (lv_at hl 0 rfl) ?_
    refine va_get (D := D) (ci := 4) (v := .int (nI n)) (C := RX4) (T := TX4) (N := 23) hx hb hts iX4 hown hK hP 0 mws_0 rfl 4 (by decide) (hts (.fieldLink RX4 75 "CapitalReckonerModel" "exposures" "I") (by decide +kernel)) (fun _ h9 => h9) rfl dX4_lays_6 ?_
    refine lv_imul hx hb dX4_lays_9 ?_
    refine lv_icmp_ge (tgt := 37) hx hb dX4_lays_10 (by decide) (fun c_4 => absurd c_4 (by rw [z32]; exact nI_ge hi (by have := hok.n; omega))) (fun c_4 => ?_)
    refine lv_aload_n hx hb dX4_lays_13 rfl (lv_at hl 0 rfl) ?_
    refine va_get (D := D) (ci := 4) (v := .ref (am 16)) (C := RX4) (T := TX4) (N := 23) hx hb hts iX4 hown hK hP 0 mws_0 rfl 19 (by decide) (hts (.fieldLink RX4 59 "CapitalReckonerModel" "table" "[I") (by decide +kernel)) (fun _ h9 => h9) rfl dX4_lays_14 ?_
    refine lv_iload_n hx hb dX4_lays_17 rfl (lv_at hl 1 rfl) ?_
    refine lv_aload_n hx hb dX4_lays_18 rfl (lv_at hl 0 rfl) ?_
    refine lv_iload_n hx hb dX4_lays_19 rfl (lv_at hl 1 rfl) ?_
    refine lv_bipush (v := 32) hx hb dX4_lays_20 (by decide) ?_
    refine lv_idiv hx hb dX4_lays_22 (by decide) ?_
    rw [show ((nI (i)) / 32) = nI (i / 32) from z_div32 (by have := hok.n; omega)]
    refine lv_iload_n hx hb dX4_lays_23 rfl (lv_at hl 1 rfl) ?_
    refine lv_bipush (v := 32) hx hb dX4_lays_24 (by decide) ?_
    refine lv_irem hx hb dX4_lays_26 (by decide) ?_
    rw [show ((nI (i)) - (nI (i)) / 32 * 32) = nI (i % 32) from z_rem32 (by have := hok.n; omega)]
    refine vp_callSi (va_Run.run (va_runV (As := [.int (nI (i / 32)), .int (nI (i % 32))]) (rest := [.int (nI (i)), .ref (am 16)]) ⟨hx, hb, hml, hown, hts⟩ (zX4_weighed l D cI cL cE cP am g n k (zfl (WB g k) tb (i)) my lt th hok (nI (i / 32)) (i / 32) (by omega) rfl (nI (i % 32))) (cwV 2 hts gX4_lays_X4_weighed rfl rfl rfl (by decide +kernel) ⟨Nat.le_of_ble_eq_true rfl, Nat.le_of_ble_eq_true rfl⟩) ⟨zPr_blind, va_recv hK hP (ci := 4) (q0 := 0) rfl mws_0, zPr_mk hE hP⟩ rfl rfl hl.1 rfl (lv_room (Nat.le_of_ble_eq_true rfl)) dX4_lays_27 ⟨Nat.le_of_ble_eq_true rfl, Nat.le_of_ble_eq_true rfl⟩)) (fun r_5 e_6 => ?_)
    obtain rfl := e_6
    refine ziast (f2 := zfl (WB g k) tb (i + 1)) hx hb hK hP hD hS 16 0 mws_16 rfl (vp_in_nI (show i < 256 by have := hok.n; omega) (by decide)) (by rw [nI_clamp (by have := hok.n; omega)]; exact zfl_u (WB g k) tb i) dX4_lays_30 (fun H locs hP hD hS => ?_)
    have hP : va_P D vwCl (mws cI am g n k (zfl (WB g k) tb (i + 1)) my lt th) H := zP_re hP (mws_s16).symm
    have hD : va_D A (mws cI am g n k (zfl (WB g k) tb (i + 1)) my lt th) := zD_re hD (mws_s16).symm
    refine lv_iinc (v := nI ((i) + 1)) (lv' := [(1, .int (nI ((i) + 1))), (0, .ref (am 0))]) hx hb dX4_lays_31 hl (k := 1) rfl (zinc _) (by decide) rfl (fun ls hl => ?_)
    refine lv_goto (tgt := 2) hx hb dX4_lays_34 (by decide) ?_
    exact ih_2 H locs ls (zP_re hP (by rfl)) (zD_re hD (by rfl)) hS (lv_re (lv_sub hl [1, 0] rfl) (by first | rfl | (simp only [c_4]; done) | (simp only [c_4]; rfl) | (simp [c_4]; done)))
set_option maxHeartbeats 4000000 in
set_option maxRecDepth 100000 in
theorem zX4_fits (l : Launch) (D : va_G) (cI cL cE cP : ClassId) (am : Nat → Nat) (g : Nat → Nat → Int32) (n k : Nat) (tb my lt : Nat → Int32) (th : Int32) (hok : zOk g n k) (set e0 : Int32) : Met l yX4_fits wsX4_fits ({ frames := 0, cells := 0, slots := 0, locals := 0 }) (zPr D cI cL cE cP (mws cI am g n k tb my lt th) [.ref (am 0), .int set, .int e0]) (vp_Si (fun r : Int32 => r = zb (fitB my set e0 k))) 0 0 (fun _ => False) := by
  refine Met.ofW (cc := cX4_fits) (maxL := 5) (ret := (some .boolean)) (by decide) rfl ?_
  intro p e s m args below meth c s₁ B hml hv
  obtain ⟨rfl, hE, hP⟩ := hv
  have hx := B.exec
  have hb := B.bytes
  have hr := B.returns
  have hts := atoms_spec (ws := wsX4_fits) B.pre
  have hown : s.vm.findClass RX4 = some m.cls := findClass_of_methodNamed B.named
  have hlocks := B.notSynchronized
  have hK := hE.1
  have iX4 : ∀ w ∈ wsX40, w ∈ wsX4_fits := by decide +kernel
  have hl := lv_entry ([.ref (am 0), .int set, .int e0]) (n := 5) (Nat.le_of_ble_eq_true rfl)
  rw [lg_entry_eq]
  generalize (lg_sl ([.ref (am 0), .int set, .int e0]) ++ List.replicate (5 - (lg_sl ([.ref (am 0), .int set, .int e0])).length) Slot.unset).toArray = ls at hl ⊢
  have hl : lv_has ls 5 [(0, .ref (am 0)), (1, .int set), (2, .int e0)] := hl
  refine lv_iconst (v := 1) hx hb dX4_fits_0 (by decide) ?_
  refine lv_istore_n (lv' := [(3, .int 1), (0, .ref (am 0)), (1, .int set), (2, .int e0)]) hx hb dX4_fits_1 rfl hl (by decide) rfl (fun ls hl => ?_)
  refine lv_iconst (v := 0) hx hb dX4_fits_2 (by decide) ?_
  refine lv_istore (lv' := [(4, .int 0), (3, .int 1), (0, .ref (am 0)), (1, .int set), (2, .int e0)]) hx hb dX4_fits_3 hl (by decide) rfl (fun ls hl => ?_)
  refine zloop (nL := 5) (lv := fun j => [(0, .ref (am 0)), (1, .int set), (2, .int e0), (3, .int (zb (fitB my set e0 (j)))), (4, .int (nI (j)))]) (n := k) (lv_re (lv_sub hl [2, 3, 4, 1, 0] rfl) (by rfl)) (fun ls hl => ?_) (fun j hj ih_5 ls hl => ?_)
  · have hl : lv_has ls 5 [(0, .ref (am 0)), (1, .int set), (2, .int e0), (3, .int (zb (fitB my set e0 (k)))), (4, .int (nI (k)))] := hl
    refine lv_iload hx hb dX4_fits_5 (lv_at hl 4 rfl) ?_
    refine lv_aload_n hx hb dX4_fits_7 rfl (lv_at hl 0 rfl) ?_
    refine va_get (D := D) (ci := 4) (v := .int (nI k)) (C := RX4) (T := TX4) (N := 23) hx hb hts iX4 hown hK hP 0 mws_0 rfl 13 (by decide) (hts (.fieldLink RX4 78 "CapitalReckonerModel" "pieces" "I") (by decide +kernel)) (fun _ h9 => h9) rfl dX4_fits_8 ?_
    refine lv_icmp_ge (tgt := 52) hx hb dX4_fits_11 (by decide) (fun c_1 => ?_) (fun c_1 => absurd (zle_refl (nI k)) c_1)
    refine lv_iload_n hx hb dX4_fits_52 rfl (lv_at hl 3 rfl) ?_
    exact W.zret (v := zb (fitB my set e0 (k))) hx hb hr (by first | rfl | exact znb _) (fun t ht hW => ⟨_, rfl, (by first | rfl | (simp only [c_1]; done) | (simp only [c_1]; rfl) | (simp [c_1]; done)), ht⟩) (fun _ h => nomatch h) dX4_fits_53
  · have hl : lv_has ls 5 [(0, .ref (am 0)), (1, .int set), (2, .int e0), (3, .int (zb (fitB my set e0 (j)))), (4, .int (nI (j)))] := hl
    refine lv_iload hx hb dX4_fits_5 (lv_at hl 4 rfl) ?_
    refine lv_aload_n hx hb dX4_fits_7 rfl (lv_at hl 0 rfl) ?_
    refine va_get (D := D) (ci := 4) (v := .int (nI k)) (C := RX4) (T := TX4) (N := 23) hx hb hts iX4 hown hK hP 0 mws_0 rfl 13 (by decide) (hts (.fieldLink RX4 78 "CapitalReckonerModel" "pieces" "I") (by decide +kernel)) (fun _ h9 => h9) rfl dX4_fits_8 ?_
    refine lv_icmp_ge (tgt := 52) hx hb dX4_fits_11 (by decide) (fun c_2 => absurd c_2 (nI_ge hj (by have := hok.k; omega))) (fun c_2 => ?_)
    refine lv_iload_n hx hb dX4_fits_14 rfl (lv_at hl 3 rfl) ?_
    refine lv_iload_n hx hb dX4_fits_15 rfl (lv_at hl 1 rfl) ?_
    refine lv_iload hx hb dX4_fits_16 (lv_at hl 4 rfl) ?_
    refine lv_ishr hx hb dX4_fits_18 ?_
    refine lv_iconst (v := 1) hx hb dX4_fits_19 (by decide) ?_
    refine lv_iand hx hb dX4_fits_20 ?_
    refine lv_if_eq (tgt := 39) hx hb dX4_fits_21 (by decide) (fun c_3 => ?_) (fun c_3 => ?_)
    · have c_3 := zhas_0 c_3
      refine lv_iconst (v := 1) hx hb dX4_fits_39 (by decide) ?_
      refine lv_goto (tgt := 44) hx hb dX4_fits_40 (by decide) ?_
      refine lv_iand hx hb dX4_fits_44 ?_
      refine lv_istore_n (lv' := [(3, .int ((zb (fitB my set e0 (j))) &&& 1)), (0, .ref (am 0)), (1, .int set), (2, .int e0), (4, .int (nI (j)))]) hx hb dX4_fits_45 rfl hl (by decide) rfl (fun ls hl => ?_)
      refine lv_iinc (v := nI ((j) + 1)) (lv' := [(4, .int (nI ((j) + 1))), (3, .int ((zb (fitB my set e0 (j))) &&& 1)), (0, .ref (am 0)), (1, .int set), (2, .int e0)]) hx hb dX4_fits_46 hl (k := 4) rfl (zinc _) (by decide) rfl (fun ls hl => ?_)
      refine lv_goto (tgt := 5) hx hb dX4_fits_49 (by decide) ?_
      exact ih_5 ls (lv_re (lv_sub hl [2, 3, 4, 1, 0] rfl) (by simp only [fitB, c_2, c_3]; first | rfl | (simp [zb_and1, zb_and0, zb]; done) | (simp only [zb_and1, zb_and0, Bool.not_true, Bool.not_false, Bool.false_or, Bool.true_or, Bool.and_true, Bool.and_false]; rfl)))
    · have c_3 := zhas_n0 c_3
      refine lv_aload_n hx hb dX4_fits_24 rfl (lv_at hl 0 rfl) ?_
      refine va_get (D := D) (ci := 4) (v := .ref (am 17)) (C := RX4) (T := TX4) (N := 23) hx hb hts iX4 hown hK hP 0 mws_0 rfl 20 (by decide) (hts (.fieldLink RX4 62 "CapitalReckonerModel" "may" "[I") (by decide +kernel)) (fun _ h9 => h9) rfl dX4_fits_25 ?_
      refine lv_iload hx hb dX4_fits_28 (lv_at hl 4 rfl) ?_
      refine ziald (v := my j) hx hb hK hP 17 0 mws_17 rfl (vp_in_nI (show j < 5 by have := hok.k; omega) (by decide)) (by rw [nI_clamp (by have := hok.k; omega)]) dX4_fits_30 ?_
      refine lv_iload_n hx hb dX4_fits_31 rfl (lv_at hl 2 rfl) ?_
      refine lv_ishr hx hb dX4_fits_32 ?_
      refine lv_iconst (v := 1) hx hb dX4_fits_33 (by decide) ?_
      refine lv_iand hx hb dX4_fits_34 ?_
      refine lv_iconst (v := 1) hx hb dX4_fits_35 (by decide) ?_
      refine lv_icmp_ne (tgt := 43) hx hb dX4_fits_36 (by decide) (fun c_4 => ?_) (fun c_4 => ?_)
      · have c_4 := zhas_n1 c_4
        refine lv_iconst (v := 0) hx hb dX4_fits_43 (by decide) ?_
        refine lv_iand hx hb dX4_fits_44 ?_
        refine lv_istore_n (lv' := [(3, .int ((zb (fitB my set e0 (j))) &&& 0)), (0, .ref (am 0)), (1, .int set), (2, .int e0), (4, .int (nI (j)))]) hx hb dX4_fits_45 rfl hl (by decide) rfl (fun ls hl => ?_)
        refine lv_iinc (v := nI ((j) + 1)) (lv' := [(4, .int (nI ((j) + 1))), (3, .int ((zb (fitB my set e0 (j))) &&& 0)), (0, .ref (am 0)), (1, .int set), (2, .int e0)]) hx hb dX4_fits_46 hl (k := 4) rfl (zinc _) (by decide) rfl (fun ls hl => ?_)
        refine lv_goto (tgt := 5) hx hb dX4_fits_49 (by decide) ?_
        exact ih_5 ls (lv_re (lv_sub hl [2, 3, 4, 1, 0] rfl) (by simp only [fitB, c_2, c_3, c_4]; first | rfl | (simp [zb_and1, zb_and0, zb]; done) | (simp only [zb_and1, zb_and0, Bool.not_true, Bool.not_false, Bool.false_or, Bool.true_or, Bool.and_true, Bool.and_false]; rfl)))
      · have c_4 := zhas_1 c_4
        refine lv_iconst (v := 1) hx hb dX4_fits_39 (by decide) ?_
        refine lv_goto (tgt := 44) hx hb dX4_fits_40 (by decide) ?_
        refine lv_iand hx hb dX4_fits_44 ?_
        refine lv_istore_n (lv' := [(3, .int ((zb (fitB my set e0 (j))) &&& 1)), (0, .ref (am 0)), (1, .int set), (2, .int e0), (4, .int (nI (j)))]) hx hb dX4_fits_45 rfl hl (by decide) rfl (fun ls hl => ?_)
        refine lv_iinc (v := nI ((j) + 1)) (lv' := [(4, .int (nI ((j) + 1))), (3, .int ((zb (fitB my set e0 (j))) &&& 1)), (0, .ref (am 0)), (1, .int set), (2, .int e0)]) hx hb dX4_fits_46 hl (k := 4) rfl (zinc _) (by decide) rfl (fun ls hl => ?_)
        refine lv_goto (tgt := 5) hx hb dX4_fits_49 (by decide) ?_
        exact ih_5 ls (lv_re (lv_sub hl [2, 3, 4, 1, 0] rfl) (by simp only [fitB, c_2, c_3, c_4]; first | rfl | (simp [zb_and1, zb_and0, zb]; done) | (simp only [zb_and1, zb_and0, Bool.not_true, Bool.not_false, Bool.false_or, Bool.true_or, Bool.and_true, Bool.and_false]; rfl)))
set_option maxHeartbeats 4000000 in
set_option maxRecDepth 100000 in
theorem zX4_leastWhole (l : Launch) (D : va_G) (cI cL cE cP : ClassId) (am : Nat → Nat) (g : Nat → Nat → Int32) (n k : Nat) (tb my lt : Nat → Int32) (th : Int32) (hok : zOk g n k) (sz : Nat) : Met l yX4_leastWhole wsX4_leastWhole ({ frames := 1, cells := 0, slots := 0, locals := 24 }) (zPw D cI cL cE cP (mws cI am g n k tb my lt th) sz [.ref (am 0)]) (zQi D (mws cI am g n k tb my lt th) sz (fun r : Int32 => r = LW tb my n k n (2 ^ k - 1)) (mws cI am g n k tb my (LTA tb my n k lt n) th)) 0 0 (va_A (mws cI am g n k tb my lt th) sz) := by
  refine Met.ofW (cc := cX4_leastWhole) (maxL := 7) (ret := (some .int)) (by decide) rfl ?_
  intro p e s m args below meth c s₁ B hml hv
  obtain ⟨rfl, hsz, hE, hP, hD0⟩ := hv
  subst hsz
  obtain ⟨A, hAe⟩ : ∃ A, A = va_A (mws cI am g n k tb my lt th) s.heap.size := ⟨_, rfl⟩
  have hD : va_D A (mws cI am g n k tb my lt th) := by rw [hAe]; exact hD0.self
  have hA : ∀ q : Nat, s.heap.size ≤ q → A q := fun q h => by rw [hAe]; exact Or.inr h
  have hS : va_S A s.heap s.heap [] := va_S.rf
  have hx := B.exec
  have hb := B.bytes
  have hr := B.returns
  have hts := atoms_spec (ws := wsX4_leastWhole) B.pre
  have hown : s.vm.findClass RX4 = some m.cls := findClass_of_methodNamed B.named
  have hlocks := B.notSynchronized
  have hK := hE.1
  have iX4 : ∀ w ∈ wsX40, w ∈ wsX4_leastWhole := by decide +kernel
  have hl := lv_entry ([.ref (am 0)]) (n := 7) (Nat.le_of_ble_eq_true rfl)
  rw [lg_entry_eq]
  generalize (lg_sl ([.ref (am 0)]) ++ List.replicate (7 - (lg_sl ([.ref (am 0)])).length) Slot.unset).toArray = ls at hl ⊢
  have hl : lv_has ls 7 [(0, .ref (am 0))] := hl
  refine lv_iconst (v := 1) hx hb dX4_leastWhole_0 (by decide) ?_
  refine lv_aload_n hx hb dX4_leastWhole_1 rfl (lv_at hl 0 rfl) ?_
  refine va_get (D := D) (ci := 4) (v := .int (nI k)) (C := RX4) (T := TX4) (N := 23) hx hb hts iX4 hown hK hP 0 mws_0 rfl 13 (by decide) (hts (.fieldLink RX4 78 "CapitalReckonerModel" "pieces" "I") (by decide +kernel)) (fun _ h9 => h9) rfl dX4_leastWhole_2 ?_
  refine lv_ishl hx hb dX4_leastWhole_5 ?_
  rw [show ((1 : Int32) <<< ((nI k) &&& 31)) = nI (2 ^ k) from z_shl1 hok.k8]
  refine lv_istore_n (lv' := [(1, .int (nI (2 ^ k))), (0, .ref (am 0))]) hx hb dX4_leastWhole_6 rfl hl (by decide) rfl (fun ls hl => ?_)
  refine lv_iconst (v := 0) hx hb dX4_leastWhole_7 (by decide) ?_
  refine lv_istore_n (lv' := [(2, .int 0), (1, .int (nI (2 ^ k))), (0, .ref (am 0))]) hx hb dX4_leastWhole_8 rfl hl (by decide) rfl (fun ls hl => ?_)
  refine zloopM (nL := 7) (lv := fun S2 => [(0, .ref (am 0)), (1, .int (nI (2 ^ k))), (2, .int (nI (S2)))]) (wd := fun S2 => mws cI am g n k tb my (zro (rwN my k) (32 * n) (S2) lt) th) (n := 2 ^ k) (lv_re (lv_sub hl [2, 1, 0] rfl) (by first | rfl | (simp only [nI_0]; done) | (simp only [nI_0]; rfl) | (simp [nI_0]; done))) (zP_re hP (by rw [zro_0])) (zD_re hD (by rw [zro_0])) hS (fun H locs ls hP hD hS hl => ?_) (fun S2 hS2 ih_9 H locs ls hP hD hS hl => ?_)
  · have hl : lv_has ls 7 [(0, .ref (am 0)), (1, .int (nI (2 ^ k))), (2, .int (nI (2 ^ k)))] := hl
    have hP : va_P D vwCl (mws cI am g n k tb my (zro (rwN my k) (32 * n) (2 ^ k) lt) th) H := hP
    have hD : va_D A (mws cI am g n k tb my (zro (rwN my k) (32 * n) (2 ^ k) lt) th) := hD
    refine lv_iload_n hx hb dX4_leastWhole_9 rfl (lv_at hl 2 rfl) ?_
    refine lv_iload_n hx hb dX4_leastWhole_10 rfl (lv_at hl 1 rfl) ?_
    refine lv_icmp_ge (tgt := 50) hx hb dX4_leastWhole_11 (by decide) (fun c_1 => ?_) (fun c_1 => absurd (zle_refl (nI (2 ^ k))) c_1)
    refine lv_aload_n hx hb dX4_leastWhole_50 rfl (lv_at hl 0 rfl) ?_
    refine va_get (D := D) (ci := 4) (v := .int (nI n)) (C := RX4) (T := TX4) (N := 23) hx hb hts iX4 hown hK hP 0 mws_0 rfl 4 (by decide) (hts (.fieldLink RX4 75 "CapitalReckonerModel" "exposures" "I") (by decide +kernel)) (fun _ h9 => h9) rfl dX4_leastWhole_51 ?_
    refine lv_iconst (v := 1) hx hb dX4_leastWhole_54 (by decide) ?_
    refine lv_isub hx hb dX4_leastWhole_55 ?_
    refine lv_istore_n (lv' := [(2, .int ((nI n) - 1)), (0, .ref (am 0)), (1, .int (nI (2 ^ k)))]) hx hb dX4_leastWhole_56 rfl hl (by decide) rfl (fun ls hl => ?_)
    refine zloopM (nL := 7) (lv := fun d => [(0, .ref (am 0)), (1, .int (nI (2 ^ k))), (2, .int (zed n (d)))]) (wd := fun d => mws cI am g n k tb my (LTA tb my n k lt (d)) th) (n := n) (lv_re (lv_sub hl [1, 2, 0] rfl) (by simp only [zed_0]; rfl)) (zP_re hP (by rfl)) (zD_re hD (by rfl)) hS (fun H locs ls hP hD hS hl => ?_) (fun d hd ih_57 H locs ls hP hD hS hl => ?_)
    · have hl : lv_has ls 7 [(0, .ref (am 0)), (1, .int (nI (2 ^ k))), (2, .int (zed n (n)))] := hl
      have hP : va_P D vwCl (mws cI am g n k tb my (LTA tb my n k lt (n)) th) H := hP
      have hD : va_D A (mws cI am g n k tb my (LTA tb my n k lt (n)) th) := hD
      refine lv_iload_n hx hb dX4_leastWhole_57 rfl (lv_at hl 2 rfl) ?_
      refine lv_if_lt (tgt := 179) hx hb dX4_leastWhole_58 (by decide) (fun c_2 => ?_) (fun c_2 => absurd (zed_neg (by have := hok.n; omega)) c_2)
      refine lv_aload_n hx hb dX4_leastWhole_179 rfl (lv_at hl 0 rfl) ?_
      refine va_get (D := D) (ci := 4) (v := .ref (am 18)) (C := RX4) (T := TX4) (N := 23) hx hb hts iX4 hown hK hP 0 mws_0 rfl 21 (by decide) (hts (.fieldLink RX4 65 "CapitalReckonerModel" "least" "[I") (by decide +kernel)) (fun _ h9 => h9) rfl dX4_leastWhole_180 ?_
      refine lv_iload_n hx hb dX4_leastWhole_183 rfl (lv_at hl 1 rfl) ?_
      refine lv_iconst (v := 1) hx hb dX4_leastWhole_184 (by decide) ?_
      refine lv_isub hx hb dX4_leastWhole_185 ?_
      rw [show ((nI (2 ^ k)) - 1) = nI (2 ^ k - 1) from z_m1 (z2p k)]
      refine ziald (v := LTA tb my n k lt n (2 ^ k - 1)) hx hb hK hP 18 0 mws_18 rfl (vp_in_nI (show 2 ^ k - 1 < 288 by have hk32 := z2k hok.k; have hn8 := hok.n; omega) (by decide)) (by rw [nI_clamp (by have hk32 := z2k hok.k; have hn8 := hok.n; omega)]) dX4_leastWhole_186 ?_
      exact ziret (v := LTA tb my n k lt n (2 ^ k - 1)) hx hb hr hAe (by have h := LTA_LW tb my n k lt hok.k n (2 ^ k - 1) (Nat.le_refl n) (by have := z2p k; omega); rw [Nat.sub_self, Nat.mul_zero, Nat.zero_add] at h; exact h) (zP_re hP (rfl)) (zD_re hD (rfl)) hS dX4_leastWhole_187
    · have hl : lv_has ls 7 [(0, .ref (am 0)), (1, .int (nI (2 ^ k))), (2, .int (zed n (d)))] := hl
      have hP : va_P D vwCl (mws cI am g n k tb my (LTA tb my n k lt (d)) th) H := hP
      have hD : va_D A (mws cI am g n k tb my (LTA tb my n k lt (d)) th) := hD
      refine lv_iload_n hx hb dX4_leastWhole_57 rfl (lv_at hl 2 rfl) ?_
      refine lv_if_lt (tgt := 179) hx hb dX4_leastWhole_58 (by decide) (fun c_3 => absurd c_3 (zed_pos hd (by have := hok.n; omega))) (fun c_3 => ?_)
      rw [zed_nI hd] at hl
      refine lv_iconst (v := 0) hx hb dX4_leastWhole_61 (by decide) ?_
      refine lv_istore_n (lv' := [(3, .int 0), (0, .ref (am 0)), (1, .int (nI (2 ^ k))), (2, .int (nI (n - 1 - d)))]) hx hb dX4_leastWhole_62 rfl hl (by decide) rfl (fun ls hl => ?_)
      refine zloopM (nL := 7) (lv := fun S1 => [(0, .ref (am 0)), (1, .int (nI (2 ^ k))), (2, .int (nI (n - 1 - d))), (3, .int (nI (S1)))]) (wd := fun S1 => mws cI am g n k tb my (zro (fun S => lwL tb my k (fun z => LTA tb my n k lt d (32 * (n - 1 - d) + 32 + z)) (n - 1 - d) S (S + 1)) (32 * (n - 1 - d)) (S1) (LTA tb my n k lt d)) th) (n := 2 ^ k) (lv_re (lv_sub hl [1, 2, 3, 0] rfl) (by first | rfl | (simp only [nI_0]; done) | (simp only [nI_0]; rfl) | (simp [nI_0]; done))) (zP_re hP (by rw [zro_0])) (zD_re hD (by rw [zro_0])) hS (fun H locs ls hP hD hS hl => ?_) (fun S1 hS1 ih_63 H locs ls hP hD hS hl => ?_)
      · have hl : lv_has ls 7 [(0, .ref (am 0)), (1, .int (nI (2 ^ k))), (2, .int (nI (n - 1 - d))), (3, .int (nI (2 ^ k)))] := hl
        have hP : va_P D vwCl (mws cI am g n k tb my (zro (fun S => lwL tb my k (fun z => LTA tb my n k lt d (32 * (n - 1 - d) + 32 + z)) (n - 1 - d) S (S + 1)) (32 * (n - 1 - d)) (2 ^ k) (LTA tb my n k lt d)) th) H := hP
        have hD : va_D A (mws cI am g n k tb my (zro (fun S => lwL tb my k (fun z => LTA tb my n k lt d (32 * (n - 1 - d) + 32 + z)) (n - 1 - d) S (S + 1)) (32 * (n - 1 - d)) (2 ^ k) (LTA tb my n k lt d)) th) := hD
        refine lv_iload_n hx hb dX4_leastWhole_63 rfl (lv_at hl 3 rfl) ?_
        refine lv_iload_n hx hb dX4_leastWhole_64 rfl (lv_at hl 1 rfl) ?_
        refine lv_icmp_ge (tgt := 173) hx hb dX4_leastWhole_65 (by decide) (fun c_4 => ?_) (fun c_4 => absurd (zle_refl (nI (2 ^ k))) c_4)
        refine lv_iinc (v := zed n (d + 1)) (lv' := [(2, .int (zed n (d + 1))), (0, .ref (am 0)), (1, .int (nI (2 ^ k))), (3, .int (nI (2 ^ k)))]) hx hb dX4_leastWhole_173 hl (k := 2) rfl (by rw [← zed_nI hd]; exact zed_dec n d) (by decide) rfl (fun ls hl => ?_)
        refine lv_goto (tgt := 57) hx hb dX4_leastWhole_176 (by decide) ?_
        exact ih_57 H locs ls (zP_re hP (by rfl)) (zD_re hD (by rfl)) hS (lv_re (lv_sub hl [1, 2, 0] rfl) (by first | rfl | (simp only [c_1, c_3, c_4]; done) | (simp only [c_1, c_3, c_4]; rfl) | (simp [c_1, c_3, c_4]; done)))
      · have hl : lv_has ls 7 [(0, .ref (am 0)), (1, .int (nI (2 ^ k))), (2, .int (nI (n - 1 - d))), (3, .int (nI (S1)))] := hl
        have hP : va_P D vwCl (mws cI am g n k tb my (zro (fun S => lwL tb my k (fun z => LTA tb my n k lt d (32 * (n - 1 - d) + 32 + z)) (n - 1 - d) S (S + 1)) (32 * (n - 1 - d)) (S1) (LTA tb my n k lt d)) th) H := hP
        have hD : va_D A (mws cI am g n k tb my (zro (fun S => lwL tb my k (fun z => LTA tb my n k lt d (32 * (n - 1 - d) + 32 + z)) (n - 1 - d) S (S + 1)) (32 * (n - 1 - d)) (S1) (LTA tb my n k lt d)) th) := hD
        refine lv_iload_n hx hb dX4_leastWhole_63 rfl (lv_at hl 3 rfl) ?_
        refine lv_iload_n hx hb dX4_leastWhole_64 rfl (lv_at hl 1 rfl) ?_
        refine lv_icmp_ge (tgt := 173) hx hb dX4_leastWhole_65 (by decide) (fun c_5 => absurd c_5 (nI_ge hS1 (by have := z2k hok.k; omega))) (fun c_5 => ?_)
        refine lv_ldc (v := 1000000000) hx hb hown (hts (.constant RX4 87 (1000000000)) (by decide +kernel)) dX4_leastWhole_68 ?_
        refine lv_istore (lv' := [(4, .int 1000000000), (0, .ref (am 0)), (1, .int (nI (2 ^ k))), (2, .int (nI (n - 1 - d))), (3, .int (nI (S1)))]) hx hb dX4_leastWhole_70 hl (by decide) rfl (fun ls hl => ?_)
        refine lv_iconst (v := 0) hx hb dX4_leastWhole_72 (by decide) ?_
        refine lv_istore (lv' := [(5, .int 0), (4, .int 1000000000), (0, .ref (am 0)), (1, .int (nI (2 ^ k))), (2, .int (nI (n - 1 - d))), (3, .int (nI (S1)))]) hx hb dX4_leastWhole_73 hl (by decide) rfl (fun ls hl => ?_)
        refine zloop (nL := 7) (lv := fun q => [(0, .ref (am 0)), (1, .int (nI (2 ^ k))), (2, .int (nI (n - 1 - d))), (3, .int (nI (S1))), (4, .int (lwL tb my k (fun z => LTA tb my n k lt d (32 * (n - 1 - d) + 32 + z)) (n - 1 - d) S1 (q))), (5, .int (nI (q)))]) (n := S1 + 1) (lv_re (lv_sub hl [2, 3, 4, 5, 1, 0] rfl) (by first | rfl | (simp only [lwL, nI_0]; done) | (simp only [lwL, nI_0]; rfl) | (simp [lwL, nI_0]; done))) (fun ls hl => ?_) (fun q hq ih_75 ls hl => ?_)
        · have hl : lv_has ls 7 [(0, .ref (am 0)), (1, .int (nI (2 ^ k))), (2, .int (nI (n - 1 - d))), (3, .int (nI (S1))), (4, .int (lwL tb my k (fun z => LTA tb my n k lt d (32 * (n - 1 - d) + 32 + z)) (n - 1 - d) S1 (S1 + 1))), (5, .int (nI (S1 + 1)))] := hl
          refine lv_iload hx hb dX4_leastWhole_75 (lv_at hl 5 rfl) ?_
          refine lv_iload_n hx hb dX4_leastWhole_77 rfl (lv_at hl 3 rfl) ?_
          refine lv_icmp_gt (tgt := 154) hx hb dX4_leastWhole_78 (by decide) (fun c_6 => ?_) (fun c_6 => absurd (nI_lt (Nat.lt_succ_self S1) (by have := z2k hok.k; omega)) c_6)
          refine lv_aload_n hx hb dX4_leastWhole_154 rfl (lv_at hl 0 rfl) ?_
          refine va_get (D := D) (ci := 4) (v := .ref (am 18)) (C := RX4) (T := TX4) (N := 23) hx hb hts iX4 hown hK hP 0 mws_0 rfl 21 (by decide) (hts (.fieldLink RX4 65 "CapitalReckonerModel" "least" "[I") (by decide +kernel)) (fun _ h9 => h9) rfl dX4_leastWhole_155 ?_
          refine lv_bipush (v := 32) hx hb dX4_leastWhole_158 (by decide) ?_
          refine lv_iload_n hx hb dX4_leastWhole_160 rfl (lv_at hl 2 rfl) ?_
          refine lv_imul hx hb dX4_leastWhole_161 ?_
          refine lv_iload_n hx hb dX4_leastWhole_162 rfl (lv_at hl 3 rfl) ?_
          refine lv_iadd hx hb dX4_leastWhole_163 ?_
          rw [show ((32 * (nI (n - 1 - d))) + (nI (S1))) = nI (32 * (n - 1 - d) + S1) from z_ix (n - 1 - d) S1]
          refine lv_iload hx hb dX4_leastWhole_164 (lv_at hl 4 rfl) ?_
          refine ziast (f2 := zro (fun S => lwL tb my k (fun z => LTA tb my n k lt d (32 * (n - 1 - d) + 32 + z)) (n - 1 - d) S (S + 1)) (32 * (n - 1 - d)) (S1 + 1) (LTA tb my n k lt d)) hx hb hK hP hD hS 18 0 mws_18 rfl (vp_in_nI (show 32 * (n - 1 - d) + S1 < 288 by have hk32 := z2k hok.k; have hn8 := hok.n; omega) (by decide)) (by rw [nI_clamp (by have hk32 := z2k hok.k; have hn8 := hok.n; omega)]; exact zro_u (fun S => lwL tb my k (fun z => LTA tb my n k lt d (32 * (n - 1 - d) + 32 + z)) (n - 1 - d) S (S + 1)) (32 * (n - 1 - d)) S1 (LTA tb my n k lt d)) dX4_leastWhole_166 (fun H locs hP hD hS => ?_)
          have hP : va_P D vwCl (mws cI am g n k tb my (zro (fun S => lwL tb my k (fun z => LTA tb my n k lt d (32 * (n - 1 - d) + 32 + z)) (n - 1 - d) S (S + 1)) (32 * (n - 1 - d)) (S1 + 1) (LTA tb my n k lt d)) th) H := zP_re hP (mws_s18).symm
          have hD : va_D A (mws cI am g n k tb my (zro (fun S => lwL tb my k (fun z => LTA tb my n k lt d (32 * (n - 1 - d) + 32 + z)) (n - 1 - d) S (S + 1)) (32 * (n - 1 - d)) (S1 + 1) (LTA tb my n k lt d)) th) := zD_re hD (mws_s18).symm
          refine lv_iinc (v := nI ((S1) + 1)) (lv' := [(3, .int (nI ((S1) + 1))), (0, .ref (am 0)), (1, .int (nI (2 ^ k))), (2, .int (nI (n - 1 - d))), (4, .int (lwL tb my k (fun z => LTA tb my n k lt d (32 * (n - 1 - d) + 32 + z)) (n - 1 - d) S1 (S1 + 1))), (5, .int (nI (S1 + 1)))]) hx hb dX4_leastWhole_167 hl (k := 3) rfl (zinc _) (by decide) rfl (fun ls hl => ?_)
          refine lv_goto (tgt := 63) hx hb dX4_leastWhole_170 (by decide) ?_
          exact ih_63 H locs ls (zP_re hP (by rfl)) (zD_re hD (by rfl)) hS (lv_re (lv_sub hl [1, 2, 3, 0] rfl) (by first | rfl | (simp only [c_1, c_3, c_5, c_6]; done) | (simp only [c_1, c_3, c_5, c_6]; rfl) | (simp [c_1, c_3, c_5, c_6]; done)))
        · have hl : lv_has ls 7 [(0, .ref (am 0)), (1, .int (nI (2 ^ k))), (2, .int (nI (n - 1 - d))), (3, .int (nI (S1))), (4, .int (lwL tb my k (fun z => LTA tb my n k lt d (32 * (n - 1 - d) + 32 + z)) (n - 1 - d) S1 (q))), (5, .int (nI (q)))] := hl
          refine lv_iload hx hb dX4_leastWhole_75 (lv_at hl 5 rfl) ?_
          refine lv_iload_n hx hb dX4_leastWhole_77 rfl (lv_at hl 3 rfl) ?_
          refine lv_icmp_gt (tgt := 154) hx hb dX4_leastWhole_78 (by decide) (fun c_7 => absurd c_7 (nI_nlt (Nat.le_of_lt_succ hq) (by have := z2k hok.k; omega))) (fun c_7 => ?_)
          refine lv_iload hx hb dX4_leastWhole_81 (lv_at hl 5 rfl) ?_
          refine lv_iload_n hx hb dX4_leastWhole_83 rfl (lv_at hl 3 rfl) ?_
          refine lv_iand hx hb dX4_leastWhole_84 ?_
          refine lv_iload hx hb dX4_leastWhole_85 (lv_at hl 5 rfl) ?_
          refine lv_icmp_ne (tgt := 148) hx hb dX4_leastWhole_87 (by decide) (fun c_8 => ?_) (fun c_8 => ?_)
          · refine lv_iinc (v := nI ((q) + 1)) (lv' := [(5, .int (nI ((q) + 1))), (0, .ref (am 0)), (1, .int (nI (2 ^ k))), (2, .int (nI (n - 1 - d))), (3, .int (nI (S1))), (4, .int (lwL tb my k (fun z => LTA tb my n k lt d (32 * (n - 1 - d) + 32 + z)) (n - 1 - d) S1 (q)))]) hx hb dX4_leastWhole_148 hl (k := 5) rfl (zinc _) (by decide) rfl (fun ls hl => ?_)
            refine lv_goto (tgt := 75) hx hb dX4_leastWhole_151 (by decide) ?_
            exact ih_75 ls (lv_re (lv_sub hl [1, 2, 3, 4, 5, 0] rfl) (by first | rfl | (simp only [lwL, c_1, c_3, c_5, c_7, c_8]; done) | (simp only [lwL, c_1, c_3, c_5, c_7, c_8]; rfl) | (simp [lwL, c_1, c_3, c_5, c_7, c_8]; done)))
          · refine lv_aload_n hx hb dX4_leastWhole_90 rfl (lv_at hl 0 rfl) ?_
            refine lv_iload hx hb dX4_leastWhole_91 (lv_at hl 5 rfl) ?_
            refine lv_iload_n hx hb dX4_leastWhole_93 rfl (lv_at hl 2 rfl) ?_
            refine vp_callSi (va_Run.run (va_runV (As := [.int (nI (q)), .int (nI (n - 1 - d))]) (rest := []) ⟨hx, hb, hml, hown, hts⟩ (zX4_fits l D cI cL cE cP am g n k tb my (zro (fun S => lwL tb my k (fun z => LTA tb my n k lt d (32 * (n - 1 - d) + 32 + z)) (n - 1 - d) S (S + 1)) (32 * (n - 1 - d)) (S1) (LTA tb my n k lt d)) th hok (nI (q)) (nI (n - 1 - d))) (cwV 2 hts gX4_leastWhole_X4_fits rfl rfl rfl (by decide +kernel) ⟨Nat.le_of_ble_eq_true rfl, Nat.le_of_ble_eq_true rfl⟩) ⟨zPr_blind, va_recv hK hP (ci := 4) (q0 := 0) rfl mws_0, zPr_mk hE hP⟩ rfl rfl hl.1 rfl (lv_room (Nat.le_of_ble_eq_true rfl)) dX4_leastWhole_94 ⟨Nat.le_of_ble_eq_true rfl, Nat.le_of_ble_eq_true rfl⟩)) (fun r_9 e_10 => ?_)
            obtain rfl := e_10
            refine lv_if_eq (tgt := 148) hx hb dX4_leastWhole_97 (by decide) (fun c_11 => ?_) (fun c_11 => ?_)
            · have c_11 := zb_eq c_11
              refine lv_iinc (v := nI ((q) + 1)) (lv' := [(5, .int (nI ((q) + 1))), (0, .ref (am 0)), (1, .int (nI (2 ^ k))), (2, .int (nI (n - 1 - d))), (3, .int (nI (S1))), (4, .int (lwL tb my k (fun z => LTA tb my n k lt d (32 * (n - 1 - d) + 32 + z)) (n - 1 - d) S1 (q)))]) hx hb dX4_leastWhole_148 hl (k := 5) rfl (zinc _) (by decide) rfl (fun ls hl => ?_)
              refine lv_goto (tgt := 75) hx hb dX4_leastWhole_151 (by decide) ?_
              exact ih_75 ls (lv_re (lv_sub hl [1, 2, 3, 4, 5, 0] rfl) (by first | rfl | (simp only [lwL, c_1, c_3, c_5, c_7, c_8, c_11]; done) | (simp only [lwL, c_1, c_3, c_5, c_7, c_8, c_11]; rfl) | (simp [lwL, c_1, c_3, c_5, c_7, c_8, c_11]; done)))
            · have c_11 := zb_ne c_11
              refine lv_aload_n hx hb dX4_leastWhole_100 rfl (lv_at hl 0 rfl) ?_
              refine va_get (D := D) (ci := 4) (v := .ref (am 18)) (C := RX4) (T := TX4) (N := 23) hx hb hts iX4 hown hK hP 0 mws_0 rfl 21 (by decide) (hts (.fieldLink RX4 65 "CapitalReckonerModel" "least" "[I") (by decide +kernel)) (fun _ h9 => h9) rfl dX4_leastWhole_101 ?_
              refine lv_bipush (v := 32) hx hb dX4_leastWhole_104 (by decide) ?_
              refine lv_iload_n hx hb dX4_leastWhole_106 rfl (lv_at hl 2 rfl) ?_
              refine lv_imul hx hb dX4_leastWhole_107 ?_
              refine lv_bipush (v := 32) hx hb dX4_leastWhole_108 (by decide) ?_
              refine lv_iadd hx hb dX4_leastWhole_110 ?_
              refine lv_iload_n hx hb dX4_leastWhole_111 rfl (lv_at hl 3 rfl) ?_
              refine lv_iadd hx hb dX4_leastWhole_112 ?_
              refine lv_iload hx hb dX4_leastWhole_113 (lv_at hl 5 rfl) ?_
              refine lv_isub hx hb dX4_leastWhole_115 ?_
              rw [show ((((32 * (nI (n - 1 - d))) + 32) + (nI (S1))) - (nI (q))) = nI (32 * (n - 1 - d) + 32 + (S1 - q)) from z_ix2 (Nat.le_of_lt_succ hq)]
              refine ziald (v := (fun z => LTA tb my n k lt d (32 * (n - 1 - d) + 32 + z)) (S1 - q)) hx hb hK hP 18 0 mws_18 rfl (vp_in_nI (show 32 * (n - 1 - d) + 32 + (S1 - q) < 288 by have hk32 := z2k hok.k; have hn8 := hok.n; omega) (by decide)) (by rw [nI_clamp (by have hk32 := z2k hok.k; have hn8 := hok.n; omega)]; exact zro_out (Or.inr (by have hk32 := z2k hok.k; have hn8 := hok.n; omega))) dX4_leastWhole_116 ?_
              refine lv_aload_n hx hb dX4_leastWhole_117 rfl (lv_at hl 0 rfl) ?_
              refine va_get (D := D) (ci := 4) (v := .ref (am 16)) (C := RX4) (T := TX4) (N := 23) hx hb hts iX4 hown hK hP 0 mws_0 rfl 19 (by decide) (hts (.fieldLink RX4 59 "CapitalReckonerModel" "table" "[I") (by decide +kernel)) (fun _ h9 => h9) rfl dX4_leastWhole_118 ?_
              refine lv_bipush (v := 32) hx hb dX4_leastWhole_121 (by decide) ?_
              refine lv_iload_n hx hb dX4_leastWhole_123 rfl (lv_at hl 2 rfl) ?_
              refine lv_imul hx hb dX4_leastWhole_124 ?_
              refine lv_iload hx hb dX4_leastWhole_125 (lv_at hl 5 rfl) ?_
              refine lv_iadd hx hb dX4_leastWhole_127 ?_
              rw [show ((32 * (nI (n - 1 - d))) + (nI (q))) = nI (32 * (n - 1 - d) + q) from z_ix (n - 1 - d) q]
              refine ziald (v := tb (32 * (n - 1 - d) + q)) hx hb hK hP 16 0 mws_16 rfl (vp_in_nI (show 32 * (n - 1 - d) + q < 256 by have hk32 := z2k hok.k; have hn8 := hok.n; omega) (by decide)) (by rw [nI_clamp (by have hk32 := z2k hok.k; have hn8 := hok.n; omega)]) dX4_leastWhole_128 ?_
              refine lv_iadd hx hb dX4_leastWhole_129 ?_
              refine lv_istore (lv' := [(6, .int (((fun z => LTA tb my n k lt d (32 * (n - 1 - d) + 32 + z)) (S1 - q)) + (tb (32 * (n - 1 - d) + q)))), (0, .ref (am 0)), (1, .int (nI (2 ^ k))), (2, .int (nI (n - 1 - d))), (3, .int (nI (S1))), (4, .int (lwL tb my k (fun z => LTA tb my n k lt d (32 * (n - 1 - d) + 32 + z)) (n - 1 - d) S1 (q))), (5, .int (nI (q)))]) hx hb dX4_leastWhole_130 hl (by decide) rfl (fun ls hl => ?_)
              refine lv_iload hx hb dX4_leastWhole_132 (lv_at hl 0 rfl) ?_
              refine lv_iload hx hb dX4_leastWhole_134 (lv_at hl 5 rfl) ?_
              refine lv_icmp_ge (tgt := 144) hx hb dX4_leastWhole_136 (by decide) (fun c_12 => ?_) (fun c_12 => ?_)
              · refine lv_iload hx hb dX4_leastWhole_144 (lv_at hl 5 rfl) ?_
                refine lv_istore (lv' := [(4, .int (lwL tb my k (fun z => LTA tb my n k lt d (32 * (n - 1 - d) + 32 + z)) (n - 1 - d) S1 (q))), (6, .int (((fun z => LTA tb my n k lt d (32 * (n - 1 - d) + 32 + z)) (S1 - q)) + (tb (32 * (n - 1 - d) + q)))), (0, .ref (am 0)), (1, .int (nI (2 ^ k))), (2, .int (nI (n - 1 - d))), (3, .int (nI (S1))), (5, .int (nI (q)))]) hx hb dX4_leastWhole_146 hl (by decide) rfl (fun ls hl => ?_)
                refine lv_iinc (v := nI ((q) + 1)) (lv' := [(5, .int (nI ((q) + 1))), (4, .int (lwL tb my k (fun z => LTA tb my n k lt d (32 * (n - 1 - d) + 32 + z)) (n - 1 - d) S1 (q))), (6, .int (((fun z => LTA tb my n k lt d (32 * (n - 1 - d) + 32 + z)) (S1 - q)) + (tb (32 * (n - 1 - d) + q)))), (0, .ref (am 0)), (1, .int (nI (2 ^ k))), (2, .int (nI (n - 1 - d))), (3, .int (nI (S1)))]) hx hb dX4_leastWhole_148 hl (k := 6) rfl (zinc _) (by decide) rfl (fun ls hl => ?_)
                refine lv_goto (tgt := 75) hx hb dX4_leastWhole_151 (by decide) ?_
                exact ih_75 ls (lv_re (lv_sub hl [3, 4, 5, 6, 1, 0] rfl) (by first | rfl | (simp only [lwL, c_1, c_3, c_5, c_7, c_8, c_11, c_12]; done) | (simp only [lwL, c_1, c_3, c_5, c_7, c_8, c_11, c_12]; rfl) | (simp [lwL, c_1, c_3, c_5, c_7, c_8, c_11, c_12]; done)))
              · refine lv_iload hx hb dX4_leastWhole_139 (lv_at hl 0 rfl) ?_
                refine lv_goto (tgt := 146) hx hb dX4_leastWhole_141 (by decide) ?_
                refine lv_istore (lv' := [(4, .int (((fun z => LTA tb my n k lt d (32 * (n - 1 - d) + 32 + z)) (S1 - q)) + (tb (32 * (n - 1 - d) + q)))), (6, .int (((fun z => LTA tb my n k lt d (32 * (n - 1 - d) + 32 + z)) (S1 - q)) + (tb (32 * (n - 1 - d) + q)))), (0, .ref (am 0)), (1, .int (nI (2 ^ k))), (2, .int (nI (n - 1 - d))), (3, .int (nI (S1))), (5, .int (nI (q)))]) hx hb dX4_leastWhole_146 hl (by decide) rfl (fun ls hl => ?_)
                refine lv_iinc (v := nI ((q) + 1)) (lv' := [(5, .int (nI ((q) + 1))), (4, .int (((fun z => LTA tb my n k lt d (32 * (n - 1 - d) + 32 + z)) (S1 - q)) + (tb (32 * (n - 1 - d) + q)))), (6, .int (((fun z => LTA tb my n k lt d (32 * (n - 1 - d) + 32 + z)) (S1 - q)) + (tb (32 * (n - 1 - d) + q)))), (0, .ref (am 0)), (1, .int (nI (2 ^ k))), (2, .int (nI (n - 1 - d))), (3, .int (nI (S1)))]) hx hb dX4_leastWhole_148 hl (k := 6) rfl (zinc _) (by decide) rfl (fun ls hl => ?_)
                refine lv_goto (tgt := 75) hx hb dX4_leastWhole_151 (by decide) ?_
                exact ih_75 ls (lv_re (lv_sub hl [3, 4, 5, 6, 1, 0] rfl) (by first | rfl | (simp only [lwL, c_1, c_3, c_5, c_7, c_8, c_11, c_12]; done) | (simp only [lwL, c_1, c_3, c_5, c_7, c_8, c_11, c_12]; rfl) | (simp [lwL, c_1, c_3, c_5, c_7, c_8, c_11, c_12]; done)))
  · have hl : lv_has ls 7 [(0, .ref (am 0)), (1, .int (nI (2 ^ k))), (2, .int (nI (S2)))] := hl
    have hP : va_P D vwCl (mws cI am g n k tb my (zro (rwN my k) (32 * n) (S2) lt) th) H := hP
    have hD : va_D A (mws cI am g n k tb my (zro (rwN my k) (32 * n) (S2) lt) th) := hD
    refine lv_iload_n hx hb dX4_leastWhole_9 rfl (lv_at hl 2 rfl) ?_
    refine lv_iload_n hx hb dX4_leastWhole_10 rfl (lv_at hl 1 rfl) ?_
    refine lv_icmp_ge (tgt := 50) hx hb dX4_leastWhole_11 (by decide) (fun c_13 => absurd c_13 (nI_ge hS2 (by have := z2k hok.k; omega))) (fun c_13 => ?_)
    refine lv_aload_n hx hb dX4_leastWhole_14 rfl (lv_at hl 0 rfl) ?_
    refine va_get (D := D) (ci := 4) (v := .ref (am 18)) (C := RX4) (T := TX4) (N := 23) hx hb hts iX4 hown hK hP 0 mws_0 rfl 21 (by decide) (hts (.fieldLink RX4 65 "CapitalReckonerModel" "least" "[I") (by decide +kernel)) (fun _ h9 => h9) rfl dX4_leastWhole_15 ?_
    refine lv_bipush (v := 32) hx hb dX4_leastWhole_18 (by decide) ?_
    refine lv_aload_n hx hb dX4_leastWhole_20 rfl (lv_at hl 0 rfl) ?_
    refine va_get (D := D) (ci := 4) (v := .int (nI n)) (C := RX4) (T := TX4) (N := 23) hx hb hts iX4 hown hK hP 0 mws_0 rfl 4 (by decide) (hts (.fieldLink RX4 75 "CapitalReckonerModel" "exposures" "I") (by decide +kernel)) (fun _ h9 => h9) rfl dX4_leastWhole_21 ?_
    refine lv_imul hx hb dX4_leastWhole_24 ?_
    refine lv_iload_n hx hb dX4_leastWhole_25 rfl (lv_at hl 2 rfl) ?_
    refine lv_iadd hx hb dX4_leastWhole_26 ?_
    rw [show ((32 * (nI n)) + (nI (S2))) = nI (32 * n + S2) from z_ix n S2]
    refine lv_aload_n hx hb dX4_leastWhole_27 rfl (lv_at hl 0 rfl) ?_
    refine lv_iload_n hx hb dX4_leastWhole_28 rfl (lv_at hl 2 rfl) ?_
    refine lv_bipush (v := 8) hx hb dX4_leastWhole_29 (by decide) ?_
    refine vp_callSi (va_Run.run (va_runV (As := [.int (nI (S2)), .int 8]) (rest := [.int (nI (32 * n + S2)), .ref (am 18)]) ⟨hx, hb, hml, hown, hts⟩ (zX4_fits l D cI cL cE cP am g n k tb my (zro (rwN my k) (32 * n) (S2) lt) th hok (nI (S2)) (8)) (cwV 2 hts gX4_leastWhole_X4_fits rfl rfl rfl (by decide +kernel) ⟨Nat.le_of_ble_eq_true rfl, Nat.le_of_ble_eq_true rfl⟩) ⟨zPr_blind, va_recv hK hP (ci := 4) (q0 := 0) rfl mws_0, zPr_mk hE hP⟩ rfl rfl hl.1 rfl (lv_room (Nat.le_of_ble_eq_true rfl)) dX4_leastWhole_31 ⟨Nat.le_of_ble_eq_true rfl, Nat.le_of_ble_eq_true rfl⟩)) (fun r_14 e_15 => ?_)
    obtain rfl := e_15
    refine lv_if_eq (tgt := 41) hx hb dX4_leastWhole_34 (by decide) (fun c_16 => ?_) (fun c_16 => ?_)
    · have c_16 := zb_eq c_16
      refine lv_ldc (v := 1000000000) hx hb hown (hts (.constant RX4 87 (1000000000)) (by decide +kernel)) dX4_leastWhole_41 ?_
      refine ziast (f2 := zro (rwN my k) (32 * n) (S2 + 1) lt) hx hb hK hP hD hS 18 0 mws_18 rfl (vp_in_nI (show 32 * n + S2 < 288 by have hk32 := z2k hok.k; have hn8 := hok.n; omega) (by decide)) (by rw [nI_clamp (by have hk32 := z2k hok.k; have hn8 := hok.n; omega), ← zro_u]; simp [rwN, c_16]) dX4_leastWhole_43 (fun H locs hP hD hS => ?_)
      have hP : va_P D vwCl (mws cI am g n k tb my (zro (rwN my k) (32 * n) (S2 + 1) lt) th) H := zP_re hP (mws_s18).symm
      have hD : va_D A (mws cI am g n k tb my (zro (rwN my k) (32 * n) (S2 + 1) lt) th) := zD_re hD (mws_s18).symm
      refine lv_iinc (v := nI ((S2) + 1)) (lv' := [(2, .int (nI ((S2) + 1))), (0, .ref (am 0)), (1, .int (nI (2 ^ k)))]) hx hb dX4_leastWhole_44 hl (k := 2) rfl (zinc _) (by decide) rfl (fun ls hl => ?_)
      refine lv_goto (tgt := 9) hx hb dX4_leastWhole_47 (by decide) ?_
      exact ih_9 H locs ls (zP_re hP (by rfl)) (zD_re hD (by rfl)) hS (lv_re (lv_sub hl [1, 2, 0] rfl) (by first | rfl | (simp only [c_13, c_16]; done) | (simp only [c_13, c_16]; rfl) | (simp [c_13, c_16]; done)))
    · have c_16 := zb_ne c_16
      refine lv_iconst (v := 0) hx hb dX4_leastWhole_37 (by decide) ?_
      refine lv_goto (tgt := 43) hx hb dX4_leastWhole_38 (by decide) ?_
      refine ziast (f2 := zro (rwN my k) (32 * n) (S2 + 1) lt) hx hb hK hP hD hS 18 0 mws_18 rfl (vp_in_nI (show 32 * n + S2 < 288 by have hk32 := z2k hok.k; have hn8 := hok.n; omega) (by decide)) (by rw [nI_clamp (by have hk32 := z2k hok.k; have hn8 := hok.n; omega), ← zro_u]; simp [rwN, c_16]) dX4_leastWhole_43 (fun H locs hP hD hS => ?_)
      have hP : va_P D vwCl (mws cI am g n k tb my (zro (rwN my k) (32 * n) (S2 + 1) lt) th) H := zP_re hP (mws_s18).symm
      have hD : va_D A (mws cI am g n k tb my (zro (rwN my k) (32 * n) (S2 + 1) lt) th) := zD_re hD (mws_s18).symm
      refine lv_iinc (v := nI ((S2) + 1)) (lv' := [(2, .int (nI ((S2) + 1))), (0, .ref (am 0)), (1, .int (nI (2 ^ k)))]) hx hb dX4_leastWhole_44 hl (k := 2) rfl (zinc _) (by decide) rfl (fun ls hl => ?_)
      refine lv_goto (tgt := 9) hx hb dX4_leastWhole_47 (by decide) ?_
      exact ih_9 H locs ls (zP_re hP (by rfl)) (zD_re hD (by rfl)) hS (lv_re (lv_sub hl [1, 2, 0] rfl) (by first | rfl | (simp only [c_13, c_16]; done) | (simp only [c_13, c_16]; rfl) | (simp [c_13, c_16]; done)))
set_option maxHeartbeats 4000000 in
set_option maxRecDepth 100000 in
theorem zX4_bests (l : Launch) (D : va_G) (cI cL cE cP : ClassId) (am : Nat → Nat) (g : Nat → Nat → Int32) (n k : Nat) (tb my lt : Nat → Int32) (th : Int32) (hok : zOk g n k) (sz : Nat) : Met l yX4_bests wsX4_bests ({ frames := 5, cells := 0, slots := 0, locals := 115 }) (zPw D cI cL cE cP (mws cI am g n k tb my lt th) sz [.ref (am 0)]) (zQi D (mws cI am g n k tb my lt th) sz (fun r : Int32 => r = LW (zfl (WB g k) tb (32 * n)) (zfl (MY g n) my k) n k n (2 ^ k - 1)) (mws cI am g n k (zfl (WB g k) tb (32 * n)) ((BSO (zfl (WB g k) tb (32 * n)) n k (LW (zfl (WB g k) tb (32 * n)) (zfl (MY g n) my k) n k n (2 ^ k - 1)) (zfl (MY g n) my k, LTA (zfl (WB g k) tb (32 * n)) (zfl (MY g n) my k) n k lt n) (k)).1) ((BSO (zfl (WB g k) tb (32 * n)) n k (LW (zfl (WB g k) tb (32 * n)) (zfl (MY g n) my k) n k n (2 ^ k - 1)) (zfl (MY g n) my k, LTA (zfl (WB g k) tb (32 * n)) (zfl (MY g n) my k) n k lt n) (k)).2) th)) 0 0 (va_A (mws cI am g n k tb my lt th) sz) := by
  refine Met.ofW (cc := cX4_bests) (maxL := 6) (ret := (some .int)) (by decide) rfl ?_
  intro p e s m args below meth c s₁ B hml hv
  obtain ⟨rfl, hsz, hE, hP, hD0⟩ := hv
  subst hsz
  obtain ⟨A, hAe⟩ : ∃ A, A = va_A (mws cI am g n k tb my lt th) s.heap.size := ⟨_, rfl⟩
  have hD : va_D A (mws cI am g n k tb my lt th) := by rw [hAe]; exact hD0.self
  have hA : ∀ q : Nat, s.heap.size ≤ q → A q := fun q h => by rw [hAe]; exact Or.inr h
  have hS : va_S A s.heap s.heap [] := va_S.rf
  have hx := B.exec
  have hb := B.bytes
  have hr := B.returns
  have hts := atoms_spec (ws := wsX4_bests) B.pre
  have hown : s.vm.findClass RX4 = some m.cls := findClass_of_methodNamed B.named
  have hlocks := B.notSynchronized
  have hK := hE.1
  have iX4 : ∀ w ∈ wsX40, w ∈ wsX4_bests := by decide +kernel
  have hl := lv_entry ([.ref (am 0)]) (n := 6) (Nat.le_of_ble_eq_true rfl)
  rw [lg_entry_eq]
  generalize (lg_sl ([.ref (am 0)]) ++ List.replicate (6 - (lg_sl ([.ref (am 0)])).length) Slot.unset).toArray = ls at hl ⊢
  have hl : lv_has ls 6 [(0, .ref (am 0))] := hl
  refine lv_aload_n hx hb dX4_bests_0 rfl (lv_at hl 0 rfl) ?_
  refine zcallv (va_runV (As := []) (rest := []) ⟨hx, hb, hml, hown, hts⟩ (zX4_lays l D cI cL cE cP am g n k tb my lt th hok s.heap.size) (cwV 0 hts gX4_bests_X4_lays rfl rfl rfl (by decide +kernel) ⟨Nat.le_of_ble_eq_true rfl, Nat.le_of_ble_eq_true rfl⟩) ⟨zPw_blind, va_recv hK hP (ci := 4) (q0 := 0) rfl mws_0, zPw_mk hE hP hD⟩ rfl rfl hl.1 rfl (lv_room (Nat.le_of_ble_eq_true rfl)) dX4_bests_1 ⟨Nat.le_of_ble_eq_true rfl, Nat.le_of_ble_eq_true rfl⟩) hD hS hA (fun H locs hP hD hS => ?_)
  have hP : va_P D vwCl (mws cI am g n k (zfl (WB g k) tb (32 * n)) (zfl (MY g n) my k) lt th) H := hP
  have hD : va_D A (mws cI am g n k (zfl (WB g k) tb (32 * n)) (zfl (MY g n) my k) lt th) := hD
  refine lv_aload_n hx hb dX4_bests_4 rfl (lv_at hl 0 rfl) ?_
  refine zcalli (va_runV (As := []) (rest := []) ⟨hx, hb, hml, hown, hts⟩ (zX4_leastWhole l D cI cL cE cP am g n k (zfl (WB g k) tb (32 * n)) (zfl (MY g n) my k) lt th hok H.size) (cwV 0 hts gX4_bests_X4_leastWhole rfl rfl rfl (by decide +kernel) ⟨Nat.le_of_ble_eq_true rfl, Nat.le_of_ble_eq_true rfl⟩) ⟨zPw_blind, va_recv hK hP (ci := 4) (q0 := 0) rfl mws_0, zPw_mk hE hP hD⟩ rfl rfl hl.1 rfl (lv_room (Nat.le_of_ble_eq_true rfl)) dX4_bests_5 ⟨Nat.le_of_ble_eq_true rfl, Nat.le_of_ble_eq_true rfl⟩) hD hS hA (fun r_3 H locs e_4 hP hD hS => ?_)
  obtain rfl := e_4
  have hP : va_P D vwCl (mws cI am g n k (zfl (WB g k) tb (32 * n)) (zfl (MY g n) my k) (LTA (zfl (WB g k) tb (32 * n)) (zfl (MY g n) my k) n k lt n) th) H := hP
  have hD : va_D A (mws cI am g n k (zfl (WB g k) tb (32 * n)) (zfl (MY g n) my k) (LTA (zfl (WB g k) tb (32 * n)) (zfl (MY g n) my k) n k lt n) th) := hD
  refine lv_istore_n (lv' := [(1, .int (LW (zfl (WB g k) tb (32 * n)) (zfl (MY g n) my k) n k n (2 ^ k - 1))), (0, .ref (am 0))]) hx hb dX4_bests_8 rfl hl (by decide) rfl (fun ls hl => ?_)
  refine lv_iconst (v := 0) hx hb dX4_bests_9 (by decide) ?_
  refine lv_istore_n (lv' := [(2, .int 0), (1, .int (LW (zfl (WB g k) tb (32 * n)) (zfl (MY g n) my k) n k n (2 ^ k - 1))), (0, .ref (am 0))]) hx hb dX4_bests_10 rfl hl (by decide) rfl (fun ls hl => ?_)
  refine zloopM (nL := 6) (lv := fun j => [(0, .ref (am 0)), (1, .int (LW (zfl (WB g k) tb (32 * n)) (zfl (MY g n) my k) n k n (2 ^ k - 1))), (2, .int (nI (j)))]) (wd := fun j => mws cI am g n k (zfl (WB g k) tb (32 * n)) ((BSO (zfl (WB g k) tb (32 * n)) n k (LW (zfl (WB g k) tb (32 * n)) (zfl (MY g n) my k) n k n (2 ^ k - 1)) (zfl (MY g n) my k, LTA (zfl (WB g k) tb (32 * n)) (zfl (MY g n) my k) n k lt n) (j)).1) ((BSO (zfl (WB g k) tb (32 * n)) n k (LW (zfl (WB g k) tb (32 * n)) (zfl (MY g n) my k) n k n (2 ^ k - 1)) (zfl (MY g n) my k, LTA (zfl (WB g k) tb (32 * n)) (zfl (MY g n) my k) n k lt n) (j)).2) th) (n := k) (lv_re (lv_sub hl [2, 1, 0] rfl) (by first | rfl | (simp only [nI_0]; done) | (simp only [nI_0]; rfl) | (simp [nI_0]; done))) (zP_re hP (by rfl)) (zD_re hD (by rfl)) hS (fun H locs ls hP hD hS hl => ?_) (fun j hj ih_11 H locs ls hP hD hS hl => ?_)
  · have hl : lv_has ls 6 [(0, .ref (am 0)), (1, .int (LW (zfl (WB g k) tb (32 * n)) (zfl (MY g n) my k) n k n (2 ^ k - 1))), (2, .int (nI (k)))] := hl
    have hP : va_P D vwCl (mws cI am g n k (zfl (WB g k) tb (32 * n)) ((BSO (zfl (WB g k) tb (32 * n)) n k (LW (zfl (WB g k) tb (32 * n)) (zfl (MY g n) my k) n k n (2 ^ k - 1)) (zfl (MY g n) my k, LTA (zfl (WB g k) tb (32 * n)) (zfl (MY g n) my k) n k lt n) (k)).1) ((BSO (zfl (WB g k) tb (32 * n)) n k (LW (zfl (WB g k) tb (32 * n)) (zfl (MY g n) my k) n k n (2 ^ k - 1)) (zfl (MY g n) my k, LTA (zfl (WB g k) tb (32 * n)) (zfl (MY g n) my k) n k lt n) (k)).2) th) H := hP
    have hD : va_D A (mws cI am g n k (zfl (WB g k) tb (32 * n)) ((BSO (zfl (WB g k) tb (32 * n)) n k (LW (zfl (WB g k) tb (32 * n)) (zfl (MY g n) my k) n k n (2 ^ k - 1)) (zfl (MY g n) my k, LTA (zfl (WB g k) tb (32 * n)) (zfl (MY g n) my k) n k lt n) (k)).1) ((BSO (zfl (WB g k) tb (32 * n)) n k (LW (zfl (WB g k) tb (32 * n)) (zfl (MY g n) my k) n k n (2 ^ k - 1)) (zfl (MY g n) my k, LTA (zfl (WB g k) tb (32 * n)) (zfl (MY g n) my k) n k lt n) (k)).2) th) := hD
    refine lv_iload_n hx hb dX4_bests_11 rfl (lv_at hl 2 rfl) ?_
    refine lv_aload_n hx hb dX4_bests_12 rfl (lv_at hl 0 rfl) ?_
    refine va_get (D := D) (ci := 4) (v := .int (nI k)) (C := RX4) (T := TX4) (N := 23) hx hb hts iX4 hown hK hP 0 mws_0 rfl 13 (by decide) (hts (.fieldLink RX4 78 "CapitalReckonerModel" "pieces" "I") (by decide +kernel)) (fun _ h9 => h9) rfl dX4_bests_13 ?_
    refine lv_icmp_ge (tgt := 91) hx hb dX4_bests_16 (by decide) (fun c_5 => ?_) (fun c_5 => absurd (zle_refl (nI k)) c_5)
    refine lv_iload_n hx hb dX4_bests_91 rfl (lv_at hl 1 rfl) ?_
    exact ziret (v := LW (zfl (WB g k) tb (32 * n)) (zfl (MY g n) my k) n k n (2 ^ k - 1)) hx hb hr hAe (by first | rfl | (simp only [c_5]; done) | (simp only [c_5]; rfl) | (simp [c_5]; done)) (zP_re hP (rfl)) (zD_re hD (rfl)) hS dX4_bests_92
  · have hl : lv_has ls 6 [(0, .ref (am 0)), (1, .int (LW (zfl (WB g k) tb (32 * n)) (zfl (MY g n) my k) n k n (2 ^ k - 1))), (2, .int (nI (j)))] := hl
    have hP : va_P D vwCl (mws cI am g n k (zfl (WB g k) tb (32 * n)) ((BSO (zfl (WB g k) tb (32 * n)) n k (LW (zfl (WB g k) tb (32 * n)) (zfl (MY g n) my k) n k n (2 ^ k - 1)) (zfl (MY g n) my k, LTA (zfl (WB g k) tb (32 * n)) (zfl (MY g n) my k) n k lt n) (j)).1) ((BSO (zfl (WB g k) tb (32 * n)) n k (LW (zfl (WB g k) tb (32 * n)) (zfl (MY g n) my k) n k n (2 ^ k - 1)) (zfl (MY g n) my k, LTA (zfl (WB g k) tb (32 * n)) (zfl (MY g n) my k) n k lt n) (j)).2) th) H := hP
    have hD : va_D A (mws cI am g n k (zfl (WB g k) tb (32 * n)) ((BSO (zfl (WB g k) tb (32 * n)) n k (LW (zfl (WB g k) tb (32 * n)) (zfl (MY g n) my k) n k n (2 ^ k - 1)) (zfl (MY g n) my k, LTA (zfl (WB g k) tb (32 * n)) (zfl (MY g n) my k) n k lt n) (j)).1) ((BSO (zfl (WB g k) tb (32 * n)) n k (LW (zfl (WB g k) tb (32 * n)) (zfl (MY g n) my k) n k n (2 ^ k - 1)) (zfl (MY g n) my k, LTA (zfl (WB g k) tb (32 * n)) (zfl (MY g n) my k) n k lt n) (j)).2) th) := hD
    refine lv_iload_n hx hb dX4_bests_11 rfl (lv_at hl 2 rfl) ?_
    refine lv_aload_n hx hb dX4_bests_12 rfl (lv_at hl 0 rfl) ?_
    refine va_get (D := D) (ci := 4) (v := .int (nI k)) (C := RX4) (T := TX4) (N := 23) hx hb hts iX4 hown hK hP 0 mws_0 rfl 13 (by decide) (hts (.fieldLink RX4 78 "CapitalReckonerModel" "pieces" "I") (by decide +kernel)) (fun _ h9 => h9) rfl dX4_bests_13 ?_
    refine lv_icmp_ge (tgt := 91) hx hb dX4_bests_16 (by decide) (fun c_6 => absurd c_6 (nI_ge hj (by have := hok.k; omega))) (fun c_6 => ?_)
    refine lv_aload_n hx hb dX4_bests_19 rfl (lv_at hl 0 rfl) ?_
    refine va_get (D := D) (ci := 4) (v := .ref (am 17)) (C := RX4) (T := TX4) (N := 23) hx hb hts iX4 hown hK hP 0 mws_0 rfl 20 (by decide) (hts (.fieldLink RX4 62 "CapitalReckonerModel" "may" "[I") (by decide +kernel)) (fun _ h9 => h9) rfl dX4_bests_20 ?_
    refine lv_iload_n hx hb dX4_bests_23 rfl (lv_at hl 2 rfl) ?_
    refine ziald (v := ((BSO (zfl (WB g k) tb (32 * n)) n k (LW (zfl (WB g k) tb (32 * n)) (zfl (MY g n) my k) n k n (2 ^ k - 1)) (zfl (MY g n) my k, LTA (zfl (WB g k) tb (32 * n)) (zfl (MY g n) my k) n k lt n) (j)).1) j) hx hb hK hP 17 0 mws_17 rfl (vp_in_nI (show j < 5 by have := hok.k; omega) (by decide)) (by rw [nI_clamp (by have := hok.k; omega)]) dX4_bests_24 ?_
    refine lv_istore_n (lv' := [(3, .int (((BSO (zfl (WB g k) tb (32 * n)) n k (LW (zfl (WB g k) tb (32 * n)) (zfl (MY g n) my k) n k n (2 ^ k - 1)) (zfl (MY g n) my k, LTA (zfl (WB g k) tb (32 * n)) (zfl (MY g n) my k) n k lt n) (j)).1) j)), (0, .ref (am 0)), (1, .int (LW (zfl (WB g k) tb (32 * n)) (zfl (MY g n) my k) n k n (2 ^ k - 1))), (2, .int (nI (j)))]) hx hb dX4_bests_25 rfl hl (by decide) rfl (fun ls hl => ?_)
    refine lv_iconst (v := 0) hx hb dX4_bests_26 (by decide) ?_
    refine lv_istore (lv' := [(4, .int 0), (3, .int (((BSO (zfl (WB g k) tb (32 * n)) n k (LW (zfl (WB g k) tb (32 * n)) (zfl (MY g n) my k) n k n (2 ^ k - 1)) (zfl (MY g n) my k, LTA (zfl (WB g k) tb (32 * n)) (zfl (MY g n) my k) n k lt n) (j)).1) j)), (0, .ref (am 0)), (1, .int (LW (zfl (WB g k) tb (32 * n)) (zfl (MY g n) my k) n k n (2 ^ k - 1))), (2, .int (nI (j)))]) hx hb dX4_bests_27 hl (by decide) rfl (fun ls hl => ?_)
    refine lv_iconst (v := 0) hx hb dX4_bests_29 (by decide) ?_
    refine lv_istore (lv' := [(5, .int 0), (4, .int 0), (3, .int (((BSO (zfl (WB g k) tb (32 * n)) n k (LW (zfl (WB g k) tb (32 * n)) (zfl (MY g n) my k) n k n (2 ^ k - 1)) (zfl (MY g n) my k, LTA (zfl (WB g k) tb (32 * n)) (zfl (MY g n) my k) n k lt n) (j)).1) j)), (0, .ref (am 0)), (1, .int (LW (zfl (WB g k) tb (32 * n)) (zfl (MY g n) my k) n k n (2 ^ k - 1))), (2, .int (nI (j)))]) hx hb dX4_bests_30 hl (by decide) rfl (fun ls hl => ?_)
    refine zloopM (nL := 6) (lv := fun i => [(0, .ref (am 0)), (1, .int (LW (zfl (WB g k) tb (32 * n)) (zfl (MY g n) my k) n k n (2 ^ k - 1))), (2, .int (nI (j))), (3, .int (((BSO (zfl (WB g k) tb (32 * n)) n k (LW (zfl (WB g k) tb (32 * n)) (zfl (MY g n) my k) n k n (2 ^ k - 1)) (zfl (MY g n) my k, LTA (zfl (WB g k) tb (32 * n)) (zfl (MY g n) my k) n k lt n) (j)).1 j))), (4, .int (zb (BSI (zfl (WB g k) tb (32 * n)) n k (LW (zfl (WB g k) tb (32 * n)) (zfl (MY g n) my k) n k n (2 ^ k - 1)) ((BSO (zfl (WB g k) tb (32 * n)) n k (LW (zfl (WB g k) tb (32 * n)) (zfl (MY g n) my k) n k n (2 ^ k - 1)) (zfl (MY g n) my k, LTA (zfl (WB g k) tb (32 * n)) (zfl (MY g n) my k) n k lt n) (j)).1 j) j (BSO (zfl (WB g k) tb (32 * n)) n k (LW (zfl (WB g k) tb (32 * n)) (zfl (MY g n) my k) n k n (2 ^ k - 1)) (zfl (MY g n) my k, LTA (zfl (WB g k) tb (32 * n)) (zfl (MY g n) my k) n k lt n) (j)) (i)).2.2)), (5, .int (nI (i)))]) (wd := fun i => mws cI am g n k (zfl (WB g k) tb (32 * n)) ((BSI (zfl (WB g k) tb (32 * n)) n k (LW (zfl (WB g k) tb (32 * n)) (zfl (MY g n) my k) n k n (2 ^ k - 1)) ((BSO (zfl (WB g k) tb (32 * n)) n k (LW (zfl (WB g k) tb (32 * n)) (zfl (MY g n) my k) n k n (2 ^ k - 1)) (zfl (MY g n) my k, LTA (zfl (WB g k) tb (32 * n)) (zfl (MY g n) my k) n k lt n) (j)).1 j) j (BSO (zfl (WB g k) tb (32 * n)) n k (LW (zfl (WB g k) tb (32 * n)) (zfl (MY g n) my k) n k n (2 ^ k - 1)) (zfl (MY g n) my k, LTA (zfl (WB g k) tb (32 * n)) (zfl (MY g n) my k) n k lt n) (j)) (i)).1) ((BSI (zfl (WB g k) tb (32 * n)) n k (LW (zfl (WB g k) tb (32 * n)) (zfl (MY g n) my k) n k n (2 ^ k - 1)) ((BSO (zfl (WB g k) tb (32 * n)) n k (LW (zfl (WB g k) tb (32 * n)) (zfl (MY g n) my k) n k n (2 ^ k - 1)) (zfl (MY g n) my k, LTA (zfl (WB g k) tb (32 * n)) (zfl (MY g n) my k) n k lt n) (j)).1 j) j (BSO (zfl (WB g k) tb (32 * n)) n k (LW (zfl (WB g k) tb (32 * n)) (zfl (MY g n) my k) n k n (2 ^ k - 1)) (zfl (MY g n) my k, LTA (zfl (WB g k) tb (32 * n)) (zfl (MY g n) my k) n k lt n) (j)) (i)).2.1) th) (n := 9) (lv_re (lv_sub hl [3, 4, 5, 2, 1, 0] rfl) (by rfl)) (zP_re hP (by rfl)) (zD_re hD (by rfl)) hS (fun H locs ls hP hD hS hl => ?_) (fun i hi ih_32 H locs ls hP hD hS hl => ?_)
    · have hl : lv_has ls 6 [(0, .ref (am 0)), (1, .int (LW (zfl (WB g k) tb (32 * n)) (zfl (MY g n) my k) n k n (2 ^ k - 1))), (2, .int (nI (j))), (3, .int (((BSO (zfl (WB g k) tb (32 * n)) n k (LW (zfl (WB g k) tb (32 * n)) (zfl (MY g n) my k) n k n (2 ^ k - 1)) (zfl (MY g n) my k, LTA (zfl (WB g k) tb (32 * n)) (zfl (MY g n) my k) n k lt n) (j)).1 j))), (4, .int (zb (BSI (zfl (WB g k) tb (32 * n)) n k (LW (zfl (WB g k) tb (32 * n)) (zfl (MY g n) my k) n k n (2 ^ k - 1)) ((BSO (zfl (WB g k) tb (32 * n)) n k (LW (zfl (WB g k) tb (32 * n)) (zfl (MY g n) my k) n k n (2 ^ k - 1)) (zfl (MY g n) my k, LTA (zfl (WB g k) tb (32 * n)) (zfl (MY g n) my k) n k lt n) (j)).1 j) j (BSO (zfl (WB g k) tb (32 * n)) n k (LW (zfl (WB g k) tb (32 * n)) (zfl (MY g n) my k) n k n (2 ^ k - 1)) (zfl (MY g n) my k, LTA (zfl (WB g k) tb (32 * n)) (zfl (MY g n) my k) n k lt n) (j)) (9)).2.2)), (5, .int (nI (9)))] := hl
      have hP : va_P D vwCl (mws cI am g n k (zfl (WB g k) tb (32 * n)) ((BSI (zfl (WB g k) tb (32 * n)) n k (LW (zfl (WB g k) tb (32 * n)) (zfl (MY g n) my k) n k n (2 ^ k - 1)) ((BSO (zfl (WB g k) tb (32 * n)) n k (LW (zfl (WB g k) tb (32 * n)) (zfl (MY g n) my k) n k n (2 ^ k - 1)) (zfl (MY g n) my k, LTA (zfl (WB g k) tb (32 * n)) (zfl (MY g n) my k) n k lt n) (j)).1 j) j (BSO (zfl (WB g k) tb (32 * n)) n k (LW (zfl (WB g k) tb (32 * n)) (zfl (MY g n) my k) n k n (2 ^ k - 1)) (zfl (MY g n) my k, LTA (zfl (WB g k) tb (32 * n)) (zfl (MY g n) my k) n k lt n) (j)) (9)).1) ((BSI (zfl (WB g k) tb (32 * n)) n k (LW (zfl (WB g k) tb (32 * n)) (zfl (MY g n) my k) n k n (2 ^ k - 1)) ((BSO (zfl (WB g k) tb (32 * n)) n k (LW (zfl (WB g k) tb (32 * n)) (zfl (MY g n) my k) n k n (2 ^ k - 1)) (zfl (MY g n) my k, LTA (zfl (WB g k) tb (32 * n)) (zfl (MY g n) my k) n k lt n) (j)).1 j) j (BSO (zfl (WB g k) tb (32 * n)) n k (LW (zfl (WB g k) tb (32 * n)) (zfl (MY g n) my k) n k n (2 ^ k - 1)) (zfl (MY g n) my k, LTA (zfl (WB g k) tb (32 * n)) (zfl (MY g n) my k) n k lt n) (j)) (9)).2.1) th) H := hP
      have hD : va_D A (mws cI am g n k (zfl (WB g k) tb (32 * n)) ((BSI (zfl (WB g k) tb (32 * n)) n k (LW (zfl (WB g k) tb (32 * n)) (zfl (MY g n) my k) n k n (2 ^ k - 1)) ((BSO (zfl (WB g k) tb (32 * n)) n k (LW (zfl (WB g k) tb (32 * n)) (zfl (MY g n) my k) n k n (2 ^ k - 1)) (zfl (MY g n) my k, LTA (zfl (WB g k) tb (32 * n)) (zfl (MY g n) my k) n k lt n) (j)).1 j) j (BSO (zfl (WB g k) tb (32 * n)) n k (LW (zfl (WB g k) tb (32 * n)) (zfl (MY g n) my k) n k n (2 ^ k - 1)) (zfl (MY g n) my k, LTA (zfl (WB g k) tb (32 * n)) (zfl (MY g n) my k) n k lt n) (j)) (9)).1) ((BSI (zfl (WB g k) tb (32 * n)) n k (LW (zfl (WB g k) tb (32 * n)) (zfl (MY g n) my k) n k n (2 ^ k - 1)) ((BSO (zfl (WB g k) tb (32 * n)) n k (LW (zfl (WB g k) tb (32 * n)) (zfl (MY g n) my k) n k n (2 ^ k - 1)) (zfl (MY g n) my k, LTA (zfl (WB g k) tb (32 * n)) (zfl (MY g n) my k) n k lt n) (j)).1 j) j (BSO (zfl (WB g k) tb (32 * n)) n k (LW (zfl (WB g k) tb (32 * n)) (zfl (MY g n) my k) n k n (2 ^ k - 1)) (zfl (MY g n) my k, LTA (zfl (WB g k) tb (32 * n)) (zfl (MY g n) my k) n k lt n) (j)) (9)).2.1) th) := hD
      refine lv_iload hx hb dX4_bests_32 (lv_at hl 5 rfl) ?_
      refine lv_bipush (v := 9) hx hb dX4_bests_34 (by decide) ?_
      refine lv_icmp_ge (tgt := 85) hx hb dX4_bests_36 (by decide) (fun c_7 => ?_) (fun c_7 => absurd (zle_refl (nI 9)) c_7)
      refine lv_iinc (v := nI ((j) + 1)) (lv' := [(2, .int (nI ((j) + 1))), (0, .ref (am 0)), (1, .int (LW (zfl (WB g k) tb (32 * n)) (zfl (MY g n) my k) n k n (2 ^ k - 1))), (3, .int (((BSO (zfl (WB g k) tb (32 * n)) n k (LW (zfl (WB g k) tb (32 * n)) (zfl (MY g n) my k) n k n (2 ^ k - 1)) (zfl (MY g n) my k, LTA (zfl (WB g k) tb (32 * n)) (zfl (MY g n) my k) n k lt n) (j)).1 j))), (4, .int (zb (BSI (zfl (WB g k) tb (32 * n)) n k (LW (zfl (WB g k) tb (32 * n)) (zfl (MY g n) my k) n k n (2 ^ k - 1)) ((BSO (zfl (WB g k) tb (32 * n)) n k (LW (zfl (WB g k) tb (32 * n)) (zfl (MY g n) my k) n k n (2 ^ k - 1)) (zfl (MY g n) my k, LTA (zfl (WB g k) tb (32 * n)) (zfl (MY g n) my k) n k lt n) (j)).1 j) j (BSO (zfl (WB g k) tb (32 * n)) n k (LW (zfl (WB g k) tb (32 * n)) (zfl (MY g n) my k) n k n (2 ^ k - 1)) (zfl (MY g n) my k, LTA (zfl (WB g k) tb (32 * n)) (zfl (MY g n) my k) n k lt n) (j)) (9)).2.2)), (5, .int (nI (9)))]) hx hb dX4_bests_85 hl (k := 2) rfl (zinc _) (by decide) rfl (fun ls hl => ?_)
      refine lv_goto (tgt := 11) hx hb dX4_bests_88 (by decide) ?_
      exact ih_11 H locs ls (zP_re hP (by rfl)) (zD_re hD (by rfl)) hS (lv_re (lv_sub hl [1, 2, 0] rfl) (by first | rfl | (simp only [c_6, c_7]; done) | (simp only [c_6, c_7]; rfl) | (simp [c_6, c_7]; done)))
    · have hl : lv_has ls 6 [(0, .ref (am 0)), (1, .int (LW (zfl (WB g k) tb (32 * n)) (zfl (MY g n) my k) n k n (2 ^ k - 1))), (2, .int (nI (j))), (3, .int (((BSO (zfl (WB g k) tb (32 * n)) n k (LW (zfl (WB g k) tb (32 * n)) (zfl (MY g n) my k) n k n (2 ^ k - 1)) (zfl (MY g n) my k, LTA (zfl (WB g k) tb (32 * n)) (zfl (MY g n) my k) n k lt n) (j)).1 j))), (4, .int (zb (BSI (zfl (WB g k) tb (32 * n)) n k (LW (zfl (WB g k) tb (32 * n)) (zfl (MY g n) my k) n k n (2 ^ k - 1)) ((BSO (zfl (WB g k) tb (32 * n)) n k (LW (zfl (WB g k) tb (32 * n)) (zfl (MY g n) my k) n k n (2 ^ k - 1)) (zfl (MY g n) my k, LTA (zfl (WB g k) tb (32 * n)) (zfl (MY g n) my k) n k lt n) (j)).1 j) j (BSO (zfl (WB g k) tb (32 * n)) n k (LW (zfl (WB g k) tb (32 * n)) (zfl (MY g n) my k) n k n (2 ^ k - 1)) (zfl (MY g n) my k, LTA (zfl (WB g k) tb (32 * n)) (zfl (MY g n) my k) n k lt n) (j)) (i)).2.2)), (5, .int (nI (i)))] := hl
      have hP : va_P D vwCl (mws cI am g n k (zfl (WB g k) tb (32 * n)) ((BSI (zfl (WB g k) tb (32 * n)) n k (LW (zfl (WB g k) tb (32 * n)) (zfl (MY g n) my k) n k n (2 ^ k - 1)) ((BSO (zfl (WB g k) tb (32 * n)) n k (LW (zfl (WB g k) tb (32 * n)) (zfl (MY g n) my k) n k n (2 ^ k - 1)) (zfl (MY g n) my k, LTA (zfl (WB g k) tb (32 * n)) (zfl (MY g n) my k) n k lt n) (j)).1 j) j (BSO (zfl (WB g k) tb (32 * n)) n k (LW (zfl (WB g k) tb (32 * n)) (zfl (MY g n) my k) n k n (2 ^ k - 1)) (zfl (MY g n) my k, LTA (zfl (WB g k) tb (32 * n)) (zfl (MY g n) my k) n k lt n) (j)) (i)).1) ((BSI (zfl (WB g k) tb (32 * n)) n k (LW (zfl (WB g k) tb (32 * n)) (zfl (MY g n) my k) n k n (2 ^ k - 1)) ((BSO (zfl (WB g k) tb (32 * n)) n k (LW (zfl (WB g k) tb (32 * n)) (zfl (MY g n) my k) n k n (2 ^ k - 1)) (zfl (MY g n) my k, LTA (zfl (WB g k) tb (32 * n)) (zfl (MY g n) my k) n k lt n) (j)).1 j) j (BSO (zfl (WB g k) tb (32 * n)) n k (LW (zfl (WB g k) tb (32 * n)) (zfl (MY g n) my k) n k n (2 ^ k - 1)) (zfl (MY g n) my k, LTA (zfl (WB g k) tb (32 * n)) (zfl (MY g n) my k) n k lt n) (j)) (i)).2.1) th) H := hP
      have hD : va_D A (mws cI am g n k (zfl (WB g k) tb (32 * n)) ((BSI (zfl (WB g k) tb (32 * n)) n k (LW (zfl (WB g k) tb (32 * n)) (zfl (MY g n) my k) n k n (2 ^ k - 1)) ((BSO (zfl (WB g k) tb (32 * n)) n k (LW (zfl (WB g k) tb (32 * n)) (zfl (MY g n) my k) n k n (2 ^ k - 1)) (zfl (MY g n) my k, LTA (zfl (WB g k) tb (32 * n)) (zfl (MY g n) my k) n k lt n) (j)).1 j) j (BSO (zfl (WB g k) tb (32 * n)) n k (LW (zfl (WB g k) tb (32 * n)) (zfl (MY g n) my k) n k n (2 ^ k - 1)) (zfl (MY g n) my k, LTA (zfl (WB g k) tb (32 * n)) (zfl (MY g n) my k) n k lt n) (j)) (i)).1) ((BSI (zfl (WB g k) tb (32 * n)) n k (LW (zfl (WB g k) tb (32 * n)) (zfl (MY g n) my k) n k n (2 ^ k - 1)) ((BSO (zfl (WB g k) tb (32 * n)) n k (LW (zfl (WB g k) tb (32 * n)) (zfl (MY g n) my k) n k n (2 ^ k - 1)) (zfl (MY g n) my k, LTA (zfl (WB g k) tb (32 * n)) (zfl (MY g n) my k) n k lt n) (j)).1 j) j (BSO (zfl (WB g k) tb (32 * n)) n k (LW (zfl (WB g k) tb (32 * n)) (zfl (MY g n) my k) n k n (2 ^ k - 1)) (zfl (MY g n) my k, LTA (zfl (WB g k) tb (32 * n)) (zfl (MY g n) my k) n k lt n) (j)) (i)).2.1) th) := hD
      refine lv_iload hx hb dX4_bests_32 (lv_at hl 5 rfl) ?_
      refine lv_bipush (v := 9) hx hb dX4_bests_34 (by decide) ?_
      refine lv_icmp_ge (tgt := 85) hx hb dX4_bests_36 (by decide) (fun c_8 => absurd c_8 (nI_ge hi (by decide))) (fun c_8 => ?_)
      refine lv_iload hx hb dX4_bests_39 (lv_at hl 4 rfl) ?_
      refine lv_if_ne (tgt := 85) hx hb dX4_bests_41 (by decide) (fun c_9 => ?_) (fun c_9 => ?_)
      · have c_9 := zb_ne c_9
        refine lv_iinc (v := nI ((j) + 1)) (lv' := [(2, .int (nI ((j) + 1))), (0, .ref (am 0)), (1, .int (LW (zfl (WB g k) tb (32 * n)) (zfl (MY g n) my k) n k n (2 ^ k - 1))), (3, .int (((BSO (zfl (WB g k) tb (32 * n)) n k (LW (zfl (WB g k) tb (32 * n)) (zfl (MY g n) my k) n k n (2 ^ k - 1)) (zfl (MY g n) my k, LTA (zfl (WB g k) tb (32 * n)) (zfl (MY g n) my k) n k lt n) (j)).1 j))), (4, .int (zb (BSI (zfl (WB g k) tb (32 * n)) n k (LW (zfl (WB g k) tb (32 * n)) (zfl (MY g n) my k) n k n (2 ^ k - 1)) ((BSO (zfl (WB g k) tb (32 * n)) n k (LW (zfl (WB g k) tb (32 * n)) (zfl (MY g n) my k) n k n (2 ^ k - 1)) (zfl (MY g n) my k, LTA (zfl (WB g k) tb (32 * n)) (zfl (MY g n) my k) n k lt n) (j)).1 j) j (BSO (zfl (WB g k) tb (32 * n)) n k (LW (zfl (WB g k) tb (32 * n)) (zfl (MY g n) my k) n k n (2 ^ k - 1)) (zfl (MY g n) my k, LTA (zfl (WB g k) tb (32 * n)) (zfl (MY g n) my k) n k lt n) (j)) (i)).2.2)), (5, .int (nI (i)))]) hx hb dX4_bests_85 hl (k := 2) rfl (zinc _) (by decide) rfl (fun ls hl => ?_)
        refine lv_goto (tgt := 11) hx hb dX4_bests_88 (by decide) ?_
        exact ih_11 H locs ls (zP_re hP (by simp only [BSO]; rw [BSI_9 hi c_9])) (zD_re hD (by simp only [BSO]; rw [BSI_9 hi c_9])) hS (lv_re (lv_sub hl [1, 2, 0] rfl) (by first | rfl | (simp only [c_6, c_8, c_9]; done) | (simp only [c_6, c_8, c_9]; rfl) | (simp [c_6, c_8, c_9]; done)))
      · have c_9 := zb_eq c_9
        refine lv_iload_n hx hb dX4_bests_44 rfl (lv_at hl 3 rfl) ?_
        refine lv_iload hx hb dX4_bests_45 (lv_at hl 5 rfl) ?_
        refine lv_ishr hx hb dX4_bests_47 ?_
        refine lv_iconst (v := 1) hx hb dX4_bests_48 (by decide) ?_
        refine lv_iand hx hb dX4_bests_49 ?_
        refine lv_iconst (v := 1) hx hb dX4_bests_50 (by decide) ?_
        refine lv_icmp_ne (tgt := 79) hx hb dX4_bests_51 (by decide) (fun c_10 => ?_) (fun c_10 => ?_)
        · have c_10 := zhas_n1 c_10
          refine lv_iinc (v := nI ((i) + 1)) (lv' := [(5, .int (nI ((i) + 1))), (0, .ref (am 0)), (1, .int (LW (zfl (WB g k) tb (32 * n)) (zfl (MY g n) my k) n k n (2 ^ k - 1))), (2, .int (nI (j))), (3, .int (((BSO (zfl (WB g k) tb (32 * n)) n k (LW (zfl (WB g k) tb (32 * n)) (zfl (MY g n) my k) n k n (2 ^ k - 1)) (zfl (MY g n) my k, LTA (zfl (WB g k) tb (32 * n)) (zfl (MY g n) my k) n k lt n) (j)).1 j))), (4, .int (zb (BSI (zfl (WB g k) tb (32 * n)) n k (LW (zfl (WB g k) tb (32 * n)) (zfl (MY g n) my k) n k n (2 ^ k - 1)) ((BSO (zfl (WB g k) tb (32 * n)) n k (LW (zfl (WB g k) tb (32 * n)) (zfl (MY g n) my k) n k n (2 ^ k - 1)) (zfl (MY g n) my k, LTA (zfl (WB g k) tb (32 * n)) (zfl (MY g n) my k) n k lt n) (j)).1 j) j (BSO (zfl (WB g k) tb (32 * n)) n k (LW (zfl (WB g k) tb (32 * n)) (zfl (MY g n) my k) n k n (2 ^ k - 1)) (zfl (MY g n) my k, LTA (zfl (WB g k) tb (32 * n)) (zfl (MY g n) my k) n k lt n) (j)) (i)).2.2))]) hx hb dX4_bests_79 hl (k := 5) rfl (zinc _) (by decide) rfl (fun ls hl => ?_)
          refine lv_goto (tgt := 32) hx hb dX4_bests_82 (by decide) ?_
          exact ih_32 H locs ls (zP_re hP (by simp [BSI, c_6, c_8, c_9, c_10])) (zD_re hD (by simp [BSI, c_6, c_8, c_9, c_10])) hS (lv_re (lv_sub hl [1, 2, 3, 4, 5, 0] rfl) (by simp [BSI, zb, c_6, c_8, c_9, c_10]; try rfl))
        · have c_10 := zhas_1 c_10
          refine lv_aload_n hx hb dX4_bests_54 rfl (lv_at hl 0 rfl) ?_
          refine va_get (D := D) (ci := 4) (v := .ref (am 17)) (C := RX4) (T := TX4) (N := 23) hx hb hts iX4 hown hK hP 0 mws_0 rfl 20 (by decide) (hts (.fieldLink RX4 62 "CapitalReckonerModel" "may" "[I") (by decide +kernel)) (fun _ h9 => h9) rfl dX4_bests_55 ?_
          refine lv_iload_n hx hb dX4_bests_58 rfl (lv_at hl 2 rfl) ?_
          refine lv_iconst (v := 1) hx hb dX4_bests_59 (by decide) ?_
          refine lv_iload hx hb dX4_bests_60 (lv_at hl 5 rfl) ?_
          refine lv_ishl hx hb dX4_bests_62 ?_
          refine ziast (f2 := upd ((BSI (zfl (WB g k) tb (32 * n)) n k (LW (zfl (WB g k) tb (32 * n)) (zfl (MY g n) my k) n k n (2 ^ k - 1)) ((BSO (zfl (WB g k) tb (32 * n)) n k (LW (zfl (WB g k) tb (32 * n)) (zfl (MY g n) my k) n k n (2 ^ k - 1)) (zfl (MY g n) my k, LTA (zfl (WB g k) tb (32 * n)) (zfl (MY g n) my k) n k lt n) (j)).1 j) j (BSO (zfl (WB g k) tb (32 * n)) n k (LW (zfl (WB g k) tb (32 * n)) (zfl (MY g n) my k) n k n (2 ^ k - 1)) (zfl (MY g n) my k, LTA (zfl (WB g k) tb (32 * n)) (zfl (MY g n) my k) n k lt n) (j)) (i)).1) j ((1 : Int32) <<< ((nI (i)) &&& 31))) hx hb hK hP hD hS 17 0 mws_17 rfl (vp_in_nI (show j < 5 by have := hok.k; omega) (by decide)) (by rw [nI_clamp (by have := hok.k; omega)]) dX4_bests_63 (fun H locs hP hD hS => ?_)
          have hP : va_P D vwCl (mws cI am g n k (zfl (WB g k) tb (32 * n)) (upd ((BSI (zfl (WB g k) tb (32 * n)) n k (LW (zfl (WB g k) tb (32 * n)) (zfl (MY g n) my k) n k n (2 ^ k - 1)) ((BSO (zfl (WB g k) tb (32 * n)) n k (LW (zfl (WB g k) tb (32 * n)) (zfl (MY g n) my k) n k n (2 ^ k - 1)) (zfl (MY g n) my k, LTA (zfl (WB g k) tb (32 * n)) (zfl (MY g n) my k) n k lt n) (j)).1 j) j (BSO (zfl (WB g k) tb (32 * n)) n k (LW (zfl (WB g k) tb (32 * n)) (zfl (MY g n) my k) n k n (2 ^ k - 1)) (zfl (MY g n) my k, LTA (zfl (WB g k) tb (32 * n)) (zfl (MY g n) my k) n k lt n) (j)) (i)).1) j ((1 : Int32) <<< ((nI (i)) &&& 31))) ((BSI (zfl (WB g k) tb (32 * n)) n k (LW (zfl (WB g k) tb (32 * n)) (zfl (MY g n) my k) n k n (2 ^ k - 1)) ((BSO (zfl (WB g k) tb (32 * n)) n k (LW (zfl (WB g k) tb (32 * n)) (zfl (MY g n) my k) n k n (2 ^ k - 1)) (zfl (MY g n) my k, LTA (zfl (WB g k) tb (32 * n)) (zfl (MY g n) my k) n k lt n) (j)).1 j) j (BSO (zfl (WB g k) tb (32 * n)) n k (LW (zfl (WB g k) tb (32 * n)) (zfl (MY g n) my k) n k n (2 ^ k - 1)) (zfl (MY g n) my k, LTA (zfl (WB g k) tb (32 * n)) (zfl (MY g n) my k) n k lt n) (j)) (i)).2.1) th) H := zP_re hP (mws_s17).symm
          have hD : va_D A (mws cI am g n k (zfl (WB g k) tb (32 * n)) (upd ((BSI (zfl (WB g k) tb (32 * n)) n k (LW (zfl (WB g k) tb (32 * n)) (zfl (MY g n) my k) n k n (2 ^ k - 1)) ((BSO (zfl (WB g k) tb (32 * n)) n k (LW (zfl (WB g k) tb (32 * n)) (zfl (MY g n) my k) n k n (2 ^ k - 1)) (zfl (MY g n) my k, LTA (zfl (WB g k) tb (32 * n)) (zfl (MY g n) my k) n k lt n) (j)).1 j) j (BSO (zfl (WB g k) tb (32 * n)) n k (LW (zfl (WB g k) tb (32 * n)) (zfl (MY g n) my k) n k n (2 ^ k - 1)) (zfl (MY g n) my k, LTA (zfl (WB g k) tb (32 * n)) (zfl (MY g n) my k) n k lt n) (j)) (i)).1) j ((1 : Int32) <<< ((nI (i)) &&& 31))) ((BSI (zfl (WB g k) tb (32 * n)) n k (LW (zfl (WB g k) tb (32 * n)) (zfl (MY g n) my k) n k n (2 ^ k - 1)) ((BSO (zfl (WB g k) tb (32 * n)) n k (LW (zfl (WB g k) tb (32 * n)) (zfl (MY g n) my k) n k n (2 ^ k - 1)) (zfl (MY g n) my k, LTA (zfl (WB g k) tb (32 * n)) (zfl (MY g n) my k) n k lt n) (j)).1 j) j (BSO (zfl (WB g k) tb (32 * n)) n k (LW (zfl (WB g k) tb (32 * n)) (zfl (MY g n) my k) n k n (2 ^ k - 1)) (zfl (MY g n) my k, LTA (zfl (WB g k) tb (32 * n)) (zfl (MY g n) my k) n k lt n) (j)) (i)).2.1) th) := zD_re hD (mws_s17).symm
          refine lv_aload_n hx hb dX4_bests_64 rfl (lv_at hl 0 rfl) ?_
          refine zcalli (va_runV (As := []) (rest := []) ⟨hx, hb, hml, hown, hts⟩ (zX4_leastWhole l D cI cL cE cP am g n k (zfl (WB g k) tb (32 * n)) (upd ((BSI (zfl (WB g k) tb (32 * n)) n k (LW (zfl (WB g k) tb (32 * n)) (zfl (MY g n) my k) n k n (2 ^ k - 1)) ((BSO (zfl (WB g k) tb (32 * n)) n k (LW (zfl (WB g k) tb (32 * n)) (zfl (MY g n) my k) n k n (2 ^ k - 1)) (zfl (MY g n) my k, LTA (zfl (WB g k) tb (32 * n)) (zfl (MY g n) my k) n k lt n) (j)).1 j) j (BSO (zfl (WB g k) tb (32 * n)) n k (LW (zfl (WB g k) tb (32 * n)) (zfl (MY g n) my k) n k n (2 ^ k - 1)) (zfl (MY g n) my k, LTA (zfl (WB g k) tb (32 * n)) (zfl (MY g n) my k) n k lt n) (j)) (i)).1) j ((1 : Int32) <<< ((nI (i)) &&& 31))) ((BSI (zfl (WB g k) tb (32 * n)) n k (LW (zfl (WB g k) tb (32 * n)) (zfl (MY g n) my k) n k n (2 ^ k - 1)) ((BSO (zfl (WB g k) tb (32 * n)) n k (LW (zfl (WB g k) tb (32 * n)) (zfl (MY g n) my k) n k n (2 ^ k - 1)) (zfl (MY g n) my k, LTA (zfl (WB g k) tb (32 * n)) (zfl (MY g n) my k) n k lt n) (j)).1 j) j (BSO (zfl (WB g k) tb (32 * n)) n k (LW (zfl (WB g k) tb (32 * n)) (zfl (MY g n) my k) n k n (2 ^ k - 1)) (zfl (MY g n) my k, LTA (zfl (WB g k) tb (32 * n)) (zfl (MY g n) my k) n k lt n) (j)) (i)).2.1) th hok H.size) (cwV 0 hts gX4_bests_X4_leastWhole rfl rfl rfl (by decide +kernel) ⟨Nat.le_of_ble_eq_true rfl, Nat.le_of_ble_eq_true rfl⟩) ⟨zPw_blind, va_recv hK hP (ci := 4) (q0 := 0) rfl mws_0, zPw_mk hE hP hD⟩ rfl rfl hl.1 rfl (lv_room (Nat.le_of_ble_eq_true rfl)) dX4_bests_65 ⟨Nat.le_of_ble_eq_true rfl, Nat.le_of_ble_eq_true rfl⟩) hD hS hA (fun r_11 H locs e_12 hP hD hS => ?_)
          obtain rfl := e_12
          have hP : va_P D vwCl (mws cI am g n k (zfl (WB g k) tb (32 * n)) (upd ((BSI (zfl (WB g k) tb (32 * n)) n k (LW (zfl (WB g k) tb (32 * n)) (zfl (MY g n) my k) n k n (2 ^ k - 1)) ((BSO (zfl (WB g k) tb (32 * n)) n k (LW (zfl (WB g k) tb (32 * n)) (zfl (MY g n) my k) n k n (2 ^ k - 1)) (zfl (MY g n) my k, LTA (zfl (WB g k) tb (32 * n)) (zfl (MY g n) my k) n k lt n) (j)).1 j) j (BSO (zfl (WB g k) tb (32 * n)) n k (LW (zfl (WB g k) tb (32 * n)) (zfl (MY g n) my k) n k n (2 ^ k - 1)) (zfl (MY g n) my k, LTA (zfl (WB g k) tb (32 * n)) (zfl (MY g n) my k) n k lt n) (j)) (i)).1) j ((1 : Int32) <<< ((nI (i)) &&& 31))) (LTA (zfl (WB g k) tb (32 * n)) (upd ((BSI (zfl (WB g k) tb (32 * n)) n k (LW (zfl (WB g k) tb (32 * n)) (zfl (MY g n) my k) n k n (2 ^ k - 1)) ((BSO (zfl (WB g k) tb (32 * n)) n k (LW (zfl (WB g k) tb (32 * n)) (zfl (MY g n) my k) n k n (2 ^ k - 1)) (zfl (MY g n) my k, LTA (zfl (WB g k) tb (32 * n)) (zfl (MY g n) my k) n k lt n) (j)).1 j) j (BSO (zfl (WB g k) tb (32 * n)) n k (LW (zfl (WB g k) tb (32 * n)) (zfl (MY g n) my k) n k n (2 ^ k - 1)) (zfl (MY g n) my k, LTA (zfl (WB g k) tb (32 * n)) (zfl (MY g n) my k) n k lt n) (j)) (i)).1) j ((1 : Int32) <<< ((nI (i)) &&& 31))) n k ((BSI (zfl (WB g k) tb (32 * n)) n k (LW (zfl (WB g k) tb (32 * n)) (zfl (MY g n) my k) n k n (2 ^ k - 1)) ((BSO (zfl (WB g k) tb (32 * n)) n k (LW (zfl (WB g k) tb (32 * n)) (zfl (MY g n) my k) n k n (2 ^ k - 1)) (zfl (MY g n) my k, LTA (zfl (WB g k) tb (32 * n)) (zfl (MY g n) my k) n k lt n) (j)).1 j) j (BSO (zfl (WB g k) tb (32 * n)) n k (LW (zfl (WB g k) tb (32 * n)) (zfl (MY g n) my k) n k n (2 ^ k - 1)) (zfl (MY g n) my k, LTA (zfl (WB g k) tb (32 * n)) (zfl (MY g n) my k) n k lt n) (j)) (i)).2.1) n) th) H := hP
          have hD : va_D A (mws cI am g n k (zfl (WB g k) tb (32 * n)) (upd ((BSI (zfl (WB g k) tb (32 * n)) n k (LW (zfl (WB g k) tb (32 * n)) (zfl (MY g n) my k) n k n (2 ^ k - 1)) ((BSO (zfl (WB g k) tb (32 * n)) n k (LW (zfl (WB g k) tb (32 * n)) (zfl (MY g n) my k) n k n (2 ^ k - 1)) (zfl (MY g n) my k, LTA (zfl (WB g k) tb (32 * n)) (zfl (MY g n) my k) n k lt n) (j)).1 j) j (BSO (zfl (WB g k) tb (32 * n)) n k (LW (zfl (WB g k) tb (32 * n)) (zfl (MY g n) my k) n k n (2 ^ k - 1)) (zfl (MY g n) my k, LTA (zfl (WB g k) tb (32 * n)) (zfl (MY g n) my k) n k lt n) (j)) (i)).1) j ((1 : Int32) <<< ((nI (i)) &&& 31))) (LTA (zfl (WB g k) tb (32 * n)) (upd ((BSI (zfl (WB g k) tb (32 * n)) n k (LW (zfl (WB g k) tb (32 * n)) (zfl (MY g n) my k) n k n (2 ^ k - 1)) ((BSO (zfl (WB g k) tb (32 * n)) n k (LW (zfl (WB g k) tb (32 * n)) (zfl (MY g n) my k) n k n (2 ^ k - 1)) (zfl (MY g n) my k, LTA (zfl (WB g k) tb (32 * n)) (zfl (MY g n) my k) n k lt n) (j)).1 j) j (BSO (zfl (WB g k) tb (32 * n)) n k (LW (zfl (WB g k) tb (32 * n)) (zfl (MY g n) my k) n k n (2 ^ k - 1)) (zfl (MY g n) my k, LTA (zfl (WB g k) tb (32 * n)) (zfl (MY g n) my k) n k lt n) (j)) (i)).1) j ((1 : Int32) <<< ((nI (i)) &&& 31))) n k ((BSI (zfl (WB g k) tb (32 * n)) n k (LW (zfl (WB g k) tb (32 * n)) (zfl (MY g n) my k) n k n (2 ^ k - 1)) ((BSO (zfl (WB g k) tb (32 * n)) n k (LW (zfl (WB g k) tb (32 * n)) (zfl (MY g n) my k) n k n (2 ^ k - 1)) (zfl (MY g n) my k, LTA (zfl (WB g k) tb (32 * n)) (zfl (MY g n) my k) n k lt n) (j)).1 j) j (BSO (zfl (WB g k) tb (32 * n)) n k (LW (zfl (WB g k) tb (32 * n)) (zfl (MY g n) my k) n k n (2 ^ k - 1)) (zfl (MY g n) my k, LTA (zfl (WB g k) tb (32 * n)) (zfl (MY g n) my k) n k lt n) (j)) (i)).2.1) n) th) := hD
          refine lv_iload_n hx hb dX4_bests_68 rfl (lv_at hl 1 rfl) ?_
          refine lv_icmp_ne (tgt := 76) hx hb dX4_bests_69 (by decide) (fun c_13 => ?_) (fun c_13 => ?_)
          · refine lv_iconst (v := 0) hx hb dX4_bests_76 (by decide) ?_
            refine lv_istore (lv' := [(4, .int 0), (0, .ref (am 0)), (1, .int (LW (zfl (WB g k) tb (32 * n)) (zfl (MY g n) my k) n k n (2 ^ k - 1))), (2, .int (nI (j))), (3, .int (((BSO (zfl (WB g k) tb (32 * n)) n k (LW (zfl (WB g k) tb (32 * n)) (zfl (MY g n) my k) n k n (2 ^ k - 1)) (zfl (MY g n) my k, LTA (zfl (WB g k) tb (32 * n)) (zfl (MY g n) my k) n k lt n) (j)).1 j))), (5, .int (nI (i)))]) hx hb dX4_bests_77 hl (by decide) rfl (fun ls hl => ?_)
            refine lv_iinc (v := nI ((i) + 1)) (lv' := [(5, .int (nI ((i) + 1))), (4, .int 0), (0, .ref (am 0)), (1, .int (LW (zfl (WB g k) tb (32 * n)) (zfl (MY g n) my k) n k n (2 ^ k - 1))), (2, .int (nI (j))), (3, .int (((BSO (zfl (WB g k) tb (32 * n)) n k (LW (zfl (WB g k) tb (32 * n)) (zfl (MY g n) my k) n k n (2 ^ k - 1)) (zfl (MY g n) my k, LTA (zfl (WB g k) tb (32 * n)) (zfl (MY g n) my k) n k lt n) (j)).1 j)))]) hx hb dX4_bests_79 hl (k := 5) rfl (zinc _) (by decide) rfl (fun ls hl => ?_)
            refine lv_goto (tgt := 32) hx hb dX4_bests_82 (by decide) ?_
            exact ih_32 H locs ls (zP_re hP (by simp [BSI, c_6, c_8, c_9, c_10, c_13])) (zD_re hD (by simp [BSI, c_6, c_8, c_9, c_10, c_13])) hS (lv_re (lv_sub hl [2, 3, 4, 5, 1, 0] rfl) (by simp [BSI, zb, c_6, c_8, c_9, c_10, c_13]; try rfl))
          · refine lv_iconst (v := 1) hx hb dX4_bests_72 (by decide) ?_
            refine lv_goto (tgt := 77) hx hb dX4_bests_73 (by decide) ?_
            refine lv_istore (lv' := [(4, .int 1), (0, .ref (am 0)), (1, .int (LW (zfl (WB g k) tb (32 * n)) (zfl (MY g n) my k) n k n (2 ^ k - 1))), (2, .int (nI (j))), (3, .int (((BSO (zfl (WB g k) tb (32 * n)) n k (LW (zfl (WB g k) tb (32 * n)) (zfl (MY g n) my k) n k n (2 ^ k - 1)) (zfl (MY g n) my k, LTA (zfl (WB g k) tb (32 * n)) (zfl (MY g n) my k) n k lt n) (j)).1 j))), (5, .int (nI (i)))]) hx hb dX4_bests_77 hl (by decide) rfl (fun ls hl => ?_)
            refine lv_iinc (v := nI ((i) + 1)) (lv' := [(5, .int (nI ((i) + 1))), (4, .int 1), (0, .ref (am 0)), (1, .int (LW (zfl (WB g k) tb (32 * n)) (zfl (MY g n) my k) n k n (2 ^ k - 1))), (2, .int (nI (j))), (3, .int (((BSO (zfl (WB g k) tb (32 * n)) n k (LW (zfl (WB g k) tb (32 * n)) (zfl (MY g n) my k) n k n (2 ^ k - 1)) (zfl (MY g n) my k, LTA (zfl (WB g k) tb (32 * n)) (zfl (MY g n) my k) n k lt n) (j)).1 j)))]) hx hb dX4_bests_79 hl (k := 5) rfl (zinc _) (by decide) rfl (fun ls hl => ?_)
            refine lv_goto (tgt := 32) hx hb dX4_bests_82 (by decide) ?_
            exact ih_32 H locs ls (zP_re hP (by simp [BSI, c_6, c_8, c_9, c_10, c_13])) (zD_re hD (by simp [BSI, c_6, c_8, c_9, c_10, c_13])) hS (lv_re (lv_sub hl [2, 3, 4, 5, 1, 0] rfl) (by simp [BSI, zb, c_6, c_8, c_9, c_10, c_13]; try rfl))
set_option maxHeartbeats 4000000 in
set_option maxRecDepth 100000 in
theorem zX4_setOf (l : Launch) (D : va_G) (cI cL cE cP : ClassId) (am : Nat → Nat) (g : Nat → Nat → Int32) (n k : Nat) (tb my lt : Nat → Int32) (th : Int32) (hok : zOk g n k) (e0 : Int32) : Met l yX4_setOf wsX4_setOf ({ frames := 0, cells := 0, slots := 0, locals := 0 }) (zPr D cI cL cE cP (mws cI am g n k tb my lt th) [.ref (am 0), .int e0]) (vp_Si (fun r : Int32 => r = stL my e0 k)) 0 0 (fun _ => False) := by
  refine Met.ofW (cc := cX4_setOf) (maxL := 4) (ret := (some .int)) (by decide) rfl ?_
  intro p e s m args below meth c s₁ B hml hv
  obtain ⟨rfl, hE, hP⟩ := hv
  have hx := B.exec
  have hb := B.bytes
  have hr := B.returns
  have hts := atoms_spec (ws := wsX4_setOf) B.pre
  have hown : s.vm.findClass RX4 = some m.cls := findClass_of_methodNamed B.named
  have hlocks := B.notSynchronized
  have hK := hE.1
  have iX4 : ∀ w ∈ wsX40, w ∈ wsX4_setOf := by decide +kernel
  have hl := lv_entry ([.ref (am 0), .int e0]) (n := 4) (Nat.le_of_ble_eq_true rfl)
  rw [lg_entry_eq]
  generalize (lg_sl ([.ref (am 0), .int e0]) ++ List.replicate (4 - (lg_sl ([.ref (am 0), .int e0])).length) Slot.unset).toArray = ls at hl ⊢
  have hl : lv_has ls 4 [(0, .ref (am 0)), (1, .int e0)] := hl
  refine lv_iconst (v := 0) hx hb dX4_setOf_0 (by decide) ?_
  refine lv_istore_n (lv' := [(2, .int 0), (0, .ref (am 0)), (1, .int e0)]) hx hb dX4_setOf_1 rfl hl (by decide) rfl (fun ls hl => ?_)
  refine lv_iconst (v := 0) hx hb dX4_setOf_2 (by decide) ?_
  refine lv_istore_n (lv' := [(3, .int 0), (2, .int 0), (0, .ref (am 0)), (1, .int e0)]) hx hb dX4_setOf_3 rfl hl (by decide) rfl (fun ls hl => ?_)
  refine zloop (nL := 4) (lv := fun j => [(0, .ref (am 0)), (1, .int e0), (2, .int (stL my e0 (j))), (3, .int (nI (j)))]) (n := k) (lv_re (lv_sub hl [2, 3, 1, 0] rfl) (by first | rfl | (simp only [stL, nI_0]; done) | (simp only [stL, nI_0]; rfl) | (simp [stL, nI_0]; done))) (fun ls hl => ?_) (fun j hj ih_4 ls hl => ?_)
  · have hl : lv_has ls 4 [(0, .ref (am 0)), (1, .int e0), (2, .int (stL my e0 (k))), (3, .int (nI (k)))] := hl
    refine lv_iload_n hx hb dX4_setOf_4 rfl (lv_at hl 3 rfl) ?_
    refine lv_aload_n hx hb dX4_setOf_5 rfl (lv_at hl 0 rfl) ?_
    refine va_get (D := D) (ci := 4) (v := .int (nI k)) (C := RX4) (T := TX4) (N := 23) hx hb hts iX4 hown hK hP 0 mws_0 rfl 13 (by decide) (hts (.fieldLink RX4 78 "CapitalReckonerModel" "pieces" "I") (by decide +kernel)) (fun _ h9 => h9) rfl dX4_setOf_6 ?_
    refine lv_icmp_ge (tgt := 40) hx hb dX4_setOf_9 (by decide) (fun c_1 => ?_) (fun c_1 => absurd (zle_refl (nI k)) c_1)
    refine lv_iload_n hx hb dX4_setOf_40 rfl (lv_at hl 2 rfl) ?_
    exact W.iret (v := stL my e0 (k)) hx hb hr (fun t ht hW => ⟨_, rfl, (by first | rfl | (simp only [c_1]; done) | (simp only [c_1]; rfl) | (simp [c_1]; done)), ht⟩) (fun _ h => nomatch h) dX4_setOf_41
  · have hl : lv_has ls 4 [(0, .ref (am 0)), (1, .int e0), (2, .int (stL my e0 (j))), (3, .int (nI (j)))] := hl
    refine lv_iload_n hx hb dX4_setOf_4 rfl (lv_at hl 3 rfl) ?_
    refine lv_aload_n hx hb dX4_setOf_5 rfl (lv_at hl 0 rfl) ?_
    refine va_get (D := D) (ci := 4) (v := .int (nI k)) (C := RX4) (T := TX4) (N := 23) hx hb hts iX4 hown hK hP 0 mws_0 rfl 13 (by decide) (hts (.fieldLink RX4 78 "CapitalReckonerModel" "pieces" "I") (by decide +kernel)) (fun _ h9 => h9) rfl dX4_setOf_6 ?_
    refine lv_icmp_ge (tgt := 40) hx hb dX4_setOf_9 (by decide) (fun c_2 => absurd c_2 (nI_ge hj (by have := hok.k; omega))) (fun c_2 => ?_)
    refine lv_iload_n hx hb dX4_setOf_12 rfl (lv_at hl 2 rfl) ?_
    refine lv_aload_n hx hb dX4_setOf_13 rfl (lv_at hl 0 rfl) ?_
    refine va_get (D := D) (ci := 4) (v := .ref (am 17)) (C := RX4) (T := TX4) (N := 23) hx hb hts iX4 hown hK hP 0 mws_0 rfl 20 (by decide) (hts (.fieldLink RX4 62 "CapitalReckonerModel" "may" "[I") (by decide +kernel)) (fun _ h9 => h9) rfl dX4_setOf_14 ?_
    refine lv_iload_n hx hb dX4_setOf_17 rfl (lv_at hl 3 rfl) ?_
    refine ziald (v := my j) hx hb hK hP 17 0 mws_17 rfl (vp_in_nI (show j < 5 by have := hok.k; omega) (by decide)) (by rw [nI_clamp (by have := hok.k; omega)]) dX4_setOf_18 ?_
    refine lv_iconst (v := 1) hx hb dX4_setOf_19 (by decide) ?_
    refine lv_iload_n hx hb dX4_setOf_20 rfl (lv_at hl 1 rfl) ?_
    refine lv_ishl hx hb dX4_setOf_21 ?_
    refine lv_icmp_ne (tgt := 31) hx hb dX4_setOf_22 (by decide) (fun c_3 => ?_) (fun c_3 => ?_)
    · refine lv_iconst (v := 0) hx hb dX4_setOf_31 (by decide) ?_
      refine lv_ior hx hb dX4_setOf_32 ?_
      refine lv_istore_n (lv' := [(2, .int ((stL my e0 (j)) ||| 0)), (0, .ref (am 0)), (1, .int e0), (3, .int (nI (j)))]) hx hb dX4_setOf_33 rfl hl (by decide) rfl (fun ls hl => ?_)
      refine lv_iinc (v := nI ((j) + 1)) (lv' := [(3, .int (nI ((j) + 1))), (2, .int ((stL my e0 (j)) ||| 0)), (0, .ref (am 0)), (1, .int e0)]) hx hb dX4_setOf_34 hl (k := 3) rfl (zinc _) (by decide) rfl (fun ls hl => ?_)
      refine lv_goto (tgt := 4) hx hb dX4_setOf_37 (by decide) ?_
      exact ih_4 ls (lv_re (lv_sub hl [2, 3, 1, 0] rfl) (by first | rfl | (simp only [stL, c_2, c_3]; done) | (simp only [stL, c_2, c_3]; rfl) | (simp [stL, c_2, c_3]; done)))
    · refine lv_iconst (v := 1) hx hb dX4_setOf_25 (by decide) ?_
      refine lv_iload_n hx hb dX4_setOf_26 rfl (lv_at hl 3 rfl) ?_
      refine lv_ishl hx hb dX4_setOf_27 ?_
      refine lv_goto (tgt := 32) hx hb dX4_setOf_28 (by decide) ?_
      refine lv_ior hx hb dX4_setOf_32 ?_
      refine lv_istore_n (lv' := [(2, .int ((stL my e0 (j)) ||| ((1 : Int32) <<< ((nI (j)) &&& 31)))), (0, .ref (am 0)), (1, .int e0), (3, .int (nI (j)))]) hx hb dX4_setOf_33 rfl hl (by decide) rfl (fun ls hl => ?_)
      refine lv_iinc (v := nI ((j) + 1)) (lv' := [(3, .int (nI ((j) + 1))), (2, .int ((stL my e0 (j)) ||| ((1 : Int32) <<< ((nI (j)) &&& 31)))), (0, .ref (am 0)), (1, .int e0)]) hx hb dX4_setOf_34 hl (k := 3) rfl (zinc _) (by decide) rfl (fun ls hl => ?_)
      refine lv_goto (tgt := 4) hx hb dX4_setOf_37 (by decide) ?_
      exact ih_4 ls (lv_re (lv_sub hl [2, 3, 1, 0] rfl) (by first | rfl | (simp only [stL, c_2, c_3]; done) | (simp only [stL, c_2, c_3]; rfl) | (simp [stL, c_2, c_3]; done)))
set_option maxHeartbeats 4000000 in
set_option maxRecDepth 100000 in
theorem zX4_givenTo (l : Launch) (D : va_G) (cI cL cE cP : ClassId) (am : Nat → Nat) (g : Nat → Nat → Int32) (n k : Nat) (tb my lt : Nat → Int32) (th : Int32) (hok : zOk g n k) (x : Int32) (sz : Nat) : Met l yX4_givenTo wsX4_givenTo ({ frames := 6, cells := 0, slots := 0, locals := 140 }) (zPw D cI cL cE cP (mws cI am g n k tb my lt th) sz [.ref (am 0), .int x]) (zQiX D (mws cI am g n k tb my lt th) sz (fun r : Int32 => (T_amount k x = 0 → r = gvF ((BSO (zfl (WB g k) tb (32 * n)) n k (LW (zfl (WB g k) tb (32 * n)) (zfl (MY g n) my k) n k n (2 ^ k - 1)) (zfl (MY g n) my k, LTA (zfl (WB g k) tb (32 * n)) (zfl (MY g n) my k) n k lt n) k).1) x.toNatClampNeg n n)) (fun u => mws cI am g n k u.1 u.2.1 u.2.2 (T_amount k x))) 0 0 (va_A (mws cI am g n k tb my lt th) sz) := by
  refine Met.ofW (cc := cX4_givenTo) (maxL := 3) (ret := (some .int)) (by decide) rfl ?_
  intro p e s m args below meth c s₁ B hml hv
  obtain ⟨rfl, hsz, hE, hP, hD0⟩ := hv
  subst hsz
  obtain ⟨A, hAe⟩ : ∃ A, A = va_A (mws cI am g n k tb my lt th) s.heap.size := ⟨_, rfl⟩
  have hD : va_D A (mws cI am g n k tb my lt th) := by rw [hAe]; exact hD0.self
  have hA : ∀ q : Nat, s.heap.size ≤ q → A q := fun q h => by rw [hAe]; exact Or.inr h
  have hS : va_S A s.heap s.heap [] := va_S.rf
  have hx := B.exec
  have hb := B.bytes
  have hr := B.returns
  have hts := atoms_spec (ws := wsX4_givenTo) B.pre
  have hown : s.vm.findClass RX4 = some m.cls := findClass_of_methodNamed B.named
  have hlocks := B.notSynchronized
  have hK := hE.1
  have iX4 : ∀ w ∈ wsX40, w ∈ wsX4_givenTo := by decide +kernel
  have hl := lv_entry ([.ref (am 0), .int x]) (n := 3) (Nat.le_of_ble_eq_true rfl)
  rw [lg_entry_eq]
  generalize (lg_sl ([.ref (am 0), .int x]) ++ List.replicate (3 - (lg_sl ([.ref (am 0), .int x])).length) Slot.unset).toArray = ls at hl ⊢
  have hl : lv_has ls 3 [(0, .ref (am 0)), (1, .int x)] := hl
  refine lv_aload_n hx hb dX4_givenTo_0 rfl (lv_at hl 0 rfl) ?_
  refine lv_aload_n hx hb dX4_givenTo_1 rfl (lv_at hl 0 rfl) ?_
  refine lv_iload_n hx hb dX4_givenTo_2 rfl (lv_at hl 1 rfl) ?_
  refine vp_callSi (va_Run.run (va_runV (As := [.int x]) (rest := [.ref (am 0)]) ⟨hx, hb, hml, hown, hts⟩ (zX4_isPiece l D cI cL cE cP am g n k tb my lt th hok (x)) (cwV 1 hts gX4_givenTo_X4_isPiece rfl rfl rfl (by decide +kernel) ⟨Nat.le_of_ble_eq_true rfl, Nat.le_of_ble_eq_true rfl⟩) ⟨zPr_blind, va_recv hK hP (ci := 4) (q0 := 0) rfl mws_0, zPr_mk hE hP⟩ rfl rfl hl.1 rfl (lv_room (Nat.le_of_ble_eq_true rfl)) dX4_givenTo_3 ⟨Nat.le_of_ble_eq_true rfl, Nat.le_of_ble_eq_true rfl⟩)) (fun r_1 e_2 => ?_)
  obtain rfl := e_2
  refine lv_if_eq (tgt := 13) hx hb dX4_givenTo_6 (by decide) (fun c_3 => ?_) (fun c_3 => ?_)
  · have c_3 := zb_eq c_3
    refine lv_iconst (v := 1) hx hb dX4_givenTo_13 (by decide) ?_
    refine va_put (D := D) (ci := 4) (v := .int 1) (ty := .int) (C := RX4) (T := TX4) (N := 23) hx hb hts iX4 tyX4 tyX4_ok nmX4 hown hK hP hD hS 0 mws_0 rfl 22 (by decide) (hts (.fieldLink RX4 68 "CapitalReckonerModel" "thrown" "I") (by decide +kernel)) (fun _ h9 => h9) rfl (by decide +kernel) rfl rfl (Nat.le_of_ble_eq_true rfl) dX4_givenTo_14 (fun H locs hP hD hS => ?_)
    have hP : va_P D vwCl (mws cI am g n k tb my lt 1) H := zP_re hP (mws_sth).symm
    have hD : va_D A (mws cI am g n k tb my lt 1) := zD_re hD (mws_sth).symm
    refine lv_aload_n hx hb dX4_givenTo_17 rfl (lv_at hl 0 rfl) ?_
    refine va_get (D := D) (ci := 4) (v := .int 1) (C := RX4) (T := TX4) (N := 23) hx hb hts iX4 hown hK hP 0 mws_0 rfl 22 (by decide) (hts (.fieldLink RX4 68 "CapitalReckonerModel" "thrown" "I") (by decide +kernel)) (fun _ h9 => h9) rfl dX4_givenTo_18 ?_
    refine lv_if_le (tgt := 26) hx hb dX4_givenTo_21 (by decide) (fun c_4 => absurd c_4 (by decide)) (fun c_4 => ?_)
    refine lv_iconst (v := 0) hx hb dX4_givenTo_24 (by decide) ?_
    have hT : T_amount k x = 1 := by simp [T_amount, c_3]
    exact ziretX (v := 0) (u := (tb, my, lt)) hx hb hr hAe (fun h => absurd (hT.symm.trans h) (by decide)) (zP_re hP (by rw [hT])) (zD_re hD (by rw [hT])) hS dX4_givenTo_25
  · have c_3 := zb_ne c_3
    refine lv_iconst (v := 0) hx hb dX4_givenTo_9 (by decide) ?_
    refine lv_goto (tgt := 14) hx hb dX4_givenTo_10 (by decide) ?_
    refine va_put (D := D) (ci := 4) (v := .int 0) (ty := .int) (C := RX4) (T := TX4) (N := 23) hx hb hts iX4 tyX4 tyX4_ok nmX4 hown hK hP hD hS 0 mws_0 rfl 22 (by decide) (hts (.fieldLink RX4 68 "CapitalReckonerModel" "thrown" "I") (by decide +kernel)) (fun _ h9 => h9) rfl (by decide +kernel) rfl rfl (Nat.le_of_ble_eq_true rfl) dX4_givenTo_14 (fun H locs hP hD hS => ?_)
    have hP : va_P D vwCl (mws cI am g n k tb my lt 0) H := zP_re hP (mws_sth).symm
    have hD : va_D A (mws cI am g n k tb my lt 0) := zD_re hD (mws_sth).symm
    refine lv_aload_n hx hb dX4_givenTo_17 rfl (lv_at hl 0 rfl) ?_
    refine va_get (D := D) (ci := 4) (v := .int 0) (C := RX4) (T := TX4) (N := 23) hx hb hts iX4 hown hK hP 0 mws_0 rfl 22 (by decide) (hts (.fieldLink RX4 68 "CapitalReckonerModel" "thrown" "I") (by decide +kernel)) (fun _ h9 => h9) rfl dX4_givenTo_18 ?_
    refine lv_if_le (tgt := 26) hx hb dX4_givenTo_21 (by decide) (fun c_5 => ?_) (fun c_5 => absurd c_5 (by decide))
    refine lv_aload_n hx hb dX4_givenTo_26 rfl (lv_at hl 0 rfl) ?_
    refine zcalli (va_runV (As := []) (rest := []) ⟨hx, hb, hml, hown, hts⟩ (zX4_bests l D cI cL cE cP am g n k tb my lt 0 hok H.size) (cwV 0 hts gX4_givenTo_X4_bests rfl rfl rfl (by decide +kernel) ⟨Nat.le_of_ble_eq_true rfl, Nat.le_of_ble_eq_true rfl⟩) ⟨zPw_blind, va_recv hK hP (ci := 4) (q0 := 0) rfl mws_0, zPw_mk hE hP hD⟩ rfl rfl hl.1 rfl (lv_room (Nat.le_of_ble_eq_true rfl)) dX4_givenTo_27 ⟨Nat.le_of_ble_eq_true rfl, Nat.le_of_ble_eq_true rfl⟩) hD hS hA (fun r_6 H locs e_7 hP hD hS => ?_)
    obtain rfl := e_7
    have hP : va_P D vwCl (mws cI am g n k (zfl (WB g k) tb (32 * n)) ((BSO (zfl (WB g k) tb (32 * n)) n k (LW (zfl (WB g k) tb (32 * n)) (zfl (MY g n) my k) n k n (2 ^ k - 1)) (zfl (MY g n) my k, LTA (zfl (WB g k) tb (32 * n)) (zfl (MY g n) my k) n k lt n) k).1) ((BSO (zfl (WB g k) tb (32 * n)) n k (LW (zfl (WB g k) tb (32 * n)) (zfl (MY g n) my k) n k n (2 ^ k - 1)) (zfl (MY g n) my k, LTA (zfl (WB g k) tb (32 * n)) (zfl (MY g n) my k) n k lt n) k).2) 0) H := hP
    have hD : va_D A (mws cI am g n k (zfl (WB g k) tb (32 * n)) ((BSO (zfl (WB g k) tb (32 * n)) n k (LW (zfl (WB g k) tb (32 * n)) (zfl (MY g n) my k) n k n (2 ^ k - 1)) (zfl (MY g n) my k, LTA (zfl (WB g k) tb (32 * n)) (zfl (MY g n) my k) n k lt n) k).1) ((BSO (zfl (WB g k) tb (32 * n)) n k (LW (zfl (WB g k) tb (32 * n)) (zfl (MY g n) my k) n k n (2 ^ k - 1)) (zfl (MY g n) my k, LTA (zfl (WB g k) tb (32 * n)) (zfl (MY g n) my k) n k lt n) k).2) 0) := hD
    refine lv_pop hx hb dX4_givenTo_30 rfl ?_
    refine lv_iconst (v := 0) hx hb dX4_givenTo_31 (by decide) ?_
    refine lv_istore_n (lv' := [(2, .int 0), (0, .ref (am 0)), (1, .int x)]) hx hb dX4_givenTo_32 rfl hl (by decide) rfl (fun ls hl => ?_)
    refine zloopI (nL := 3) (lv := fun i => [(0, .ref (am 0)), (1, .int x), (2, .int (nI (i)))]) (n := n) (fun i => gvF ((BSO (zfl (WB g k) tb (32 * n)) n k (LW (zfl (WB g k) tb (32 * n)) (zfl (MY g n) my k) n k n (2 ^ k - 1)) (zfl (MY g n) my k, LTA (zfl (WB g k) tb (32 * n)) (zfl (MY g n) my k) n k lt n) k).1) x.toNatClampNeg n (n - (i)) = gvF ((BSO (zfl (WB g k) tb (32 * n)) n k (LW (zfl (WB g k) tb (32 * n)) (zfl (MY g n) my k) n k n (2 ^ k - 1)) (zfl (MY g n) my k, LTA (zfl (WB g k) tb (32 * n)) (zfl (MY g n) my k) n k lt n) k).1) x.toNatClampNeg n n) (by rfl) (lv_re (lv_sub hl [1, 2, 0] rfl) (by first | rfl | (simp only [nI_0]; done) | (simp only [nI_0]; rfl) | (simp [nI_0]; done))) (fun ls HI hl => ?_) (fun i hi HI ih_33 ls hl => ?_)
    · have hl : lv_has ls 3 [(0, .ref (am 0)), (1, .int x), (2, .int (nI (n)))] := hl
      refine lv_iload_n hx hb dX4_givenTo_33 rfl (lv_at hl 2 rfl) ?_
      refine lv_aload_n hx hb dX4_givenTo_34 rfl (lv_at hl 0 rfl) ?_
      refine va_get (D := D) (ci := 4) (v := .int (nI n)) (C := RX4) (T := TX4) (N := 23) hx hb hts iX4 hown hK hP 0 mws_0 rfl 4 (by decide) (hts (.fieldLink RX4 75 "CapitalReckonerModel" "exposures" "I") (by decide +kernel)) (fun _ h9 => h9) rfl dX4_givenTo_35 ?_
      refine lv_icmp_ge (tgt := 61) hx hb dX4_givenTo_38 (by decide) (fun c_8 => ?_) (fun c_8 => absurd (zle_refl (nI n)) c_8)
      refine lv_iconst (v := (-1)) hx hb dX4_givenTo_61 (by decide) ?_
      have hT : T_amount k x = 0 := by simp [T_amount, c_3, c_8]
      exact ziretX (v := -1) (u := (zfl (WB g k) tb (32 * n), (BSO (zfl (WB g k) tb (32 * n)) n k (LW (zfl (WB g k) tb (32 * n)) (zfl (MY g n) my k) n k n (2 ^ k - 1)) (zfl (MY g n) my k, LTA (zfl (WB g k) tb (32 * n)) (zfl (MY g n) my k) n k lt n) k).1, (BSO (zfl (WB g k) tb (32 * n)) n k (LW (zfl (WB g k) tb (32 * n)) (zfl (MY g n) my k) n k n (2 ^ k - 1)) (zfl (MY g n) my k, LTA (zfl (WB g k) tb (32 * n)) (zfl (MY g n) my k) n k lt n) k).2)) hx hb hr hAe (fun _ => gvF_end (by simpa using HI)) (zP_re hP (by rw [hT])) (zD_re hD (by rw [hT])) hS dX4_givenTo_62
    · have hl : lv_has ls 3 [(0, .ref (am 0)), (1, .int x), (2, .int (nI (i)))] := hl
      refine lv_iload_n hx hb dX4_givenTo_33 rfl (lv_at hl 2 rfl) ?_
      refine lv_aload_n hx hb dX4_givenTo_34 rfl (lv_at hl 0 rfl) ?_
      refine va_get (D := D) (ci := 4) (v := .int (nI n)) (C := RX4) (T := TX4) (N := 23) hx hb hts iX4 hown hK hP 0 mws_0 rfl 4 (by decide) (hts (.fieldLink RX4 75 "CapitalReckonerModel" "exposures" "I") (by decide +kernel)) (fun _ h9 => h9) rfl dX4_givenTo_35 ?_
      refine lv_icmp_ge (tgt := 61) hx hb dX4_givenTo_38 (by decide) (fun c_9 => absurd c_9 (nI_ge hi (by have := hok.n; omega))) (fun c_9 => ?_)
      refine lv_aload_n hx hb dX4_givenTo_41 rfl (lv_at hl 0 rfl) ?_
      refine va_get (D := D) (ci := 4) (v := .ref (am 17)) (C := RX4) (T := TX4) (N := 23) hx hb hts iX4 hown hK hP 0 mws_0 rfl 20 (by decide) (hts (.fieldLink RX4 62 "CapitalReckonerModel" "may" "[I") (by decide +kernel)) (fun _ h9 => h9) rfl dX4_givenTo_42 ?_
      refine lv_iload_n hx hb dX4_givenTo_45 rfl (lv_at hl 1 rfl) ?_
      refine ziald (v := ((BSO (zfl (WB g k) tb (32 * n)) n k (LW (zfl (WB g k) tb (32 * n)) (zfl (MY g n) my k) n k n (2 ^ k - 1)) (zfl (MY g n) my k, LTA (zfl (WB g k) tb (32 * n)) (zfl (MY g n) my k) n k lt n) k).1) x.toNatClampNeg) hx hb hK hP 17 0 mws_17 rfl (vp_in_le (zex_vp hok.k8 c_3) hok.k) (rfl) dX4_givenTo_46 ?_
      refine lv_iconst (v := 1) hx hb dX4_givenTo_47 (by decide) ?_
      refine lv_iload_n hx hb dX4_givenTo_48 rfl (lv_at hl 2 rfl) ?_
      refine lv_ishl hx hb dX4_givenTo_49 ?_
      refine lv_icmp_ne (tgt := 55) hx hb dX4_givenTo_50 (by decide) (fun c_10 => ?_) (fun c_10 => ?_)
      · refine lv_iinc (v := nI ((i) + 1)) (lv' := [(2, .int (nI ((i) + 1))), (0, .ref (am 0)), (1, .int x)]) hx hb dX4_givenTo_55 hl (k := 2) rfl (zinc _) (by decide) rfl (fun ls hl => ?_)
        refine lv_goto (tgt := 33) hx hb dX4_givenTo_58 (by decide) ?_
        exact ih_33 ls (gvF_step hi HI c_10) (lv_re (lv_sub hl [1, 2, 0] rfl) (by first | rfl | (simp only [c_3, c_9, c_10]; done) | (simp only [c_3, c_9, c_10]; rfl) | (simp [c_3, c_9, c_10]; done)))
      · refine lv_iload_n hx hb dX4_givenTo_53 rfl (lv_at hl 2 rfl) ?_
        have hT : T_amount k x = 0 := by simp [T_amount, c_3, c_9, c_10]
        exact ziretX (v := nI (i)) (u := (zfl (WB g k) tb (32 * n), (BSO (zfl (WB g k) tb (32 * n)) n k (LW (zfl (WB g k) tb (32 * n)) (zfl (MY g n) my k) n k n (2 ^ k - 1)) (zfl (MY g n) my k, LTA (zfl (WB g k) tb (32 * n)) (zfl (MY g n) my k) n k lt n) k).1, (BSO (zfl (WB g k) tb (32 * n)) n k (LW (zfl (WB g k) tb (32 * n)) (zfl (MY g n) my k) n k n (2 ^ k - 1)) (zfl (MY g n) my k, LTA (zfl (WB g k) tb (32 * n)) (zfl (MY g n) my k) n k lt n) k).2)) hx hb hr hAe (fun _ => gvF_hit hi (HI) c_10) (zP_re hP (by rw [hT])) (zD_re hD (by rw [hT])) hS dX4_givenTo_54
set_option maxHeartbeats 4000000 in
set_option maxRecDepth 100000 in
theorem zX4_bare (l : Launch) (D : va_G) (cI cL cE cP : ClassId) (am : Nat → Nat) (g : Nat → Nat → Int32) (n k : Nat) (tb my lt : Nat → Int32) (th : Int32) (hok : zOk g n k) (x : Int32) (sz : Nat) : Met l yX4_bare wsX4_bare ({ frames := 6, cells := 0, slots := 0, locals := 140 }) (zPw D cI cL cE cP (mws cI am g n k tb my lt th) sz [.ref (am 0), .int x]) (zQiX D (mws cI am g n k tb my lt th) sz (fun r : Int32 => (T_amount n x = 0 → r = bw g k x.toNatClampNeg (stL ((BSO (zfl (WB g k) tb (32 * n)) n k (LW (zfl (WB g k) tb (32 * n)) (zfl (MY g n) my k) n k n (2 ^ k - 1)) (zfl (MY g n) my k, LTA (zfl (WB g k) tb (32 * n)) (zfl (MY g n) my k) n k lt n) k).1) x k))) (fun u => mws cI am g n k u.1 u.2.1 u.2.2 (T_amount n x))) 0 0 (va_A (mws cI am g n k tb my lt th) sz) := by
  refine Met.ofW (cc := cX4_bare) (maxL := 2) (ret := (some .int)) (by decide) rfl ?_
  intro p e s m args below meth c s₁ B hml hv
  obtain ⟨rfl, hsz, hE, hP, hD0⟩ := hv
  subst hsz
  obtain ⟨A, hAe⟩ : ∃ A, A = va_A (mws cI am g n k tb my lt th) s.heap.size := ⟨_, rfl⟩
  have hD : va_D A (mws cI am g n k tb my lt th) := by rw [hAe]; exact hD0.self
  have hA : ∀ q : Nat, s.heap.size ≤ q → A q := fun q h => by rw [hAe]; exact Or.inr h
  have hS : va_S A s.heap s.heap [] := va_S.rf
  have hx := B.exec
  have hb := B.bytes
  have hr := B.returns
  have hts := atoms_spec (ws := wsX4_bare) B.pre
  have hown : s.vm.findClass RX4 = some m.cls := findClass_of_methodNamed B.named
  have hlocks := B.notSynchronized
  have hK := hE.1
  have iX4 : ∀ w ∈ wsX40, w ∈ wsX4_bare := by decide +kernel
  have hl := lv_entry ([.ref (am 0), .int x]) (n := 2) (Nat.le_of_ble_eq_true rfl)
  rw [lg_entry_eq]
  generalize (lg_sl ([.ref (am 0), .int x]) ++ List.replicate (2 - (lg_sl ([.ref (am 0), .int x])).length) Slot.unset).toArray = ls at hl ⊢
  have hl : lv_has ls 2 [(0, .ref (am 0)), (1, .int x)] := hl
  refine lv_aload_n hx hb dX4_bare_0 rfl (lv_at hl 0 rfl) ?_
  refine lv_aload_n hx hb dX4_bare_1 rfl (lv_at hl 0 rfl) ?_
  refine lv_iload_n hx hb dX4_bare_2 rfl (lv_at hl 1 rfl) ?_
  refine vp_callSi (va_Run.run (va_runV (As := [.int x]) (rest := [.ref (am 0)]) ⟨hx, hb, hml, hown, hts⟩ (zX4_isExposure l D cI cL cE cP am g n k tb my lt th hok (x)) (cwV 1 hts gX4_bare_X4_isExposure rfl rfl rfl (by decide +kernel) ⟨Nat.le_of_ble_eq_true rfl, Nat.le_of_ble_eq_true rfl⟩) ⟨zPr_blind, va_recv hK hP (ci := 4) (q0 := 0) rfl mws_0, zPr_mk hE hP⟩ rfl rfl hl.1 rfl (lv_room (Nat.le_of_ble_eq_true rfl)) dX4_bare_3 ⟨Nat.le_of_ble_eq_true rfl, Nat.le_of_ble_eq_true rfl⟩)) (fun r_1 e_2 => ?_)
  obtain rfl := e_2
  refine lv_if_eq (tgt := 13) hx hb dX4_bare_6 (by decide) (fun c_3 => ?_) (fun c_3 => ?_)
  · have c_3 := zb_eq c_3
    refine lv_iconst (v := 1) hx hb dX4_bare_13 (by decide) ?_
    refine va_put (D := D) (ci := 4) (v := .int 1) (ty := .int) (C := RX4) (T := TX4) (N := 23) hx hb hts iX4 tyX4 tyX4_ok nmX4 hown hK hP hD hS 0 mws_0 rfl 22 (by decide) (hts (.fieldLink RX4 68 "CapitalReckonerModel" "thrown" "I") (by decide +kernel)) (fun _ h9 => h9) rfl (by decide +kernel) rfl rfl (Nat.le_of_ble_eq_true rfl) dX4_bare_14 (fun H locs hP hD hS => ?_)
    have hP : va_P D vwCl (mws cI am g n k tb my lt 1) H := zP_re hP (mws_sth).symm
    have hD : va_D A (mws cI am g n k tb my lt 1) := zD_re hD (mws_sth).symm
    refine lv_aload_n hx hb dX4_bare_17 rfl (lv_at hl 0 rfl) ?_
    refine va_get (D := D) (ci := 4) (v := .int 1) (C := RX4) (T := TX4) (N := 23) hx hb hts iX4 hown hK hP 0 mws_0 rfl 22 (by decide) (hts (.fieldLink RX4 68 "CapitalReckonerModel" "thrown" "I") (by decide +kernel)) (fun _ h9 => h9) rfl dX4_bare_18 ?_
    refine lv_if_le (tgt := 26) hx hb dX4_bare_21 (by decide) (fun c_4 => absurd c_4 (by decide)) (fun c_4 => ?_)
    refine lv_iconst (v := 0) hx hb dX4_bare_24 (by decide) ?_
    have hT : T_amount n x = 1 := by simp [T_amount, c_3]
    exact ziretX (v := 0) (u := (tb, my, lt)) hx hb hr hAe (fun h => absurd (hT.symm.trans h) (by decide)) (zP_re hP (by rw [hT])) (zD_re hD (by rw [hT])) hS dX4_bare_25
  · have c_3 := zb_ne c_3
    refine lv_iconst (v := 0) hx hb dX4_bare_9 (by decide) ?_
    refine lv_goto (tgt := 14) hx hb dX4_bare_10 (by decide) ?_
    refine va_put (D := D) (ci := 4) (v := .int 0) (ty := .int) (C := RX4) (T := TX4) (N := 23) hx hb hts iX4 tyX4 tyX4_ok nmX4 hown hK hP hD hS 0 mws_0 rfl 22 (by decide) (hts (.fieldLink RX4 68 "CapitalReckonerModel" "thrown" "I") (by decide +kernel)) (fun _ h9 => h9) rfl (by decide +kernel) rfl rfl (Nat.le_of_ble_eq_true rfl) dX4_bare_14 (fun H locs hP hD hS => ?_)
    have hP : va_P D vwCl (mws cI am g n k tb my lt 0) H := zP_re hP (mws_sth).symm
    have hD : va_D A (mws cI am g n k tb my lt 0) := zD_re hD (mws_sth).symm
    refine lv_aload_n hx hb dX4_bare_17 rfl (lv_at hl 0 rfl) ?_
    refine va_get (D := D) (ci := 4) (v := .int 0) (C := RX4) (T := TX4) (N := 23) hx hb hts iX4 hown hK hP 0 mws_0 rfl 22 (by decide) (hts (.fieldLink RX4 68 "CapitalReckonerModel" "thrown" "I") (by decide +kernel)) (fun _ h9 => h9) rfl dX4_bare_18 ?_
    refine lv_if_le (tgt := 26) hx hb dX4_bare_21 (by decide) (fun c_5 => ?_) (fun c_5 => absurd c_5 (by decide))
    refine lv_aload_n hx hb dX4_bare_26 rfl (lv_at hl 0 rfl) ?_
    refine zcalli (va_runV (As := []) (rest := []) ⟨hx, hb, hml, hown, hts⟩ (zX4_bests l D cI cL cE cP am g n k tb my lt 0 hok H.size) (cwV 0 hts gX4_bare_X4_bests rfl rfl rfl (by decide +kernel) ⟨Nat.le_of_ble_eq_true rfl, Nat.le_of_ble_eq_true rfl⟩) ⟨zPw_blind, va_recv hK hP (ci := 4) (q0 := 0) rfl mws_0, zPw_mk hE hP hD⟩ rfl rfl hl.1 rfl (lv_room (Nat.le_of_ble_eq_true rfl)) dX4_bare_27 ⟨Nat.le_of_ble_eq_true rfl, Nat.le_of_ble_eq_true rfl⟩) hD hS hA (fun r_6 H locs e_7 hP hD hS => ?_)
    obtain rfl := e_7
    have hP : va_P D vwCl (mws cI am g n k (zfl (WB g k) tb (32 * n)) ((BSO (zfl (WB g k) tb (32 * n)) n k (LW (zfl (WB g k) tb (32 * n)) (zfl (MY g n) my k) n k n (2 ^ k - 1)) (zfl (MY g n) my k, LTA (zfl (WB g k) tb (32 * n)) (zfl (MY g n) my k) n k lt n) k).1) ((BSO (zfl (WB g k) tb (32 * n)) n k (LW (zfl (WB g k) tb (32 * n)) (zfl (MY g n) my k) n k n (2 ^ k - 1)) (zfl (MY g n) my k, LTA (zfl (WB g k) tb (32 * n)) (zfl (MY g n) my k) n k lt n) k).2) 0) H := hP
    have hD : va_D A (mws cI am g n k (zfl (WB g k) tb (32 * n)) ((BSO (zfl (WB g k) tb (32 * n)) n k (LW (zfl (WB g k) tb (32 * n)) (zfl (MY g n) my k) n k n (2 ^ k - 1)) (zfl (MY g n) my k, LTA (zfl (WB g k) tb (32 * n)) (zfl (MY g n) my k) n k lt n) k).1) ((BSO (zfl (WB g k) tb (32 * n)) n k (LW (zfl (WB g k) tb (32 * n)) (zfl (MY g n) my k) n k n (2 ^ k - 1)) (zfl (MY g n) my k, LTA (zfl (WB g k) tb (32 * n)) (zfl (MY g n) my k) n k lt n) k).2) 0) := hD
    refine lv_pop hx hb dX4_bare_30 rfl ?_
    refine lv_aload_n hx hb dX4_bare_31 rfl (lv_at hl 0 rfl) ?_
    refine lv_iload_n hx hb dX4_bare_32 rfl (lv_at hl 1 rfl) ?_
    refine lv_aload_n hx hb dX4_bare_33 rfl (lv_at hl 0 rfl) ?_
    refine lv_iload_n hx hb dX4_bare_34 rfl (lv_at hl 1 rfl) ?_
    refine vp_callSi (va_Run.run (va_runV (As := [.int x]) (rest := [.int x, .ref (am 0)]) ⟨hx, hb, hml, hown, hts⟩ (zX4_setOf l D cI cL cE cP am g n k (zfl (WB g k) tb (32 * n)) ((BSO (zfl (WB g k) tb (32 * n)) n k (LW (zfl (WB g k) tb (32 * n)) (zfl (MY g n) my k) n k n (2 ^ k - 1)) (zfl (MY g n) my k, LTA (zfl (WB g k) tb (32 * n)) (zfl (MY g n) my k) n k lt n) k).1) ((BSO (zfl (WB g k) tb (32 * n)) n k (LW (zfl (WB g k) tb (32 * n)) (zfl (MY g n) my k) n k n (2 ^ k - 1)) (zfl (MY g n) my k, LTA (zfl (WB g k) tb (32 * n)) (zfl (MY g n) my k) n k lt n) k).2) 0 hok (x)) (cwV 1 hts gX4_bare_X4_setOf rfl rfl rfl (by decide +kernel) ⟨Nat.le_of_ble_eq_true rfl, Nat.le_of_ble_eq_true rfl⟩) ⟨zPr_blind, va_recv hK hP (ci := 4) (q0 := 0) rfl mws_0, zPr_mk hE hP⟩ rfl rfl hl.1 rfl (lv_room (Nat.le_of_ble_eq_true rfl)) dX4_bare_35 ⟨Nat.le_of_ble_eq_true rfl, Nat.le_of_ble_eq_true rfl⟩)) (fun r_8 e_9 => ?_)
    obtain rfl := e_9
    refine vp_callSi (va_Run.run (va_runV (As := [.int x, .int (stL ((BSO (zfl (WB g k) tb (32 * n)) n k (LW (zfl (WB g k) tb (32 * n)) (zfl (MY g n) my k) n k n (2 ^ k - 1)) (zfl (MY g n) my k, LTA (zfl (WB g k) tb (32 * n)) (zfl (MY g n) my k) n k lt n) k).1) x k)]) (rest := []) ⟨hx, hb, hml, hown, hts⟩ (zX4_bared l D cI cL cE cP am g n k (zfl (WB g k) tb (32 * n)) ((BSO (zfl (WB g k) tb (32 * n)) n k (LW (zfl (WB g k) tb (32 * n)) (zfl (MY g n) my k) n k n (2 ^ k - 1)) (zfl (MY g n) my k, LTA (zfl (WB g k) tb (32 * n)) (zfl (MY g n) my k) n k lt n) k).1) ((BSO (zfl (WB g k) tb (32 * n)) n k (LW (zfl (WB g k) tb (32 * n)) (zfl (MY g n) my k) n k n (2 ^ k - 1)) (zfl (MY g n) my k, LTA (zfl (WB g k) tb (32 * n)) (zfl (MY g n) my k) n k lt n) k).2) 0 hok (x) (x.toNatClampNeg) (zex_lt hok.n8 c_3) (zex_eq hok.n8 c_3) (stL ((BSO (zfl (WB g k) tb (32 * n)) n k (LW (zfl (WB g k) tb (32 * n)) (zfl (MY g n) my k) n k n (2 ^ k - 1)) (zfl (MY g n) my k, LTA (zfl (WB g k) tb (32 * n)) (zfl (MY g n) my k) n k lt n) k).1) x k)) (cwV 2 hts gX4_bare_X4_bared rfl rfl rfl (by decide +kernel) ⟨Nat.le_of_ble_eq_true rfl, Nat.le_of_ble_eq_true rfl⟩) ⟨zPr_blind, va_recv hK hP (ci := 4) (q0 := 0) rfl mws_0, zPr_mk hE hP⟩ rfl rfl hl.1 rfl (lv_room (Nat.le_of_ble_eq_true rfl)) dX4_bare_38 ⟨Nat.le_of_ble_eq_true rfl, Nat.le_of_ble_eq_true rfl⟩)) (fun r_10 e_11 => ?_)
    obtain rfl := e_11
    have hT : T_amount n x = 0 := by simp [T_amount, c_3]
    exact ziretX (v := bw g k x.toNatClampNeg (stL ((BSO (zfl (WB g k) tb (32 * n)) n k (LW (zfl (WB g k) tb (32 * n)) (zfl (MY g n) my k) n k n (2 ^ k - 1)) (zfl (MY g n) my k, LTA (zfl (WB g k) tb (32 * n)) (zfl (MY g n) my k) n k lt n) k).1) x k)) (u := (zfl (WB g k) tb (32 * n), (BSO (zfl (WB g k) tb (32 * n)) n k (LW (zfl (WB g k) tb (32 * n)) (zfl (MY g n) my k) n k n (2 ^ k - 1)) (zfl (MY g n) my k, LTA (zfl (WB g k) tb (32 * n)) (zfl (MY g n) my k) n k lt n) k).1, (BSO (zfl (WB g k) tb (32 * n)) n k (LW (zfl (WB g k) tb (32 * n)) (zfl (MY g n) my k) n k n (2 ^ k - 1)) (zfl (MY g n) my k, LTA (zfl (WB g k) tb (32 * n)) (zfl (MY g n) my k) n k lt n) k).2)) hx hb hr hAe (fun _ => rfl) (zP_re hP (by rw [hT])) (zD_re hD (by rw [hT])) hS dX4_bare_41
set_option maxHeartbeats 4000000 in
set_option maxRecDepth 100000 in
theorem zX4_weighted (l : Launch) (D : va_G) (cI cL cE cP : ClassId) (am : Nat → Nat) (g : Nat → Nat → Int32) (n k : Nat) (tb my lt : Nat → Int32) (th : Int32) (hok : zOk g n k) (x : Int32) (sz : Nat) : Met l yX4_weighted wsX4_weighted ({ frames := 6, cells := 0, slots := 0, locals := 140 }) (zPw D cI cL cE cP (mws cI am g n k tb my lt th) sz [.ref (am 0), .int x]) (zQiX D (mws cI am g n k tb my lt th) sz (fun r : Int32 => (T_amount n x = 0 → r = wo g x.toNatClampNeg (bw g k x.toNatClampNeg (stL ((BSO (zfl (WB g k) tb (32 * n)) n k (LW (zfl (WB g k) tb (32 * n)) (zfl (MY g n) my k) n k n (2 ^ k - 1)) (zfl (MY g n) my k, LTA (zfl (WB g k) tb (32 * n)) (zfl (MY g n) my k) n k lt n) k).1) x k)))) (fun u => mws cI am g n k u.1 u.2.1 u.2.2 (T_amount n x))) 0 0 (va_A (mws cI am g n k tb my lt th) sz) := by
  refine Met.ofW (cc := cX4_weighted) (maxL := 2) (ret := (some .int)) (by decide) rfl ?_
  intro p e s m args below meth c s₁ B hml hv
  obtain ⟨rfl, hsz, hE, hP, hD0⟩ := hv
  subst hsz
  obtain ⟨A, hAe⟩ : ∃ A, A = va_A (mws cI am g n k tb my lt th) s.heap.size := ⟨_, rfl⟩
  have hD : va_D A (mws cI am g n k tb my lt th) := by rw [hAe]; exact hD0.self
  have hA : ∀ q : Nat, s.heap.size ≤ q → A q := fun q h => by rw [hAe]; exact Or.inr h
  have hS : va_S A s.heap s.heap [] := va_S.rf
  have hx := B.exec
  have hb := B.bytes
  have hr := B.returns
  have hts := atoms_spec (ws := wsX4_weighted) B.pre
  have hown : s.vm.findClass RX4 = some m.cls := findClass_of_methodNamed B.named
  have hlocks := B.notSynchronized
  have hK := hE.1
  have iX4 : ∀ w ∈ wsX40, w ∈ wsX4_weighted := by decide +kernel
  have hl := lv_entry ([.ref (am 0), .int x]) (n := 2) (Nat.le_of_ble_eq_true rfl)
  rw [lg_entry_eq]
  generalize (lg_sl ([.ref (am 0), .int x]) ++ List.replicate (2 - (lg_sl ([.ref (am 0), .int x])).length) Slot.unset).toArray = ls at hl ⊢
  have hl : lv_has ls 2 [(0, .ref (am 0)), (1, .int x)] := hl
  refine lv_aload_n hx hb dX4_weighted_0 rfl (lv_at hl 0 rfl) ?_
  refine lv_aload_n hx hb dX4_weighted_1 rfl (lv_at hl 0 rfl) ?_
  refine lv_iload_n hx hb dX4_weighted_2 rfl (lv_at hl 1 rfl) ?_
  refine vp_callSi (va_Run.run (va_runV (As := [.int x]) (rest := [.ref (am 0)]) ⟨hx, hb, hml, hown, hts⟩ (zX4_isExposure l D cI cL cE cP am g n k tb my lt th hok (x)) (cwV 1 hts gX4_weighted_X4_isExposure rfl rfl rfl (by decide +kernel) ⟨Nat.le_of_ble_eq_true rfl, Nat.le_of_ble_eq_true rfl⟩) ⟨zPr_blind, va_recv hK hP (ci := 4) (q0 := 0) rfl mws_0, zPr_mk hE hP⟩ rfl rfl hl.1 rfl (lv_room (Nat.le_of_ble_eq_true rfl)) dX4_weighted_3 ⟨Nat.le_of_ble_eq_true rfl, Nat.le_of_ble_eq_true rfl⟩)) (fun r_1 e_2 => ?_)
  obtain rfl := e_2
  refine lv_if_eq (tgt := 13) hx hb dX4_weighted_6 (by decide) (fun c_3 => ?_) (fun c_3 => ?_)
  · have c_3 := zb_eq c_3
    refine lv_iconst (v := 1) hx hb dX4_weighted_13 (by decide) ?_
    refine va_put (D := D) (ci := 4) (v := .int 1) (ty := .int) (C := RX4) (T := TX4) (N := 23) hx hb hts iX4 tyX4 tyX4_ok nmX4 hown hK hP hD hS 0 mws_0 rfl 22 (by decide) (hts (.fieldLink RX4 68 "CapitalReckonerModel" "thrown" "I") (by decide +kernel)) (fun _ h9 => h9) rfl (by decide +kernel) rfl rfl (Nat.le_of_ble_eq_true rfl) dX4_weighted_14 (fun H locs hP hD hS => ?_)
    have hP : va_P D vwCl (mws cI am g n k tb my lt 1) H := zP_re hP (mws_sth).symm
    have hD : va_D A (mws cI am g n k tb my lt 1) := zD_re hD (mws_sth).symm
    refine lv_aload_n hx hb dX4_weighted_17 rfl (lv_at hl 0 rfl) ?_
    refine va_get (D := D) (ci := 4) (v := .int 1) (C := RX4) (T := TX4) (N := 23) hx hb hts iX4 hown hK hP 0 mws_0 rfl 22 (by decide) (hts (.fieldLink RX4 68 "CapitalReckonerModel" "thrown" "I") (by decide +kernel)) (fun _ h9 => h9) rfl dX4_weighted_18 ?_
    refine lv_if_le (tgt := 26) hx hb dX4_weighted_21 (by decide) (fun c_4 => absurd c_4 (by decide)) (fun c_4 => ?_)
    refine lv_iconst (v := 0) hx hb dX4_weighted_24 (by decide) ?_
    have hT : T_amount n x = 1 := by simp [T_amount, c_3]
    exact ziretX (v := 0) (u := (tb, my, lt)) hx hb hr hAe (fun h => absurd (hT.symm.trans h) (by decide)) (zP_re hP (by rw [hT])) (zD_re hD (by rw [hT])) hS dX4_weighted_25
  · have c_3 := zb_ne c_3
    refine lv_iconst (v := 0) hx hb dX4_weighted_9 (by decide) ?_
    refine lv_goto (tgt := 14) hx hb dX4_weighted_10 (by decide) ?_
    refine va_put (D := D) (ci := 4) (v := .int 0) (ty := .int) (C := RX4) (T := TX4) (N := 23) hx hb hts iX4 tyX4 tyX4_ok nmX4 hown hK hP hD hS 0 mws_0 rfl 22 (by decide) (hts (.fieldLink RX4 68 "CapitalReckonerModel" "thrown" "I") (by decide +kernel)) (fun _ h9 => h9) rfl (by decide +kernel) rfl rfl (Nat.le_of_ble_eq_true rfl) dX4_weighted_14 (fun H locs hP hD hS => ?_)
    have hP : va_P D vwCl (mws cI am g n k tb my lt 0) H := zP_re hP (mws_sth).symm
    have hD : va_D A (mws cI am g n k tb my lt 0) := zD_re hD (mws_sth).symm
    refine lv_aload_n hx hb dX4_weighted_17 rfl (lv_at hl 0 rfl) ?_
    refine va_get (D := D) (ci := 4) (v := .int 0) (C := RX4) (T := TX4) (N := 23) hx hb hts iX4 hown hK hP 0 mws_0 rfl 22 (by decide) (hts (.fieldLink RX4 68 "CapitalReckonerModel" "thrown" "I") (by decide +kernel)) (fun _ h9 => h9) rfl dX4_weighted_18 ?_
    refine lv_if_le (tgt := 26) hx hb dX4_weighted_21 (by decide) (fun c_5 => ?_) (fun c_5 => absurd c_5 (by decide))
    refine lv_aload_n hx hb dX4_weighted_26 rfl (lv_at hl 0 rfl) ?_
    refine zcalli (va_runV (As := []) (rest := []) ⟨hx, hb, hml, hown, hts⟩ (zX4_bests l D cI cL cE cP am g n k tb my lt 0 hok H.size) (cwV 0 hts gX4_weighted_X4_bests rfl rfl rfl (by decide +kernel) ⟨Nat.le_of_ble_eq_true rfl, Nat.le_of_ble_eq_true rfl⟩) ⟨zPw_blind, va_recv hK hP (ci := 4) (q0 := 0) rfl mws_0, zPw_mk hE hP hD⟩ rfl rfl hl.1 rfl (lv_room (Nat.le_of_ble_eq_true rfl)) dX4_weighted_27 ⟨Nat.le_of_ble_eq_true rfl, Nat.le_of_ble_eq_true rfl⟩) hD hS hA (fun r_6 H locs e_7 hP hD hS => ?_)
    obtain rfl := e_7
    have hP : va_P D vwCl (mws cI am g n k (zfl (WB g k) tb (32 * n)) ((BSO (zfl (WB g k) tb (32 * n)) n k (LW (zfl (WB g k) tb (32 * n)) (zfl (MY g n) my k) n k n (2 ^ k - 1)) (zfl (MY g n) my k, LTA (zfl (WB g k) tb (32 * n)) (zfl (MY g n) my k) n k lt n) k).1) ((BSO (zfl (WB g k) tb (32 * n)) n k (LW (zfl (WB g k) tb (32 * n)) (zfl (MY g n) my k) n k n (2 ^ k - 1)) (zfl (MY g n) my k, LTA (zfl (WB g k) tb (32 * n)) (zfl (MY g n) my k) n k lt n) k).2) 0) H := hP
    have hD : va_D A (mws cI am g n k (zfl (WB g k) tb (32 * n)) ((BSO (zfl (WB g k) tb (32 * n)) n k (LW (zfl (WB g k) tb (32 * n)) (zfl (MY g n) my k) n k n (2 ^ k - 1)) (zfl (MY g n) my k, LTA (zfl (WB g k) tb (32 * n)) (zfl (MY g n) my k) n k lt n) k).1) ((BSO (zfl (WB g k) tb (32 * n)) n k (LW (zfl (WB g k) tb (32 * n)) (zfl (MY g n) my k) n k n (2 ^ k - 1)) (zfl (MY g n) my k, LTA (zfl (WB g k) tb (32 * n)) (zfl (MY g n) my k) n k lt n) k).2) 0) := hD
    refine lv_pop hx hb dX4_weighted_30 rfl ?_
    refine lv_aload_n hx hb dX4_weighted_31 rfl (lv_at hl 0 rfl) ?_
    refine lv_iload_n hx hb dX4_weighted_32 rfl (lv_at hl 1 rfl) ?_
    refine lv_aload_n hx hb dX4_weighted_33 rfl (lv_at hl 0 rfl) ?_
    refine lv_iload_n hx hb dX4_weighted_34 rfl (lv_at hl 1 rfl) ?_
    refine vp_callSi (va_Run.run (va_runV (As := [.int x]) (rest := [.int x, .ref (am 0)]) ⟨hx, hb, hml, hown, hts⟩ (zX4_setOf l D cI cL cE cP am g n k (zfl (WB g k) tb (32 * n)) ((BSO (zfl (WB g k) tb (32 * n)) n k (LW (zfl (WB g k) tb (32 * n)) (zfl (MY g n) my k) n k n (2 ^ k - 1)) (zfl (MY g n) my k, LTA (zfl (WB g k) tb (32 * n)) (zfl (MY g n) my k) n k lt n) k).1) ((BSO (zfl (WB g k) tb (32 * n)) n k (LW (zfl (WB g k) tb (32 * n)) (zfl (MY g n) my k) n k n (2 ^ k - 1)) (zfl (MY g n) my k, LTA (zfl (WB g k) tb (32 * n)) (zfl (MY g n) my k) n k lt n) k).2) 0 hok (x)) (cwV 1 hts gX4_weighted_X4_setOf rfl rfl rfl (by decide +kernel) ⟨Nat.le_of_ble_eq_true rfl, Nat.le_of_ble_eq_true rfl⟩) ⟨zPr_blind, va_recv hK hP (ci := 4) (q0 := 0) rfl mws_0, zPr_mk hE hP⟩ rfl rfl hl.1 rfl (lv_room (Nat.le_of_ble_eq_true rfl)) dX4_weighted_35 ⟨Nat.le_of_ble_eq_true rfl, Nat.le_of_ble_eq_true rfl⟩)) (fun r_8 e_9 => ?_)
    obtain rfl := e_9
    refine vp_callSi (va_Run.run (va_runV (As := [.int x, .int (stL ((BSO (zfl (WB g k) tb (32 * n)) n k (LW (zfl (WB g k) tb (32 * n)) (zfl (MY g n) my k) n k n (2 ^ k - 1)) (zfl (MY g n) my k, LTA (zfl (WB g k) tb (32 * n)) (zfl (MY g n) my k) n k lt n) k).1) x k)]) (rest := []) ⟨hx, hb, hml, hown, hts⟩ (zX4_weighed l D cI cL cE cP am g n k (zfl (WB g k) tb (32 * n)) ((BSO (zfl (WB g k) tb (32 * n)) n k (LW (zfl (WB g k) tb (32 * n)) (zfl (MY g n) my k) n k n (2 ^ k - 1)) (zfl (MY g n) my k, LTA (zfl (WB g k) tb (32 * n)) (zfl (MY g n) my k) n k lt n) k).1) ((BSO (zfl (WB g k) tb (32 * n)) n k (LW (zfl (WB g k) tb (32 * n)) (zfl (MY g n) my k) n k n (2 ^ k - 1)) (zfl (MY g n) my k, LTA (zfl (WB g k) tb (32 * n)) (zfl (MY g n) my k) n k lt n) k).2) 0 hok (x) (x.toNatClampNeg) (zex_lt hok.n8 c_3) (zex_eq hok.n8 c_3) (stL ((BSO (zfl (WB g k) tb (32 * n)) n k (LW (zfl (WB g k) tb (32 * n)) (zfl (MY g n) my k) n k n (2 ^ k - 1)) (zfl (MY g n) my k, LTA (zfl (WB g k) tb (32 * n)) (zfl (MY g n) my k) n k lt n) k).1) x k)) (cwV 2 hts gX4_weighted_X4_weighed rfl rfl rfl (by decide +kernel) ⟨Nat.le_of_ble_eq_true rfl, Nat.le_of_ble_eq_true rfl⟩) ⟨zPr_blind, va_recv hK hP (ci := 4) (q0 := 0) rfl mws_0, zPr_mk hE hP⟩ rfl rfl hl.1 rfl (lv_room (Nat.le_of_ble_eq_true rfl)) dX4_weighted_38 ⟨Nat.le_of_ble_eq_true rfl, Nat.le_of_ble_eq_true rfl⟩)) (fun r_10 e_11 => ?_)
    obtain rfl := e_11
    have hT : T_amount n x = 0 := by simp [T_amount, c_3]
    exact ziretX (v := wo g x.toNatClampNeg (bw g k x.toNatClampNeg (stL ((BSO (zfl (WB g k) tb (32 * n)) n k (LW (zfl (WB g k) tb (32 * n)) (zfl (MY g n) my k) n k n (2 ^ k - 1)) (zfl (MY g n) my k, LTA (zfl (WB g k) tb (32 * n)) (zfl (MY g n) my k) n k lt n) k).1) x k))) (u := (zfl (WB g k) tb (32 * n), (BSO (zfl (WB g k) tb (32 * n)) n k (LW (zfl (WB g k) tb (32 * n)) (zfl (MY g n) my k) n k n (2 ^ k - 1)) (zfl (MY g n) my k, LTA (zfl (WB g k) tb (32 * n)) (zfl (MY g n) my k) n k lt n) k).1, (BSO (zfl (WB g k) tb (32 * n)) n k (LW (zfl (WB g k) tb (32 * n)) (zfl (MY g n) my k) n k n (2 ^ k - 1)) (zfl (MY g n) my k, LTA (zfl (WB g k) tb (32 * n)) (zfl (MY g n) my k) n k lt n) k).2)) hx hb hr hAe (fun _ => rfl) (zP_re hP (by rw [hT])) (zD_re hD (by rw [hT])) hS dX4_weighted_41
set_option maxHeartbeats 4000000 in
set_option maxRecDepth 100000 in
theorem zX4_wholes (l : Launch) (D : va_G) (cI cL cE cP : ClassId) (am : Nat → Nat) (g : Nat → Nat → Int32) (n k : Nat) (tb my lt : Nat → Int32) (th : Int32) (hok : zOk g n k) (sz : Nat) : Met l yX4_wholes wsX4_wholes ({ frames := 5, cells := 0, slots := 0, locals := 115 }) (zPw D cI cL cE cP (mws cI am g n k tb my lt th) sz [.ref (am 0)]) (zQi D (mws cI am g n k tb my lt th) sz (fun r : Int32 => r = LW (zfl (WB g k) tb (32 * n)) (zfl (MY g n) my k) n k n (2 ^ k - 1)) (mws cI am g n k (zfl (WB g k) tb (32 * n)) (zfl (MY g n) my k) (LTA (zfl (WB g k) tb (32 * n)) (zfl (MY g n) my k) n k lt n) th)) 0 0 (va_A (mws cI am g n k tb my lt th) sz) := by
  refine Met.ofW (cc := cX4_wholes) (maxL := 1) (ret := (some .int)) (by decide) rfl ?_
  intro p e s m args below meth c s₁ B hml hv
  obtain ⟨rfl, hsz, hE, hP, hD0⟩ := hv
  subst hsz
  obtain ⟨A, hAe⟩ : ∃ A, A = va_A (mws cI am g n k tb my lt th) s.heap.size := ⟨_, rfl⟩
  have hD : va_D A (mws cI am g n k tb my lt th) := by rw [hAe]; exact hD0.self
  have hA : ∀ q : Nat, s.heap.size ≤ q → A q := fun q h => by rw [hAe]; exact Or.inr h
  have hS : va_S A s.heap s.heap [] := va_S.rf
  have hx := B.exec
  have hb := B.bytes
  have hr := B.returns
  have hts := atoms_spec (ws := wsX4_wholes) B.pre
  have hown : s.vm.findClass RX4 = some m.cls := findClass_of_methodNamed B.named
  have hlocks := B.notSynchronized
  have hK := hE.1
  have hl := lv_entry ([.ref (am 0)]) (n := 1) (Nat.le_of_ble_eq_true rfl)
  rw [lg_entry_eq]
  generalize (lg_sl ([.ref (am 0)]) ++ List.replicate (1 - (lg_sl ([.ref (am 0)])).length) Slot.unset).toArray = ls at hl ⊢
  have hl : lv_has ls 1 [(0, .ref (am 0))] := hl
  refine lv_aload_n hx hb dX4_wholes_0 rfl (lv_at hl 0 rfl) ?_
  refine zcallv (va_runV (As := []) (rest := []) ⟨hx, hb, hml, hown, hts⟩ (zX4_lays l D cI cL cE cP am g n k tb my lt th hok s.heap.size) (cwV 0 hts gX4_wholes_X4_lays rfl rfl rfl (by decide +kernel) ⟨Nat.le_of_ble_eq_true rfl, Nat.le_of_ble_eq_true rfl⟩) ⟨zPw_blind, va_recv hK hP (ci := 4) (q0 := 0) rfl mws_0, zPw_mk hE hP hD⟩ rfl rfl hl.1 rfl (lv_room (Nat.le_of_ble_eq_true rfl)) dX4_wholes_1 ⟨Nat.le_of_ble_eq_true rfl, Nat.le_of_ble_eq_true rfl⟩) hD hS hA (fun H locs hP hD hS => ?_)
  have hP : va_P D vwCl (mws cI am g n k (zfl (WB g k) tb (32 * n)) (zfl (MY g n) my k) lt th) H := hP
  have hD : va_D A (mws cI am g n k (zfl (WB g k) tb (32 * n)) (zfl (MY g n) my k) lt th) := hD
  refine lv_aload_n hx hb dX4_wholes_4 rfl (lv_at hl 0 rfl) ?_
  refine zcalli (va_runV (As := []) (rest := []) ⟨hx, hb, hml, hown, hts⟩ (zX4_leastWhole l D cI cL cE cP am g n k (zfl (WB g k) tb (32 * n)) (zfl (MY g n) my k) lt th hok H.size) (cwV 0 hts gX4_wholes_X4_leastWhole rfl rfl rfl (by decide +kernel) ⟨Nat.le_of_ble_eq_true rfl, Nat.le_of_ble_eq_true rfl⟩) ⟨zPw_blind, va_recv hK hP (ci := 4) (q0 := 0) rfl mws_0, zPw_mk hE hP hD⟩ rfl rfl hl.1 rfl (lv_room (Nat.le_of_ble_eq_true rfl)) dX4_wholes_5 ⟨Nat.le_of_ble_eq_true rfl, Nat.le_of_ble_eq_true rfl⟩) hD hS hA (fun r_3 H locs e_4 hP hD hS => ?_)
  obtain rfl := e_4
  have hP : va_P D vwCl (mws cI am g n k (zfl (WB g k) tb (32 * n)) (zfl (MY g n) my k) (LTA (zfl (WB g k) tb (32 * n)) (zfl (MY g n) my k) n k lt n) th) H := hP
  have hD : va_D A (mws cI am g n k (zfl (WB g k) tb (32 * n)) (zfl (MY g n) my k) (LTA (zfl (WB g k) tb (32 * n)) (zfl (MY g n) my k) n k lt n) th) := hD
  exact ziret (v := LW (zfl (WB g k) tb (32 * n)) (zfl (MY g n) my k) n k n (2 ^ k - 1)) hx hb hr hAe (by first | rfl | (simp only []; done) | (simp only []; rfl) | (simp []; done)) (zP_re hP (rfl)) (zD_re hD (rfl)) hS dX4_wholes_8
set_option maxHeartbeats 4000000 in
set_option maxRecDepth 100000 in
theorem zX4_whole (l : Launch) (D : va_G) (cI cL cE cP : ClassId) (am : Nat → Nat) (g : Nat → Nat → Int32) (n k : Nat) (tb my lt : Nat → Int32) (th : Int32) (hok : zOk g n k) (sz : Nat) : Met l yX4_whole wsX4_whole ({ frames := 6, cells := 0, slots := 0, locals := 135 }) (zPw D cI cL cE cP (mws cI am g n k tb my lt th) sz [.ref (am 0)]) (zQi D (mws cI am g n k tb my lt th) sz (fun r : Int32 => r = LW (zfl (WB g k) tb (32 * n)) (zfl (MY g n) my k) n k n (2 ^ k - 1)) (mws cI am g n k (zfl (WB g k) tb (32 * n)) (zfl (MY g n) my k) (LTA (zfl (WB g k) tb (32 * n)) (zfl (MY g n) my k) n k lt n) 0)) 0 0 (va_A (mws cI am g n k tb my lt th) sz) := by
  refine Met.ofW (cc := cX4_whole) (maxL := 1) (ret := (some .int)) (by decide) rfl ?_
  intro p e s m args below meth c s₁ B hml hv
  obtain ⟨rfl, hsz, hE, hP, hD0⟩ := hv
  subst hsz
  obtain ⟨A, hAe⟩ : ∃ A, A = va_A (mws cI am g n k tb my lt th) s.heap.size := ⟨_, rfl⟩
  have hD : va_D A (mws cI am g n k tb my lt th) := by rw [hAe]; exact hD0.self
  have hA : ∀ q : Nat, s.heap.size ≤ q → A q := fun q h => by rw [hAe]; exact Or.inr h
  have hS : va_S A s.heap s.heap [] := va_S.rf
  have hx := B.exec
  have hb := B.bytes
  have hr := B.returns
  have hts := atoms_spec (ws := wsX4_whole) B.pre
  have hown : s.vm.findClass RX4 = some m.cls := findClass_of_methodNamed B.named
  have hlocks := B.notSynchronized
  have hK := hE.1
  have iX4 : ∀ w ∈ wsX40, w ∈ wsX4_whole := by decide +kernel
  have hl := lv_entry ([.ref (am 0)]) (n := 1) (Nat.le_of_ble_eq_true rfl)
  rw [lg_entry_eq]
  generalize (lg_sl ([.ref (am 0)]) ++ List.replicate (1 - (lg_sl ([.ref (am 0)])).length) Slot.unset).toArray = ls at hl ⊢
  have hl : lv_has ls 1 [(0, .ref (am 0))] := hl
  refine lv_aload_n hx hb dX4_whole_0 rfl (lv_at hl 0 rfl) ?_
  refine lv_iconst (v := 0) hx hb dX4_whole_1 (by decide) ?_
  refine va_put (D := D) (ci := 4) (v := .int 0) (ty := .int) (C := RX4) (T := TX4) (N := 23) hx hb hts iX4 tyX4 tyX4_ok nmX4 hown hK hP hD hS 0 mws_0 rfl 22 (by decide) (hts (.fieldLink RX4 68 "CapitalReckonerModel" "thrown" "I") (by decide +kernel)) (fun _ h9 => h9) rfl (by decide +kernel) rfl rfl (Nat.le_of_ble_eq_true rfl) dX4_whole_2 (fun H locs hP hD hS => ?_)
  have hP : va_P D vwCl (mws cI am g n k tb my lt 0) H := zP_re hP (mws_sth).symm
  have hD : va_D A (mws cI am g n k tb my lt 0) := zD_re hD (mws_sth).symm
  refine lv_aload_n hx hb dX4_whole_5 rfl (lv_at hl 0 rfl) ?_
  refine zcalli (va_runV (As := []) (rest := []) ⟨hx, hb, hml, hown, hts⟩ (zX4_wholes l D cI cL cE cP am g n k tb my lt 0 hok H.size) (cwV 0 hts gX4_whole_X4_wholes rfl rfl rfl (by decide +kernel) ⟨Nat.le_of_ble_eq_true rfl, Nat.le_of_ble_eq_true rfl⟩) ⟨zPw_blind, va_recv hK hP (ci := 4) (q0 := 0) rfl mws_0, zPw_mk hE hP hD⟩ rfl rfl hl.1 rfl (lv_room (Nat.le_of_ble_eq_true rfl)) dX4_whole_6 ⟨Nat.le_of_ble_eq_true rfl, Nat.le_of_ble_eq_true rfl⟩) hD hS hA (fun r_1 H locs e_2 hP hD hS => ?_)
  obtain rfl := e_2
  have hP : va_P D vwCl (mws cI am g n k (zfl (WB g k) tb (32 * n)) (zfl (MY g n) my k) (LTA (zfl (WB g k) tb (32 * n)) (zfl (MY g n) my k) n k lt n) 0) H := hP
  have hD : va_D A (mws cI am g n k (zfl (WB g k) tb (32 * n)) (zfl (MY g n) my k) (LTA (zfl (WB g k) tb (32 * n)) (zfl (MY g n) my k) n k lt n) 0) := hD
  exact ziret (v := LW (zfl (WB g k) tb (32 * n)) (zfl (MY g n) my k) n k n (2 ^ k - 1)) hx hb hr hAe (by first | rfl | (simp only []; done) | (simp only []; rfl) | (simp []; done)) (zP_re hP (rfl)) (zD_re hD (rfl)) hS dX4_whole_9
set_option maxHeartbeats 4000000 in
set_option maxRecDepth 100000 in
theorem zX4_wholeByTrying (l : Launch) (D : va_G) (cI cL cE cP : ClassId) (am : Nat → Nat) (g : Nat → Nat → Int32) (n k : Nat) (tb my lt : Nat → Int32) (th : Int32) (hok : zOk g n k) (sz : Nat) : Met l yX4_wholeByTrying wsX4_wholeByTrying ({ frames := 6, cells := 0, slots := 0, locals := 135 }) (zPw D cI cL cE cP (mws cI am g n k tb my lt th) sz [.ref (am 0)]) (zQi D (mws cI am g n k tb my lt th) sz (fun r : Int32 => r = LW (zfl (WB g k) tb (32 * n)) (zfl (MY g n) my k) n k n (2 ^ k - 1)) (mws cI am g n k (zfl (WB g k) tb (32 * n)) (zfl (MY g n) my k) (LTA (zfl (WB g k) tb (32 * n)) (zfl (MY g n) my k) n k lt n) 0)) 0 0 (va_A (mws cI am g n k tb my lt th) sz) := by
  refine Met.ofW (cc := cX4_wholeByTrying) (maxL := 1) (ret := (some .int)) (by decide) rfl ?_
  intro p e s m args below meth c s₁ B hml hv
  obtain ⟨rfl, hsz, hE, hP, hD0⟩ := hv
  subst hsz
  obtain ⟨A, hAe⟩ : ∃ A, A = va_A (mws cI am g n k tb my lt th) s.heap.size := ⟨_, rfl⟩
  have hD : va_D A (mws cI am g n k tb my lt th) := by rw [hAe]; exact hD0.self
  have hA : ∀ q : Nat, s.heap.size ≤ q → A q := fun q h => by rw [hAe]; exact Or.inr h
  have hS : va_S A s.heap s.heap [] := va_S.rf
  have hx := B.exec
  have hb := B.bytes
  have hr := B.returns
  have hts := atoms_spec (ws := wsX4_wholeByTrying) B.pre
  have hown : s.vm.findClass RX4 = some m.cls := findClass_of_methodNamed B.named
  have hlocks := B.notSynchronized
  have hK := hE.1
  have iX4 : ∀ w ∈ wsX40, w ∈ wsX4_wholeByTrying := by decide +kernel
  have hl := lv_entry ([.ref (am 0)]) (n := 1) (Nat.le_of_ble_eq_true rfl)
  rw [lg_entry_eq]
  generalize (lg_sl ([.ref (am 0)]) ++ List.replicate (1 - (lg_sl ([.ref (am 0)])).length) Slot.unset).toArray = ls at hl ⊢
  have hl : lv_has ls 1 [(0, .ref (am 0))] := hl
  refine lv_aload_n hx hb dX4_wholeByTrying_0 rfl (lv_at hl 0 rfl) ?_
  refine lv_iconst (v := 0) hx hb dX4_wholeByTrying_1 (by decide) ?_
  refine va_put (D := D) (ci := 4) (v := .int 0) (ty := .int) (C := RX4) (T := TX4) (N := 23) hx hb hts iX4 tyX4 tyX4_ok nmX4 hown hK hP hD hS 0 mws_0 rfl 22 (by decide) (hts (.fieldLink RX4 68 "CapitalReckonerModel" "thrown" "I") (by decide +kernel)) (fun _ h9 => h9) rfl (by decide +kernel) rfl rfl (Nat.le_of_ble_eq_true rfl) dX4_wholeByTrying_2 (fun H locs hP hD hS => ?_)
  have hP : va_P D vwCl (mws cI am g n k tb my lt 0) H := zP_re hP (mws_sth).symm
  have hD : va_D A (mws cI am g n k tb my lt 0) := zD_re hD (mws_sth).symm
  refine lv_aload_n hx hb dX4_wholeByTrying_5 rfl (lv_at hl 0 rfl) ?_
  refine zcalli (va_runV (As := []) (rest := []) ⟨hx, hb, hml, hown, hts⟩ (zX4_wholes l D cI cL cE cP am g n k tb my lt 0 hok H.size) (cwV 0 hts gX4_wholeByTrying_X4_wholes rfl rfl rfl (by decide +kernel) ⟨Nat.le_of_ble_eq_true rfl, Nat.le_of_ble_eq_true rfl⟩) ⟨zPw_blind, va_recv hK hP (ci := 4) (q0 := 0) rfl mws_0, zPw_mk hE hP hD⟩ rfl rfl hl.1 rfl (lv_room (Nat.le_of_ble_eq_true rfl)) dX4_wholeByTrying_6 ⟨Nat.le_of_ble_eq_true rfl, Nat.le_of_ble_eq_true rfl⟩) hD hS hA (fun r_1 H locs e_2 hP hD hS => ?_)
  obtain rfl := e_2
  have hP : va_P D vwCl (mws cI am g n k (zfl (WB g k) tb (32 * n)) (zfl (MY g n) my k) (LTA (zfl (WB g k) tb (32 * n)) (zfl (MY g n) my k) n k lt n) 0) H := hP
  have hD : va_D A (mws cI am g n k (zfl (WB g k) tb (32 * n)) (zfl (MY g n) my k) (LTA (zfl (WB g k) tb (32 * n)) (zfl (MY g n) my k) n k lt n) 0) := hD
  exact ziret (v := LW (zfl (WB g k) tb (32 * n)) (zfl (MY g n) my k) n k n (2 ^ k - 1)) hx hb hr hAe (by first | rfl | (simp only []; done) | (simp only []; rfl) | (simp []; done)) (zP_re hP (rfl)) (zD_re hD (rfl)) hS dX4_wholeByTrying_9
set_option maxHeartbeats 4000000 in
set_option maxRecDepth 100000 in
theorem zX4_worth (l : Launch) (D : va_G) (cI cL cE cP : ClassId) (am : Nat → Nat) (g : Nat → Nat → Int32) (n k : Nat) (tb my lt : Nat → Int32) (th : Int32) (hok : zOk g n k) (x : Int32) (sz : Nat) : Met l yX4_worth wsX4_worth ({ frames := 6, cells := 0, slots := 0, locals := 135 }) (zPw D cI cL cE cP (mws cI am g n k tb my lt th) sz [.ref (am 0), .int x]) (zQiX D (mws cI am g n k tb my lt th) sz (fun r : Int32 => (T_amount k x = 0 → r = LW (zfl (WB g k) tb (32 * n)) (upd (zfl (MY g n) my k) x.toNatClampNeg 256) n k n (2 ^ k - 1) - LW (zfl (WB g k) tb (32 * n)) (zfl (MY g n) my k) n k n (2 ^ k - 1))) (fun u => mws cI am g n k u.1 u.2.1 u.2.2 (T_amount k x))) 0 0 (va_A (mws cI am g n k tb my lt th) sz) := by
  refine Met.ofW (cc := cX4_worth) (maxL := 3) (ret := (some .int)) (by decide) rfl ?_
  intro p e s m args below meth c s₁ B hml hv
  obtain ⟨rfl, hsz, hE, hP, hD0⟩ := hv
  subst hsz
  obtain ⟨A, hAe⟩ : ∃ A, A = va_A (mws cI am g n k tb my lt th) s.heap.size := ⟨_, rfl⟩
  have hD : va_D A (mws cI am g n k tb my lt th) := by rw [hAe]; exact hD0.self
  have hA : ∀ q : Nat, s.heap.size ≤ q → A q := fun q h => by rw [hAe]; exact Or.inr h
  have hS : va_S A s.heap s.heap [] := va_S.rf
  have hx := B.exec
  have hb := B.bytes
  have hr := B.returns
  have hts := atoms_spec (ws := wsX4_worth) B.pre
  have hown : s.vm.findClass RX4 = some m.cls := findClass_of_methodNamed B.named
  have hlocks := B.notSynchronized
  have hK := hE.1
  have iX4 : ∀ w ∈ wsX40, w ∈ wsX4_worth := by decide +kernel
  have hl := lv_entry ([.ref (am 0), .int x]) (n := 3) (Nat.le_of_ble_eq_true rfl)
  rw [lg_entry_eq]
  generalize (lg_sl ([.ref (am 0), .int x]) ++ List.replicate (3 - (lg_sl ([.ref (am 0), .int x])).length) Slot.unset).toArray = ls at hl ⊢
  have hl : lv_has ls 3 [(0, .ref (am 0)), (1, .int x)] := hl
  refine lv_aload_n hx hb dX4_worth_0 rfl (lv_at hl 0 rfl) ?_
  refine lv_aload_n hx hb dX4_worth_1 rfl (lv_at hl 0 rfl) ?_
  refine lv_iload_n hx hb dX4_worth_2 rfl (lv_at hl 1 rfl) ?_
  refine vp_callSi (va_Run.run (va_runV (As := [.int x]) (rest := [.ref (am 0)]) ⟨hx, hb, hml, hown, hts⟩ (zX4_isPiece l D cI cL cE cP am g n k tb my lt th hok (x)) (cwV 1 hts gX4_worth_X4_isPiece rfl rfl rfl (by decide +kernel) ⟨Nat.le_of_ble_eq_true rfl, Nat.le_of_ble_eq_true rfl⟩) ⟨zPr_blind, va_recv hK hP (ci := 4) (q0 := 0) rfl mws_0, zPr_mk hE hP⟩ rfl rfl hl.1 rfl (lv_room (Nat.le_of_ble_eq_true rfl)) dX4_worth_3 ⟨Nat.le_of_ble_eq_true rfl, Nat.le_of_ble_eq_true rfl⟩)) (fun r_1 e_2 => ?_)
  obtain rfl := e_2
  refine lv_if_eq (tgt := 13) hx hb dX4_worth_6 (by decide) (fun c_3 => ?_) (fun c_3 => ?_)
  · have c_3 := zb_eq c_3
    refine lv_iconst (v := 1) hx hb dX4_worth_13 (by decide) ?_
    refine va_put (D := D) (ci := 4) (v := .int 1) (ty := .int) (C := RX4) (T := TX4) (N := 23) hx hb hts iX4 tyX4 tyX4_ok nmX4 hown hK hP hD hS 0 mws_0 rfl 22 (by decide) (hts (.fieldLink RX4 68 "CapitalReckonerModel" "thrown" "I") (by decide +kernel)) (fun _ h9 => h9) rfl (by decide +kernel) rfl rfl (Nat.le_of_ble_eq_true rfl) dX4_worth_14 (fun H locs hP hD hS => ?_)
    have hP : va_P D vwCl (mws cI am g n k tb my lt 1) H := zP_re hP (mws_sth).symm
    have hD : va_D A (mws cI am g n k tb my lt 1) := zD_re hD (mws_sth).symm
    refine lv_aload_n hx hb dX4_worth_17 rfl (lv_at hl 0 rfl) ?_
    refine va_get (D := D) (ci := 4) (v := .int 1) (C := RX4) (T := TX4) (N := 23) hx hb hts iX4 hown hK hP 0 mws_0 rfl 22 (by decide) (hts (.fieldLink RX4 68 "CapitalReckonerModel" "thrown" "I") (by decide +kernel)) (fun _ h9 => h9) rfl dX4_worth_18 ?_
    refine lv_if_le (tgt := 26) hx hb dX4_worth_21 (by decide) (fun c_4 => absurd c_4 (by decide)) (fun c_4 => ?_)
    refine lv_iconst (v := 0) hx hb dX4_worth_24 (by decide) ?_
    have hT : T_amount k x = 1 := by simp [T_amount, c_3]
    exact ziretX (v := 0) (u := (tb, my, lt)) hx hb hr hAe (fun h => absurd (hT.symm.trans h) (by decide)) (zP_re hP (by rw [hT])) (zD_re hD (by rw [hT])) hS dX4_worth_25
  · have c_3 := zb_ne c_3
    refine lv_iconst (v := 0) hx hb dX4_worth_9 (by decide) ?_
    refine lv_goto (tgt := 14) hx hb dX4_worth_10 (by decide) ?_
    refine va_put (D := D) (ci := 4) (v := .int 0) (ty := .int) (C := RX4) (T := TX4) (N := 23) hx hb hts iX4 tyX4 tyX4_ok nmX4 hown hK hP hD hS 0 mws_0 rfl 22 (by decide) (hts (.fieldLink RX4 68 "CapitalReckonerModel" "thrown" "I") (by decide +kernel)) (fun _ h9 => h9) rfl (by decide +kernel) rfl rfl (Nat.le_of_ble_eq_true rfl) dX4_worth_14 (fun H locs hP hD hS => ?_)
    have hP : va_P D vwCl (mws cI am g n k tb my lt 0) H := zP_re hP (mws_sth).symm
    have hD : va_D A (mws cI am g n k tb my lt 0) := zD_re hD (mws_sth).symm
    refine lv_aload_n hx hb dX4_worth_17 rfl (lv_at hl 0 rfl) ?_
    refine va_get (D := D) (ci := 4) (v := .int 0) (C := RX4) (T := TX4) (N := 23) hx hb hts iX4 hown hK hP 0 mws_0 rfl 22 (by decide) (hts (.fieldLink RX4 68 "CapitalReckonerModel" "thrown" "I") (by decide +kernel)) (fun _ h9 => h9) rfl dX4_worth_18 ?_
    refine lv_if_le (tgt := 26) hx hb dX4_worth_21 (by decide) (fun c_5 => ?_) (fun c_5 => absurd c_5 (by decide))
    refine lv_aload_n hx hb dX4_worth_26 rfl (lv_at hl 0 rfl) ?_
    refine zcalli (va_runV (As := []) (rest := []) ⟨hx, hb, hml, hown, hts⟩ (zX4_wholes l D cI cL cE cP am g n k tb my lt 0 hok H.size) (cwV 0 hts gX4_worth_X4_wholes rfl rfl rfl (by decide +kernel) ⟨Nat.le_of_ble_eq_true rfl, Nat.le_of_ble_eq_true rfl⟩) ⟨zPw_blind, va_recv hK hP (ci := 4) (q0 := 0) rfl mws_0, zPw_mk hE hP hD⟩ rfl rfl hl.1 rfl (lv_room (Nat.le_of_ble_eq_true rfl)) dX4_worth_27 ⟨Nat.le_of_ble_eq_true rfl, Nat.le_of_ble_eq_true rfl⟩) hD hS hA (fun r_6 H locs e_7 hP hD hS => ?_)
    obtain rfl := e_7
    have hP : va_P D vwCl (mws cI am g n k (zfl (WB g k) tb (32 * n)) (zfl (MY g n) my k) (LTA (zfl (WB g k) tb (32 * n)) (zfl (MY g n) my k) n k lt n) 0) H := hP
    have hD : va_D A (mws cI am g n k (zfl (WB g k) tb (32 * n)) (zfl (MY g n) my k) (LTA (zfl (WB g k) tb (32 * n)) (zfl (MY g n) my k) n k lt n) 0) := hD
    refine lv_istore_n (lv' := [(2, .int (LW (zfl (WB g k) tb (32 * n)) (zfl (MY g n) my k) n k n (2 ^ k - 1))), (0, .ref (am 0)), (1, .int x)]) hx hb dX4_worth_30 rfl hl (by decide) rfl (fun ls hl => ?_)
    refine lv_aload_n hx hb dX4_worth_31 rfl (lv_at hl 1 rfl) ?_
    refine va_get (D := D) (ci := 4) (v := .ref (am 17)) (C := RX4) (T := TX4) (N := 23) hx hb hts iX4 hown hK hP 0 mws_0 rfl 20 (by decide) (hts (.fieldLink RX4 62 "CapitalReckonerModel" "may" "[I") (by decide +kernel)) (fun _ h9 => h9) rfl dX4_worth_32 ?_
    refine lv_iload_n hx hb dX4_worth_35 rfl (lv_at hl 2 rfl) ?_
    refine lv_sipush (v := 256) hx hb dX4_worth_36 (by decide) ?_
    refine ziast (f2 := upd (zfl (MY g n) my k) x.toNatClampNeg 256) hx hb hK hP hD hS 17 0 mws_17 rfl (vp_in_le (zex_vp hok.k8 c_3) hok.k) (rfl) dX4_worth_39 (fun H locs hP hD hS => ?_)
    have hP : va_P D vwCl (mws cI am g n k (zfl (WB g k) tb (32 * n)) (upd (zfl (MY g n) my k) x.toNatClampNeg 256) (LTA (zfl (WB g k) tb (32 * n)) (zfl (MY g n) my k) n k lt n) 0) H := zP_re hP (mws_s17).symm
    have hD : va_D A (mws cI am g n k (zfl (WB g k) tb (32 * n)) (upd (zfl (MY g n) my k) x.toNatClampNeg 256) (LTA (zfl (WB g k) tb (32 * n)) (zfl (MY g n) my k) n k lt n) 0) := zD_re hD (mws_s17).symm
    refine lv_aload_n hx hb dX4_worth_40 rfl (lv_at hl 1 rfl) ?_
    refine zcalli (va_runV (As := []) (rest := []) ⟨hx, hb, hml, hown, hts⟩ (zX4_leastWhole l D cI cL cE cP am g n k (zfl (WB g k) tb (32 * n)) (upd (zfl (MY g n) my k) x.toNatClampNeg 256) (LTA (zfl (WB g k) tb (32 * n)) (zfl (MY g n) my k) n k lt n) 0 hok H.size) (cwV 0 hts gX4_worth_X4_leastWhole rfl rfl rfl (by decide +kernel) ⟨Nat.le_of_ble_eq_true rfl, Nat.le_of_ble_eq_true rfl⟩) ⟨zPw_blind, va_recv hK hP (ci := 4) (q0 := 0) rfl mws_0, zPw_mk hE hP hD⟩ rfl rfl hl.1 rfl (lv_room (Nat.le_of_ble_eq_true rfl)) dX4_worth_41 ⟨Nat.le_of_ble_eq_true rfl, Nat.le_of_ble_eq_true rfl⟩) hD hS hA (fun r_8 H locs e_9 hP hD hS => ?_)
    obtain rfl := e_9
    have hP : va_P D vwCl (mws cI am g n k (zfl (WB g k) tb (32 * n)) (upd (zfl (MY g n) my k) x.toNatClampNeg 256) (LTA (zfl (WB g k) tb (32 * n)) (upd (zfl (MY g n) my k) x.toNatClampNeg 256) n k (LTA (zfl (WB g k) tb (32 * n)) (zfl (MY g n) my k) n k lt n) n) 0) H := hP
    have hD : va_D A (mws cI am g n k (zfl (WB g k) tb (32 * n)) (upd (zfl (MY g n) my k) x.toNatClampNeg 256) (LTA (zfl (WB g k) tb (32 * n)) (upd (zfl (MY g n) my k) x.toNatClampNeg 256) n k (LTA (zfl (WB g k) tb (32 * n)) (zfl (MY g n) my k) n k lt n) n) 0) := hD
    refine lv_iload_n hx hb dX4_worth_44 rfl (lv_at hl 0 rfl) ?_
    refine lv_isub hx hb dX4_worth_45 ?_
    have hT : T_amount k x = 0 := by simp [T_amount, c_3]
    exact ziretX (v := (LW (zfl (WB g k) tb (32 * n)) (upd (zfl (MY g n) my k) x.toNatClampNeg 256) n k n (2 ^ k - 1)) - (LW (zfl (WB g k) tb (32 * n)) (zfl (MY g n) my k) n k n (2 ^ k - 1))) (u := (zfl (WB g k) tb (32 * n), upd (zfl (MY g n) my k) x.toNatClampNeg 256, LTA (zfl (WB g k) tb (32 * n)) (upd (zfl (MY g n) my k) x.toNatClampNeg 256) n k (LTA (zfl (WB g k) tb (32 * n)) (zfl (MY g n) my k) n k lt n) n)) hx hb hr hAe (fun _ => rfl) (zP_re hP (by rw [hT])) (zD_re hD (by rw [hT])) hS dX4_worth_46
set_option maxHeartbeats 4000000 in
set_option maxRecDepth 100000 in
theorem zX4_plains (l : Launch) (D : va_G) (cI cL cE cP : ClassId) (am : Nat → Nat) (g : Nat → Nat → Int32) (n k : Nat) (tb my lt : Nat → Int32) (th : Int32) (hok : zOk g n k) : Met l yX4_plains wsX4_plains ({ frames := 2, cells := 0, slots := 0, locals := 42 }) (zPr D cI cL cE cP (mws cI am g n k tb my lt th) [.ref (am 0)]) (vp_Si (fun r : Int32 => r = plL g n)) 0 0 (fun _ => False) := by
  refine Met.ofW (cc := cX4_plains) (maxL := 3) (ret := (some .int)) (by decide) rfl ?_
  intro p e s m args below meth c s₁ B hml hv
  obtain ⟨rfl, hE, hP⟩ := hv
  have hx := B.exec
  have hb := B.bytes
  have hr := B.returns
  have hts := atoms_spec (ws := wsX4_plains) B.pre
  have hown : s.vm.findClass RX4 = some m.cls := findClass_of_methodNamed B.named
  have hlocks := B.notSynchronized
  have hK := hE.1
  have iX4 : ∀ w ∈ wsX40, w ∈ wsX4_plains := by decide +kernel
  have hl := lv_entry ([.ref (am 0)]) (n := 3) (Nat.le_of_ble_eq_true rfl)
  rw [lg_entry_eq]
  generalize (lg_sl ([.ref (am 0)]) ++ List.replicate (3 - (lg_sl ([.ref (am 0)])).length) Slot.unset).toArray = ls at hl ⊢
  have hl : lv_has ls 3 [(0, .ref (am 0))] := hl
  refine lv_iconst (v := 0) hx hb dX4_plains_0 (by decide) ?_
  refine lv_istore_n (lv' := [(1, .int 0), (0, .ref (am 0))]) hx hb dX4_plains_1 rfl hl (by decide) rfl (fun ls hl => ?_)
  refine lv_iconst (v := 0) hx hb dX4_plains_2 (by decide) ?_
  refine lv_istore_n (lv' := [(2, .int 0), (1, .int 0), (0, .ref (am 0))]) hx hb dX4_plains_3 rfl hl (by decide) rfl (fun ls hl => ?_)
  refine zloop (nL := 3) (lv := fun i => [(0, .ref (am 0)), (1, .int (plL g (i))), (2, .int (nI (i)))]) (n := n) (lv_re (lv_sub hl [2, 1, 0] rfl) (by first | rfl | (simp only [plL, nI_0]; done) | (simp only [plL, nI_0]; rfl) | (simp [plL, nI_0]; done))) (fun ls hl => ?_) (fun i hi ih_4 ls hl => ?_)
  · have hl : lv_has ls 3 [(0, .ref (am 0)), (1, .int (plL g (n))), (2, .int (nI (n)))] := hl
    refine lv_iload_n hx hb dX4_plains_4 rfl (lv_at hl 2 rfl) ?_
    refine lv_aload_n hx hb dX4_plains_5 rfl (lv_at hl 0 rfl) ?_
    refine va_get (D := D) (ci := 4) (v := .int (nI n)) (C := RX4) (T := TX4) (N := 23) hx hb hts iX4 hown hK hP 0 mws_0 rfl 4 (by decide) (hts (.fieldLink RX4 75 "CapitalReckonerModel" "exposures" "I") (by decide +kernel)) (fun _ h9 => h9) rfl dX4_plains_6 ?_
    refine lv_icmp_ge (tgt := 40) hx hb dX4_plains_9 (by decide) (fun c_1 => ?_) (fun c_1 => absurd (zle_refl (nI n)) c_1)
    refine lv_iload_n hx hb dX4_plains_40 rfl (lv_at hl 1 rfl) ?_
    exact W.iret (v := plL g (n)) hx hb hr (fun t ht hW => ⟨_, rfl, (by first | rfl | (simp only [plL, c_1]; done) | (simp only [plL, c_1]; rfl) | (simp [plL, c_1]; done)), ht⟩) (fun _ h => nomatch h) dX4_plains_41
  · have hl : lv_has ls 3 [(0, .ref (am 0)), (1, .int (plL g (i))), (2, .int (nI (i)))] := hl
    refine lv_iload_n hx hb dX4_plains_4 rfl (lv_at hl 2 rfl) ?_
    refine lv_aload_n hx hb dX4_plains_5 rfl (lv_at hl 0 rfl) ?_
    refine va_get (D := D) (ci := 4) (v := .int (nI n)) (C := RX4) (T := TX4) (N := 23) hx hb hts iX4 hown hK hP 0 mws_0 rfl 4 (by decide) (hts (.fieldLink RX4 75 "CapitalReckonerModel" "exposures" "I") (by decide +kernel)) (fun _ h9 => h9) rfl dX4_plains_6 ?_
    refine lv_icmp_ge (tgt := 40) hx hb dX4_plains_9 (by decide) (fun c_2 => absurd c_2 (nI_ge hi (by have := hok.n; omega))) (fun c_2 => ?_)
    refine lv_iload_n hx hb dX4_plains_12 rfl (lv_at hl 1 rfl) ?_
    refine lv_aload_n hx hb dX4_plains_13 rfl (lv_at hl 0 rfl) ?_
    refine lv_iload_n hx hb dX4_plains_14 rfl (lv_at hl 2 rfl) ?_
    refine vp_callSi (va_Run.run (va_runV (As := [.int (nI (i))]) (rest := [.int (plL g (i))]) ⟨hx, hb, hml, hown, hts⟩ (zX4_amounts l D cI cL cE cP am g n k tb my lt th hok (nI (i)) (i) hi rfl) (cwV 1 hts gX4_plains_X4_amounts rfl rfl rfl (by decide +kernel) ⟨Nat.le_of_ble_eq_true rfl, Nat.le_of_ble_eq_true rfl⟩) ⟨zPr_blind, va_recv hK hP (ci := 4) (q0 := 0) rfl mws_0, zPr_mk hE hP⟩ rfl rfl hl.1 rfl (lv_room (Nat.le_of_ble_eq_true rfl)) dX4_plains_15 ⟨Nat.le_of_ble_eq_true rfl, Nat.le_of_ble_eq_true rfl⟩)) (fun r_3 e_4 => ?_)
    obtain rfl := e_4
    refine lv_aload_n hx hb dX4_plains_18 rfl (lv_at hl 0 rfl) ?_
    refine va_get (D := D) (ci := 4) (v := .ref (am 2)) (C := RX4) (T := TX4) (N := 23) hx hb hts iX4 hown hK hP 0 mws_0 rfl 1 (by decide) (hts (.fieldLink RX4 13 "CapitalReckonerModel" "simple" "[I") (by decide +kernel)) (fun _ h9 => h9) rfl dX4_plains_19 ?_
    refine lv_aload_n hx hb dX4_plains_22 rfl (lv_at hl 0 rfl) ?_
    refine va_get (D := D) (ci := 4) (v := .ref (am 3)) (C := RX4) (T := TX4) (N := 23) hx hb hts iX4 hown hK hP 0 mws_0 rfl 5 (by decide) (hts (.fieldLink RX4 20 "CapitalReckonerModel" "kind" "[I") (by decide +kernel)) (fun _ h9 => h9) rfl dX4_plains_23 ?_
    refine lv_iload_n hx hb dX4_plains_26 rfl (lv_at hl 2 rfl) ?_
    refine ziald (v := (g 3) i) hx hb hK hP 3 0 mws_3 rfl (vp_in_nI (by have := hok.n; omega) (by decide)) (by rw [nI_clamp (by have := hok.n; omega)]) dX4_plains_27 ?_
    refine ziald (v := (g 1) ((g 3 i).toNatClampNeg)) hx hb hK hP 2 0 mws_2 rfl ((hok.2.2.2.2.2.1 i hi).1) (rfl) dX4_plains_28 ?_
    refine vp_callSi (va_Run.run (va_runS (As := [.int (amt g i), .int ((g 1) ((g 3 i).toNatClampNeg))]) (rest := [.int (plL g (i))]) ⟨hx, hb, hml, hown, hts⟩ (zX4_percent l D cI cL cE cP (mws cI am g n k tb my lt th) (amt g i) ((g 1) ((g 3 i).toNatClampNeg))) (va_cwS 2 hts gX4_plains_X4_percent rfl rfl rfl (by decide +kernel) ⟨Nat.le_of_ble_eq_true rfl, Nat.le_of_ble_eq_true rfl⟩) ⟨zPr_blind, zPr_mk hE hP⟩ rfl rfl hl.1 rfl (lv_room (Nat.le_of_ble_eq_true rfl)) dX4_plains_29 ⟨Nat.le_of_ble_eq_true rfl, Nat.le_of_ble_eq_true rfl⟩)) (fun r_5 e_6 => ?_)
    obtain rfl := e_6
    refine lv_iadd hx hb dX4_plains_32 ?_
    refine lv_istore_n (lv' := [(1, .int ((plL g (i)) + (pct (amt g i) ((g 1) ((g 3 i).toNatClampNeg))))), (0, .ref (am 0)), (2, .int (nI (i)))]) hx hb dX4_plains_33 rfl hl (by decide) rfl (fun ls hl => ?_)
    refine lv_iinc (v := nI ((i) + 1)) (lv' := [(2, .int (nI ((i) + 1))), (1, .int ((plL g (i)) + (pct (amt g i) ((g 1) ((g 3 i).toNatClampNeg))))), (0, .ref (am 0))]) hx hb dX4_plains_34 hl (k := 2) rfl (zinc _) (by decide) rfl (fun ls hl => ?_)
    refine lv_goto (tgt := 4) hx hb dX4_plains_37 (by decide) ?_
    exact ih_4 ls (lv_re (lv_sub hl [2, 1, 0] rfl) (by simp only [plL]; rw [zat_in (by decide) (hok.2.2.2.2.2.1 i hi).1]; rfl))
set_option maxHeartbeats 4000000 in
set_option maxRecDepth 100000 in
theorem zX4_plain (l : Launch) (D : va_G) (cI cL cE cP : ClassId) (am : Nat → Nat) (g : Nat → Nat → Int32) (n k : Nat) (tb my lt : Nat → Int32) (th : Int32) (hok : zOk g n k) (sz : Nat) : Met l yX4_plain wsX4_plain ({ frames := 3, cells := 0, slots := 0, locals := 64 }) (zPw D cI cL cE cP (mws cI am g n k tb my lt th) sz [.ref (am 0)]) (zQi D (mws cI am g n k tb my lt th) sz (fun r : Int32 => r = plL g n) (mws cI am g n k tb my lt 0)) 0 0 (va_A (mws cI am g n k tb my lt th) sz) := by
  refine Met.ofW (cc := cX4_plain) (maxL := 1) (ret := (some .int)) (by decide) rfl ?_
  intro p e s m args below meth c s₁ B hml hv
  obtain ⟨rfl, hsz, hE, hP, hD0⟩ := hv
  subst hsz
  obtain ⟨A, hAe⟩ : ∃ A, A = va_A (mws cI am g n k tb my lt th) s.heap.size := ⟨_, rfl⟩
  have hD : va_D A (mws cI am g n k tb my lt th) := by rw [hAe]; exact hD0.self
  have hA : ∀ q : Nat, s.heap.size ≤ q → A q := fun q h => by rw [hAe]; exact Or.inr h
  have hS : va_S A s.heap s.heap [] := va_S.rf
  have hx := B.exec
  have hb := B.bytes
  have hr := B.returns
  have hts := atoms_spec (ws := wsX4_plain) B.pre
  have hown : s.vm.findClass RX4 = some m.cls := findClass_of_methodNamed B.named
  have hlocks := B.notSynchronized
  have hK := hE.1
  have iX4 : ∀ w ∈ wsX40, w ∈ wsX4_plain := by decide +kernel
  have hl := lv_entry ([.ref (am 0)]) (n := 1) (Nat.le_of_ble_eq_true rfl)
  rw [lg_entry_eq]
  generalize (lg_sl ([.ref (am 0)]) ++ List.replicate (1 - (lg_sl ([.ref (am 0)])).length) Slot.unset).toArray = ls at hl ⊢
  have hl : lv_has ls 1 [(0, .ref (am 0))] := hl
  refine lv_aload_n hx hb dX4_plain_0 rfl (lv_at hl 0 rfl) ?_
  refine lv_iconst (v := 0) hx hb dX4_plain_1 (by decide) ?_
  refine va_put (D := D) (ci := 4) (v := .int 0) (ty := .int) (C := RX4) (T := TX4) (N := 23) hx hb hts iX4 tyX4 tyX4_ok nmX4 hown hK hP hD hS 0 mws_0 rfl 22 (by decide) (hts (.fieldLink RX4 68 "CapitalReckonerModel" "thrown" "I") (by decide +kernel)) (fun _ h9 => h9) rfl (by decide +kernel) rfl rfl (Nat.le_of_ble_eq_true rfl) dX4_plain_2 (fun H locs hP hD hS => ?_)
  have hP : va_P D vwCl (mws cI am g n k tb my lt 0) H := zP_re hP (mws_sth).symm
  have hD : va_D A (mws cI am g n k tb my lt 0) := zD_re hD (mws_sth).symm
  refine lv_aload_n hx hb dX4_plain_5 rfl (lv_at hl 0 rfl) ?_
  refine vp_callSi (va_Run.run (va_runV (As := []) (rest := []) ⟨hx, hb, hml, hown, hts⟩ (zX4_plains l D cI cL cE cP am g n k tb my lt 0 hok) (cwV 0 hts gX4_plain_X4_plains rfl rfl rfl (by decide +kernel) ⟨Nat.le_of_ble_eq_true rfl, Nat.le_of_ble_eq_true rfl⟩) ⟨zPr_blind, va_recv hK hP (ci := 4) (q0 := 0) rfl mws_0, zPr_mk hE hP⟩ rfl rfl hl.1 rfl (lv_room (Nat.le_of_ble_eq_true rfl)) dX4_plain_6 ⟨Nat.le_of_ble_eq_true rfl, Nat.le_of_ble_eq_true rfl⟩)) (fun r_1 e_2 => ?_)
  obtain rfl := e_2
  exact ziret (v := plL g n) hx hb hr hAe (by first | rfl | (simp only []; done) | (simp only []; rfl) | (simp []; done)) (zP_re hP (rfl)) (zD_re hD (rfl)) hS dX4_plain_9
set_option maxHeartbeats 4000000 in
set_option maxRecDepth 100000 in
theorem zX4_required (l : Launch) (D : va_G) (cI cL cE cP : ClassId) (am : Nat → Nat) (g : Nat → Nat → Int32) (n k : Nat) (tb my lt : Nat → Int32) (th : Int32) (hok : zOk g n k) (sz : Nat) : Met l yX4_required wsX4_required ({ frames := 6, cells := 0, slots := 0, locals := 135 }) (zPw D cI cL cE cP (mws cI am g n k tb my lt th) sz [.ref (am 0)]) (zQi D (mws cI am g n k tb my lt th) sz (fun r : Int32 => r = if pct (plL g n) (g 2 0) < LW (zfl (WB g k) tb (32 * n)) (zfl (MY g n) my k) n k n (2 ^ k - 1) then LW (zfl (WB g k) tb (32 * n)) (zfl (MY g n) my k) n k n (2 ^ k - 1) else pct (plL g n) (g 2 0)) (mws cI am g n k (zfl (WB g k) tb (32 * n)) (zfl (MY g n) my k) (LTA (zfl (WB g k) tb (32 * n)) (zfl (MY g n) my k) n k lt n) 0)) 0 0 (va_A (mws cI am g n k tb my lt th) sz) := by
  refine Met.ofW (cc := cX4_required) (maxL := 3) (ret := (some .int)) (by decide) rfl ?_
  intro p e s m args below meth c s₁ B hml hv
  obtain ⟨rfl, hsz, hE, hP, hD0⟩ := hv
  subst hsz
  obtain ⟨A, hAe⟩ : ∃ A, A = va_A (mws cI am g n k tb my lt th) s.heap.size := ⟨_, rfl⟩
  have hD : va_D A (mws cI am g n k tb my lt th) := by rw [hAe]; exact hD0.self
  have hA : ∀ q : Nat, s.heap.size ≤ q → A q := fun q h => by rw [hAe]; exact Or.inr h
  have hS : va_S A s.heap s.heap [] := va_S.rf
  have hx := B.exec
  have hb := B.bytes
  have hr := B.returns
  have hts := atoms_spec (ws := wsX4_required) B.pre
  have hown : s.vm.findClass RX4 = some m.cls := findClass_of_methodNamed B.named
  have hlocks := B.notSynchronized
  have hK := hE.1
  have iX4 : ∀ w ∈ wsX40, w ∈ wsX4_required := by decide +kernel
  have hl := lv_entry ([.ref (am 0)]) (n := 3) (Nat.le_of_ble_eq_true rfl)
  rw [lg_entry_eq]
  generalize (lg_sl ([.ref (am 0)]) ++ List.replicate (3 - (lg_sl ([.ref (am 0)])).length) Slot.unset).toArray = ls at hl ⊢
  have hl : lv_has ls 3 [(0, .ref (am 0))] := hl
  refine lv_aload_n hx hb dX4_required_0 rfl (lv_at hl 0 rfl) ?_
  refine lv_iconst (v := 0) hx hb dX4_required_1 (by decide) ?_
  refine va_put (D := D) (ci := 4) (v := .int 0) (ty := .int) (C := RX4) (T := TX4) (N := 23) hx hb hts iX4 tyX4 tyX4_ok nmX4 hown hK hP hD hS 0 mws_0 rfl 22 (by decide) (hts (.fieldLink RX4 68 "CapitalReckonerModel" "thrown" "I") (by decide +kernel)) (fun _ h9 => h9) rfl (by decide +kernel) rfl rfl (Nat.le_of_ble_eq_true rfl) dX4_required_2 (fun H locs hP hD hS => ?_)
  have hP : va_P D vwCl (mws cI am g n k tb my lt 0) H := zP_re hP (mws_sth).symm
  have hD : va_D A (mws cI am g n k tb my lt 0) := zD_re hD (mws_sth).symm
  refine lv_aload_n hx hb dX4_required_5 rfl (lv_at hl 0 rfl) ?_
  refine vp_callSi (va_Run.run (va_runV (As := []) (rest := []) ⟨hx, hb, hml, hown, hts⟩ (zX4_plains l D cI cL cE cP am g n k tb my lt 0 hok) (cwV 0 hts gX4_required_X4_plains rfl rfl rfl (by decide +kernel) ⟨Nat.le_of_ble_eq_true rfl, Nat.le_of_ble_eq_true rfl⟩) ⟨zPr_blind, va_recv hK hP (ci := 4) (q0 := 0) rfl mws_0, zPr_mk hE hP⟩ rfl rfl hl.1 rfl (lv_room (Nat.le_of_ble_eq_true rfl)) dX4_required_6 ⟨Nat.le_of_ble_eq_true rfl, Nat.le_of_ble_eq_true rfl⟩)) (fun r_1 e_2 => ?_)
  obtain rfl := e_2
  refine lv_aload_n hx hb dX4_required_9 rfl (lv_at hl 0 rfl) ?_
  refine va_get (D := D) (ci := 4) (v := .int ((g 2) 0)) (C := RX4) (T := TX4) (N := 23) hx hb hts iX4 hown hK hP 0 mws_0 rfl 2 (by decide) (hts (.fieldLink RX4 16 "CapitalReckonerModel" "floor" "I") (by decide +kernel)) (fun _ h9 => h9) rfl dX4_required_10 ?_
  refine vp_callSi (va_Run.run (va_runS (As := [.int (plL g n), .int ((g 2) 0)]) (rest := []) ⟨hx, hb, hml, hown, hts⟩ (zX4_percent l D cI cL cE cP (mws cI am g n k tb my lt 0) (plL g n) ((g 2) 0)) (va_cwS 2 hts gX4_required_X4_percent rfl rfl rfl (by decide +kernel) ⟨Nat.le_of_ble_eq_true rfl, Nat.le_of_ble_eq_true rfl⟩) ⟨zPr_blind, zPr_mk hE hP⟩ rfl rfl hl.1 rfl (lv_room (Nat.le_of_ble_eq_true rfl)) dX4_required_13 ⟨Nat.le_of_ble_eq_true rfl, Nat.le_of_ble_eq_true rfl⟩)) (fun r_3 e_4 => ?_)
  obtain rfl := e_4
  refine lv_istore_n (lv' := [(1, .int (pct (plL g n) ((g 2) 0))), (0, .ref (am 0))]) hx hb dX4_required_16 rfl hl (by decide) rfl (fun ls hl => ?_)
  refine lv_aload_n hx hb dX4_required_17 rfl (lv_at hl 1 rfl) ?_
  refine zcalli (va_runV (As := []) (rest := []) ⟨hx, hb, hml, hown, hts⟩ (zX4_wholes l D cI cL cE cP am g n k tb my lt 0 hok H.size) (cwV 0 hts gX4_required_X4_wholes rfl rfl rfl (by decide +kernel) ⟨Nat.le_of_ble_eq_true rfl, Nat.le_of_ble_eq_true rfl⟩) ⟨zPw_blind, va_recv hK hP (ci := 4) (q0 := 0) rfl mws_0, zPw_mk hE hP hD⟩ rfl rfl hl.1 rfl (lv_room (Nat.le_of_ble_eq_true rfl)) dX4_required_18 ⟨Nat.le_of_ble_eq_true rfl, Nat.le_of_ble_eq_true rfl⟩) hD hS hA (fun r_5 H locs e_6 hP hD hS => ?_)
  obtain rfl := e_6
  have hP : va_P D vwCl (mws cI am g n k (zfl (WB g k) tb (32 * n)) (zfl (MY g n) my k) (LTA (zfl (WB g k) tb (32 * n)) (zfl (MY g n) my k) n k lt n) 0) H := hP
  have hD : va_D A (mws cI am g n k (zfl (WB g k) tb (32 * n)) (zfl (MY g n) my k) (LTA (zfl (WB g k) tb (32 * n)) (zfl (MY g n) my k) n k lt n) 0) := hD
  refine lv_istore_n (lv' := [(2, .int (LW (zfl (WB g k) tb (32 * n)) (zfl (MY g n) my k) n k n (2 ^ k - 1))), (1, .int (pct (plL g n) ((g 2) 0))), (0, .ref (am 0))]) hx hb dX4_required_21 rfl hl (by decide) rfl (fun ls hl => ?_)
  refine lv_iload_n hx hb dX4_required_22 rfl (lv_at hl 0 rfl) ?_
  refine lv_iload_n hx hb dX4_required_23 rfl (lv_at hl 1 rfl) ?_
  refine lv_icmp_le (tgt := 31) hx hb dX4_required_24 (by decide) (fun c_7 => ?_) (fun c_7 => ?_)
  · refine lv_iload_n hx hb dX4_required_31 rfl (lv_at hl 1 rfl) ?_
    exact ziret (v := pct (plL g n) ((g 2) 0)) hx hb hr hAe (by show _ = _; first | rw [if_pos (Int32.not_le.mp c_7)] | rw [if_neg (Int32.not_lt.mpr c_7)]) (zP_re hP (rfl)) (zD_re hD (rfl)) hS dX4_required_32
  · refine lv_iload_n hx hb dX4_required_27 rfl (lv_at hl 0 rfl) ?_
    refine lv_goto (tgt := 32) hx hb dX4_required_28 (by decide) ?_
    exact ziret (v := LW (zfl (WB g k) tb (32 * n)) (zfl (MY g n) my k) n k n (2 ^ k - 1)) hx hb hr hAe (by show _ = _; first | rw [if_pos (Int32.not_le.mp c_7)] | rw [if_neg (Int32.not_lt.mpr c_7)]) (zP_re hP (rfl)) (zD_re hD (rfl)) hS dX4_required_32
set_option maxHeartbeats 4000000 in
set_option maxRecDepth 100000 in
theorem zX4_baredOf (l : Launch) (D : va_G) (cI cL cE cP : ClassId) (am : Nat → Nat) (g : Nat → Nat → Int32) (n k : Nat) (tb my lt : Nat → Int32) (th : Int32) (hok : zOk g n k) (p0 : Int32) : Met l yX4_baredOf wsX4_baredOf ({ frames := 3, cells := 0, slots := 0, locals := 68 }) (zPr D cI cL cE cP (mws cI am g n k tb my lt th) [.ref (am 0), .int p0]) (vp_Si (fun r : Int32 => r = bdL g k my p0 n)) 0 0 (fun _ => False) := by
  refine Met.ofW (cc := cX4_baredOf) (maxL := 4) (ret := (some .int)) (by decide) rfl ?_
  intro p e s m args below meth c s₁ B hml hv
  obtain ⟨rfl, hE, hP⟩ := hv
  have hx := B.exec
  have hb := B.bytes
  have hr := B.returns
  have hts := atoms_spec (ws := wsX4_baredOf) B.pre
  have hown : s.vm.findClass RX4 = some m.cls := findClass_of_methodNamed B.named
  have hlocks := B.notSynchronized
  have hK := hE.1
  have iX4 : ∀ w ∈ wsX40, w ∈ wsX4_baredOf := by decide +kernel
  have hl := lv_entry ([.ref (am 0), .int p0]) (n := 4) (Nat.le_of_ble_eq_true rfl)
  rw [lg_entry_eq]
  generalize (lg_sl ([.ref (am 0), .int p0]) ++ List.replicate (4 - (lg_sl ([.ref (am 0), .int p0])).length) Slot.unset).toArray = ls at hl ⊢
  have hl : lv_has ls 4 [(0, .ref (am 0)), (1, .int p0)] := hl
  refine lv_iconst (v := 0) hx hb dX4_baredOf_0 (by decide) ?_
  refine lv_istore_n (lv' := [(2, .int 0), (0, .ref (am 0)), (1, .int p0)]) hx hb dX4_baredOf_1 rfl hl (by decide) rfl (fun ls hl => ?_)
  refine lv_iconst (v := 0) hx hb dX4_baredOf_2 (by decide) ?_
  refine lv_istore_n (lv' := [(3, .int 0), (2, .int 0), (0, .ref (am 0)), (1, .int p0)]) hx hb dX4_baredOf_3 rfl hl (by decide) rfl (fun ls hl => ?_)
  refine zloop (nL := 4) (lv := fun i => [(0, .ref (am 0)), (1, .int p0), (2, .int (bdL g k my p0 (i))), (3, .int (nI (i)))]) (n := n) (lv_re (lv_sub hl [2, 3, 1, 0] rfl) (by first | rfl | (simp only [bdL, nI_0]; done) | (simp only [bdL, nI_0]; rfl) | (simp [bdL, nI_0]; done))) (fun ls hl => ?_) (fun i hi ih_4 ls hl => ?_)
  · have hl : lv_has ls 4 [(0, .ref (am 0)), (1, .int p0), (2, .int (bdL g k my p0 (n))), (3, .int (nI (n)))] := hl
    refine lv_iload_n hx hb dX4_baredOf_4 rfl (lv_at hl 3 rfl) ?_
    refine lv_aload_n hx hb dX4_baredOf_5 rfl (lv_at hl 0 rfl) ?_
    refine va_get (D := D) (ci := 4) (v := .int (nI n)) (C := RX4) (T := TX4) (N := 23) hx hb hts iX4 hown hK hP 0 mws_0 rfl 4 (by decide) (hts (.fieldLink RX4 75 "CapitalReckonerModel" "exposures" "I") (by decide +kernel)) (fun _ h9 => h9) rfl dX4_baredOf_6 ?_
    refine lv_icmp_ge (tgt := 45) hx hb dX4_baredOf_9 (by decide) (fun c_1 => ?_) (fun c_1 => absurd (zle_refl (nI n)) c_1)
    refine lv_iload_n hx hb dX4_baredOf_45 rfl (lv_at hl 2 rfl) ?_
    exact W.iret (v := bdL g k my p0 (n)) hx hb hr (fun t ht hW => ⟨_, rfl, (by first | rfl | (simp only [c_1]; done) | (simp only [c_1]; rfl) | (simp [c_1]; done)), ht⟩) (fun _ h => nomatch h) dX4_baredOf_46
  · have hl : lv_has ls 4 [(0, .ref (am 0)), (1, .int p0), (2, .int (bdL g k my p0 (i))), (3, .int (nI (i)))] := hl
    refine lv_iload_n hx hb dX4_baredOf_4 rfl (lv_at hl 3 rfl) ?_
    refine lv_aload_n hx hb dX4_baredOf_5 rfl (lv_at hl 0 rfl) ?_
    refine va_get (D := D) (ci := 4) (v := .int (nI n)) (C := RX4) (T := TX4) (N := 23) hx hb hts iX4 hown hK hP 0 mws_0 rfl 4 (by decide) (hts (.fieldLink RX4 75 "CapitalReckonerModel" "exposures" "I") (by decide +kernel)) (fun _ h9 => h9) rfl dX4_baredOf_6 ?_
    refine lv_icmp_ge (tgt := 45) hx hb dX4_baredOf_9 (by decide) (fun c_2 => absurd c_2 (nI_ge hi (by have := hok.n; omega))) (fun c_2 => ?_)
    refine lv_iload_n hx hb dX4_baredOf_12 rfl (lv_at hl 2 rfl) ?_
    refine lv_aload_n hx hb dX4_baredOf_13 rfl (lv_at hl 0 rfl) ?_
    refine va_get (D := D) (ci := 4) (v := .ref (am 4)) (C := RX4) (T := TX4) (N := 23) hx hb hts iX4 hown hK hP 0 mws_0 rfl 6 (by decide) (hts (.fieldLink RX4 23 "CapitalReckonerModel" "party" "[I") (by decide +kernel)) (fun _ h9 => h9) rfl dX4_baredOf_14 ?_
    refine lv_iload_n hx hb dX4_baredOf_17 rfl (lv_at hl 3 rfl) ?_
    refine ziald (v := (g 4) i) hx hb hK hP 4 0 mws_4 rfl (vp_in_nI (by have := hok.n; omega) (by decide)) (by rw [nI_clamp (by have := hok.n; omega)]) dX4_baredOf_18 ?_
    refine lv_iload_n hx hb dX4_baredOf_19 rfl (lv_at hl 1 rfl) ?_
    refine lv_icmp_ne (tgt := 36) hx hb dX4_baredOf_20 (by decide) (fun c_3 => ?_) (fun c_3 => ?_)
    · refine lv_iconst (v := 0) hx hb dX4_baredOf_36 (by decide) ?_
      refine lv_iadd hx hb dX4_baredOf_37 ?_
      refine lv_istore_n (lv' := [(2, .int ((bdL g k my p0 (i)) + 0)), (0, .ref (am 0)), (1, .int p0), (3, .int (nI (i)))]) hx hb dX4_baredOf_38 rfl hl (by decide) rfl (fun ls hl => ?_)
      refine lv_iinc (v := nI ((i) + 1)) (lv' := [(3, .int (nI ((i) + 1))), (2, .int ((bdL g k my p0 (i)) + 0)), (0, .ref (am 0)), (1, .int p0)]) hx hb dX4_baredOf_39 hl (k := 3) rfl (zinc _) (by decide) rfl (fun ls hl => ?_)
      refine lv_goto (tgt := 4) hx hb dX4_baredOf_42 (by decide) ?_
      exact ih_4 ls (lv_re (lv_sub hl [2, 3, 1, 0] rfl) (by first | rfl | (simp only [bdL, c_2, c_3]; done) | (simp only [bdL, c_2, c_3]; rfl) | (simp [bdL, c_2, c_3]; done)))
    · refine lv_aload_n hx hb dX4_baredOf_23 rfl (lv_at hl 0 rfl) ?_
      refine lv_iload_n hx hb dX4_baredOf_24 rfl (lv_at hl 3 rfl) ?_
      refine lv_aload_n hx hb dX4_baredOf_25 rfl (lv_at hl 0 rfl) ?_
      refine lv_iload_n hx hb dX4_baredOf_26 rfl (lv_at hl 3 rfl) ?_
      refine vp_callSi (va_Run.run (va_runV (As := [.int (nI (i))]) (rest := [.int (nI (i)), .ref (am 0), .int (bdL g k my p0 (i))]) ⟨hx, hb, hml, hown, hts⟩ (zX4_setOf l D cI cL cE cP am g n k tb my lt th hok (nI (i))) (cwV 1 hts gX4_baredOf_X4_setOf rfl rfl rfl (by decide +kernel) ⟨Nat.le_of_ble_eq_true rfl, Nat.le_of_ble_eq_true rfl⟩) ⟨zPr_blind, va_recv hK hP (ci := 4) (q0 := 0) rfl mws_0, zPr_mk hE hP⟩ rfl rfl hl.1 rfl (lv_room (Nat.le_of_ble_eq_true rfl)) dX4_baredOf_27 ⟨Nat.le_of_ble_eq_true rfl, Nat.le_of_ble_eq_true rfl⟩)) (fun r_4 e_5 => ?_)
      obtain rfl := e_5
      refine vp_callSi (va_Run.run (va_runV (As := [.int (nI (i)), .int (stL my (nI (i)) k)]) (rest := [.int (bdL g k my p0 (i))]) ⟨hx, hb, hml, hown, hts⟩ (zX4_bared l D cI cL cE cP am g n k tb my lt th hok (nI (i)) (i) hi rfl (stL my (nI (i)) k)) (cwV 2 hts gX4_baredOf_X4_bared rfl rfl rfl (by decide +kernel) ⟨Nat.le_of_ble_eq_true rfl, Nat.le_of_ble_eq_true rfl⟩) ⟨zPr_blind, va_recv hK hP (ci := 4) (q0 := 0) rfl mws_0, zPr_mk hE hP⟩ rfl rfl hl.1 rfl (lv_room (Nat.le_of_ble_eq_true rfl)) dX4_baredOf_30 ⟨Nat.le_of_ble_eq_true rfl, Nat.le_of_ble_eq_true rfl⟩)) (fun r_6 e_7 => ?_)
      obtain rfl := e_7
      refine lv_goto (tgt := 37) hx hb dX4_baredOf_33 (by decide) ?_
      refine lv_iadd hx hb dX4_baredOf_37 ?_
      refine lv_istore_n (lv' := [(2, .int ((bdL g k my p0 (i)) + (bw g k i (stL my (nI (i)) k)))), (0, .ref (am 0)), (1, .int p0), (3, .int (nI (i)))]) hx hb dX4_baredOf_38 rfl hl (by decide) rfl (fun ls hl => ?_)
      refine lv_iinc (v := nI ((i) + 1)) (lv' := [(3, .int (nI ((i) + 1))), (2, .int ((bdL g k my p0 (i)) + (bw g k i (stL my (nI (i)) k)))), (0, .ref (am 0)), (1, .int p0)]) hx hb dX4_baredOf_39 hl (k := 3) rfl (zinc _) (by decide) rfl (fun ls hl => ?_)
      refine lv_goto (tgt := 4) hx hb dX4_baredOf_42 (by decide) ?_
      exact ih_4 ls (lv_re (lv_sub hl [2, 3, 1, 0] rfl) (by first | rfl | (simp only [bdL, c_2, c_3]; done) | (simp only [bdL, c_2, c_3]; rfl) | (simp [bdL, c_2, c_3]; done)))
set_option maxHeartbeats 4000000 in
set_option maxRecDepth 100000 in
theorem zX4_partyBare (l : Launch) (D : va_G) (cI cL cE cP : ClassId) (am : Nat → Nat) (g : Nat → Nat → Int32) (n k : Nat) (tb my lt : Nat → Int32) (th : Int32) (hok : zOk g n k) (x : Int32) (sz : Nat) : Met l yX4_partyBare wsX4_partyBare ({ frames := 6, cells := 0, slots := 0, locals := 140 }) (zPw D cI cL cE cP (mws cI am g n k tb my lt th) sz [.ref (am 0), .int x]) (zQiX D (mws cI am g n k tb my lt th) sz (fun r : Int32 => (T_party x = 0 → r = bdL g k ((BSO (zfl (WB g k) tb (32 * n)) n k (LW (zfl (WB g k) tb (32 * n)) (zfl (MY g n) my k) n k n (2 ^ k - 1)) (zfl (MY g n) my k, LTA (zfl (WB g k) tb (32 * n)) (zfl (MY g n) my k) n k lt n) k).1) x n)) (fun u => mws cI am g n k u.1 u.2.1 u.2.2 (T_party x))) 0 0 (va_A (mws cI am g n k tb my lt th) sz) := by
  refine Met.ofW (cc := cX4_partyBare) (maxL := 2) (ret := (some .int)) (by decide) rfl ?_
  intro p e s m args below meth c s₁ B hml hv
  obtain ⟨rfl, hsz, hE, hP, hD0⟩ := hv
  subst hsz
  obtain ⟨A, hAe⟩ : ∃ A, A = va_A (mws cI am g n k tb my lt th) s.heap.size := ⟨_, rfl⟩
  have hD : va_D A (mws cI am g n k tb my lt th) := by rw [hAe]; exact hD0.self
  have hA : ∀ q : Nat, s.heap.size ≤ q → A q := fun q h => by rw [hAe]; exact Or.inr h
  have hS : va_S A s.heap s.heap [] := va_S.rf
  have hx := B.exec
  have hb := B.bytes
  have hr := B.returns
  have hts := atoms_spec (ws := wsX4_partyBare) B.pre
  have hown : s.vm.findClass RX4 = some m.cls := findClass_of_methodNamed B.named
  have hlocks := B.notSynchronized
  have hK := hE.1
  have iX4 : ∀ w ∈ wsX40, w ∈ wsX4_partyBare := by decide +kernel
  have hl := lv_entry ([.ref (am 0), .int x]) (n := 2) (Nat.le_of_ble_eq_true rfl)
  rw [lg_entry_eq]
  generalize (lg_sl ([.ref (am 0), .int x]) ++ List.replicate (2 - (lg_sl ([.ref (am 0), .int x])).length) Slot.unset).toArray = ls at hl ⊢
  have hl : lv_has ls 2 [(0, .ref (am 0)), (1, .int x)] := hl
  refine lv_aload_n hx hb dX4_partyBare_0 rfl (lv_at hl 0 rfl) ?_
  refine lv_iload_n hx hb dX4_partyBare_1 rfl (lv_at hl 1 rfl) ?_
  refine vp_callSi (va_Run.run (va_runS (As := [.int x]) (rest := [.ref (am 0)]) ⟨hx, hb, hml, hown, hts⟩ (zX4_isFour l D cI cL cE cP (mws cI am g n k tb my lt th) x) (va_cwS 1 hts gX4_partyBare_X4_isFour rfl rfl rfl (by decide +kernel) ⟨Nat.le_of_ble_eq_true rfl, Nat.le_of_ble_eq_true rfl⟩) ⟨zPr_blind, zPr_mk hE hP⟩ rfl rfl hl.1 rfl (lv_room (Nat.le_of_ble_eq_true rfl)) dX4_partyBare_2 ⟨Nat.le_of_ble_eq_true rfl, Nat.le_of_ble_eq_true rfl⟩)) (fun r_1 e_2 => ?_)
  obtain rfl := e_2
  refine lv_if_eq (tgt := 12) hx hb dX4_partyBare_5 (by decide) (fun c_3 => ?_) (fun c_3 => ?_)
  · have c_3 := zb_eq c_3
    refine lv_iconst (v := 1) hx hb dX4_partyBare_12 (by decide) ?_
    refine va_put (D := D) (ci := 4) (v := .int 1) (ty := .int) (C := RX4) (T := TX4) (N := 23) hx hb hts iX4 tyX4 tyX4_ok nmX4 hown hK hP hD hS 0 mws_0 rfl 22 (by decide) (hts (.fieldLink RX4 68 "CapitalReckonerModel" "thrown" "I") (by decide +kernel)) (fun _ h9 => h9) rfl (by decide +kernel) rfl rfl (Nat.le_of_ble_eq_true rfl) dX4_partyBare_13 (fun H locs hP hD hS => ?_)
    have hP : va_P D vwCl (mws cI am g n k tb my lt 1) H := zP_re hP (mws_sth).symm
    have hD : va_D A (mws cI am g n k tb my lt 1) := zD_re hD (mws_sth).symm
    refine lv_aload_n hx hb dX4_partyBare_16 rfl (lv_at hl 0 rfl) ?_
    refine va_get (D := D) (ci := 4) (v := .int 1) (C := RX4) (T := TX4) (N := 23) hx hb hts iX4 hown hK hP 0 mws_0 rfl 22 (by decide) (hts (.fieldLink RX4 68 "CapitalReckonerModel" "thrown" "I") (by decide +kernel)) (fun _ h9 => h9) rfl dX4_partyBare_17 ?_
    refine lv_if_le (tgt := 25) hx hb dX4_partyBare_20 (by decide) (fun c_4 => absurd c_4 (by decide)) (fun c_4 => ?_)
    refine lv_iconst (v := 0) hx hb dX4_partyBare_23 (by decide) ?_
    have hT : T_party x = 1 := by simp [T_party, c_3]
    exact ziretX (v := 0) (u := (tb, my, lt)) hx hb hr hAe (fun h => absurd (hT.symm.trans h) (by decide)) (zP_re hP (by rw [hT])) (zD_re hD (by rw [hT])) hS dX4_partyBare_24
  · have c_3 := zb_ne c_3
    refine lv_iconst (v := 0) hx hb dX4_partyBare_8 (by decide) ?_
    refine lv_goto (tgt := 13) hx hb dX4_partyBare_9 (by decide) ?_
    refine va_put (D := D) (ci := 4) (v := .int 0) (ty := .int) (C := RX4) (T := TX4) (N := 23) hx hb hts iX4 tyX4 tyX4_ok nmX4 hown hK hP hD hS 0 mws_0 rfl 22 (by decide) (hts (.fieldLink RX4 68 "CapitalReckonerModel" "thrown" "I") (by decide +kernel)) (fun _ h9 => h9) rfl (by decide +kernel) rfl rfl (Nat.le_of_ble_eq_true rfl) dX4_partyBare_13 (fun H locs hP hD hS => ?_)
    have hP : va_P D vwCl (mws cI am g n k tb my lt 0) H := zP_re hP (mws_sth).symm
    have hD : va_D A (mws cI am g n k tb my lt 0) := zD_re hD (mws_sth).symm
    refine lv_aload_n hx hb dX4_partyBare_16 rfl (lv_at hl 0 rfl) ?_
    refine va_get (D := D) (ci := 4) (v := .int 0) (C := RX4) (T := TX4) (N := 23) hx hb hts iX4 hown hK hP 0 mws_0 rfl 22 (by decide) (hts (.fieldLink RX4 68 "CapitalReckonerModel" "thrown" "I") (by decide +kernel)) (fun _ h9 => h9) rfl dX4_partyBare_17 ?_
    refine lv_if_le (tgt := 25) hx hb dX4_partyBare_20 (by decide) (fun c_5 => ?_) (fun c_5 => absurd c_5 (by decide))
    refine lv_aload_n hx hb dX4_partyBare_25 rfl (lv_at hl 0 rfl) ?_
    refine zcalli (va_runV (As := []) (rest := []) ⟨hx, hb, hml, hown, hts⟩ (zX4_bests l D cI cL cE cP am g n k tb my lt 0 hok H.size) (cwV 0 hts gX4_partyBare_X4_bests rfl rfl rfl (by decide +kernel) ⟨Nat.le_of_ble_eq_true rfl, Nat.le_of_ble_eq_true rfl⟩) ⟨zPw_blind, va_recv hK hP (ci := 4) (q0 := 0) rfl mws_0, zPw_mk hE hP hD⟩ rfl rfl hl.1 rfl (lv_room (Nat.le_of_ble_eq_true rfl)) dX4_partyBare_26 ⟨Nat.le_of_ble_eq_true rfl, Nat.le_of_ble_eq_true rfl⟩) hD hS hA (fun r_6 H locs e_7 hP hD hS => ?_)
    obtain rfl := e_7
    have hP : va_P D vwCl (mws cI am g n k (zfl (WB g k) tb (32 * n)) ((BSO (zfl (WB g k) tb (32 * n)) n k (LW (zfl (WB g k) tb (32 * n)) (zfl (MY g n) my k) n k n (2 ^ k - 1)) (zfl (MY g n) my k, LTA (zfl (WB g k) tb (32 * n)) (zfl (MY g n) my k) n k lt n) k).1) ((BSO (zfl (WB g k) tb (32 * n)) n k (LW (zfl (WB g k) tb (32 * n)) (zfl (MY g n) my k) n k n (2 ^ k - 1)) (zfl (MY g n) my k, LTA (zfl (WB g k) tb (32 * n)) (zfl (MY g n) my k) n k lt n) k).2) 0) H := hP
    have hD : va_D A (mws cI am g n k (zfl (WB g k) tb (32 * n)) ((BSO (zfl (WB g k) tb (32 * n)) n k (LW (zfl (WB g k) tb (32 * n)) (zfl (MY g n) my k) n k n (2 ^ k - 1)) (zfl (MY g n) my k, LTA (zfl (WB g k) tb (32 * n)) (zfl (MY g n) my k) n k lt n) k).1) ((BSO (zfl (WB g k) tb (32 * n)) n k (LW (zfl (WB g k) tb (32 * n)) (zfl (MY g n) my k) n k n (2 ^ k - 1)) (zfl (MY g n) my k, LTA (zfl (WB g k) tb (32 * n)) (zfl (MY g n) my k) n k lt n) k).2) 0) := hD
    refine lv_pop hx hb dX4_partyBare_29 rfl ?_
    refine lv_aload_n hx hb dX4_partyBare_30 rfl (lv_at hl 0 rfl) ?_
    refine lv_iload_n hx hb dX4_partyBare_31 rfl (lv_at hl 1 rfl) ?_
    refine vp_callSi (va_Run.run (va_runV (As := [.int x]) (rest := []) ⟨hx, hb, hml, hown, hts⟩ (zX4_baredOf l D cI cL cE cP am g n k (zfl (WB g k) tb (32 * n)) ((BSO (zfl (WB g k) tb (32 * n)) n k (LW (zfl (WB g k) tb (32 * n)) (zfl (MY g n) my k) n k n (2 ^ k - 1)) (zfl (MY g n) my k, LTA (zfl (WB g k) tb (32 * n)) (zfl (MY g n) my k) n k lt n) k).1) ((BSO (zfl (WB g k) tb (32 * n)) n k (LW (zfl (WB g k) tb (32 * n)) (zfl (MY g n) my k) n k n (2 ^ k - 1)) (zfl (MY g n) my k, LTA (zfl (WB g k) tb (32 * n)) (zfl (MY g n) my k) n k lt n) k).2) 0 hok (x)) (cwV 1 hts gX4_partyBare_X4_baredOf rfl rfl rfl (by decide +kernel) ⟨Nat.le_of_ble_eq_true rfl, Nat.le_of_ble_eq_true rfl⟩) ⟨zPr_blind, va_recv hK hP (ci := 4) (q0 := 0) rfl mws_0, zPr_mk hE hP⟩ rfl rfl hl.1 rfl (lv_room (Nat.le_of_ble_eq_true rfl)) dX4_partyBare_32 ⟨Nat.le_of_ble_eq_true rfl, Nat.le_of_ble_eq_true rfl⟩)) (fun r_8 e_9 => ?_)
    obtain rfl := e_9
    have hT : T_party x = 0 := by simp [T_party, c_3]
    exact ziretX (v := bdL g k ((BSO (zfl (WB g k) tb (32 * n)) n k (LW (zfl (WB g k) tb (32 * n)) (zfl (MY g n) my k) n k n (2 ^ k - 1)) (zfl (MY g n) my k, LTA (zfl (WB g k) tb (32 * n)) (zfl (MY g n) my k) n k lt n) k).1) x n) (u := (zfl (WB g k) tb (32 * n), (BSO (zfl (WB g k) tb (32 * n)) n k (LW (zfl (WB g k) tb (32 * n)) (zfl (MY g n) my k) n k n (2 ^ k - 1)) (zfl (MY g n) my k, LTA (zfl (WB g k) tb (32 * n)) (zfl (MY g n) my k) n k lt n) k).1, (BSO (zfl (WB g k) tb (32 * n)) n k (LW (zfl (WB g k) tb (32 * n)) (zfl (MY g n) my k) n k n (2 ^ k - 1)) (zfl (MY g n) my k, LTA (zfl (WB g k) tb (32 * n)) (zfl (MY g n) my k) n k lt n) k).2)) hx hb hr hAe (fun _ => rfl) (zP_re hP (by rw [hT])) (zD_re hD (by rw [hT])) hS dX4_partyBare_35
set_option maxHeartbeats 4000000 in
set_option maxRecDepth 100000 in
theorem zX4_tooLarge (l : Launch) (D : va_G) (cI cL cE cP : ClassId) (am : Nat → Nat) (g : Nat → Nat → Int32) (n k : Nat) (tb my lt : Nat → Int32) (th : Int32) (hok : zOk g n k) (sz : Nat) : Met l yX4_tooLarge wsX4_tooLarge ({ frames := 6, cells := 0, slots := 0, locals := 140 }) (zPw D cI cL cE cP (mws cI am g n k tb my lt th) sz [.ref (am 0)]) (zQi D (mws cI am g n k tb my lt th) sz (fun r : Int32 => r = tgL g n k ((BSO (zfl (WB g k) tb (32 * n)) n k (LW (zfl (WB g k) tb (32 * n)) (zfl (MY g n) my k) n k n (2 ^ k - 1)) (zfl (MY g n) my k, LTA (zfl (WB g k) tb (32 * n)) (zfl (MY g n) my k) n k lt n) k).1) 4) (mws cI am g n k (zfl (WB g k) tb (32 * n)) ((BSO (zfl (WB g k) tb (32 * n)) n k (LW (zfl (WB g k) tb (32 * n)) (zfl (MY g n) my k) n k n (2 ^ k - 1)) (zfl (MY g n) my k, LTA (zfl (WB g k) tb (32 * n)) (zfl (MY g n) my k) n k lt n) k).1) ((BSO (zfl (WB g k) tb (32 * n)) n k (LW (zfl (WB g k) tb (32 * n)) (zfl (MY g n) my k) n k n (2 ^ k - 1)) (zfl (MY g n) my k, LTA (zfl (WB g k) tb (32 * n)) (zfl (MY g n) my k) n k lt n) k).2) 0)) 0 0 (va_A (mws cI am g n k tb my lt th) sz) := by
  refine Met.ofW (cc := cX4_tooLarge) (maxL := 3) (ret := (some .int)) (by decide) rfl ?_
  intro p e s m args below meth c s₁ B hml hv
  obtain ⟨rfl, hsz, hE, hP, hD0⟩ := hv
  subst hsz
  obtain ⟨A, hAe⟩ : ∃ A, A = va_A (mws cI am g n k tb my lt th) s.heap.size := ⟨_, rfl⟩
  have hD : va_D A (mws cI am g n k tb my lt th) := by rw [hAe]; exact hD0.self
  have hA : ∀ q : Nat, s.heap.size ≤ q → A q := fun q h => by rw [hAe]; exact Or.inr h
  have hS : va_S A s.heap s.heap [] := va_S.rf
  have hx := B.exec
  have hb := B.bytes
  have hr := B.returns
  have hts := atoms_spec (ws := wsX4_tooLarge) B.pre
  have hown : s.vm.findClass RX4 = some m.cls := findClass_of_methodNamed B.named
  have hlocks := B.notSynchronized
  have hK := hE.1
  have iX4 : ∀ w ∈ wsX40, w ∈ wsX4_tooLarge := by decide +kernel
  have hl := lv_entry ([.ref (am 0)]) (n := 3) (Nat.le_of_ble_eq_true rfl)
  rw [lg_entry_eq]
  generalize (lg_sl ([.ref (am 0)]) ++ List.replicate (3 - (lg_sl ([.ref (am 0)])).length) Slot.unset).toArray = ls at hl ⊢
  have hl : lv_has ls 3 [(0, .ref (am 0))] := hl
  refine lv_aload_n hx hb dX4_tooLarge_0 rfl (lv_at hl 0 rfl) ?_
  refine lv_iconst (v := 0) hx hb dX4_tooLarge_1 (by decide) ?_
  refine va_put (D := D) (ci := 4) (v := .int 0) (ty := .int) (C := RX4) (T := TX4) (N := 23) hx hb hts iX4 tyX4 tyX4_ok nmX4 hown hK hP hD hS 0 mws_0 rfl 22 (by decide) (hts (.fieldLink RX4 68 "CapitalReckonerModel" "thrown" "I") (by decide +kernel)) (fun _ h9 => h9) rfl (by decide +kernel) rfl rfl (Nat.le_of_ble_eq_true rfl) dX4_tooLarge_2 (fun H locs hP hD hS => ?_)
  have hP : va_P D vwCl (mws cI am g n k tb my lt 0) H := zP_re hP (mws_sth).symm
  have hD : va_D A (mws cI am g n k tb my lt 0) := zD_re hD (mws_sth).symm
  refine lv_aload_n hx hb dX4_tooLarge_5 rfl (lv_at hl 0 rfl) ?_
  refine zcalli (va_runV (As := []) (rest := []) ⟨hx, hb, hml, hown, hts⟩ (zX4_bests l D cI cL cE cP am g n k tb my lt 0 hok H.size) (cwV 0 hts gX4_tooLarge_X4_bests rfl rfl rfl (by decide +kernel) ⟨Nat.le_of_ble_eq_true rfl, Nat.le_of_ble_eq_true rfl⟩) ⟨zPw_blind, va_recv hK hP (ci := 4) (q0 := 0) rfl mws_0, zPw_mk hE hP hD⟩ rfl rfl hl.1 rfl (lv_room (Nat.le_of_ble_eq_true rfl)) dX4_tooLarge_6 ⟨Nat.le_of_ble_eq_true rfl, Nat.le_of_ble_eq_true rfl⟩) hD hS hA (fun r_1 H locs e_2 hP hD hS => ?_)
  obtain rfl := e_2
  have hP : va_P D vwCl (mws cI am g n k (zfl (WB g k) tb (32 * n)) ((BSO (zfl (WB g k) tb (32 * n)) n k (LW (zfl (WB g k) tb (32 * n)) (zfl (MY g n) my k) n k n (2 ^ k - 1)) (zfl (MY g n) my k, LTA (zfl (WB g k) tb (32 * n)) (zfl (MY g n) my k) n k lt n) k).1) ((BSO (zfl (WB g k) tb (32 * n)) n k (LW (zfl (WB g k) tb (32 * n)) (zfl (MY g n) my k) n k n (2 ^ k - 1)) (zfl (MY g n) my k, LTA (zfl (WB g k) tb (32 * n)) (zfl (MY g n) my k) n k lt n) k).2) 0) H := hP
  have hD : va_D A (mws cI am g n k (zfl (WB g k) tb (32 * n)) ((BSO (zfl (WB g k) tb (32 * n)) n k (LW (zfl (WB g k) tb (32 * n)) (zfl (MY g n) my k) n k n (2 ^ k - 1)) (zfl (MY g n) my k, LTA (zfl (WB g k) tb (32 * n)) (zfl (MY g n) my k) n k lt n) k).1) ((BSO (zfl (WB g k) tb (32 * n)) n k (LW (zfl (WB g k) tb (32 * n)) (zfl (MY g n) my k) n k n (2 ^ k - 1)) (zfl (MY g n) my k, LTA (zfl (WB g k) tb (32 * n)) (zfl (MY g n) my k) n k lt n) k).2) 0) := hD
  refine lv_pop hx hb dX4_tooLarge_9 rfl ?_
  refine lv_iconst (v := 0) hx hb dX4_tooLarge_10 (by decide) ?_
  refine lv_istore_n (lv' := [(1, .int 0), (0, .ref (am 0))]) hx hb dX4_tooLarge_11 rfl hl (by decide) rfl (fun ls hl => ?_)
  refine lv_iconst (v := 0) hx hb dX4_tooLarge_12 (by decide) ?_
  refine lv_istore_n (lv' := [(2, .int 0), (1, .int 0), (0, .ref (am 0))]) hx hb dX4_tooLarge_13 rfl hl (by decide) rfl (fun ls hl => ?_)
  refine zloop (nL := 3) (lv := fun i => [(0, .ref (am 0)), (1, .int (tgL g n k ((BSO (zfl (WB g k) tb (32 * n)) n k (LW (zfl (WB g k) tb (32 * n)) (zfl (MY g n) my k) n k n (2 ^ k - 1)) (zfl (MY g n) my k, LTA (zfl (WB g k) tb (32 * n)) (zfl (MY g n) my k) n k lt n) k).1) (i))), (2, .int (nI (i)))]) (n := 4) (lv_re (lv_sub hl [2, 1, 0] rfl) (by first | rfl | (simp only [tgL, nI_0]; done) | (simp only [tgL, nI_0]; rfl) | (simp [tgL, nI_0]; done))) (fun ls hl => ?_) (fun i hi ih_14 ls hl => ?_)
  · have hl : lv_has ls 3 [(0, .ref (am 0)), (1, .int (tgL g n k ((BSO (zfl (WB g k) tb (32 * n)) n k (LW (zfl (WB g k) tb (32 * n)) (zfl (MY g n) my k) n k n (2 ^ k - 1)) (zfl (MY g n) my k, LTA (zfl (WB g k) tb (32 * n)) (zfl (MY g n) my k) n k lt n) k).1) (4))), (2, .int (nI (4)))] := hl
    refine lv_iload_n hx hb dX4_tooLarge_14 rfl (lv_at hl 2 rfl) ?_
    refine lv_iconst (v := 4) hx hb dX4_tooLarge_15 (by decide) ?_
    refine lv_icmp_ge (tgt := 54) hx hb dX4_tooLarge_16 (by decide) (fun c_3 => ?_) (fun c_3 => absurd (zle_refl (nI 4)) c_3)
    refine lv_iload_n hx hb dX4_tooLarge_54 rfl (lv_at hl 1 rfl) ?_
    exact ziret (v := tgL g n k ((BSO (zfl (WB g k) tb (32 * n)) n k (LW (zfl (WB g k) tb (32 * n)) (zfl (MY g n) my k) n k n (2 ^ k - 1)) (zfl (MY g n) my k, LTA (zfl (WB g k) tb (32 * n)) (zfl (MY g n) my k) n k lt n) k).1) (4)) hx hb hr hAe (by first | rfl | (simp only [tgL, c_3]; done) | (simp only [tgL, c_3]; rfl) | (simp [tgL, c_3]; done)) (zP_re hP (rfl)) (zD_re hD (rfl)) hS dX4_tooLarge_55
  · have hl : lv_has ls 3 [(0, .ref (am 0)), (1, .int (tgL g n k ((BSO (zfl (WB g k) tb (32 * n)) n k (LW (zfl (WB g k) tb (32 * n)) (zfl (MY g n) my k) n k n (2 ^ k - 1)) (zfl (MY g n) my k, LTA (zfl (WB g k) tb (32 * n)) (zfl (MY g n) my k) n k lt n) k).1) (i))), (2, .int (nI (i)))] := hl
    refine lv_iload_n hx hb dX4_tooLarge_14 rfl (lv_at hl 2 rfl) ?_
    refine lv_iconst (v := 4) hx hb dX4_tooLarge_15 (by decide) ?_
    refine lv_icmp_ge (tgt := 54) hx hb dX4_tooLarge_16 (by decide) (fun c_4 => absurd c_4 (nI_ge hi (by decide))) (fun c_4 => ?_)
    refine lv_iload_n hx hb dX4_tooLarge_19 rfl (lv_at hl 1 rfl) ?_
    refine lv_ldc2 (v := 4) hx hb hown (hts (.constantLong RX4 145 (4)) (by decide +kernel)) dX4_tooLarge_20 ?_
    refine lv_aload_n hx hb dX4_tooLarge_23 rfl (lv_at hl 0 rfl) ?_
    refine lv_iload_n hx hb dX4_tooLarge_24 rfl (lv_at hl 2 rfl) ?_
    refine vp_callSi (va_Run.run (va_runV (As := [.int (nI (i))]) (rest := [.long 4, .int (tgL g n k ((BSO (zfl (WB g k) tb (32 * n)) n k (LW (zfl (WB g k) tb (32 * n)) (zfl (MY g n) my k) n k n (2 ^ k - 1)) (zfl (MY g n) my k, LTA (zfl (WB g k) tb (32 * n)) (zfl (MY g n) my k) n k lt n) k).1) (i))]) ⟨hx, hb, hml, hown, hts⟩ (zX4_baredOf l D cI cL cE cP am g n k (zfl (WB g k) tb (32 * n)) ((BSO (zfl (WB g k) tb (32 * n)) n k (LW (zfl (WB g k) tb (32 * n)) (zfl (MY g n) my k) n k n (2 ^ k - 1)) (zfl (MY g n) my k, LTA (zfl (WB g k) tb (32 * n)) (zfl (MY g n) my k) n k lt n) k).1) ((BSO (zfl (WB g k) tb (32 * n)) n k (LW (zfl (WB g k) tb (32 * n)) (zfl (MY g n) my k) n k n (2 ^ k - 1)) (zfl (MY g n) my k, LTA (zfl (WB g k) tb (32 * n)) (zfl (MY g n) my k) n k lt n) k).2) 0 hok (nI (i))) (cwV 1 hts gX4_tooLarge_X4_baredOf rfl rfl rfl (by decide +kernel) ⟨Nat.le_of_ble_eq_true rfl, Nat.le_of_ble_eq_true rfl⟩) ⟨zPr_blind, va_recv hK hP (ci := 4) (q0 := 0) rfl mws_0, zPr_mk hE hP⟩ rfl rfl hl.1 rfl (lv_room (Nat.le_of_ble_eq_true rfl)) dX4_tooLarge_25 ⟨Nat.le_of_ble_eq_true rfl, Nat.le_of_ble_eq_true rfl⟩)) (fun r_5 e_6 => ?_)
    obtain rfl := e_6
    refine lv_i2l hx hb dX4_tooLarge_28 rfl ?_
    refine lv_lmul hx hb dX4_tooLarge_29 ?_
    refine lv_aload_n hx hb dX4_tooLarge_30 rfl (lv_at hl 0 rfl) ?_
    refine va_get (D := D) (ci := 4) (v := .int ((g 2) 1)) (C := RX4) (T := TX4) (N := 23) hx hb hts iX4 hown hK hP 0 mws_0 rfl 3 (by decide) (hts (.fieldLink RX4 88 "CapitalReckonerModel" "capital" "I") (by decide +kernel)) (fun _ h9 => h9) rfl dX4_tooLarge_31 ?_
    refine lv_i2l hx hb dX4_tooLarge_34 rfl ?_
    refine W.lcmp hx hb dX4_tooLarge_35 ?_
    refine lv_if_le (tgt := 45) hx hb dX4_tooLarge_36 (by decide) (fun c_7 => ?_) (fun c_7 => ?_)
    · refine lv_iconst (v := 0) hx hb dX4_tooLarge_45 (by decide) ?_
      refine lv_ior hx hb dX4_tooLarge_46 ?_
      refine lv_istore_n (lv' := [(1, .int ((tgL g n k ((BSO (zfl (WB g k) tb (32 * n)) n k (LW (zfl (WB g k) tb (32 * n)) (zfl (MY g n) my k) n k n (2 ^ k - 1)) (zfl (MY g n) my k, LTA (zfl (WB g k) tb (32 * n)) (zfl (MY g n) my k) n k lt n) k).1) (i)) ||| 0)), (0, .ref (am 0)), (2, .int (nI (i)))]) hx hb dX4_tooLarge_47 rfl hl (by decide) rfl (fun ls hl => ?_)
      refine lv_iinc (v := nI ((i) + 1)) (lv' := [(2, .int (nI ((i) + 1))), (1, .int ((tgL g n k ((BSO (zfl (WB g k) tb (32 * n)) n k (LW (zfl (WB g k) tb (32 * n)) (zfl (MY g n) my k) n k n (2 ^ k - 1)) (zfl (MY g n) my k, LTA (zfl (WB g k) tb (32 * n)) (zfl (MY g n) my k) n k lt n) k).1) (i)) ||| 0)), (0, .ref (am 0))]) hx hb dX4_tooLarge_48 hl (k := 2) rfl (zinc _) (by decide) rfl (fun ls hl => ?_)
      refine lv_goto (tgt := 14) hx hb dX4_tooLarge_51 (by decide) ?_
      exact ih_14 ls (lv_re (lv_sub hl [2, 1, 0] rfl) (by first | rfl | (simp only [tgL, c_4, c_7]; done) | (simp only [tgL, c_4, c_7]; rfl) | (simp [tgL, c_4, c_7]; done)))
    · refine lv_iconst (v := 1) hx hb dX4_tooLarge_39 (by decide) ?_
      refine lv_iload_n hx hb dX4_tooLarge_40 rfl (lv_at hl 2 rfl) ?_
      refine lv_ishl hx hb dX4_tooLarge_41 ?_
      refine lv_goto (tgt := 46) hx hb dX4_tooLarge_42 (by decide) ?_
      refine lv_ior hx hb dX4_tooLarge_46 ?_
      refine lv_istore_n (lv' := [(1, .int ((tgL g n k ((BSO (zfl (WB g k) tb (32 * n)) n k (LW (zfl (WB g k) tb (32 * n)) (zfl (MY g n) my k) n k n (2 ^ k - 1)) (zfl (MY g n) my k, LTA (zfl (WB g k) tb (32 * n)) (zfl (MY g n) my k) n k lt n) k).1) (i)) ||| ((1 : Int32) <<< ((nI (i)) &&& 31)))), (0, .ref (am 0)), (2, .int (nI (i)))]) hx hb dX4_tooLarge_47 rfl hl (by decide) rfl (fun ls hl => ?_)
      refine lv_iinc (v := nI ((i) + 1)) (lv' := [(2, .int (nI ((i) + 1))), (1, .int ((tgL g n k ((BSO (zfl (WB g k) tb (32 * n)) n k (LW (zfl (WB g k) tb (32 * n)) (zfl (MY g n) my k) n k n (2 ^ k - 1)) (zfl (MY g n) my k, LTA (zfl (WB g k) tb (32 * n)) (zfl (MY g n) my k) n k lt n) k).1) (i)) ||| ((1 : Int32) <<< ((nI (i)) &&& 31)))), (0, .ref (am 0))]) hx hb dX4_tooLarge_48 hl (k := 2) rfl (zinc _) (by decide) rfl (fun ls hl => ?_)
      refine lv_goto (tgt := 14) hx hb dX4_tooLarge_51 (by decide) ?_
      exact ih_14 ls (lv_re (lv_sub hl [2, 1, 0] rfl) (by first | rfl | (simp only [tgL, c_4, c_7]; done) | (simp only [tgL, c_4, c_7]; rfl) | (simp [tgL, c_4, c_7]; done)))
