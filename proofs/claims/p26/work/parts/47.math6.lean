/-! the whole by trying -/
def zct (w : Nat → Nat → Nat) (t : Nat → Nat) : Nat → Nat
  | 0 => 0
  | n + 1 => zct w t n + w n (t n)
def zup (t : Nat → Nat) (e x : Nat) : Nat → Nat := fun i => if i = e then x else t i
def xt (a : Nat → Nat) : Nat → Nat → (Nat → Nat) → Nat → Nat
  | 0, _, t => t
  | d + 1, p, t => xt a d (p + 1) (if a p = 8 then t else zup t (a p) (t (a p) ||| 2 ^ p))
theorem zct_ne {w : Nat → Nat → Nat} {t : Nat → Nat} {e x : Nat} : ∀ {n : Nat}, n ≤ e → zct w (zup t e x) n = zct w t n
  | 0, _ => rfl
  | n + 1, h => by unfold zct; rw [zct_ne (by omega)]; unfold zup; rw [if_neg (by omega)]
theorem zct_up {w : Nat → Nat → Nat} {t : Nat → Nat} {e x : Nat} : ∀ {n : Nat}, e < n → zct w (zup t e x) n + w e (t e) = zct w t n + w e x
  | 0, h => by omega
  | n + 1, h => by
    unfold zct
    by_cases he : e = n
    · subst he
      rw [zct_ne (Nat.le_refl _)]
      have : zup t e x e = x := if_pos rfl
      rw [this]; omega
    · have := zct_up (w := w) (t := t) (e := e) (x := x) (n := n) (by omega)
      have e2 : zup t e x n = t n := if_neg (by omega)
      rw [e2]; omega
theorem xt_bit {a : Nat → Nat} {e q : Nat} (he : e ≠ 8) : ∀ d p t, (xt a d p t e).testBit q = ((t e).testBit q || (decide (p ≤ q ∧ q < p + d) && decide (a q = e)))
  | 0, p, t => by
    have : decide (p ≤ q ∧ q < p + 0) = false := decide_eq_false (by omega)
    unfold xt; rw [this]; simp
  | d + 1, p, t => by
    unfold xt
    rw [xt_bit he d (p + 1)]
    by_cases h8 : a p = 8
    · rw [if_pos h8]
      by_cases hq : q = p
      · subst hq
        have h1 : decide (a q = e) = false := decide_eq_false (by omega)
        rw [h1]; simp
      · have : decide (p + 1 ≤ q ∧ q < p + 1 + d) = decide (p ≤ q ∧ q < p + (d + 1)) := decide_eq_decide.mpr (by omega)
        rw [this]
    · rw [if_neg h8]
      unfold zup
      by_cases hae : e = a p
      · rw [if_pos hae, ← hae, Nat.testBit_or, Nat.testBit_two_pow]
        by_cases hq : q = p
        · subst hq
          have h1 : decide (a q = e) = true := decide_eq_true hae.symm
          have h2 : decide (q ≤ q ∧ q < q + (d + 1)) = true := decide_eq_true (by omega)
          rw [h1, h2]; simp
        · have h1 : decide (p = q) = false := decide_eq_false (by omega)
          have h2 : decide (p + 1 ≤ q ∧ q < p + 1 + d) = decide (p ≤ q ∧ q < p + (d + 1)) := decide_eq_decide.mpr (by omega)
          rw [h1, h2]; simp
      · rw [if_neg hae]
        by_cases hq : q = p
        · subst hq
          have h1 : decide (a q = e) = false := decide_eq_false (fun z => hae z.symm)
          rw [h1]; simp
        · have h2 : decide (p + 1 ≤ q ∧ q < p + 1 + d) = decide (p ≤ q ∧ q < p + (d + 1)) := decide_eq_decide.mpr (by omega)
          rw [h2]
theorem zfm_char {c : Nat → Bool} {f : Nat → Int32} {F : Nat → Nat} {b : Int32} {B : Nat} (hB : b = nI B ∧ B < 2 ^ 31) : ∀ n, (∀ e, e < n → c e = true → f e = nI (F e) ∧ F e < 2 ^ 31) → ∃ m, m < 2 ^ 31 ∧ zfm c f b n = nI m ∧ m ≤ B ∧ (∀ e, e < n → c e = true → m ≤ F e) ∧ (m = B ∨ ∃ e, e < n ∧ c e = true ∧ m = F e)
  | 0, _ => ⟨B, hB.2, hB.1, Nat.le_refl B, fun e he => by omega, Or.inl rfl⟩
  | n + 1, h => by
    obtain ⟨m, h1, h2, h3, h4, h5⟩ := zfm_char hB n (fun e he => h e (by omega))
    have keep : m = B ∨ ∃ e, e < n + 1 ∧ c e = true ∧ m = F e := by
      rcases h5 with h5 | ⟨e, a, b, d⟩
      · exact Or.inl h5
      · exact Or.inr ⟨e, by omega, b, d⟩
    unfold zfm
    by_cases hc : c n = true
    · obtain ⟨e1, e2⟩ := h n (by omega) hc
      rw [if_pos hc, e1, h2]
      by_cases hlt : F n < m
      · rw [if_pos ((nI_ltI e2 h1).mpr hlt)]
        refine ⟨F n, e2, rfl, by omega, fun e he hce => ?_, Or.inr ⟨n, by omega, hc, rfl⟩⟩
        by_cases hen : e = n
        · subst hen; exact Nat.le_refl _
        · have := h4 e (by omega) hce; omega
      · rw [if_neg (fun q => hlt ((nI_ltI e2 h1).mp q))]
        refine ⟨m, h1, rfl, h3, fun e he hce => ?_, keep⟩
        by_cases hen : e = n
        · subst hen; omega
        · exact h4 e (by omega) hce
    · rw [if_neg hc]
      refine ⟨m, h1, h2, h3, fun e he hce => ?_, keep⟩
      by_cases hen : e = n
      · subst hen; exact absurd hce hc
      · exact h4 e (by omega) hce
theorem zct_le {w : Nat → Nat → Nat} {t : Nat → Nat} : ∀ {n : Nat}, (∀ i S, i < n → S < 32 → w i S ≤ 56000000) → (∀ i, i < n → t i < 32) → zct w t n ≤ n * 56000000
  | 0, _, _ => by simp [zct]
  | n + 1, h, ht => by
    have h1 := zct_le (w := w) (t := t) (n := n) (fun i S hi hS => h i S (by omega) hS) (fun i hi => ht i (by omega))
    have h2 := h n (t n) (by omega) (ht n (by omega))
    unfold zct; omega
theorem zor32 {x p : Nat} (hx : x < 32) (hp : p < 5) : x ||| 2 ^ p < 32 := Nat.or_lt_two_pow (n := 5) hx (by
  have : 2 ^ p ≤ 2 ^ 4 := Nat.pow_le_pow_right (n := 2) (by decide) (by omega)
  omega)
theorem ztf {us wb : Nat → Int32} {U : Nat → Nat} {w : Nat → Nat → Nat} {n : Nat} (hn : n ≤ 8) (hu : ∀ i, i < n → us i = nI (U i) ∧ U i < 32) (hw : ∀ i S, i < n → S < 32 → wb (32 * i + S) = nI (w i S) ∧ w i S ≤ 56000000) :
    ∀ d p t (tr : Nat → Int32), p + d ≤ 5 → (∀ e, e < n → tr e = nI (t e) ∧ t e < 32) → ∃ v, tfF us wb n d p tr (nI (zct w t n)) = nI v ∧ v < 2 ^ 31
      ∧ (∀ a, (∀ q, p ≤ q → q < p + d → (a q < n ∧ (U (a q)).testBit q = true) ∨ a q = 8) → v ≤ zct w (xt a d p t) n)
      ∧ ∃ a, (∀ q, p ≤ q → q < p + d → (a q < n ∧ (U (a q)).testBit q = true) ∨ a q = 8) ∧ v = zct w (xt a d p t) n
  | 0, p, t, tr, _, ht => by
    have hb := zct_le (w := w) (t := t) (n := n) (fun i S hi hS => (hw i S hi hS).2) (fun i hi => (ht i hi).2)
    exact ⟨zct w t n, rfl, by omega, fun a _ => Nat.le_refl _, fun _ => 8, fun q _ _ => Or.inr rfl, rfl⟩
  | d + 1, p, t, tr, hpd, ht => by
    obtain ⟨B, eB, hB, B1, aB, B2, B3⟩ := ztf hn hu hw d (p + 1) t tr (by omega) ht
    -- the candidates
    have cand : ∀ e, e < n → ∃ v, tfF us wb n d (p + 1) (zput 8 tr (nI e) (zat 8 tr (nI e) ||| ((1 : Int32) <<< (nI p &&& 31)))) (nI (zct w t n) + (zat 256 wb (nI e * (32 : Int32) + (zat 8 tr (nI e) ||| ((1 : Int32) <<< (nI p &&& 31)))) - zat 256 wb (nI e * (32 : Int32) + zat 8 tr (nI e)))) = nI v ∧ v < 2 ^ 31
      ∧ (∀ a, (∀ q, p + 1 ≤ q → q < p + 1 + d → (a q < n ∧ (U (a q)).testBit q = true) ∨ a q = 8) → v ≤ zct w (xt a d (p + 1) (zup t e (t e ||| 2 ^ p))) n)
      ∧ ∃ a, (∀ q, p + 1 ≤ q → q < p + 1 + d → (a q < n ∧ (U (a q)).testBit q = true) ∨ a q = 8) ∧ v = zct w (xt a d (p + 1) (zup t e (t e ||| 2 ^ p))) n := by
      intro e he
      obtain ⟨h1, h2⟩ := ht e he
      have ho := zor32 (p := p) h2 (by omega)
      have ez : zat 8 tr (nI e) = nI (t e) := by rw [zat_nI (by omega) (by decide), h1]
      have eo : nI (t e) ||| ((1 : Int32) <<< (nI p &&& 31)) = nI (t e ||| 2 ^ p) := by rw [z_shl1 (by omega), fa_or]
      have ei : ∀ S, nI e * (32 : Int32) + nI S = nI (32 * e + S) := fun S => by rw [n32, pk_mul, nI_add, Nat.mul_comm]
      have hs : nI (zct w t n) + (nI (w e (t e ||| 2 ^ p)) - nI (w e (t e))) = nI (zct w (zup t e (t e ||| 2 ^ p)) n) := by
        have hup := zct_up (w := w) (t := t) (x := t e ||| 2 ^ p) he
        have e1 : nI (zct w t n) + (nI (w e (t e ||| 2 ^ p)) - nI (w e (t e))) = (nI (zct w t n) + nI (w e (t e ||| 2 ^ p))) - nI (w e (t e)) := by grind
        rw [e1, nI_add, ← hup, pk_sub (by omega)]
        congr 1; omega
      rw [ez, eo, ei, ei, zat_nI (by omega) (by decide), zat_nI (by omega) (by decide), (hw e _ he ho).1, (hw e _ he h2).1, hs, zput_nI (by omega) (by decide)]
      refine ztf hn hu hw d (p + 1) (zup t e (t e ||| 2 ^ p)) _ (by omega) (fun i hi => ?_)
      unfold upd zup
      by_cases hie : i = e
      · rw [if_pos hie, if_pos hie]; exact ⟨rfl, ho⟩
      · rw [if_neg hie, if_neg hie]; exact ht i hi
    have hcu : ∀ e, e < n → zhas (zat 8 us (nI e)) (nI p) = (U e).testBit p := fun e he => by
      rw [zat_nI (by omega) (by decide), (hu e he).1, zhas_b _ (hu e he).2 p (by omega)]
    have hF : ∃ F : Nat → Nat, ∀ e, e < n → tfF us wb n d (p + 1) (zput 8 tr (nI e) (zat 8 tr (nI e) ||| ((1 : Int32) <<< (nI p &&& 31)))) (nI (zct w t n) + (zat 256 wb (nI e * (32 : Int32) + (zat 8 tr (nI e) ||| ((1 : Int32) <<< (nI p &&& 31)))) - zat 256 wb (nI e * (32 : Int32) + zat 8 tr (nI e)))) = nI (F e) ∧ F e < 2 ^ 31
      ∧ (∀ a, (∀ q, p + 1 ≤ q → q < p + 1 + d → (a q < n ∧ (U (a q)).testBit q = true) ∨ a q = 8) → F e ≤ zct w (xt a d (p + 1) (zup t e (t e ||| 2 ^ p))) n)
      ∧ ∃ a, (∀ q, p + 1 ≤ q → q < p + 1 + d → (a q < n ∧ (U (a q)).testBit q = true) ∨ a q = 8) ∧ F e = zct w (xt a d (p + 1) (zup t e (t e ||| 2 ^ p))) n := by
      refine ⟨fun e => (tfF us wb n d (p + 1) (zput 8 tr (nI e) (zat 8 tr (nI e) ||| ((1 : Int32) <<< (nI p &&& 31)))) (nI (zct w t n) + (zat 256 wb (nI e * (32 : Int32) + (zat 8 tr (nI e) ||| ((1 : Int32) <<< (nI p &&& 31)))) - zat 256 wb (nI e * (32 : Int32) + zat 8 tr (nI e))))).toInt.toNat, fun e he => ?_⟩
      obtain ⟨v, h1, h2, h3, h4⟩ := cand e he
      have hv : (tfF us wb n d (p + 1) (zput 8 tr (nI e) (zat 8 tr (nI e) ||| ((1 : Int32) <<< (nI p &&& 31)))) (nI (zct w t n) + (zat 256 wb (nI e * (32 : Int32) + (zat 8 tr (nI e) ||| ((1 : Int32) <<< (nI p &&& 31)))) - zat 256 wb (nI e * (32 : Int32) + zat 8 tr (nI e))))).toInt.toNat = v := by rw [h1, nI_toInt h2]; rfl
      simp only []
      rw [hv]; exact ⟨h1, h2, h3, h4⟩
    obtain ⟨F, hF⟩ := hF
    obtain ⟨m, m1, m2, m3, m4, m5⟩ := zfm_char (c := fun e => zhas (zat 8 us (nI e)) (nI p)) (F := F) ⟨eB, hB⟩ n (fun e he _ => ⟨(hF e he).1, (hF e he).2.1⟩)
    refine ⟨m, ?_, m1, fun a ha => ?_, ?_⟩
    · show zfm _ _ _ n = nI m
      exact m2
    · show m ≤ zct w (xt a d (p + 1) (if a p = 8 then t else zup t (a p) (t (a p) ||| 2 ^ p))) n
      have har : ∀ q, p + 1 ≤ q → q < p + 1 + d → (a q < n ∧ (U (a q)).testBit q = true) ∨ a q = 8 := fun q h1 h2 => ha q (by omega) (by omega)
      rcases ha p (Nat.le_refl p) (by omega) with ⟨h1, h2⟩ | h8
      · rw [if_neg (by omega)]
        have h3 := m4 (a p) h1 (by rw [hcu _ h1]; exact h2)
        have h4 := (hF (a p) h1).2.2.1 a har
        omega
      · rw [if_pos h8]
        have := B1 a har; omega
    · rcases m5 with m5 | ⟨e, he, hce, m5⟩
      · have hx : ∀ (b c : Nat → Nat), (∀ q, p + 1 ≤ q → b q = c q) → ∀ d' p' t', p + 1 ≤ p' → xt b d' p' t' = xt c d' p' t' := by
          intro b c hbc d'
          induction d' with
          | zero => intro p' t' _; rfl
          | succ d' ih => intro p' t' hp'; unfold xt; rw [hbc p' hp', ih (p' + 1) _ (by omega)]
        refine ⟨fun q => if q = p then 8 else aB q, fun q h1 h2 => ?_, ?_⟩
        · by_cases hq : q = p
          · dsimp only; rw [if_pos hq]; exact Or.inr rfl
          · dsimp only; rw [if_neg hq]; exact B2 q (by omega) (by omega)
        · show m = zct w (xt _ d (p + 1) (if (if p = p then 8 else aB p) = 8 then t else _)) n
          rw [if_pos rfl, if_pos rfl, hx _ aB (fun q hq => if_neg (by omega)) d (p + 1) t (Nat.le_refl _), m5, B3]
      · obtain ⟨a, h1, h2⟩ := (hF e he).2.2.2
        have hx : ∀ (b c : Nat → Nat), (∀ q, p + 1 ≤ q → b q = c q) → ∀ d' p' t', p + 1 ≤ p' → xt b d' p' t' = xt c d' p' t' := by
          intro b c hbc d'
          induction d' with
          | zero => intro p' t' _; rfl
          | succ d' ih => intro p' t' hp'; unfold xt; rw [hbc p' hp', ih (p' + 1) _ (by omega)]
        refine ⟨fun q => if q = p then e else a q, fun q h3 h4 => ?_, ?_⟩
        · by_cases hq : q = p
          · dsimp only; rw [if_pos hq]; subst hq
            exact Or.inl ⟨he, by rw [← hcu e he]; exact hce⟩
          · dsimp only; rw [if_neg hq]; exact h1 q (by omega) (by omega)
        · show m = zct w (xt _ d (p + 1) (if (if p = p then e else a p) = 8 then t else zup t (if p = p then e else a p) (t (if p = p then e else a p) ||| 2 ^ p))) n
          rw [if_pos rfl, if_neg (by omega), hx _ a (fun q hq => if_neg (by omega)) d (p + 1) _ (Nat.le_refl _), m5, h2]
theorem zct_zcw {w : Nat → Nat → Nat} {a t : Nat → Nat} {S : Nat} : ∀ {n : Nat}, (∀ e, e < n → t e = zF a S e) → zct w t n = zcw w a S n
  | 0, _ => rfl
  | n + 1, h => by unfold zct zcw; rw [zct_zcw (fun e he => h e (by omega)), h n (by omega)]
theorem ztwL {wb : Nat → Int32} {w : Nat → Nat → Nat} {n : Nat} (hn : n ≤ 8) (hw : ∀ i S, i < n → S < 32 → wb (32 * i + S) = nI (w i S) ∧ w i S ≤ 56000000) : ∀ m, m ≤ n → twL wb m = nI (zct w (fun _ => 0) m)
  | 0, _ => nI_0.symm
  | m + 1, h => by
    unfold twL zct
    have e1 : nI m * 32 + 0 = nI (32 * m + 0) := by rw [n32, pk_mul, show (0 : Int32) = nI 0 from nI_0.symm, nI_add, Nat.mul_comm]
    rw [ztwL hn hw m (by omega), e1, zat_nI (by omega) (by decide), (hw m 0 (by omega) (by omega)).1, nI_add]
theorem ztrL {tr : Nat → Int32} {n : Nat} (hn : n ≤ 8) : ∀ m, m ≤ n → ∀ e, e < m → trL tr m e = nI 0
  | 0, _, e, he => by omega
  | m + 1, h, e, he => by
    unfold trL
    rw [zput_nI (by omega) (by decide)]
    unfold upd
    by_cases hem : e = m
    · rw [if_pos hem]; exact nI_0.symm
    · rw [if_neg hem]; exact ztrL hn m (by omega) e (by omega)
theorem ztrying {g : Nat → Nat → Int32} {n k : Nat} (hok : zOk g n k) (us wb tr : Nat → Int32) (tb my : Nat → Int32) :
    tfF (zfl (US g k) us n) (zfl (WB g k) wb (32 * n)) n k 0 (trL tr n) (twL (zfl (WB g k) wb (32 * n)) n) = LW (zfl (WB g k) tb (32 * n)) (zfl (MY g n) my k) n k n (2 ^ k - 1) := by
  have hn := hok.n; have hk := hok.k
  obtain ⟨a, ha, -, -, h2, e2, -, h4⟩ := zmain hok us wb (fun _ => 0) (fun _ => 0) tb my
  rw [ztwL hn (zw_ok (wb := wb) hok) n (Nat.le_refl n), e2]
  obtain ⟨v, ev, hv, h5, b, h6, h7⟩ := ztf hn (zu_ok (us := us) hok) (zw_ok (wb := wb) hok) k 0 (fun _ => 0) (trL tr n) (by omega) (fun e he => ⟨ztrL hn n (Nat.le_refl n) e he, by omega⟩)
  have conv : ∀ c : Nat → Nat, zct (wN g k) (xt c k 0 (fun _ => 0)) n = zcw (wN g k) c (2 ^ k - 1) n := fun c => zct_zcw (fun e he => by
    apply Nat.eq_of_testBit_eq
    intro q
    rw [xt_bit (by omega), Nat.zero_testBit, Bool.false_or]
    unfold zF
    rw [zf_bit, zF_full]
    by_cases hq : q < k
    · have h1 : decide (0 ≤ q ∧ q < 0 + k) = true := decide_eq_true (by omega)
      have h2 : decide (q < 5) = true := decide_eq_true (by omega)
      rw [h1, h2, decide_eq_true hq]; simp
    · have h1 : decide (0 ≤ q ∧ q < 0 + k) = false := decide_eq_false (by omega)
      rw [h1, decide_eq_false hq]; simp)
  have cv : ∀ c : Nat → Nat, (∀ q, 0 ≤ q → q < 0 + k → (c q < n ∧ (uN g (c q) k).testBit q = true) ∨ c q = 8) ↔ (∀ p, p < k → (c p < n ∨ c p = 8) ∧ Mc (fun e => uN g e k) p (c p) = true) := fun c => by
    constructor
    · intro h p hp
      rcases h p (Nat.zero_le p) (by omega) with ⟨q1, q2⟩ | q
      · exact ⟨Or.inl q1, by unfold Mc; rw [q2, Bool.or_true]⟩
      · exact ⟨Or.inr q, by unfold Mc; rw [q]; rfl⟩
    · intro h q _ hq
      obtain ⟨q1, q2⟩ := h q (by omega)
      rcases q1 with q1 | q1
      · refine Or.inl ⟨q1, ?_⟩
        unfold Mc at q2
        have h8 : (c q == 8) = false := by simp; omega
        rw [h8, Bool.false_or] at q2; exact q2
      · exact Or.inr q1
  rw [ev]; congr 1
  have h8 := h5 a ((cv a).mpr ha)
  rw [conv] at h8
  have h9 := h2 b ((cv b).mp h6)
  rw [conv] at h7
  omega
