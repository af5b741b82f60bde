/-! the reference's least whole -/
def Mm (my : Nat → Int32) : Nat → Nat → Bool := fun p e => zhas (my p) (nI e)
theorem fitB_iff {my : Nat → Int32} {G e : Nat} (hG : G < 32) : ∀ k, k ≤ 5 → (fitB my (nI G) (nI e) k = true ↔ ∀ p, p < k → G.testBit p = true → Mm my p e = true)
  | 0, _ => by simp [fitB]
  | k + 1, hk => by
    unfold fitB
    rw [Bool.and_eq_true, fitB_iff hG k (by omega), zhas_b G hG k (by omega)]
    constructor
    · rintro ⟨h1, h2⟩ p hp hg
      by_cases h : p = k
      · subst h; rw [hg] at h2; exact h2
      · exact h1 p (by omega) hg
    · intro h
      refine ⟨fun p hp hg => h p (by omega) hg, ?_⟩
      cases hg : G.testBit k
      · rfl
      · exact h k (by omega) hg
theorem fitB_5 {my : Nat → Int32} {G e k : Nat} (hk : k ≤ 5) (hG : G < 2 ^ k) : (fitB my (nI G) (nI e) k = true ↔ ∀ p, p < 5 → G.testBit p = true → Mm my p e = true) := by
  have h32 := z2k hk
  rw [fitB_iff (by omega) k hk]
  constructor
  · intro h p hp hg
    by_cases hpk : p < k
    · exact h p hpk hg
    · have : 2 ^ k ≤ 2 ^ p := Nat.pow_le_pow_right (n := 2) (by decide) (by omega)
      rw [Nat.testBit_lt_two_pow (by omega)] at hg; cases hg
  · intro h p hp hg
    exact h p (by omega) hg
theorem zlw {tb my : Nat → Int32} {k : Nat} {F : Nat → Int32} {f w : Nat → Nat} {e S : Nat} (hk : k ≤ 5) (hS : S < 2 ^ k) (hf : ∀ G, G ≤ S → F G = nI (f G) ∧ f G ≤ 1000000000) (hw : ∀ G, G < 32 → tb (32 * e + G) = nI (w G) ∧ w G ≤ 56000000) :
    ∀ q, q ≤ S + 1 → ∃ m, m ≤ 1000000000 ∧ lwL tb my k F e S q = nI m ∧ (∀ G, G < q → G &&& S = G → (∀ p, p < 5 → G.testBit p = true → Mm my p e = true) → m ≤ w G + f (S - G)) ∧ (m = 1000000000 ∨ ∃ G, G < q ∧ G &&& S = G ∧ (∀ p, p < 5 → G.testBit p = true → Mm my p e = true) ∧ m = w G + f (S - G))
  | 0, _ => ⟨1000000000, Nat.le_refl _, by unfold lwL; decide +kernel, fun G hG => by omega, Or.inl rfl⟩
  | q + 1, hq => by
    have h32 := z2k hk
    obtain ⟨m, hm, em, h5, h6⟩ := zlw hk hS hf hw q (by omega)
    obtain ⟨h1, h2⟩ := hf (S - q) (by omega)
    obtain ⟨h3, h4⟩ := hw q (by omega)
    have hkeep : (m = 1000000000 ∨ ∃ G, G < q + 1 ∧ G &&& S = G ∧ (∀ p, p < 5 → G.testBit p = true → Mm my p e = true) ∧ m = w G + f (S - G)) := by
      rcases h6 with h6 | ⟨G, a, b, c, d⟩
      · exact Or.inl h6
      · exact Or.inr ⟨G, by omega, b, c, d⟩
    have ec : (nI q &&& nI S = nI q) ↔ q &&& S = q := by
      rw [fa_and, nI_eq (by have := Nat.and_le_right (n := q) (m := S); omega) (by omega)]
    have ef := fitB_5 (my := my) (e := e) hk (show q < 2 ^ k by omega)
    unfold lwL
    by_cases hc : q &&& S = q
    · rw [if_pos (ec.mpr hc)]
      by_cases hfit : fitB my (nI q) (nI e) k = true
      · rw [if_pos hfit, em, h1, h3, nI_add]
        by_cases hle : m ≤ f (S - q) + w q
        · rw [if_pos ((nI_leI (by omega) (by omega)).mpr hle)]
          refine ⟨m, hm, rfl, fun G hG a b => ?_, hkeep⟩
          by_cases hgq : G = q
          · subst hgq; omega
          · exact h5 G (by omega) a b
        · rw [if_neg (fun z => hle ((nI_leI (by omega) (by omega)).mp z))]
          refine ⟨f (S - q) + w q, by omega, rfl, fun G hG a b => ?_, Or.inr ⟨q, by omega, hc, ef.mp hfit, by omega⟩⟩
          by_cases hgq : G = q
          · subst hgq; omega
          · have := h5 G (by omega) a b; omega
      · rw [if_neg hfit]
        refine ⟨m, hm, em, fun G hG a b => ?_, hkeep⟩
        by_cases hgq : G = q
        · subst hgq; exact absurd (ef.mpr b) hfit
        · exact h5 G (by omega) a b
    · rw [if_neg (fun z => hc (ec.mp z))]
      refine ⟨m, hm, em, fun G hG a b => ?_, hkeep⟩
      by_cases hgq : G = q
      · subst hgq; exact absurd a hc
      · exact h5 G (by omega) a b
theorem zLW {tb my : Nat → Int32} {n k : Nat} {w : Nat → Nat → Nat} (hn : n ≤ 8) (hk : k ≤ 5) (hw : ∀ i S, i < n → S < 32 → tb (32 * i + S) = nI (w i S) ∧ w i S ≤ 56000000) :
    ∀ d, d ≤ n → ∃ f : Nat → Nat, ∀ S, S < 2 ^ k → LW tb my n k d S = nI (f S) ∧ zop (Mm my) w (fun _ => 0) 1000000000 (un n d) S (f S)
  | 0, _ => by
    have h32 := z2k hk
    refine ⟨fun S => if fitB my (nI S) 8 k = true then 0 else 1000000000, fun S hS => ?_⟩
    have ef := fitB_5 (my := my) (e := 8) hk hS
    have e8 : nI 8 = (8 : Int32) := by decide +kernel
    rw [e8] at ef
    refine ⟨?_, zbase (by omega) (by simp only []; split <;> omega) (fun h => by simp only []; rw [if_pos (ef.mpr h)]) (fun h => by simp only []; rw [if_neg (fun z => h (ef.mp z))])⟩
    show rwN my k S = _
    unfold rwN
    simp only []
    split
    · exact nI_0.symm
    · decide +kernel
  | d + 1, hd => by
    have h32 := z2k hk
    obtain ⟨f, hf⟩ := zLW (my := my) hn hk hw d (by omega)
    have hz : ∀ S, S < 2 ^ k → ∃ v, LW tb my n k (d + 1) S = nI v ∧ zop (Mm my) w (fun _ => 0) 1000000000 (un n (d + 1)) S v := fun S hS => by
      obtain ⟨m, hm, em, h5, h6⟩ := zlw (F := LW tb my n k d) (f := f) (w := w (n - 1 - d)) (my := my) hk hS (fun G hG => ⟨(hf G (by omega)).1, (hf G (by omega)).2.1⟩) (fun G hG => hw (n - 1 - d) G (by omega) hG) (S + 1) (Nat.le_refl _)
      refine ⟨m, em, ?_⟩
      refine zstep (f := f) (by omega) (fun q => by have := (un_mem (by omega)).mp q; omega) (by omega) (fun S' hS' hSS => (hf S' ?_).2) hm (fun G hG hGS hGM => h5 G ?_ hGS hGM) ?_
      · have : S' &&& S ≤ S := Nat.and_le_right
        rw [hSS] at this; omega
      · have : G &&& S ≤ S := Nat.and_le_right
        rw [hGS] at this; omega
      · rcases h6 with h6 | ⟨G, a, b, c, d'⟩
        · exact Or.inl h6
        · exact Or.inr ⟨G, b, c, d'⟩
    refine ⟨fun S => (LW tb my n k (d + 1) S).toInt.toNat, fun S hS => ?_⟩
    obtain ⟨v, h1, h2⟩ := hz S hS
    have hv := h2.1
    have hvv : (LW tb my n k (d + 1) S).toInt.toNat = v := by rw [h1, nI_toInt (by omega)]; rfl
    show LW tb my n k (d + 1) S = nI ((LW tb my n k (d + 1) S).toInt.toNat) ∧ zop _ _ _ _ _ _ ((LW tb my n k (d + 1) S).toInt.toNat)
    rw [hvv]; exact ⟨h1, h2⟩
/-! the numbers of a state: the best allocation -/
theorem zcw_le {w : Nat → Nat → Nat} {a : Nat → Nat} {S : Nat} : ∀ {n : Nat}, (∀ i S, i < n → S < 32 → w i S ≤ 56000000) → zcw w a S n ≤ n * 56000000
  | 0, _ => by simp [zcw]
  | n + 1, h => by
    have h1 := zcw_le (w := w) (a := a) (S := S) (n := n) (fun i S hi hS => h i S (by omega) hS)
    have h2 := h n (zF a S n) (by omega) (zF_lt _ _ _)
    unfold zcw; omega
theorem ds_lt {M : Nat → Nat → Bool} {a : Nat → Nat} {S n : Nat} (hn : n ≤ 8) (h : zva M (dn n) a S) : ds a S < 1048576 := by
  have key : ∀ p, p < 5 → S.testBit p = true → a p ≤ 8 := fun p hp hs => by
    rcases (h p hp hs).1 with q | q
    · have := dn_mem.mp q; omega
    · omega
  have c : ∀ p m, p < 5 → (if S.testBit p = true then a p * m else 0) ≤ 8 * m := fun p m hp => by
    by_cases hs : S.testBit p = true
    · rw [if_pos hs]; exact Nat.mul_le_mul_right m (key p hp hs)
    · rw [if_neg hs]; exact Nat.zero_le _
  have c4 : (if S.testBit 4 = true then a 4 else 0) ≤ 8 := by
    by_cases hs : S.testBit 4 = true
    · rw [if_pos hs]; exact key 4 (by omega) hs
    · rw [if_neg hs]; omega
  have h0 := c 0 65536 (by omega)
  have h1 := c 1 4096 (by omega)
  have h2 := c 2 256 (by omega)
  have h3 := c 3 16 (by omega)
  unfold ds; omega
/-- what the class's search finds for a set of pieces: an allocation of least key -/
theorem zbest {us wb : Nat → Int32} {pr le : Nat → Int64} {U : Nat → Nat} {w : Nat → Nat → Nat} {n S : Nat} (hn : n ≤ 8) (hu : ∀ i, i < n → us i = nI (U i) ∧ U i < 32) (hw : ∀ i S, i < n → S < 32 → wb (32 * i + S) = nI (w i S) ∧ w i S ≤ 56000000) (hS : S < 32) :
    ∃ a, zva (Mc U) (dn n) a S ∧ LEO us wb pr le n S = lN (zcw w a S n * 1048576 + ds a S) ∧ ∀ b, zva (Mc U) (dn n) b S → zcw w a S n * 1048576 + ds a S ≤ zcw w b S n * 1048576 + ds b S := by
  obtain ⟨f, hf⟩ := zLE (pr := pr) (le := le) hn hu hw n (Nat.le_refl n)
  obtain ⟨h1, h2, -, h3, h4⟩ := hf S hS
  have e : ∀ b, zva (Mc U) (dn n) b S → zco (kc w) kb b S (dn n) = zcw w b S n * 1048576 + ds b S := fun b hb => by rw [zco_dn, dsn_ds hn hb]
  rcases h4 with ⟨a, ha, h4⟩ | h4
  · refine ⟨a, ha, by rw [h1, h4, e a ha], fun b hb => ?_⟩
    rw [← e a ha, ← h4, ← e b hb]; exact h3 b hb
  · have : (n * 56000000 + 1) * 1048576 ≤ (8 * 56000000 + 1) * 1048576 := Nat.mul_le_mul_right _ (by omega)
    omega
/-- what the reference's search finds -/
theorem zleast {tb my : Nat → Int32} {n k : Nat} {w : Nat → Nat → Nat} (hn : n ≤ 8) (hk : k ≤ 5) (hw : ∀ i S, i < n → S < 32 → tb (32 * i + S) = nI (w i S) ∧ w i S ≤ 56000000) :
    ∃ v, v ≤ 1000000000 ∧ LW tb my n k n (2 ^ k - 1) = nI v ∧ (∀ b, zva (Mm my) (un n n) b (2 ^ k - 1) → v ≤ zcw w b (2 ^ k - 1) n) ∧ ((∃ b, zva (Mm my) (un n n) b (2 ^ k - 1) ∧ v = zcw w b (2 ^ k - 1) n) ∨ v = 1000000000) := by
  obtain ⟨f, hf⟩ := zLW (my := my) hn hk hw n (Nat.le_refl n)
  have h2 := z2p k
  obtain ⟨h1, h3, h4, h5⟩ := hf (2 ^ k - 1) (by omega)
  have e : ∀ b, zco w (fun _ => 0) b (2 ^ k - 1) (un n n) = zcw w b (2 ^ k - 1) n := fun b => by
    have := zco_un (w := w) (a := b) (S := 2 ^ k - 1) (n := n) (Nat.le_refl n)
    rw [Nat.sub_self] at this
    simpa [zcw] using this
  refine ⟨f (2 ^ k - 1), h3, h1, fun b hb => by rw [← e b]; exact h4 b hb, ?_⟩
  rcases h5 with ⟨b, hb, h5⟩ | h5
  · exact Or.inl ⟨b, hb, by rw [← e b]; exact h5⟩
  · exact Or.inr h5
