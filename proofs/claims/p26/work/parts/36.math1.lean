/-! allocations: a set of pieces is a number below 32; the fibre of a taker; what an allocation costs; the least cost by one taker after the other -/
def zf (a : Nat → Nat) (S e : Nat) : Nat → Nat
  | 0 => 0
  | p + 1 => zf a S e p ||| (if (S.testBit p && decide (a p = e)) = true then 2 ^ p else 0)
theorem zf_bit (a : Nat → Nat) (S e : Nat) : ∀ m q, (zf a S e m).testBit q = (decide (q < m) && (S.testBit q && decide (a q = e)))
  | 0, q => by simp [zf]
  | m + 1, q => by
    unfold zf
    rw [Nat.testBit_or, zf_bit a S e m q]
    by_cases h : q = m
    · subst h
      cases h2 : (S.testBit q && decide (a q = e))
      · simp
      · simp [Nat.testBit_two_pow_self]
    · have h1 : decide (q < m) = decide (q < m + 1) := decide_eq_decide.mpr (by omega)
      rw [h1]
      have h3 : (if (S.testBit m && decide (a m = e)) = true then 2 ^ m else 0).testBit q = false := by
        split
        · exact Nat.testBit_two_pow_of_ne (fun e => h e.symm)
        · exact Nat.zero_testBit q
      rw [h3, Bool.or_false]
def zF (a : Nat → Nat) (S e : Nat) : Nat := zf a S e 5
theorem zF_bit {a : Nat → Nat} {S e q : Nat} (hq : q < 5) : (zF a S e).testBit q = (S.testBit q && decide (a q = e)) := by
  unfold zF; rw [zf_bit, decide_eq_true hq, Bool.true_and]
theorem zF_lt (a : Nat → Nat) (S e : Nat) : zF a S e < 32 := by
  refine Nat.lt_pow_two_of_testBit (n := 5) _ (fun i hi => ?_)
  unfold zF; rw [zf_bit, decide_eq_false (by omega), Bool.false_and]
theorem zext {S T : Nat} (hS : S < 32) (hT : T < 32) (h : ∀ p, p < 5 → S.testBit p = T.testBit p) : S = T := by
  apply Nat.eq_of_testBit_eq
  intro i
  by_cases hi : i < 5
  · exact h i hi
  · have h5 : (32 : Nat) ≤ 2 ^ i := Nat.pow_le_pow_right (n := 2) (by decide) (show 5 ≤ i by omega)
    rw [Nat.testBit_lt_two_pow (by omega), Nat.testBit_lt_two_pow (by omega)]
theorem zsub {S G : Nat} (hS : S < 32) (hG : G < 32) (h : G &&& S = G) : S - G < 32 ∧ ∀ p, p < 5 → (S - G).testBit p = (S.testBit p && !G.testBit p) := by
  have key : ∀ S, S < 32 → ∀ G, G < 32 → G &&& S = G → ∀ p, p < 5 → (S - G).testBit p = (S.testBit p && !G.testBit p) := by decide +kernel
  exact ⟨by omega, key S hS G hG h⟩
theorem zand_of {S G : Nat} (hG : G < 32) (h : ∀ p, p < 5 → G.testBit p = true → S.testBit p = true) : G &&& S = G := by
  apply Nat.eq_of_testBit_eq
  intro i
  rw [Nat.testBit_and]
  cases hg : G.testBit i
  · rfl
  · by_cases hi : i < 5
    · rw [h i hi hg]; rfl
    · have h5 : (32 : Nat) ≤ 2 ^ i := Nat.pow_le_pow_right (n := 2) (by decide) (show 5 ≤ i by omega)
      rw [Nat.testBit_lt_two_pow (by omega)] at hg; cases hg
theorem zand_bit {S G p : Nat} (h : G &&& S = G) (hp : G.testBit p = true) : S.testBit p = true := by
  have := congrArg (fun x => Nat.testBit x p) h
  simp only [Nat.testBit_and, hp, Bool.true_and] at this
  exact this
def zco (c : Nat → Nat → Nat) (b : Nat → Nat) (a : Nat → Nat) (S : Nat) : List Nat → Nat
  | [] => b (zF a S 8)
  | e :: L => c e (zF a S e) + zco c b a S L
def zva (M : Nat → Nat → Bool) (L : List Nat) (a : Nat → Nat) (S : Nat) : Prop := ∀ p, p < 5 → S.testBit p = true → (a p ∈ L ∨ a p = 8) ∧ M p (a p) = true
def zop (M : Nat → Nat → Bool) (c : Nat → Nat → Nat) (b : Nat → Nat) (INF : Nat) (L : List Nat) (S v : Nat) : Prop := v ≤ INF ∧ (∀ a, zva M L a S → v ≤ zco c b a S L) ∧ ((∃ a, zva M L a S ∧ v = zco c b a S L) ∨ v = INF)
theorem zco_congr {c : Nat → Nat → Nat} {b : Nat → Nat} {a a' : Nat → Nat} {S S' : Nat} : ∀ {L : List Nat}, (∀ e, (e ∈ L ∨ e = 8) → zF a S e = zF a' S' e) → zco c b a S L = zco c b a' S' L
  | [], h => by unfold zco; rw [h 8 (Or.inr rfl)]
  | e :: L, h => by
    unfold zco
    rw [h e (Or.inl List.mem_cons_self), zco_congr (L := L) (fun i hi => h i (hi.elim (fun q => Or.inl (List.mem_cons_of_mem _ q)) Or.inr))]
theorem zstep {M : Nat → Nat → Bool} {c : Nat → Nat → Nat} {b : Nat → Nat} {INF : Nat} {L : List Nat} {S e v : Nat} {f : Nat → Nat} (hS : S < 32) (he : e ∉ L) (he8 : e ≠ 8) (hf : ∀ S', S' < 32 → S' &&& S = S' → zop M c b INF L S' (f S')) (hv : v ≤ INF)
    (h1 : ∀ G, G < 32 → G &&& S = G → (∀ p, p < 5 → G.testBit p = true → M p e = true) → v ≤ c e G + f (S - G))
    (h2 : v = INF ∨ ∃ G, G &&& S = G ∧ (∀ p, p < 5 → G.testBit p = true → M p e = true) ∧ v = c e G + f (S - G)) : zop M c b INF (e :: L) S v := by
  have hsub : ∀ G, G < 32 → G &&& S = G → (S - G) &&& S = S - G := fun G hG hGS => zand_of (zsub hS hG hGS).1 (fun p hp h => by
    rw [(zsub hS hG hGS).2 p hp] at h; simp at h; exact h.1)
  refine ⟨hv, fun a ha => ?_, ?_⟩
  · have hG : zF a S e &&& S = zF a S e := zand_of (zF_lt a S e) (fun p hp h => by rw [zF_bit hp] at h; simp at h; exact h.1)
    have hM : ∀ p, p < 5 → (zF a S e).testBit p = true → M p e = true := fun p hp h => by
      rw [zF_bit hp] at h; simp at h
      have := (ha p hp h.1).2
      rw [h.2] at this; exact this
    have h3 := h1 _ (zF_lt a S e) hG hM
    obtain ⟨hlt, hb⟩ := zsub hS (zF_lt a S e) hG
    have hva : zva M L a (S - zF a S e) := fun p hp h => by
      rw [hb p hp, zF_bit hp] at h; simp at h
      obtain ⟨h4, h5⟩ := ha p hp h.1
      refine ⟨?_, h5⟩
      rcases h4 with h4 | h4
      · rcases List.mem_cons.mp h4 with h6 | h6
        · exact absurd h6 (h.2.resolve_left (by rw [h.1]; decide))
        · exact Or.inl h6
      · exact Or.inr h4
    have h6 := (hf _ hlt (hsub _ (zF_lt a S e) hG)).2.1 a hva
    have h7 : zco c b a (S - zF a S e) L = zco c b a S L := zco_congr (fun i hi => zext (zF_lt _ _ _) (zF_lt _ _ _) (fun p hp => by
      rw [zF_bit hp, zF_bit hp, hb p hp, zF_bit hp]
      by_cases h8 : a p = i
      · have hne : a p ≠ e := fun q => by
          rcases hi with hi | hi
          · exact he (by rw [← q, h8]; exact hi)
          · exact he8 (by rw [← q, h8]; exact hi)
        simp [hne]
      · simp [h8]))
    show v ≤ c e (zF a S e) + zco c b a S L
    rw [← h7]; omega
  · rcases h2 with h2 | ⟨G, hG, hM, h2⟩
    · exact Or.inr h2
    · have hGl : G < 32 := by
        have : G &&& S ≤ S := Nat.and_le_right
        rw [hG] at this; omega
      obtain ⟨hlt, hb⟩ := zsub hS hGl hG
      rcases (hf _ hlt (hsub _ hGl hG)).2.2 with ⟨a, ha, h4⟩ | h4
      · have hne : ∀ p, p < 5 → S.testBit p = true → ¬ G.testBit p = true → a p ≠ e := fun p hp hs hg q => by
          have := (ha p hp (by rw [hb p hp, hs]; simp [hg])).1
          rcases this with q2 | q2
          · exact he (by rw [← q]; exact q2)
          · exact he8 (by rw [← q]; exact q2)
        refine Or.inl ⟨fun p => if G.testBit p = true then e else a p, fun p hp h => ?_, ?_⟩
        · by_cases hg : G.testBit p = true
          · simp only [hg, if_true]
            exact ⟨Or.inl List.mem_cons_self, hM p hp hg⟩
          · simp only [hg]
            have := ha p hp (by rw [hb p hp, h]; simp [hg])
            exact ⟨this.1.elim (fun q => Or.inl (List.mem_cons_of_mem _ q)) Or.inr, this.2⟩
        · have e1 : zF (fun p => if G.testBit p = true then e else a p) S e = G := zext (zF_lt _ _ _) hGl (fun p hp => by
            rw [zF_bit hp]
            by_cases hg : G.testBit p = true
            · have := zand_bit hG hg; simp [hg, this]
            · by_cases hs : S.testBit p = true
              · simp [hg, hs, hne p hp hs hg]
              · simp [hg, hs])
          have e2 : zco c b (fun p => if G.testBit p = true then e else a p) S L = zco c b a (S - G) L := zco_congr (fun i hi => zext (zF_lt _ _ _) (zF_lt _ _ _) (fun p hp => by
            rw [zF_bit hp, zF_bit hp, hb p hp]
            by_cases hg : G.testBit p = true
            · have hei : e ≠ i := fun q => by
                rcases hi with hi | hi
                · exact he (by rw [q]; exact hi)
                · exact he8 (by rw [q]; exact hi)
              simp [hg, hei]
            · simp [hg]))
          show v = c e (zF _ S e) + zco c b _ S L
          rw [e1, e2, h2, h4]
      · exact Or.inr (by omega)
theorem zbase {M : Nat → Nat → Bool} {c : Nat → Nat → Nat} {b : Nat → Nat} {INF S v : Nat} (hS : S < 32) (hv : v ≤ INF) (h1 : (∀ p, p < 5 → S.testBit p = true → M p 8 = true) → v = b S) (h2 : ¬ (∀ p, p < 5 → S.testBit p = true → M p 8 = true) → v = INF) : zop M c b INF [] S v := by
  have hF : ∀ a : Nat → Nat, (∀ p, p < 5 → S.testBit p = true → a p = 8) → zF a S 8 = S := fun a ha => zext (zF_lt _ _ _) hS (fun p hp => by
    rw [zF_bit hp]
    cases hs : S.testBit p
    · rfl
    · simp [ha p hp hs])
  refine ⟨hv, fun a ha => ?_, ?_⟩
  · have h8 : ∀ p, p < 5 → S.testBit p = true → a p = 8 := fun p hp hs => by
      rcases (ha p hp hs).1 with q | q
      · cases q
      · exact q
    have hM : ∀ p, p < 5 → S.testBit p = true → M p 8 = true := fun p hp hs => by
      have := (ha p hp hs).2; rw [h8 p hp hs] at this; exact this
    show v ≤ b (zF a S 8)
    rw [hF a h8, h1 hM]; exact Nat.le_refl _
  · by_cases hM : ∀ p, p < 5 → S.testBit p = true → M p 8 = true
    · refine Or.inl ⟨fun _ => 8, fun p hp hs => ⟨Or.inr rfl, hM p hp hs⟩, ?_⟩
      show v = b (zF _ S 8)
      rw [hF _ (fun _ _ _ => rfl), h1 hM]
    · exact Or.inr (h2 hM)
/-! lists of takers, the cost without digits, the digits -/
def dn : Nat → List Nat
  | 0 => []
  | n + 1 => n :: dn n
def un (n : Nat) : Nat → List Nat
  | 0 => []
  | d + 1 => (n - 1 - d) :: un n d
theorem dn_mem {x : Nat} : ∀ {n : Nat}, x ∈ dn n ↔ x < n
  | 0 => by simp [dn]
  | n + 1 => by unfold dn; rw [List.mem_cons, dn_mem]; omega
theorem un_mem {n x : Nat} : ∀ {d : Nat}, d ≤ n → (x ∈ un n d ↔ n - d ≤ x ∧ x < n)
  | 0, _ => by simp [un]
  | d + 1, h => by unfold un; rw [List.mem_cons, un_mem (by omega)]; omega
def zcw (w : Nat → Nat → Nat) (a : Nat → Nat) (S : Nat) : Nat → Nat
  | 0 => 0
  | n + 1 => zcw w a S n + w n (zF a S n)
theorem zco_un {w : Nat → Nat → Nat} {a : Nat → Nat} {S n : Nat} : ∀ {d : Nat}, d ≤ n → zco w (fun _ => 0) a S (un n d) + zcw w a S (n - d) = zcw w a S n
  | 0, _ => by simp [un, zco]
  | d + 1, h => by
    have := zco_un (w := w) (a := a) (S := S) (n := n) (d := d) (by omega)
    unfold un zco
    rw [show n - d = (n - 1 - d) + 1 by omega] at this
    have e : zcw w a S ((n - 1 - d) + 1) = zcw w a S (n - 1 - d) + w (n - 1 - d) (zF a S (n - 1 - d)) := rfl
    rw [e] at this
    rw [show n - (d + 1) = n - 1 - d by omega]
    omega
def sb (G : Nat) : Nat := (if G.testBit 0 = true then 65536 else 0) + (if G.testBit 1 = true then 4096 else 0) + (if G.testBit 2 = true then 256 else 0) + (if G.testBit 3 = true then 16 else 0) + (if G.testBit 4 = true then 1 else 0)
def ds (a : Nat → Nat) (S : Nat) : Nat := (if S.testBit 0 = true then a 0 * 65536 else 0) + (if S.testBit 1 = true then a 1 * 4096 else 0) + (if S.testBit 2 = true then a 2 * 256 else 0) + (if S.testBit 3 = true then a 3 * 16 else 0) + (if S.testBit 4 = true then a 4 else 0)
def zon (x : Nat) : Nat → Nat
  | 0 => if x = 8 then 8 else 0
  | n + 1 => (if x = n then n else 0) + zon x n
theorem zon_8 : ∀ {n : Nat}, n ≤ 8 → zon 8 n = 8
  | 0, _ => rfl
  | n + 1, h => by unfold zon; rw [zon_8 (by omega), if_neg (by omega)]
theorem zon_ge {x : Nat} (h8 : x ≠ 8) : ∀ {n : Nat}, n ≤ x → zon x n = 0
  | 0, _ => by unfold zon; rw [if_neg h8]
  | n + 1, h => by unfold zon; rw [zon_ge h8 (by omega), if_neg (by omega)]
theorem zon_lt {x : Nat} (h8 : x ≠ 8) : ∀ {n : Nat}, x < n → zon x n = x
  | 0, h => by omega
  | n + 1, h => by
    unfold zon
    by_cases hx : x = n
    · subst hx; rw [if_pos rfl, zon_ge h8 (Nat.le_refl _)]; rfl
    · rw [if_neg hx, zon_lt h8 (by omega), Nat.zero_add]
def dsn (a : Nat → Nat) (S n : Nat) : Nat := (if S.testBit 0 = true then zon (a 0) n * 65536 else 0) + (if S.testBit 1 = true then zon (a 1) n * 4096 else 0) + (if S.testBit 2 = true then zon (a 2) n * 256 else 0) + (if S.testBit 3 = true then zon (a 3) n * 16 else 0) + (if S.testBit 4 = true then zon (a 4) n else 0)
theorem dig1 (s : Bool) (x n o c : Nat) : n * (if (s && decide (x = n)) = true then c else 0) + (if s = true then o * c else 0) = (if s = true then ((if x = n then n else 0) + o) * c else 0) := by
  cases s
  · simp
  · by_cases h : x = n
    · subst h; simp [Nat.add_mul]
    · simp [h]
theorem dig0 (s : Bool) (x c : Nat) : 8 * (if (s && decide (x = 8)) = true then c else 0) = (if s = true then (if x = 8 then 8 else 0) * c else 0) := by
  cases s
  · simp
  · by_cases h : x = 8
    · subst h; simp
    · simp [h]
theorem sb_F (a : Nat → Nat) (S e : Nat) : sb (zF a S e) = (if (S.testBit 0 && decide (a 0 = e)) = true then 65536 else 0) + (if (S.testBit 1 && decide (a 1 = e)) = true then 4096 else 0) + (if (S.testBit 2 && decide (a 2 = e)) = true then 256 else 0) + (if (S.testBit 3 && decide (a 3 = e)) = true then 16 else 0) + (if (S.testBit 4 && decide (a 4 = e)) = true then 1 else 0) := by
  unfold sb
  rw [zF_bit (by omega), zF_bit (by omega), zF_bit (by omega), zF_bit (by omega), zF_bit (by omega)]
def kc (w : Nat → Nat → Nat) : Nat → Nat → Nat := fun e G => w e G * 1048576 + e * sb G
def kb : Nat → Nat := fun G => 8 * sb G
theorem zco_dn {w : Nat → Nat → Nat} {a : Nat → Nat} {S : Nat} : ∀ n, zco (kc w) kb a S (dn n) = zcw w a S n * 1048576 + dsn a S n
  | 0 => by
    show 8 * sb (zF a S 8) = 0 * 1048576 + dsn a S 0
    unfold dsn zon
    rw [← dig0 (S.testBit 0), ← dig0 (S.testBit 1), ← dig0 (S.testBit 2), ← dig0 (S.testBit 3)]
    have h4 := dig0 (S.testBit 4) (a 4) 1
    rw [sb_F]
    simp only [Nat.mul_one] at h4
    rw [← h4]
    omega
  | n + 1 => by
    show w n (zF a S n) * 1048576 + n * sb (zF a S n) + zco (kc w) kb a S (dn n) = (zcw w a S n + w n (zF a S n)) * 1048576 + dsn a S (n + 1)
    rw [zco_dn n]
    have h0 := dig1 (S.testBit 0) (a 0) n (zon (a 0) n) 65536
    have h1 := dig1 (S.testBit 1) (a 1) n (zon (a 1) n) 4096
    have h2 := dig1 (S.testBit 2) (a 2) n (zon (a 2) n) 256
    have h3 := dig1 (S.testBit 3) (a 3) n (zon (a 3) n) 16
    have h4 := dig1 (S.testBit 4) (a 4) n (zon (a 4) n) 1
    simp only [Nat.mul_one] at h4
    have hsb := sb_F a S n
    have hmul : n * sb (zF a S n) = n * (if (S.testBit 0 && decide (a 0 = n)) = true then 65536 else 0) + n * (if (S.testBit 1 && decide (a 1 = n)) = true then 4096 else 0) + n * (if (S.testBit 2 && decide (a 2 = n)) = true then 256 else 0) + n * (if (S.testBit 3 && decide (a 3 = n)) = true then 16 else 0) + n * (if (S.testBit 4 && decide (a 4 = n)) = true then 1 else 0) := by
      rw [hsb, Nat.mul_add, Nat.mul_add, Nat.mul_add, Nat.mul_add]
    have hd : dsn a S (n + 1) = (if S.testBit 0 = true then ((if a 0 = n then n else 0) + zon (a 0) n) * 65536 else 0) + (if S.testBit 1 = true then ((if a 1 = n then n else 0) + zon (a 1) n) * 4096 else 0) + (if S.testBit 2 = true then ((if a 2 = n then n else 0) + zon (a 2) n) * 256 else 0) + (if S.testBit 3 = true then ((if a 3 = n then n else 0) + zon (a 3) n) * 16 else 0) + (if S.testBit 4 = true then ((if a 4 = n then n else 0) + zon (a 4) n) else 0) := rfl
    rw [hd, hmul, ← h0, ← h1, ← h2, ← h3, ← h4, Nat.add_mul]
    unfold dsn
    omega
theorem dsn_ds {M : Nat → Nat → Bool} {a : Nat → Nat} {S n : Nat} (hn : n ≤ 8) (h : zva M (dn n) a S) : dsn a S n = ds a S := by
  have key : ∀ p, p < 5 → S.testBit p = true → zon (a p) n = a p := fun p hp hs => by
    rcases (h p hp hs).1 with q | q
    · have := dn_mem.mp q
      exact zon_lt (by omega) this
    · rw [q]; exact zon_8 hn
  unfold dsn ds
  have c : ∀ p m, p < 5 → (if S.testBit p = true then zon (a p) n * m else 0) = (if S.testBit p = true then a p * m else 0) := fun p m hp => by
    by_cases hs : S.testBit p = true
    · rw [if_pos hs, if_pos hs, key p hp hs]
    · rw [if_neg hs, if_neg hs]
  have c4 : (if S.testBit 4 = true then zon (a 4) n else 0) = (if S.testBit 4 = true then a 4 else 0) := by
    by_cases hs : S.testBit 4 = true
    · rw [if_pos hs, if_pos hs, key 4 (by omega) hs]
    · rw [if_neg hs, if_neg hs]
  rw [c 0 _ (by omega), c 1 _ (by omega), c 2 _ (by omega), c 3 _ (by omega), c4]
