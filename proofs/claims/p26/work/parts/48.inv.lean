/-! the room of the numbers holds on through every call -/
theorem upd_all {P : Int32 → Prop} {f : Nat → Int32} {i c : Nat} {x : Int32} (h : P (f c)) (hx : P x) : P (upd f i x c) := by
  unfold upd
  by_cases e : c = i
  · rw [if_pos e]; exact hx
  · rw [if_neg e]; exact h
theorem upd_at {f : Nat → Int32} {i : Nat} {x : Int32} : upd f i x i = x := if_pos rfl
theorem zwi_n {x : Int32} {lo hi : Int32} {a b : Int} (h : zwi x lo hi = true) (ha : lo.toInt = a) (hb : hi.toInt = b) : a ≤ x.toInt ∧ x.toInt ≤ b := by
  have := zwi_t h; rw [ha, hb] at this; exact this
theorem zwi_vp {x hi : Int32} {N : Nat} (h : zwi x 0 hi = true) (hb : hi.toInt = (N : Int) - 1) : vp_in x N := by
  have := zwi_t h
  rw [hb, Int32.toInt_zero] at this
  rw [vp_in_iff]; omega
def zH9 (g : Nat → Nat → Int32) (n : Nat) : Prop := ∀ i, n ≤ i → g 9 i = 0 ∧ g 10 i = 0
section ZV
variable {g : Nat → Nat → Int32} {n k : Nat}
theorem T2 {a b : Bool} {x y : Int32} (h : (if a = false then (1 : Int32) else if b = false then 2 else x) = 0) : a = true ∧ b = true ∧ x = 0 := by
  cases a
  · exact absurd (show (1 : Int32) = 0 from h) (by decide)
  · cases b
    · exact absurd (show (2 : Int32) = 0 from h) (by decide)
    · exact ⟨rfl, rfl, h⟩
theorem T1 {a : Bool} {x : Int32} (h : (if a = false then (1 : Int32) else x) = 0) : a = true ∧ x = 0 := by
  cases a
  · exact absurd (show (1 : Int32) = 0 from h) (by decide)
  · exact ⟨rfl, h⟩
theorem band {a b : Bool} (h : (a && b) = true) : a = true ∧ b = true := Bool.and_eq_true _ _ ▸ h
theorem ok_setWeights {x w0 p0 : Int32} (hok : zOk g n k) (hT : T_setWeights x w0 p0 = 0) : zOk (gR (gR g 0 (upd (g 0) x.toNatClampNeg w0)) 1 (upd (g 1) x.toNatClampNeg p0)) n k := by
  obtain ⟨h1, h2, h3, h4, h5, h6, h7⟩ := hok
  obtain ⟨-, t2, -⟩ := T2 (y := 0) hT
  obtain ⟨t3, t4⟩ := band t2
  refine ⟨h1, h2, fun c hc => ⟨?_, ?_⟩, h4, h5, h6, h7⟩
  · show 0 ≤ (upd (g 0) x.toNatClampNeg w0 c).toInt ∧ (upd (g 0) x.toNatClampNeg w0 c).toInt ≤ 400
    exact upd_all (P := fun y : Int32 => 0 ≤ y.toInt ∧ y.toInt ≤ 400) (h3 c hc).1 (zwi_n t3 rfl rfl)
  · show 0 ≤ (upd (g 1) x.toNatClampNeg p0 c).toInt ∧ (upd (g 1) x.toNatClampNeg p0 c).toInt ≤ 400
    exact upd_all (P := fun y : Int32 => 0 ≤ y.toInt ∧ y.toInt ≤ 400) (h3 c hc).2 (zwi_n t4 rfl rfl)
theorem ok_setFloor {x : Int32} (hok : zOk g n k) (hT : T_setFloor x = 0) : zOk (gR g 2 (upd (g 2) 0 x)) n k := by
  obtain ⟨h1, h2, h3, h4, h5, h6, h7⟩ := hok
  exact ⟨h1, h2, h3, zwi_n (T1 hT).1 rfl rfl, h5, h6, h7⟩
theorem ok_setCapital {x : Int32} (hok : zOk g n k) (hT : T_setCapital x = 0) : zOk (gR g 2 (upd (g 2) 1 x)) n k := by
  obtain ⟨h1, h2, h3, h4, h5, h6, h7⟩ := hok
  exact ⟨h1, h2, h3, h4, zwi_n (T1 hT).1 rfl rfl, h6, h7⟩
theorem ok_addExposure {a0 a1 a2 a3 a4 a5 : Int32} (hok : zOk g n k) (h9 : zH9 g n) (hT : T_addExposure n a0 a1 a2 a3 a4 a5 = 0) : zOk (gAE g n a0 a1 a2 a3 a4 a5) (n + 1) k := by
  obtain ⟨h1, h2, h3, h4, h5, h6, h7⟩ := hok
  obtain ⟨t1, t2, t3⟩ := T2 (y := 0) hT
  have hn : ¬ n = 8 := fun e => by rw [if_pos e] at t3; exact absurd t3 (by decide)
  obtain ⟨b0, b1⟩ := band t1
  obtain ⟨t4, b5⟩ := band t2
  obtain ⟨t5, b4⟩ := band t4
  obtain ⟨b2, b3⟩ := band t5
  refine ⟨by omega, h2, h3, h4, h5, fun i hi => ?_, h7⟩
  show vp_in (upd (g 3) n a0 i) 4 ∧ vp_in (upd (g 4) n a1 i) 4 ∧ (0 ≤ (upd (g 5) n a2 i).toInt ∧ (upd (g 5) n a2 i).toInt ≤ 10000000) ∧ (0 ≤ (upd (g 6) n a3 i).toInt ∧ (upd (g 6) n a3 i).toInt ≤ 10000000) ∧ vp_in (upd (g 7) n a4 i) 3 ∧ (1 ≤ (upd (g 8) n a5 i).toInt ∧ (upd (g 8) n a5 i).toInt ≤ 3650) ∧ vp_in (g 9 i) 4 ∧ (0 ≤ (g 10 i).toInt ∧ (g 10 i).toInt ≤ 10000000)
  by_cases e : i = n
  · subst e
    obtain ⟨z9, z10⟩ := h9 i (Nat.le_refl i)
    rw [upd_at, upd_at, upd_at, upd_at, upd_at, upd_at, z9, z10]
    exact ⟨zwi_vp b0 rfl, zwi_vp b1 rfl, zwi_n b2 rfl rfl, zwi_n b3 rfl rfl, zwi_vp b4 rfl, zwi_n b5 rfl rfl, by rw [vp_in_iff]; decide, by decide⟩
  · rw [upd_ne e, upd_ne e, upd_ne e, upd_ne e, upd_ne e, upd_ne e]
    exact h6 i (by omega)
theorem ok_draw {x d0 : Int32} (hok : zOk g n k) (hT : T_draw g n x d0 = 0) : zOk (gR (gR g 5 (upd (g 5) x.toNatClampNeg (g 5 x.toNatClampNeg + d0))) 6 (upd (g 6) x.toNatClampNeg (g 6 x.toNatClampNeg - d0))) n k := by
  obtain ⟨h1, h2, h3, h4, h5, h6, h7⟩ := hok
  obtain ⟨-, -, t3⟩ := T2 (y := 0) hT
  have t4 : (zwi (g 5 x.toNatClampNeg + d0) 0 10000000 && zwi (g 6 x.toNatClampNeg - d0) 0 10000000) = true := by
    cases h : (zwi (g 5 x.toNatClampNeg + d0) 0 10000000 && zwi (g 6 x.toNatClampNeg - d0) 0 10000000)
    · rw [h] at t3; exact absurd t3 (by decide)
    · rfl
  obtain ⟨b0, b1⟩ := band t4
  refine ⟨h1, h2, h3, h4, h5, fun i hi => ?_, h7⟩
  obtain ⟨q1, q2, q3, q4, q5⟩ := h6 i hi
  exact ⟨q1, q2, upd_all (P := fun y : Int32 => 0 ≤ y.toInt ∧ y.toInt ≤ 10000000) q3 (zwi_n b0 rfl rfl), upd_all (P := fun y : Int32 => 0 ≤ y.toInt ∧ y.toInt ≤ 10000000) q4 (zwi_n b1 rfl rfl), q5⟩
theorem ok_setClass {x k0 : Int32} (hok : zOk g n k) (hT : T_setClass n x k0 = 0) : zOk (gR g 3 (upd (g 3) x.toNatClampNeg k0)) n k := by
  obtain ⟨h1, h2, h3, h4, h5, h6, h7⟩ := hok
  obtain ⟨-, b⟩ := band (T1 hT).1
  refine ⟨h1, h2, h3, h4, h5, fun i hi => ?_, h7⟩
  obtain ⟨q1, q2⟩ := h6 i hi
  exact ⟨upd_all (P := fun y : Int32 => vp_in y 4) q1 (zwi_vp b rfl), q2⟩
theorem ok_guarantee {x k0 s0 : Int32} (hok : zOk g n k) (hT : T_guarantee n x k0 s0 = 0) : zOk (gR (gR g 9 (upd (g 9) x.toNatClampNeg k0)) 10 (upd (g 10) x.toNatClampNeg s0)) n k := by
  obtain ⟨h1, h2, h3, h4, h5, h6, h7⟩ := hok
  obtain ⟨t1, t2, -⟩ := T2 (y := 0) hT
  obtain ⟨-, b⟩ := band t1
  refine ⟨h1, h2, h3, h4, h5, fun i hi => ?_, h7⟩
  obtain ⟨q1, q2, q3, q4, q5, q6, q7, q8⟩ := h6 i hi
  exact ⟨q1, q2, q3, q4, q5, q6, upd_all (P := fun y : Int32 => vp_in y 4) q7 (zwi_vp b rfl), upd_all (P := fun y : Int32 => 0 ≤ y.toInt ∧ y.toInt ≤ 10000000) q8 (zwi_n t2 rfl rfl)⟩
theorem h9_guarantee {x k0 s0 : Int32} (hok : zOk g n k) (h9 : zH9 g n) (hT : T_guarantee n x k0 s0 = 0) : zH9 (gR (gR g 9 (upd (g 9) x.toNatClampNeg k0)) 10 (upd (g 10) x.toNatClampNeg s0)) n := by
  obtain ⟨t1, -, -⟩ := T2 (y := 0) hT
  have hx := zex_lt hok.n (band t1).1
  intro i hi
  have e : i ≠ x.toNatClampNeg := by omega
  obtain ⟨q1, q2⟩ := h9 i hi
  exact ⟨(upd_ne e).trans q1, (upd_ne e).trans q2⟩
theorem ok_addPiece {a0 a1 a2 a3 a4 : Int32} (hok : zOk g n k) (hT : T_addPiece k a0 a1 a2 a3 a4 = 0) : zOk (gAP g k a0 a1 a2 a3 a4) n (k + 1) := by
  obtain ⟨h1, h2, h3, h4, h5, h6, h7⟩ := hok
  obtain ⟨t1, t3⟩ := T1 hT
  have hn : ¬ k = 5 := fun e => by rw [if_pos e] at t3; exact absurd t3 (by decide)
  obtain ⟨t2, b4⟩ := band t1
  obtain ⟨t4, b3⟩ := band t2
  obtain ⟨t5, b2⟩ := band t4
  obtain ⟨b0, b1⟩ := band t5
  refine ⟨h1, by omega, h3, h4, h5, h6, fun j hj => ?_⟩
  show (1 ≤ (upd (g 11) k a0 j).toInt ∧ (upd (g 11) k a0 j).toInt ≤ 10000000) ∧ (0 ≤ (upd (g 12) k a1 j).toInt ∧ (upd (g 12) k a1 j).toInt ≤ 100) ∧ vp_in (upd (g 13) k a2 j) 3 ∧ (1 ≤ (upd (g 14) k a3 j).toInt ∧ (upd (g 14) k a3 j).toInt ≤ 3650) ∧ (0 ≤ (upd (g 15) k a4 j).toInt ∧ (upd (g 15) k a4 j).toInt ≤ 255)
  by_cases e : j = k
  · subst e
    rw [upd_at, upd_at, upd_at, upd_at, upd_at]
    exact ⟨zwi_n b0 rfl rfl, zwi_n b1 rfl rfl, zwi_vp b2 rfl, zwi_n b3 rfl rfl, zwi_n b4 rfl rfl⟩
  · rw [upd_ne e, upd_ne e, upd_ne e, upd_ne e, upd_ne e]
    exact h7 j (by omega)
theorem ok_setPiece {y m0 w0 : Int32} (hok : zOk g n k) (hT : T_setPiece k y m0 w0 = 0) : zOk (gR (gR g 11 (upd (g 11) y.toNatClampNeg m0)) 15 (upd (g 15) y.toNatClampNeg w0)) n k := by
  obtain ⟨h1, h2, h3, h4, h5, h6, h7⟩ := hok
  obtain ⟨-, t2, -⟩ := T2 (y := 0) hT
  obtain ⟨b0, b1⟩ := band t2
  refine ⟨h1, h2, h3, h4, h5, h6, fun j hj => ?_⟩
  obtain ⟨q1, q2, q3, q4, q5⟩ := h7 j hj
  exact ⟨upd_all (P := fun y : Int32 => 1 ≤ y.toInt ∧ y.toInt ≤ 10000000) q1 (zwi_n b0 rfl rfl), q2, q3, q4, upd_all (P := fun y : Int32 => 0 ≤ y.toInt ∧ y.toInt ≤ 255) q5 (zwi_n b1 rfl rfl)⟩
theorem iv {c : Prop} [Decidable c] {G : Nat → Nat → Int32} (hok : zOk g n k) (h9 : zH9 g n) (h : c → zOk G n k) (h' : c → zH9 G n) : zOk (if c then G else g) n k ∧ zH9 (if c then G else g) n := by
  by_cases hc : c
  · rw [if_pos hc]; exact ⟨h hc, h' hc⟩
  · rw [if_neg hc]; exact ⟨hok, h9⟩
theorem iv_E {a0 a1 a2 a3 a4 a5 : Int32} (hok : zOk g n k) (h9 : zH9 g n) : zOk (if T_addExposure n a0 a1 a2 a3 a4 a5 = 0 then gAE g n a0 a1 a2 a3 a4 a5 else g) (if T_addExposure n a0 a1 a2 a3 a4 a5 = 0 then n + 1 else n) k ∧ zH9 (if T_addExposure n a0 a1 a2 a3 a4 a5 = 0 then gAE g n a0 a1 a2 a3 a4 a5 else g) (if T_addExposure n a0 a1 a2 a3 a4 a5 = 0 then n + 1 else n) := by
  by_cases hc : T_addExposure n a0 a1 a2 a3 a4 a5 = 0
  · rw [if_pos hc, if_pos hc]; exact ⟨ok_addExposure hok h9 hc, fun i hi => h9 i (by omega)⟩
  · rw [if_neg hc, if_neg hc]; exact ⟨hok, h9⟩
theorem iv_P {a0 a1 a2 a3 a4 : Int32} (hok : zOk g n k) (h9 : zH9 g n) : zOk (if T_addPiece k a0 a1 a2 a3 a4 = 0 then gAP g k a0 a1 a2 a3 a4 else g) n (if T_addPiece k a0 a1 a2 a3 a4 = 0 then k + 1 else k) ∧ zH9 (if T_addPiece k a0 a1 a2 a3 a4 = 0 then gAP g k a0 a1 a2 a3 a4 else g) n := by
  by_cases hc : T_addPiece k a0 a1 a2 a3 a4 = 0
  · rw [if_pos hc, if_pos hc]; exact ⟨ok_addPiece hok hc, h9⟩
  · rw [if_neg hc, if_neg hc]; exact ⟨hok, h9⟩
theorem g0_ok : zOk g0 0 0 ∧ zH9 g0 0 := by
  refine ⟨⟨by decide, by decide, ?_, by decide, by decide, fun i hi => absurd hi (by omega), fun i hi => absurd hi (by omega)⟩, fun i _ => ⟨rfl, rfl⟩⟩
  intro c hc
  rcases (show c = 0 ∨ c = 1 ∨ c = 2 ∨ c = 3 by omega) with rfl | rfl | rfl | rfl <;> decide
end ZV
