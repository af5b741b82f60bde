/-! the reference's world, and what its methods answer -/
def gR (g : Nat → Nat → Int32) (r : Nat) (f : Nat → Int32) : Nat → Nat → Int32 := fun r' => if r' = r then f else g r'
def mws (cI : ClassId) (am : Nat → Nat) (g : Nat → Nat → Int32) (n k : Nat) (tb my lt : Nat → Int32) (th : Int32) : va_W :=
  [(am 0, .inr (4, [.ref (am 1), .ref (am 2), .int (g 2 0), .int (g 2 1), .int (nI n), .ref (am 3), .ref (am 4), .ref (am 5), .ref (am 6), .ref (am 7), .ref (am 8), .ref (am 9), .ref (am 10), .int (nI k), .ref (am 11), .ref (am 12), .ref (am 13), .ref (am 14), .ref (am 15), .ref (am 16), .ref (am 17), .ref (am 18), .int th])),
   (am 1, .inl (cI, 4, .inl (g 0))), (am 2, .inl (cI, 4, .inl (g 1))), (am 3, .inl (cI, 8, .inl (g 3))), (am 4, .inl (cI, 8, .inl (g 4))), (am 5, .inl (cI, 8, .inl (g 5))), (am 6, .inl (cI, 8, .inl (g 6))), (am 7, .inl (cI, 8, .inl (g 7))), (am 8, .inl (cI, 8, .inl (g 8))), (am 9, .inl (cI, 8, .inl (g 9))), (am 10, .inl (cI, 8, .inl (g 10))),
   (am 11, .inl (cI, 5, .inl (g 11))), (am 12, .inl (cI, 5, .inl (g 12))), (am 13, .inl (cI, 5, .inl (g 13))), (am 14, .inl (cI, 5, .inl (g 14))), (am 15, .inl (cI, 5, .inl (g 15))), (am 16, .inl (cI, 256, .inl tb)), (am 17, .inl (cI, 5, .inl my)), (am 18, .inl (cI, 288, .inl lt))]
section ZM
variable {cI : ClassId} {am : Nat → Nat} {g : Nat → Nat → Int32} {n k : Nat} {tb my lt : Nat → Int32} {th : Int32}
theorem mws_0 : (mws cI am (g) (n) (k) (tb) (my) (lt) (th))[0]? = some (am 0, .inr (4, [.ref (am 1), .ref (am 2), .int (g 2 0), .int (g 2 1), .int (nI n), .ref (am 3), .ref (am 4), .ref (am 5), .ref (am 6), .ref (am 7), .ref (am 8), .ref (am 9), .ref (am 10), .int (nI k), .ref (am 11), .ref (am 12), .ref (am 13), .ref (am 14), .ref (am 15), .ref (am 16), .ref (am 17), .ref (am 18), .int (th)])) := rfl
theorem mws_1 : (mws cI am (g) (n) (k) (tb) (my) (lt) (th))[1]? = some (am 1, .inl (cI, 4, .inl (g 0))) := rfl
theorem mws_s1 {f : Nat → Int32} : (mws cI am (g) (n) (k) (tb) (my) (lt) (th)).set 1 (am 1, .inl (cI, 4, .inl f)) = mws cI am (gR g 0 f) (n) (k) (tb) (my) (lt) (th) := rfl
theorem mws_2 : (mws cI am (g) (n) (k) (tb) (my) (lt) (th))[2]? = some (am 2, .inl (cI, 4, .inl (g 1))) := rfl
theorem mws_s2 {f : Nat → Int32} : (mws cI am (g) (n) (k) (tb) (my) (lt) (th)).set 2 (am 2, .inl (cI, 4, .inl f)) = mws cI am (gR g 1 f) (n) (k) (tb) (my) (lt) (th) := rfl
theorem mws_3 : (mws cI am (g) (n) (k) (tb) (my) (lt) (th))[3]? = some (am 3, .inl (cI, 8, .inl (g 3))) := rfl
theorem mws_s3 {f : Nat → Int32} : (mws cI am (g) (n) (k) (tb) (my) (lt) (th)).set 3 (am 3, .inl (cI, 8, .inl f)) = mws cI am (gR g 3 f) (n) (k) (tb) (my) (lt) (th) := rfl
theorem mws_4 : (mws cI am (g) (n) (k) (tb) (my) (lt) (th))[4]? = some (am 4, .inl (cI, 8, .inl (g 4))) := rfl
theorem mws_s4 {f : Nat → Int32} : (mws cI am (g) (n) (k) (tb) (my) (lt) (th)).set 4 (am 4, .inl (cI, 8, .inl f)) = mws cI am (gR g 4 f) (n) (k) (tb) (my) (lt) (th) := rfl
theorem mws_5 : (mws cI am (g) (n) (k) (tb) (my) (lt) (th))[5]? = some (am 5, .inl (cI, 8, .inl (g 5))) := rfl
theorem mws_s5 {f : Nat → Int32} : (mws cI am (g) (n) (k) (tb) (my) (lt) (th)).set 5 (am 5, .inl (cI, 8, .inl f)) = mws cI am (gR g 5 f) (n) (k) (tb) (my) (lt) (th) := rfl
theorem mws_6 : (mws cI am (g) (n) (k) (tb) (my) (lt) (th))[6]? = some (am 6, .inl (cI, 8, .inl (g 6))) := rfl
theorem mws_s6 {f : Nat → Int32} : (mws cI am (g) (n) (k) (tb) (my) (lt) (th)).set 6 (am 6, .inl (cI, 8, .inl f)) = mws cI am (gR g 6 f) (n) (k) (tb) (my) (lt) (th) := rfl
theorem mws_7 : (mws cI am (g) (n) (k) (tb) (my) (lt) (th))[7]? = some (am 7, .inl (cI, 8, .inl (g 7))) := rfl
theorem mws_s7 {f : Nat → Int32} : (mws cI am (g) (n) (k) (tb) (my) (lt) (th)).set 7 (am 7, .inl (cI, 8, .inl f)) = mws cI am (gR g 7 f) (n) (k) (tb) (my) (lt) (th) := rfl
theorem mws_8 : (mws cI am (g) (n) (k) (tb) (my) (lt) (th))[8]? = some (am 8, .inl (cI, 8, .inl (g 8))) := rfl
theorem mws_s8 {f : Nat → Int32} : (mws cI am (g) (n) (k) (tb) (my) (lt) (th)).set 8 (am 8, .inl (cI, 8, .inl f)) = mws cI am (gR g 8 f) (n) (k) (tb) (my) (lt) (th) := rfl
theorem mws_9 : (mws cI am (g) (n) (k) (tb) (my) (lt) (th))[9]? = some (am 9, .inl (cI, 8, .inl (g 9))) := rfl
theorem mws_s9 {f : Nat → Int32} : (mws cI am (g) (n) (k) (tb) (my) (lt) (th)).set 9 (am 9, .inl (cI, 8, .inl f)) = mws cI am (gR g 9 f) (n) (k) (tb) (my) (lt) (th) := rfl
theorem mws_10 : (mws cI am (g) (n) (k) (tb) (my) (lt) (th))[10]? = some (am 10, .inl (cI, 8, .inl (g 10))) := rfl
theorem mws_s10 {f : Nat → Int32} : (mws cI am (g) (n) (k) (tb) (my) (lt) (th)).set 10 (am 10, .inl (cI, 8, .inl f)) = mws cI am (gR g 10 f) (n) (k) (tb) (my) (lt) (th) := rfl
theorem mws_11 : (mws cI am (g) (n) (k) (tb) (my) (lt) (th))[11]? = some (am 11, .inl (cI, 5, .inl (g 11))) := rfl
theorem mws_s11 {f : Nat → Int32} : (mws cI am (g) (n) (k) (tb) (my) (lt) (th)).set 11 (am 11, .inl (cI, 5, .inl f)) = mws cI am (gR g 11 f) (n) (k) (tb) (my) (lt) (th) := rfl
theorem mws_12 : (mws cI am (g) (n) (k) (tb) (my) (lt) (th))[12]? = some (am 12, .inl (cI, 5, .inl (g 12))) := rfl
theorem mws_s12 {f : Nat → Int32} : (mws cI am (g) (n) (k) (tb) (my) (lt) (th)).set 12 (am 12, .inl (cI, 5, .inl f)) = mws cI am (gR g 12 f) (n) (k) (tb) (my) (lt) (th) := rfl
theorem mws_13 : (mws cI am (g) (n) (k) (tb) (my) (lt) (th))[13]? = some (am 13, .inl (cI, 5, .inl (g 13))) := rfl
theorem mws_s13 {f : Nat → Int32} : (mws cI am (g) (n) (k) (tb) (my) (lt) (th)).set 13 (am 13, .inl (cI, 5, .inl f)) = mws cI am (gR g 13 f) (n) (k) (tb) (my) (lt) (th) := rfl
theorem mws_14 : (mws cI am (g) (n) (k) (tb) (my) (lt) (th))[14]? = some (am 14, .inl (cI, 5, .inl (g 14))) := rfl
theorem mws_s14 {f : Nat → Int32} : (mws cI am (g) (n) (k) (tb) (my) (lt) (th)).set 14 (am 14, .inl (cI, 5, .inl f)) = mws cI am (gR g 14 f) (n) (k) (tb) (my) (lt) (th) := rfl
theorem mws_15 : (mws cI am (g) (n) (k) (tb) (my) (lt) (th))[15]? = some (am 15, .inl (cI, 5, .inl (g 15))) := rfl
theorem mws_s15 {f : Nat → Int32} : (mws cI am (g) (n) (k) (tb) (my) (lt) (th)).set 15 (am 15, .inl (cI, 5, .inl f)) = mws cI am (gR g 15 f) (n) (k) (tb) (my) (lt) (th) := rfl
theorem mws_16 : (mws cI am (g) (n) (k) (tb) (my) (lt) (th))[16]? = some (am 16, .inl (cI, 256, .inl (tb))) := rfl
theorem mws_s16 {f : Nat → Int32} : (mws cI am (g) (n) (k) (tb) (my) (lt) (th)).set 16 (am 16, .inl (cI, 256, .inl f)) = mws cI am (g) (n) (k) (f) (my) (lt) (th) := rfl
theorem mws_17 : (mws cI am (g) (n) (k) (tb) (my) (lt) (th))[17]? = some (am 17, .inl (cI, 5, .inl (my))) := rfl
theorem mws_s17 {f : Nat → Int32} : (mws cI am (g) (n) (k) (tb) (my) (lt) (th)).set 17 (am 17, .inl (cI, 5, .inl f)) = mws cI am (g) (n) (k) (tb) (f) (lt) (th) := rfl
theorem mws_18 : (mws cI am (g) (n) (k) (tb) (my) (lt) (th))[18]? = some (am 18, .inl (cI, 288, .inl (lt))) := rfl
theorem mws_s18 {f : Nat → Int32} : (mws cI am (g) (n) (k) (tb) (my) (lt) (th)).set 18 (am 18, .inl (cI, 288, .inl f)) = mws cI am (g) (n) (k) (tb) (my) (f) (th) := rfl
theorem mws_sth {x : Int32} : (mws cI am (g) (n) (k) (tb) (my) (lt) (th)).set 0 (am 0, .inr (4, [.ref (am 1), .ref (am 2), .int (g 2 0), .int (g 2 1), .int (nI n), .ref (am 3), .ref (am 4), .ref (am 5), .ref (am 6), .ref (am 7), .ref (am 8), .ref (am 9), .ref (am 10), .int (nI k), .ref (am 11), .ref (am 12), .ref (am 13), .ref (am 14), .ref (am 15), .ref (am 16), .ref (am 17), .ref (am 18), .int (x)])) = mws cI am (g) (n) (k) (tb) (my) (lt) (x) := rfl
theorem mws_sfl {x : Int32} : (mws cI am (g) (n) (k) (tb) (my) (lt) (th)).set 0 (am 0, .inr (4, [.ref (am 1), .ref (am 2), .int (x), .int (g 2 1), .int (nI n), .ref (am 3), .ref (am 4), .ref (am 5), .ref (am 6), .ref (am 7), .ref (am 8), .ref (am 9), .ref (am 10), .int (nI k), .ref (am 11), .ref (am 12), .ref (am 13), .ref (am 14), .ref (am 15), .ref (am 16), .ref (am 17), .ref (am 18), .int (th)])) = mws cI am (gR g 2 (upd (g 2) 0 x)) (n) (k) (tb) (my) (lt) (th) := rfl
theorem mws_sca {x : Int32} : (mws cI am (g) (n) (k) (tb) (my) (lt) (th)).set 0 (am 0, .inr (4, [.ref (am 1), .ref (am 2), .int (g 2 0), .int (x), .int (nI n), .ref (am 3), .ref (am 4), .ref (am 5), .ref (am 6), .ref (am 7), .ref (am 8), .ref (am 9), .ref (am 10), .int (nI k), .ref (am 11), .ref (am 12), .ref (am 13), .ref (am 14), .ref (am 15), .ref (am 16), .ref (am 17), .ref (am 18), .int (th)])) = mws cI am (gR g 2 (upd (g 2) 1 x)) (n) (k) (tb) (my) (lt) (th) := rfl
theorem mws_sn {x : Nat} : (mws cI am (g) (n) (k) (tb) (my) (lt) (th)).set 0 (am 0, .inr (4, [.ref (am 1), .ref (am 2), .int (g 2 0), .int (g 2 1), .int (nI x), .ref (am 3), .ref (am 4), .ref (am 5), .ref (am 6), .ref (am 7), .ref (am 8), .ref (am 9), .ref (am 10), .int (nI k), .ref (am 11), .ref (am 12), .ref (am 13), .ref (am 14), .ref (am 15), .ref (am 16), .ref (am 17), .ref (am 18), .int (th)])) = mws cI am (g) (x) (k) (tb) (my) (lt) (th) := rfl
theorem mws_sk {x : Nat} : (mws cI am (g) (n) (k) (tb) (my) (lt) (th)).set 0 (am 0, .inr (4, [.ref (am 1), .ref (am 2), .int (g 2 0), .int (g 2 1), .int (nI n), .ref (am 3), .ref (am 4), .ref (am 5), .ref (am 6), .ref (am 7), .ref (am 8), .ref (am 9), .ref (am 10), .int (nI x), .ref (am 11), .ref (am 12), .ref (am 13), .ref (am 14), .ref (am 15), .ref (am 16), .ref (am 17), .ref (am 18), .int (th)])) = mws cI am (g) (n) (x) (tb) (my) (lt) (th) := rfl
end ZM
def zex (n : Nat) (x : Int32) : Bool := zwi x 0 (nI n - 1)
theorem zwi_t {x lo hi : Int32} (h : zwi x lo hi = true) : lo.toInt ≤ x.toInt ∧ x.toInt ≤ hi.toInt := by
  simp only [zwi, Bool.and_eq_true, Bool.not_eq_true', decide_eq_false_iff_not, Int32.lt_iff_toInt_lt] at h
  omega
theorem zwi_of {x lo hi : Int32} (h : lo.toInt ≤ x.toInt ∧ x.toInt ≤ hi.toInt) : zwi x lo hi = true := by
  simp only [zwi, Bool.and_eq_true, Bool.not_eq_true', decide_eq_false_iff_not, Int32.lt_iff_toInt_lt]
  omega
theorem nI_m1 {n : Nat} (h : n < 2 ^ 30) : (nI n - 1).toInt = (n : Int) - 1 := by
  have : (1 : Int32) = nI 1 := by decide +kernel
  rw [this, pk_sub_toInt h (by decide)]; rfl
theorem zex_vp {n : Nat} {x : Int32} (hn : n ≤ 8) (h : zex n x = true) : vp_in x n := by
  have := zwi_t h
  rw [nI_m1 (by omega), Int32.toInt_zero] at this
  rw [vp_in_iff]; omega
theorem zex_lt {n : Nat} {x : Int32} (hn : n ≤ 8) (h : zex n x = true) : x.toNatClampNeg < n := by
  obtain ⟨j, hj, e⟩ := vp_in_of (zex_vp hn h) (by omega)
  rw [e, nI_clamp (by omega)]; exact hj
theorem zex_eq {n : Nat} {x : Int32} (hn : n ≤ 8) (h : zex n x = true) : x = nI x.toNatClampNeg := by
  obtain ⟨j, hj, e⟩ := vp_in_of (zex_vp hn h) (by omega)
  rw [e, nI_clamp (by omega)]
theorem zex_t {n i : Nat} {x : Int32} (hn : n ≤ 8) (hi : i < n) (e : x = nI i) : zex n x = true := by
  subst e
  refine zwi_of ?_
  rw [nI_m1 (by omega), Int32.toInt_zero, nI_toInt (by omega)]; omega
theorem zex_f {n : Nat} {x : Int32} (hn : n ≤ 8) (h : ∀ i, i < n → x ≠ nI i) : zex n x = false := by
  cases hz : zex n x
  · rfl
  · exact absurd (zex_eq hn hz) (h _ (zex_lt hn hz))
theorem vp_in_le {x : Int32} {a b : Nat} (h : vp_in x a) (hab : a ≤ b) : vp_in x b := by
  rw [vp_in_iff] at h ⊢; omega
theorem zwi_in {x : Int32} (N : Nat) {hi : Int32} (e : hi.toInt + 1 = N) (h : zwi x 0 hi = true) : vp_in x N := by
  have := zwi_t h
  rw [Int32.toInt_zero] at this
  rw [vp_in_iff]; omega
theorem zat_in {N : Nat} {f : Nat → Int32} {x : Int32} (hN : N < 2 ^ 31) (h : vp_in x N) : zat N f x = f x.toNatClampNeg := by
  obtain ⟨j, hj, e⟩ := vp_in_of h hN
  subst e; rw [zat_nI hj hN, nI_clamp (by omega)]
theorem zput_in {N : Nat} {f : Nat → Int32} {x v : Int32} (hN : N < 2 ^ 31) (h : vp_in x N) : zput N f x v = upd f x.toNatClampNeg v := by
  obtain ⟨j, hj, e⟩ := vp_in_of h hN
  subst e; rw [zput_nI hj hN, nI_clamp (by omega)]
theorem zbit1 {a : Int32} (h : ¬ a &&& 1 = 0) : a &&& 1 = 1 := by
  obtain ⟨j, hj, e⟩ := pk_andE a (m := 1) 1 (by decide)
  rw [e] at h ⊢
  have : j = 0 ∨ j = 1 := by omega
  rcases this with rfl | rfl
  · exact absurd nI_0 h
  · decide
theorem zhas_1 {a b : Int32} (h : (a >>> (b &&& 31)) &&& 1 = 1) : zhas a b = true := by
  unfold zhas; rw [h]; rfl
theorem zhas_n1 {a b : Int32} (h : ¬ (a >>> (b &&& 31)) &&& 1 = 1) : zhas a b = false := by
  unfold zhas
  by_cases h0 : (a >>> (b &&& 31)) &&& 1 = 0
  · rw [h0]; rfl
  · exact absurd (zbit1 h0) h
theorem zhas_0 {a b : Int32} (h : (a >>> (b &&& 31)) &&& 1 = 0) : zhas a b = false := by
  unfold zhas; rw [h]; rfl
theorem zhas_n0 {a b : Int32} (h : ¬ (a >>> (b &&& 31)) &&& 1 = 0) : zhas a b = true := by
  unfold zhas; simp [h]
theorem zmin_sym (a b : Int32) : (if a < b then a else b) = (if b < a then b else a) := by
  by_cases h1 : a < b
  · rw [if_pos h1, if_neg (fun h2 => by rw [Int32.lt_iff_toInt_lt] at h1 h2; omega)]
  · by_cases h2 : b < a
    · rw [if_neg h1, if_pos h2]
    · rw [if_neg h1, if_neg h2]
      apply Int32.toInt_inj.mp
      rw [Int32.lt_iff_toInt_lt] at h1 h2; omega
theorem zmA {s b : Int32} (h : ¬ s ≤ b) : (if s < b then s else b) = b := by
  rw [if_neg (fun h2 => by rw [Int32.lt_iff_toInt_lt] at h2; rw [Int32.le_iff_toInt_le] at h; omega)]
theorem zmB {s b : Int32} (h : s ≤ b) : (if s < b then s else b) = s := by
  by_cases h2 : s < b
  · rw [if_pos h2]
  · rw [if_neg h2]
    apply Int32.toInt_inj.mp
    rw [Int32.lt_iff_toInt_lt] at h2; rw [Int32.le_iff_toInt_le] at h; omega
theorem zOk.n8 {g : Nat → Nat → Int32} {n k : Nat} (h : zOk g n k) : n ≤ 8 := h.1
theorem zOk.k8 {g : Nat → Nat → Int32} {n k : Nat} (h : zOk g n k) : k ≤ 8 := Nat.le_trans h.2.1 (by decide)
def T_setWeights (x w0 p0 : Int32) : Int32 := if zwi x 0 3 = false then 1 else if (zwi w0 0 400 && zwi p0 0 400) = false then 2 else 0
def T_setFloor (x : Int32) : Int32 := if zwi x 0 100 = false then 1 else 0
def T_setCapital (x : Int32) : Int32 := if zwi x 0 1000000000 = false then 1 else 0
def T_addExposure (n : Nat) (a0 a1 a2 a3 a4 a5 : Int32) : Int32 := if (zwi a0 0 3 && zwi a1 0 3) = false then 1 else if (zwi a2 0 10000000 && zwi a3 0 10000000 && zwi a4 0 2 && zwi a5 1 3650) = false then 2 else if n = 8 then 3 else 0
def T_addPiece (k : Nat) (a0 a1 a2 a3 a4 : Int32) : Int32 := if (zwi a0 1 10000000 && zwi a1 0 100 && zwi a2 0 2 && zwi a3 1 3650 && zwi a4 0 255) = false then 1 else if k = 5 then 2 else 0
def T_draw (g : Nat → Nat → Int32) (n : Nat) (x d0 : Int32) : Int32 := if zex n x = false then 1 else if zwi d0 (-10000000) 10000000 = false then 2 else if (zwi (g 5 x.toNatClampNeg + d0) 0 10000000 && zwi (g 6 x.toNatClampNeg - d0) 0 10000000) = false then 3 else 0
def T_setClass (n : Nat) (x k0 : Int32) : Int32 := if (zex n x && zwi k0 0 3) = false then 1 else 0
def T_guarantee (n : Nat) (x k0 s0 : Int32) : Int32 := if (zex n x && zwi k0 0 3) = false then 1 else if zwi s0 0 10000000 = false then 2 else 0
def T_amount (n : Nat) (x : Int32) : Int32 := if zex n x = false then 1 else 0
def T_setPiece (k : Nat) (x m0 u0 : Int32) : Int32 := if zex k x = false then 1 else if (zwi m0 1 10000000 && zwi u0 0 255) = false then 2 else 0
def T_value (n k : Nat) (y x : Int32) : Int32 := if (zex k y && zex n x) = false then 1 else 0
theorem nI_8 {n : Nat} (h : n ≤ 8) (e : nI n = 8) : n = 8 := by
  have : (8 : Int32) = nI 8 := by decide +kernel
  rw [this] at e
  exact (nI_eq (by omega) (by decide)).mp e
theorem nI_n8 {n : Nat} (e : ¬ nI n = 8) : n ≠ 8 := by
  intro h; subst h; exact e (by decide +kernel)
theorem nI_5 {n : Nat} (h : n ≤ 5) (e : nI n = 5) : n = 5 := by
  have : (5 : Int32) = nI 5 := by decide +kernel
  rw [this] at e
  exact (nI_eq (by omega) (by decide)).mp e
theorem nI_n5 {n : Nat} (e : ¬ nI n = 5) : n ≠ 5 := by
  intro h; subst h; exact e (by decide +kernel)

set_option maxHeartbeats 4000000 in
set_option maxRecDepth 100000 in
theorem zX4_isIn (l : Launch) (D : va_G) (cI cL cE cP : ClassId) (ws : va_W) (x lo hi : Int32) : Met l yX4_isIn wsX4_isIn ({ frames := 0, cells := 0, slots := 0, locals := 0 }) (zPr D cI cL cE cP (ws) [.int x, .int lo, .int hi]) (vp_Si (fun r : Int32 => r = zb (zwi x lo hi))) 0 0 (fun _ => False) := by
  refine Met.ofW (cc := cX4_isIn) (maxL := 3) (ret := (some .boolean)) (by decide) rfl ?_
  intro p e s m args below meth c s₁ B hml hv
  obtain ⟨rfl, hE, hP⟩ := hv
  have hx := B.exec
  have hb := B.bytes
  have hr := B.returns
  have hts := atoms_spec (ws := wsX4_isIn) B.pre
  have hown : s.vm.findClass RX4 = some m.cls := findClass_of_methodNamed B.named
  have hlocks := B.notSynchronized
  have hK := hE.1
  have hl := lv_entry ([.int x, .int lo, .int hi]) (n := 3) (Nat.le_of_ble_eq_true rfl)
  rw [lg_entry_eq]
  generalize (lg_sl ([.int x, .int lo, .int hi]) ++ List.replicate (3 - (lg_sl ([.int x, .int lo, .int hi])).length) Slot.unset).toArray = ls at hl ⊢
  have hl : lv_has ls 3 [(0, .int x), (1, .int lo), (2, .int hi)] := hl
  refine lv_iload_n hx hb dX4_isIn_0 rfl (lv_at hl 0 rfl) ?_
  refine lv_iload_n hx hb dX4_isIn_1 rfl (lv_at hl 1 rfl) ?_
  refine lv_icmp_lt (tgt := 14) hx hb dX4_isIn_2 (by decide) (fun c_1 => ?_) (fun c_1 => ?_)
  · refine lv_iconst (v := 0) hx hb dX4_isIn_14 (by decide) ?_
    exact W.zret (v := 0) hx hb hr (by first | rfl | exact znb _) (fun t ht hW => ⟨_, rfl, (by first | rfl | (simp only [zb, zwi, c_1]; done) | (simp only [zb, zwi, c_1]; rfl) | (simp [zb, zwi, c_1]; done)), ht⟩) (fun _ h => nomatch h) dX4_isIn_15
  · refine lv_iload_n hx hb dX4_isIn_5 rfl (lv_at hl 0 rfl) ?_
    refine lv_iload_n hx hb dX4_isIn_6 rfl (lv_at hl 2 rfl) ?_
    refine lv_icmp_gt (tgt := 14) hx hb dX4_isIn_7 (by decide) (fun c_2 => ?_) (fun c_2 => ?_)
    · refine lv_iconst (v := 0) hx hb dX4_isIn_14 (by decide) ?_
      exact W.zret (v := 0) hx hb hr (by first | rfl | exact znb _) (fun t ht hW => ⟨_, rfl, (by first | rfl | (simp only [zb, zwi, c_1, c_2]; done) | (simp only [zb, zwi, c_1, c_2]; rfl) | (simp [zb, zwi, c_1, c_2]; done)), ht⟩) (fun _ h => nomatch h) dX4_isIn_15
    · refine lv_iconst (v := 1) hx hb dX4_isIn_10 (by decide) ?_
      refine lv_goto (tgt := 15) hx hb dX4_isIn_11 (by decide) ?_
      exact W.zret (v := 1) hx hb hr (by first | rfl | exact znb _) (fun t ht hW => ⟨_, rfl, (by first | rfl | (simp only [zb, zwi, c_1, c_2]; done) | (simp only [zb, zwi, c_1, c_2]; rfl) | (simp [zb, zwi, c_1, c_2]; done)), ht⟩) (fun _ h => nomatch h) dX4_isIn_15
set_option maxHeartbeats 4000000 in
set_option maxRecDepth 100000 in
theorem zX4_isFour (l : Launch) (D : va_G) (cI cL cE cP : ClassId) (ws : va_W) (x : Int32) : Met l yX4_isFour wsX4_isFour ({ frames := 1, cells := 0, slots := 0, locals := 22 }) (zPr D cI cL cE cP (ws) [.int x]) (vp_Si (fun r : Int32 => r = zb (zwi x 0 3))) 0 0 (fun _ => False) := by
  refine Met.ofW (cc := cX4_isFour) (maxL := 1) (ret := (some .boolean)) (by decide) rfl ?_
  intro p e s m args below meth c s₁ B hml hv
  obtain ⟨rfl, hE, hP⟩ := hv
  have hx := B.exec
  have hb := B.bytes
  have hr := B.returns
  have hts := atoms_spec (ws := wsX4_isFour) B.pre
  have hown : s.vm.findClass RX4 = some m.cls := findClass_of_methodNamed B.named
  have hlocks := B.notSynchronized
  have hK := hE.1
  have hl := lv_entry ([.int x]) (n := 1) (Nat.le_of_ble_eq_true rfl)
  rw [lg_entry_eq]
  generalize (lg_sl ([.int x]) ++ List.replicate (1 - (lg_sl ([.int x])).length) Slot.unset).toArray = ls at hl ⊢
  have hl : lv_has ls 1 [(0, .int x)] := hl
  refine lv_iload_n hx hb dX4_isFour_0 rfl (lv_at hl 0 rfl) ?_
  refine lv_iconst (v := 0) hx hb dX4_isFour_1 (by decide) ?_
  refine lv_iconst (v := 3) hx hb dX4_isFour_2 (by decide) ?_
  refine vp_callSi (va_Run.run (va_runS (As := [.int x, .int 0, .int 3]) (rest := []) ⟨hx, hb, hml, hown, hts⟩ (zX4_isIn l D cI cL cE cP (ws) x 0 3) (va_cwS 3 hts gX4_isFour_X4_isIn rfl rfl rfl (by decide +kernel) ⟨Nat.le_of_ble_eq_true rfl, Nat.le_of_ble_eq_true rfl⟩) ⟨zPr_blind, zPr_mk hE hP⟩ rfl rfl hl.1 rfl (lv_room (Nat.le_of_ble_eq_true rfl)) dX4_isFour_3 ⟨Nat.le_of_ble_eq_true rfl, Nat.le_of_ble_eq_true rfl⟩)) (fun r_1 e_2 => ?_)
  obtain rfl := e_2
  exact W.zret (v := zb (zwi x 0 3)) hx hb hr (by first | rfl | exact znb _) (fun t ht hW => ⟨_, rfl, (by first | rfl | (simp only []; done) | (simp only []; rfl) | (simp []; done)), ht⟩) (fun _ h => nomatch h) dX4_isFour_6
set_option maxHeartbeats 4000000 in
set_option maxRecDepth 100000 in
theorem zX4_isSum (l : Launch) (D : va_G) (cI cL cE cP : ClassId) (ws : va_W) (x : Int32) : Met l yX4_isSum wsX4_isSum ({ frames := 1, cells := 0, slots := 0, locals := 22 }) (zPr D cI cL cE cP (ws) [.int x]) (vp_Si (fun r : Int32 => r = zb (zwi x 0 10000000))) 0 0 (fun _ => False) := by
  refine Met.ofW (cc := cX4_isSum) (maxL := 1) (ret := (some .boolean)) (by decide) rfl ?_
  intro p e s m args below meth c s₁ B hml hv
  obtain ⟨rfl, hE, hP⟩ := hv
  have hx := B.exec
  have hb := B.bytes
  have hr := B.returns
  have hts := atoms_spec (ws := wsX4_isSum) B.pre
  have hown : s.vm.findClass RX4 = some m.cls := findClass_of_methodNamed B.named
  have hlocks := B.notSynchronized
  have hK := hE.1
  have hl := lv_entry ([.int x]) (n := 1) (Nat.le_of_ble_eq_true rfl)
  rw [lg_entry_eq]
  generalize (lg_sl ([.int x]) ++ List.replicate (1 - (lg_sl ([.int x])).length) Slot.unset).toArray = ls at hl ⊢
  have hl : lv_has ls 1 [(0, .int x)] := hl
  refine lv_iload_n hx hb dX4_isSum_0 rfl (lv_at hl 0 rfl) ?_
  refine lv_iconst (v := 0) hx hb dX4_isSum_1 (by decide) ?_
  refine lv_ldc (v := 10000000) hx hb hown (hts (.constant RX4 91 (10000000)) (by decide +kernel)) dX4_isSum_2 ?_
  refine vp_callSi (va_Run.run (va_runS (As := [.int x, .int 0, .int 10000000]) (rest := []) ⟨hx, hb, hml, hown, hts⟩ (zX4_isIn l D cI cL cE cP (ws) x 0 10000000) (va_cwS 3 hts gX4_isSum_X4_isIn rfl rfl rfl (by decide +kernel) ⟨Nat.le_of_ble_eq_true rfl, Nat.le_of_ble_eq_true rfl⟩) ⟨zPr_blind, zPr_mk hE hP⟩ rfl rfl hl.1 rfl (lv_room (Nat.le_of_ble_eq_true rfl)) dX4_isSum_4 ⟨Nat.le_of_ble_eq_true rfl, Nat.le_of_ble_eq_true rfl⟩)) (fun r_1 e_2 => ?_)
  obtain rfl := e_2
  exact W.zret (v := zb (zwi x 0 10000000)) hx hb hr (by first | rfl | exact znb _) (fun t ht hW => ⟨_, rfl, (by first | rfl | (simp only []; done) | (simp only []; rfl) | (simp []; done)), ht⟩) (fun _ h => nomatch h) dX4_isSum_7
set_option maxHeartbeats 4000000 in
set_option maxRecDepth 100000 in
theorem zX4_percent (l : Launch) (D : va_G) (cI cL cE cP : ClassId) (ws : va_W) (s0 p0 : Int32) : Met l yX4_percent wsX4_percent ({ frames := 0, cells := 0, slots := 0, locals := 0 }) (zPr D cI cL cE cP (ws) [.int s0, .int p0]) (vp_Si (fun r : Int32 => r = pct s0 p0)) 0 0 (fun _ => False) := by
  refine Met.ofW (cc := cX4_percent) (maxL := 2) (ret := (some .int)) (by decide) rfl ?_
  intro p e s m args below meth c s₁ B hml hv
  obtain ⟨rfl, hE, hP⟩ := hv
  have hx := B.exec
  have hb := B.bytes
  have hr := B.returns
  have hts := atoms_spec (ws := wsX4_percent) B.pre
  have hown : s.vm.findClass RX4 = some m.cls := findClass_of_methodNamed B.named
  have hlocks := B.notSynchronized
  have hK := hE.1
  have hl := lv_entry ([.int s0, .int p0]) (n := 2) (Nat.le_of_ble_eq_true rfl)
  rw [lg_entry_eq]
  generalize (lg_sl ([.int s0, .int p0]) ++ List.replicate (2 - (lg_sl ([.int s0, .int p0])).length) Slot.unset).toArray = ls at hl ⊢
  have hl : lv_has ls 2 [(0, .int s0), (1, .int p0)] := hl
  refine lv_iload_n hx hb dX4_percent_0 rfl (lv_at hl 0 rfl) ?_
  refine lv_i2l hx hb dX4_percent_1 rfl ?_
  refine lv_iload_n hx hb dX4_percent_2 rfl (lv_at hl 1 rfl) ?_
  refine lv_i2l hx hb dX4_percent_3 rfl ?_
  refine lv_lmul hx hb dX4_percent_4 ?_
  refine lv_ldc2 (v := 100) hx hb hown (hts (.constantLong RX4 81 (100)) (by decide +kernel)) dX4_percent_5 ?_
  refine lv_ldiv hx hb dX4_percent_8 (by decide) ?_
  refine lv_l2i hx hb dX4_percent_9 rfl ?_
  exact W.iret (v := ((s0.toInt64 * p0.toInt64) / 100).toInt32) hx hb hr (fun t ht hW => ⟨_, rfl, (by first | rfl | (simp only [pct]; done) | (simp only [pct]; rfl) | (simp [pct]; done)), ht⟩) (fun _ h => nomatch h) dX4_percent_10
set_option maxHeartbeats 4000000 in
set_option maxRecDepth 100000 in
theorem zX4_isExposure (l : Launch) (D : va_G) (cI cL cE cP : ClassId) (am : Nat → Nat) (g : Nat → Nat → Int32) (n k : Nat) (tb my lt : Nat → Int32) (th : Int32) (hok : zOk g n k) (x : Int32) : Met l yX4_isExposure wsX4_isExposure ({ frames := 1, cells := 0, slots := 0, locals := 22 }) (zPr D cI cL cE cP (mws cI am g n k tb my lt th) [.ref (am 0), .int x]) (vp_Si (fun r : Int32 => r = zb (zex n x))) 0 0 (fun _ => False) := by
  refine Met.ofW (cc := cX4_isExposure) (maxL := 2) (ret := (some .boolean)) (by decide) rfl ?_
  intro p e s m args below meth c s₁ B hml hv
  obtain ⟨rfl, hE, hP⟩ := hv
  have hx := B.exec
  have hb := B.bytes
  have hr := B.returns
  have hts := atoms_spec (ws := wsX4_isExposure) B.pre
  have hown : s.vm.findClass RX4 = some m.cls := findClass_of_methodNamed B.named
  have hlocks := B.notSynchronized
  have hK := hE.1
  have iX4 : ∀ w ∈ wsX40, w ∈ wsX4_isExposure := by decide +kernel
  have hl := lv_entry ([.ref (am 0), .int x]) (n := 2) (Nat.le_of_ble_eq_true rfl)
  rw [lg_entry_eq]
  generalize (lg_sl ([.ref (am 0), .int x]) ++ List.replicate (2 - (lg_sl ([.ref (am 0), .int x])).length) Slot.unset).toArray = ls at hl ⊢
  have hl : lv_has ls 2 [(0, .ref (am 0)), (1, .int x)] := hl
  refine lv_iload_n hx hb dX4_isExposure_0 rfl (lv_at hl 1 rfl) ?_
  refine lv_iconst (v := 0) hx hb dX4_isExposure_1 (by decide) ?_
  refine lv_aload_n hx hb dX4_isExposure_2 rfl (lv_at hl 0 rfl) ?_
  refine va_get (D := D) (ci := 4) (v := .int (nI n)) (C := RX4) (T := TX4) (N := 23) hx hb hts iX4 hown hK hP 0 mws_0 rfl 4 (by decide) (hts (.fieldLink RX4 75 "CapitalReckonerModel" "exposures" "I") (by decide +kernel)) (fun _ h9 => h9) rfl dX4_isExposure_3 ?_
  refine lv_iconst (v := 1) hx hb dX4_isExposure_6 (by decide) ?_
  refine lv_isub hx hb dX4_isExposure_7 ?_
  refine vp_callSi (va_Run.run (va_runS (As := [.int x, .int 0, .int ((nI n) - 1)]) (rest := []) ⟨hx, hb, hml, hown, hts⟩ (zX4_isIn l D cI cL cE cP (mws cI am g n k tb my lt th) x 0 ((nI n) - 1)) (va_cwS 3 hts gX4_isExposure_X4_isIn rfl rfl rfl (by decide +kernel) ⟨Nat.le_of_ble_eq_true rfl, Nat.le_of_ble_eq_true rfl⟩) ⟨zPr_blind, zPr_mk hE hP⟩ rfl rfl hl.1 rfl (lv_room (Nat.le_of_ble_eq_true rfl)) dX4_isExposure_8 ⟨Nat.le_of_ble_eq_true rfl, Nat.le_of_ble_eq_true rfl⟩)) (fun r_1 e_2 => ?_)
  obtain rfl := e_2
  exact W.zret (v := zb (zwi x 0 ((nI n) - 1))) hx hb hr (by first | rfl | exact znb _) (fun t ht hW => ⟨_, rfl, (by first | rfl | (simp only [zex]; done) | (simp only [zex]; rfl) | (simp [zex]; done)), ht⟩) (fun _ h => nomatch h) dX4_isExposure_11
set_option maxHeartbeats 4000000 in
set_option maxRecDepth 100000 in
theorem zX4_isPiece (l : Launch) (D : va_G) (cI cL cE cP : ClassId) (am : Nat → Nat) (g : Nat → Nat → Int32) (n k : Nat) (tb my lt : Nat → Int32) (th : Int32) (hok : zOk g n k) (x : Int32) : Met l yX4_isPiece wsX4_isPiece ({ frames := 1, cells := 0, slots := 0, locals := 22 }) (zPr D cI cL cE cP (mws cI am g n k tb my lt th) [.ref (am 0), .int x]) (vp_Si (fun r : Int32 => r = zb (zex k x))) 0 0 (fun _ => False) := by
  refine Met.ofW (cc := cX4_isPiece) (maxL := 2) (ret := (some .boolean)) (by decide) rfl ?_
  intro p e s m args below meth c s₁ B hml hv
  obtain ⟨rfl, hE, hP⟩ := hv
  have hx := B.exec
  have hb := B.bytes
  have hr := B.returns
  have hts := atoms_spec (ws := wsX4_isPiece) B.pre
  have hown : s.vm.findClass RX4 = some m.cls := findClass_of_methodNamed B.named
  have hlocks := B.notSynchronized
  have hK := hE.1
  have iX4 : ∀ w ∈ wsX40, w ∈ wsX4_isPiece := by decide +kernel
  have hl := lv_entry ([.ref (am 0), .int x]) (n := 2) (Nat.le_of_ble_eq_true rfl)
  rw [lg_entry_eq]
  generalize (lg_sl ([.ref (am 0), .int x]) ++ List.replicate (2 - (lg_sl ([.ref (am 0), .int x])).length) Slot.unset).toArray = ls at hl ⊢
  have hl : lv_has ls 2 [(0, .ref (am 0)), (1, .int x)] := hl
  refine lv_iload_n hx hb dX4_isPiece_0 rfl (lv_at hl 1 rfl) ?_
  refine lv_iconst (v := 0) hx hb dX4_isPiece_1 (by decide) ?_
  refine lv_aload_n hx hb dX4_isPiece_2 rfl (lv_at hl 0 rfl) ?_
  refine va_get (D := D) (ci := 4) (v := .int (nI k)) (C := RX4) (T := TX4) (N := 23) hx hb hts iX4 hown hK hP 0 mws_0 rfl 13 (by decide) (hts (.fieldLink RX4 78 "CapitalReckonerModel" "pieces" "I") (by decide +kernel)) (fun _ h9 => h9) rfl dX4_isPiece_3 ?_
  refine lv_iconst (v := 1) hx hb dX4_isPiece_6 (by decide) ?_
  refine lv_isub hx hb dX4_isPiece_7 ?_
  refine vp_callSi (va_Run.run (va_runS (As := [.int x, .int 0, .int ((nI k) - 1)]) (rest := []) ⟨hx, hb, hml, hown, hts⟩ (zX4_isIn l D cI cL cE cP (mws cI am g n k tb my lt th) x 0 ((nI k) - 1)) (va_cwS 3 hts gX4_isPiece_X4_isIn rfl rfl rfl (by decide +kernel) ⟨Nat.le_of_ble_eq_true rfl, Nat.le_of_ble_eq_true rfl⟩) ⟨zPr_blind, zPr_mk hE hP⟩ rfl rfl hl.1 rfl (lv_room (Nat.le_of_ble_eq_true rfl)) dX4_isPiece_8 ⟨Nat.le_of_ble_eq_true rfl, Nat.le_of_ble_eq_true rfl⟩)) (fun r_1 e_2 => ?_)
  obtain rfl := e_2
  exact W.zret (v := zb (zwi x 0 ((nI k) - 1))) hx hb hr (by first | rfl | exact znb _) (fun t ht hW => ⟨_, rfl, (by first | rfl | (simp only [zex]; done) | (simp only [zex]; rfl) | (simp [zex]; done)), ht⟩) (fun _ h => nomatch h) dX4_isPiece_11
set_option maxHeartbeats 4000000 in
set_option maxRecDepth 100000 in
theorem zX4_amounts (l : Launch) (D : va_G) (cI cL cE cP : ClassId) (am : Nat → Nat) (g : Nat → Nat → Int32) (n k : Nat) (tb my lt : Nat → Int32) (th : Int32) (hok : zOk g n k) (x : Int32) (i : Nat) (hi : i < n) (hx0 : x = nI i) : Met l yX4_amounts wsX4_amounts ({ frames := 1, cells := 0, slots := 0, locals := 21 }) (zPr D cI cL cE cP (mws cI am g n k tb my lt th) [.ref (am 0), .int x]) (vp_Si (fun r : Int32 => r = amt g i)) 0 0 (fun _ => False) := by
  refine Met.ofW (cc := cX4_amounts) (maxL := 2) (ret := (some .int)) (by decide) rfl ?_
  intro p e s m args below meth c s₁ B hml hv
  obtain ⟨rfl, hE, hP⟩ := hv
  have hx := B.exec
  have hb := B.bytes
  have hr := B.returns
  have hts := atoms_spec (ws := wsX4_amounts) B.pre
  have hown : s.vm.findClass RX4 = some m.cls := findClass_of_methodNamed B.named
  have hlocks := B.notSynchronized
  have hK := hE.1
  have iX4 : ∀ w ∈ wsX40, w ∈ wsX4_amounts := by decide +kernel
  have hl := lv_entry ([.ref (am 0), .int x]) (n := 2) (Nat.le_of_ble_eq_true rfl)
  rw [lg_entry_eq]
  generalize (lg_sl ([.ref (am 0), .int x]) ++ List.replicate (2 - (lg_sl ([.ref (am 0), .int x])).length) Slot.unset).toArray = ls at hl ⊢
  have hl : lv_has ls 2 [(0, .ref (am 0)), (1, .int x)] := hl
  refine lv_aload_n hx hb dX4_amounts_0 rfl (lv_at hl 0 rfl) ?_
  refine va_get (D := D) (ci := 4) (v := .ref (am 5)) (C := RX4) (T := TX4) (N := 23) hx hb hts iX4 hown hK hP 0 mws_0 rfl 7 (by decide) (hts (.fieldLink RX4 26 "CapitalReckonerModel" "drawn" "[I") (by decide +kernel)) (fun _ h9 => h9) rfl dX4_amounts_1 ?_
  refine lv_iload_n hx hb dX4_amounts_4 rfl (lv_at hl 1 rfl) ?_
  refine ziald (v := (g 5) i) hx hb hK hP 5 0 mws_5 rfl (by rw [hx0]; exact vp_in_nI (by have := hok.n; omega) (by decide)) (by rw [hx0, nI_clamp (by have := hok.n; omega)]) dX4_amounts_5 ?_
  refine lv_aload_n hx hb dX4_amounts_6 rfl (lv_at hl 0 rfl) ?_
  refine va_get (D := D) (ci := 4) (v := .ref (am 6)) (C := RX4) (T := TX4) (N := 23) hx hb hts iX4 hown hK hP 0 mws_0 rfl 8 (by decide) (hts (.fieldLink RX4 29 "CapitalReckonerModel" "promised" "[I") (by decide +kernel)) (fun _ h9 => h9) rfl dX4_amounts_7 ?_
  refine lv_iload_n hx hb dX4_amounts_10 rfl (lv_at hl 1 rfl) ?_
  refine ziald (v := (g 6) i) hx hb hK hP 6 0 mws_6 rfl (by rw [hx0]; exact vp_in_nI (by have := hok.n; omega) (by decide)) (by rw [hx0, nI_clamp (by have := hok.n; omega)]) dX4_amounts_11 ?_
  refine lv_bipush (v := 40) hx hb dX4_amounts_12 (by decide) ?_
  refine vp_callSi (va_Run.run (va_runS (As := [.int ((g 6) i), .int 40]) (rest := [.int ((g 5) i)]) ⟨hx, hb, hml, hown, hts⟩ (zX4_percent l D cI cL cE cP (mws cI am g n k tb my lt th) ((g 6) i) 40) (va_cwS 2 hts gX4_amounts_X4_percent rfl rfl rfl (by decide +kernel) ⟨Nat.le_of_ble_eq_true rfl, Nat.le_of_ble_eq_true rfl⟩) ⟨zPr_blind, zPr_mk hE hP⟩ rfl rfl hl.1 rfl (lv_room (Nat.le_of_ble_eq_true rfl)) dX4_amounts_14 ⟨Nat.le_of_ble_eq_true rfl, Nat.le_of_ble_eq_true rfl⟩)) (fun r_1 e_2 => ?_)
  obtain rfl := e_2
  refine lv_iadd hx hb dX4_amounts_17 ?_
  exact W.iret (v := ((g 5) i) + (pct ((g 6) i) 40)) hx hb hr (fun t ht hW => ⟨_, rfl, (by first | rfl | (simp only [amt]; done) | (simp only [amt]; rfl) | (simp [amt]; done)), ht⟩) (fun _ h => nomatch h) dX4_amounts_18
set_option maxHeartbeats 4000000 in
set_option maxRecDepth 100000 in
theorem zX4_valued (l : Launch) (D : va_G) (cI cL cE cP : ClassId) (am : Nat → Nat) (g : Nat → Nat → Int32) (n k : Nat) (tb my lt : Nat → Int32) (th : Int32) (hok : zOk g n k) (y : Int32) (j : Nat) (hj : j < k) (hx1 : y = nI j) (x : Int32) (i : Nat) (hi : i < n) (hx0 : x = nI i) : Met l yX4_valued wsX4_valued ({ frames := 1, cells := 0, slots := 0, locals := 21 }) (zPr D cI cL cE cP (mws cI am g n k tb my lt th) [.ref (am 0), .int y, .int x]) (vp_Si (fun r : Int32 => r = vl g j i)) 0 0 (fun _ => False) := by
  refine Met.ofW (cc := cX4_valued) (maxL := 4) (ret := (some .int)) (by decide) rfl ?_
  intro p e s m args below meth c s₁ B hml hv
  obtain ⟨rfl, hE, hP⟩ := hv
  have hx := B.exec
  have hb := B.bytes
  have hr := B.returns
  have hts := atoms_spec (ws := wsX4_valued) B.pre
  have hown : s.vm.findClass RX4 = some m.cls := findClass_of_methodNamed B.named
  have hlocks := B.notSynchronized
  have hK := hE.1
  have iX4 : ∀ w ∈ wsX40, w ∈ wsX4_valued := by decide +kernel
  have hl := lv_entry ([.ref (am 0), .int y, .int x]) (n := 4) (Nat.le_of_ble_eq_true rfl)
  rw [lg_entry_eq]
  generalize (lg_sl ([.ref (am 0), .int y, .int x]) ++ List.replicate (4 - (lg_sl ([.ref (am 0), .int y, .int x])).length) Slot.unset).toArray = ls at hl ⊢
  have hl : lv_has ls 4 [(0, .ref (am 0)), (1, .int y), (2, .int x)] := hl
  refine lv_aload_n hx hb dX4_valued_0 rfl (lv_at hl 0 rfl) ?_
  refine va_get (D := D) (ci := 4) (v := .ref (am 11)) (C := RX4) (T := TX4) (N := 23) hx hb hts iX4 hown hK hP 0 mws_0 rfl 14 (by decide) (hts (.fieldLink RX4 44 "CapitalReckonerModel" "size" "[I") (by decide +kernel)) (fun _ h9 => h9) rfl dX4_valued_1 ?_
  refine lv_iload_n hx hb dX4_valued_4 rfl (lv_at hl 1 rfl) ?_
  refine ziald (v := (g 11) j) hx hb hK hP 11 0 mws_11 rfl (by rw [hx1]; exact vp_in_nI (by have := hok.k; omega) (by decide)) (by rw [hx1, nI_clamp (by have := hok.k; omega)]) dX4_valued_5 ?_
  refine lv_bipush (v := 100) hx hb dX4_valued_6 (by decide) ?_
  refine lv_aload_n hx hb dX4_valued_8 rfl (lv_at hl 0 rfl) ?_
  refine va_get (D := D) (ci := 4) (v := .ref (am 12)) (C := RX4) (T := TX4) (N := 23) hx hb hts iX4 hown hK hP 0 mws_0 rfl 15 (by decide) (hts (.fieldLink RX4 47 "CapitalReckonerModel" "cut" "[I") (by decide +kernel)) (fun _ h9 => h9) rfl dX4_valued_9 ?_
  refine lv_iload_n hx hb dX4_valued_12 rfl (lv_at hl 1 rfl) ?_
  refine ziald (v := (g 12) j) hx hb hK hP 12 0 mws_12 rfl (by rw [hx1]; exact vp_in_nI (by have := hok.k; omega) (by decide)) (by rw [hx1, nI_clamp (by have := hok.k; omega)]) dX4_valued_13 ?_
  refine lv_isub hx hb dX4_valued_14 ?_
  refine vp_callSi (va_Run.run (va_runS (As := [.int ((g 11) j), .int (100 - ((g 12) j))]) (rest := []) ⟨hx, hb, hml, hown, hts⟩ (zX4_percent l D cI cL cE cP (mws cI am g n k tb my lt th) ((g 11) j) (100 - ((g 12) j))) (va_cwS 2 hts gX4_valued_X4_percent rfl rfl rfl (by decide +kernel) ⟨Nat.le_of_ble_eq_true rfl, Nat.le_of_ble_eq_true rfl⟩) ⟨zPr_blind, zPr_mk hE hP⟩ rfl rfl hl.1 rfl (lv_room (Nat.le_of_ble_eq_true rfl)) dX4_valued_15 ⟨Nat.le_of_ble_eq_true rfl, Nat.le_of_ble_eq_true rfl⟩)) (fun r_1 e_2 => ?_)
  obtain rfl := e_2
  refine lv_istore_n (lv' := [(3, .int (pct ((g 11) j) (100 - ((g 12) j)))), (0, .ref (am 0)), (1, .int y), (2, .int x)]) hx hb dX4_valued_18 rfl hl (by decide) rfl (fun ls hl => ?_)
  refine lv_aload_n hx hb dX4_valued_19 rfl (lv_at hl 1 rfl) ?_
  refine va_get (D := D) (ci := 4) (v := .ref (am 13)) (C := RX4) (T := TX4) (N := 23) hx hb hts iX4 hown hK hP 0 mws_0 rfl 16 (by decide) (hts (.fieldLink RX4 50 "CapitalReckonerModel" "coin" "[I") (by decide +kernel)) (fun _ h9 => h9) rfl dX4_valued_20 ?_
  refine lv_iload_n hx hb dX4_valued_23 rfl (lv_at hl 2 rfl) ?_
  refine ziald (v := (g 13) j) hx hb hK hP 13 0 mws_13 rfl (by rw [hx1]; exact vp_in_nI (by have := hok.k; omega) (by decide)) (by rw [hx1, nI_clamp (by have := hok.k; omega)]) dX4_valued_24 ?_
  refine lv_aload_n hx hb dX4_valued_25 rfl (lv_at hl 1 rfl) ?_
  refine va_get (D := D) (ci := 4) (v := .ref (am 7)) (C := RX4) (T := TX4) (N := 23) hx hb hts iX4 hown hK hP 0 mws_0 rfl 9 (by decide) (hts (.fieldLink RX4 32 "CapitalReckonerModel" "currency" "[I") (by decide +kernel)) (fun _ h9 => h9) rfl dX4_valued_26 ?_
  refine lv_iload_n hx hb dX4_valued_29 rfl (lv_at hl 3 rfl) ?_
  refine ziald (v := (g 7) i) hx hb hK hP 7 0 mws_7 rfl (by rw [hx0]; exact vp_in_nI (by have := hok.n; omega) (by decide)) (by rw [hx0, nI_clamp (by have := hok.n; omega)]) dX4_valued_30 ?_
  refine lv_icmp_ne (tgt := 38) hx hb dX4_valued_31 (by decide) (fun c_3 => ?_) (fun c_3 => ?_)
  · refine lv_iload_n hx hb dX4_valued_38 rfl (lv_at hl 0 rfl) ?_
    refine lv_bipush (v := 92) hx hb dX4_valued_39 (by decide) ?_
    refine vp_callSi (va_Run.run (va_runS (As := [.int (pct ((g 11) j) (100 - ((g 12) j))), .int 92]) (rest := []) ⟨hx, hb, hml, hown, hts⟩ (zX4_percent l D cI cL cE cP (mws cI am g n k tb my lt th) (pct ((g 11) j) (100 - ((g 12) j))) 92) (va_cwS 2 hts gX4_valued_X4_percent rfl rfl rfl (by decide +kernel) ⟨Nat.le_of_ble_eq_true rfl, Nat.le_of_ble_eq_true rfl⟩) ⟨zPr_blind, zPr_mk hE hP⟩ rfl rfl hl.1 rfl (lv_room (Nat.le_of_ble_eq_true rfl)) dX4_valued_41 ⟨Nat.le_of_ble_eq_true rfl, Nat.le_of_ble_eq_true rfl⟩)) (fun r_4 e_5 => ?_)
    obtain rfl := e_5
    refine lv_istore_n (lv' := [(3, .int (pct (pct ((g 11) j) (100 - ((g 12) j))) 92)), (0, .ref (am 0)), (1, .int y), (2, .int x)]) hx hb dX4_valued_44 rfl hl (by decide) rfl (fun ls hl => ?_)
    refine lv_aload_n hx hb dX4_valued_45 rfl (lv_at hl 1 rfl) ?_
    refine va_get (D := D) (ci := 4) (v := .ref (am 14)) (C := RX4) (T := TX4) (N := 23) hx hb hts iX4 hown hK hP 0 mws_0 rfl 17 (by decide) (hts (.fieldLink RX4 53 "CapitalReckonerModel" "left" "[I") (by decide +kernel)) (fun _ h9 => h9) rfl dX4_valued_46 ?_
    refine lv_iload_n hx hb dX4_valued_49 rfl (lv_at hl 2 rfl) ?_
    refine ziald (v := (g 14) j) hx hb hK hP 14 0 mws_14 rfl (by rw [hx1]; exact vp_in_nI (by have := hok.k; omega) (by decide)) (by rw [hx1, nI_clamp (by have := hok.k; omega)]) dX4_valued_50 ?_
    refine lv_aload_n hx hb dX4_valued_51 rfl (lv_at hl 1 rfl) ?_
    refine va_get (D := D) (ci := 4) (v := .ref (am 8)) (C := RX4) (T := TX4) (N := 23) hx hb hts iX4 hown hK hP 0 mws_0 rfl 10 (by decide) (hts (.fieldLink RX4 35 "CapitalReckonerModel" "days" "[I") (by decide +kernel)) (fun _ h9 => h9) rfl dX4_valued_52 ?_
    refine lv_iload_n hx hb dX4_valued_55 rfl (lv_at hl 3 rfl) ?_
    refine ziald (v := (g 8) i) hx hb hK hP 8 0 mws_8 rfl (by rw [hx0]; exact vp_in_nI (by have := hok.n; omega) (by decide)) (by rw [hx0, nI_clamp (by have := hok.n; omega)]) dX4_valued_56 ?_
    refine lv_icmp_ge (tgt := 82) hx hb dX4_valued_57 (by decide) (fun c_6 => ?_) (fun c_6 => ?_)
    · refine lv_iload_n hx hb dX4_valued_82 rfl (lv_at hl 0 rfl) ?_
      exact W.iret (v := pct (pct ((g 11) j) (100 - ((g 12) j))) 92) hx hb hr (fun t ht hW => ⟨_, rfl, (by first | rfl | (simp only [vl, vl1, c_3, c_6]; done) | (simp only [vl, vl1, c_3, c_6]; rfl) | (simp [vl, vl1, c_3, c_6]; done)), ht⟩) (fun _ h => nomatch h) dX4_valued_83
    · refine lv_iload_n hx hb dX4_valued_60 rfl (lv_at hl 0 rfl) ?_
      refine lv_i2l hx hb dX4_valued_61 rfl ?_
      refine lv_aload_n hx hb dX4_valued_62 rfl (lv_at hl 1 rfl) ?_
      refine va_get (D := D) (ci := 4) (v := .ref (am 14)) (C := RX4) (T := TX4) (N := 23) hx hb hts iX4 hown hK hP 0 mws_0 rfl 17 (by decide) (hts (.fieldLink RX4 53 "CapitalReckonerModel" "left" "[I") (by decide +kernel)) (fun _ h9 => h9) rfl dX4_valued_63 ?_
      refine lv_iload_n hx hb dX4_valued_66 rfl (lv_at hl 2 rfl) ?_
      refine ziald (v := (g 14) j) hx hb hK hP 14 0 mws_14 rfl (by rw [hx1]; exact vp_in_nI (by have := hok.k; omega) (by decide)) (by rw [hx1, nI_clamp (by have := hok.k; omega)]) dX4_valued_67 ?_
      refine lv_i2l hx hb dX4_valued_68 rfl ?_
      refine lv_lmul hx hb dX4_valued_69 ?_
      refine lv_aload_n hx hb dX4_valued_70 rfl (lv_at hl 1 rfl) ?_
      refine va_get (D := D) (ci := 4) (v := .ref (am 8)) (C := RX4) (T := TX4) (N := 23) hx hb hts iX4 hown hK hP 0 mws_0 rfl 10 (by decide) (hts (.fieldLink RX4 35 "CapitalReckonerModel" "days" "[I") (by decide +kernel)) (fun _ h9 => h9) rfl dX4_valued_71 ?_
      refine lv_iload_n hx hb dX4_valued_74 rfl (lv_at hl 3 rfl) ?_
      refine ziald (v := (g 8) i) hx hb hK hP 8 0 mws_8 rfl (by rw [hx0]; exact vp_in_nI (by have := hok.n; omega) (by decide)) (by rw [hx0, nI_clamp (by have := hok.n; omega)]) dX4_valued_75 ?_
      refine lv_i2l hx hb dX4_valued_76 rfl ?_
      refine lv_ldiv hx hb dX4_valued_77 (zd64 (hok.2.2.2.2.2.1 i hi).2.2.2.2.2.1.1) ?_
      refine lv_l2i hx hb dX4_valued_78 rfl ?_
      refine lv_goto (tgt := 83) hx hb dX4_valued_79 (by decide) ?_
      exact W.iret (v := ((((pct (pct ((g 11) j) (100 - ((g 12) j))) 92).toInt64) * (((g 14) j).toInt64)) / (((g 8) i).toInt64)).toInt32) hx hb hr (fun t ht hW => ⟨_, rfl, (by first | rfl | (simp only [vl, vl1, c_3, c_6]; done) | (simp only [vl, vl1, c_3, c_6]; rfl) | (simp [vl, vl1, c_3, c_6]; done)), ht⟩) (fun _ h => nomatch h) dX4_valued_83
  · refine lv_iload_n hx hb dX4_valued_34 rfl (lv_at hl 0 rfl) ?_
    refine lv_goto (tgt := 44) hx hb dX4_valued_35 (by decide) ?_
    refine lv_istore_n (lv' := [(3, .int (pct ((g 11) j) (100 - ((g 12) j)))), (0, .ref (am 0)), (1, .int y), (2, .int x)]) hx hb dX4_valued_44 rfl hl (by decide) rfl (fun ls hl => ?_)
    refine lv_aload_n hx hb dX4_valued_45 rfl (lv_at hl 1 rfl) ?_
    refine va_get (D := D) (ci := 4) (v := .ref (am 14)) (C := RX4) (T := TX4) (N := 23) hx hb hts iX4 hown hK hP 0 mws_0 rfl 17 (by decide) (hts (.fieldLink RX4 53 "CapitalReckonerModel" "left" "[I") (by decide +kernel)) (fun _ h9 => h9) rfl dX4_valued_46 ?_
    refine lv_iload_n hx hb dX4_valued_49 rfl (lv_at hl 2 rfl) ?_
    refine ziald (v := (g 14) j) hx hb hK hP 14 0 mws_14 rfl (by rw [hx1]; exact vp_in_nI (by have := hok.k; omega) (by decide)) (by rw [hx1, nI_clamp (by have := hok.k; omega)]) dX4_valued_50 ?_
    refine lv_aload_n hx hb dX4_valued_51 rfl (lv_at hl 1 rfl) ?_
    refine va_get (D := D) (ci := 4) (v := .ref (am 8)) (C := RX4) (T := TX4) (N := 23) hx hb hts iX4 hown hK hP 0 mws_0 rfl 10 (by decide) (hts (.fieldLink RX4 35 "CapitalReckonerModel" "days" "[I") (by decide +kernel)) (fun _ h9 => h9) rfl dX4_valued_52 ?_
    refine lv_iload_n hx hb dX4_valued_55 rfl (lv_at hl 3 rfl) ?_
    refine ziald (v := (g 8) i) hx hb hK hP 8 0 mws_8 rfl (by rw [hx0]; exact vp_in_nI (by have := hok.n; omega) (by decide)) (by rw [hx0, nI_clamp (by have := hok.n; omega)]) dX4_valued_56 ?_
    refine lv_icmp_ge (tgt := 82) hx hb dX4_valued_57 (by decide) (fun c_7 => ?_) (fun c_7 => ?_)
    · refine lv_iload_n hx hb dX4_valued_82 rfl (lv_at hl 0 rfl) ?_
      exact W.iret (v := pct ((g 11) j) (100 - ((g 12) j))) hx hb hr (fun t ht hW => ⟨_, rfl, (by first | rfl | (simp only [vl, vl1, c_3, c_7]; done) | (simp only [vl, vl1, c_3, c_7]; rfl) | (simp [vl, vl1, c_3, c_7]; done)), ht⟩) (fun _ h => nomatch h) dX4_valued_83
    · refine lv_iload_n hx hb dX4_valued_60 rfl (lv_at hl 0 rfl) ?_
      refine lv_i2l hx hb dX4_valued_61 rfl ?_
      refine lv_aload_n hx hb dX4_valued_62 rfl (lv_at hl 1 rfl) ?_
      refine va_get (D := D) (ci := 4) (v := .ref (am 14)) (C := RX4) (T := TX4) (N := 23) hx hb hts iX4 hown hK hP 0 mws_0 rfl 17 (by decide) (hts (.fieldLink RX4 53 "CapitalReckonerModel" "left" "[I") (by decide +kernel)) (fun _ h9 => h9) rfl dX4_valued_63 ?_
      refine lv_iload_n hx hb dX4_valued_66 rfl (lv_at hl 2 rfl) ?_
      refine ziald (v := (g 14) j) hx hb hK hP 14 0 mws_14 rfl (by rw [hx1]; exact vp_in_nI (by have := hok.k; omega) (by decide)) (by rw [hx1, nI_clamp (by have := hok.k; omega)]) dX4_valued_67 ?_
      refine lv_i2l hx hb dX4_valued_68 rfl ?_
      refine lv_lmul hx hb dX4_valued_69 ?_
      refine lv_aload_n hx hb dX4_valued_70 rfl (lv_at hl 1 rfl) ?_
      refine va_get (D := D) (ci := 4) (v := .ref (am 8)) (C := RX4) (T := TX4) (N := 23) hx hb hts iX4 hown hK hP 0 mws_0 rfl 10 (by decide) (hts (.fieldLink RX4 35 "CapitalReckonerModel" "days" "[I") (by decide +kernel)) (fun _ h9 => h9) rfl dX4_valued_71 ?_
      refine lv_iload_n hx hb dX4_valued_74 rfl (lv_at hl 3 rfl) ?_
      refine ziald (v := (g 8) i) hx hb hK hP 8 0 mws_8 rfl (by rw [hx0]; exact vp_in_nI (by have := hok.n; omega) (by decide)) (by rw [hx0, nI_clamp (by have := hok.n; omega)]) dX4_valued_75 ?_
      refine lv_i2l hx hb dX4_valued_76 rfl ?_
      refine lv_ldiv hx hb dX4_valued_77 (zd64 (hok.2.2.2.2.2.1 i hi).2.2.2.2.2.1.1) ?_
      refine lv_l2i hx hb dX4_valued_78 rfl ?_
      refine lv_goto (tgt := 83) hx hb dX4_valued_79 (by decide) ?_
      exact W.iret (v := ((((pct ((g 11) j) (100 - ((g 12) j))).toInt64) * (((g 14) j).toInt64)) / (((g 8) i).toInt64)).toInt32) hx hb hr (fun t ht hW => ⟨_, rfl, (by first | rfl | (simp only [vl, vl1, c_3, c_7]; done) | (simp only [vl, vl1, c_3, c_7]; rfl) | (simp [vl, vl1, c_3, c_7]; done)), ht⟩) (fun _ h => nomatch h) dX4_valued_83
set_option maxHeartbeats 4000000 in
set_option maxRecDepth 100000 in
theorem zX4_bared (l : Launch) (D : va_G) (cI cL cE cP : ClassId) (am : Nat → Nat) (g : Nat → Nat → Int32) (n k : Nat) (tb my lt : Nat → Int32) (th : Int32) (hok : zOk g n k) (x : Int32) (i : Nat) (hi : i < n) (hx0 : x = nI i) (set : Int32) : Met l yX4_bared wsX4_bared ({ frames := 2, cells := 0, slots := 0, locals := 44 }) (zPr D cI cL cE cP (mws cI am g n k tb my lt th) [.ref (am 0), .int x, .int set]) (vp_Si (fun r : Int32 => r = bw g k i set)) 0 0 (fun _ => False) := by
  refine Met.ofW (cc := cX4_bared) (maxL := 5) (ret := (some .int)) (by decide) rfl ?_
  intro p e s m args below meth c s₁ B hml hv
  obtain ⟨rfl, hE, hP⟩ := hv
  have hx := B.exec
  have hb := B.bytes
  have hr := B.returns
  have hts := atoms_spec (ws := wsX4_bared) B.pre
  have hown : s.vm.findClass RX4 = some m.cls := findClass_of_methodNamed B.named
  have hlocks := B.notSynchronized
  have hK := hE.1
  have iX4 : ∀ w ∈ wsX40, w ∈ wsX4_bared := by decide +kernel
  have hl := lv_entry ([.ref (am 0), .int x, .int set]) (n := 5) (Nat.le_of_ble_eq_true rfl)
  rw [lg_entry_eq]
  generalize (lg_sl ([.ref (am 0), .int x, .int set]) ++ List.replicate (5 - (lg_sl ([.ref (am 0), .int x, .int set])).length) Slot.unset).toArray = ls at hl ⊢
  have hl : lv_has ls 5 [(0, .ref (am 0)), (1, .int x), (2, .int set)] := hl
  refine lv_aload_n hx hb dX4_bared_0 rfl (lv_at hl 0 rfl) ?_
  refine lv_iload_n hx hb dX4_bared_1 rfl (lv_at hl 1 rfl) ?_
  refine vp_callSi (va_Run.run (va_runV (As := [.int x]) (rest := []) ⟨hx, hb, hml, hown, hts⟩ (zX4_amounts l D cI cL cE cP am g n k tb my lt th hok (x) (i) hi hx0) (cwV 1 hts gX4_bared_X4_amounts rfl rfl rfl (by decide +kernel) ⟨Nat.le_of_ble_eq_true rfl, Nat.le_of_ble_eq_true rfl⟩) ⟨zPr_blind, va_recv hK hP (ci := 4) (q0 := 0) rfl mws_0, zPr_mk hE hP⟩ rfl rfl hl.1 rfl (lv_room (Nat.le_of_ble_eq_true rfl)) dX4_bared_2 ⟨Nat.le_of_ble_eq_true rfl, Nat.le_of_ble_eq_true rfl⟩)) (fun r_1 e_2 => ?_)
  obtain rfl := e_2
  refine lv_istore_n (lv' := [(3, .int (amt g i)), (0, .ref (am 0)), (1, .int x), (2, .int set)]) hx hb dX4_bared_5 rfl hl (by decide) rfl (fun ls hl => ?_)
  refine lv_iconst (v := 0) hx hb dX4_bared_6 (by decide) ?_
  refine lv_istore (lv' := [(4, .int 0), (3, .int (amt g i)), (0, .ref (am 0)), (1, .int x), (2, .int set)]) hx hb dX4_bared_7 hl (by decide) rfl (fun ls hl => ?_)
  refine zloop (nL := 5) (lv := fun j => [(0, .ref (am 0)), (1, .int x), (2, .int set), (3, .int (bwL g i set (j))), (4, .int (nI (j)))]) (n := k) (lv_re (lv_sub hl [2, 3, 4, 1, 0] rfl) (by first | rfl | (simp only [bwL, Int32.sub_zero, nI_0]; done) | (simp only [bwL, Int32.sub_zero, nI_0]; rfl) | (simp [bwL, Int32.sub_zero, nI_0]; done))) (fun ls hl => ?_) (fun j hj ih_9 ls hl => ?_)
  · have hl : lv_has ls 5 [(0, .ref (am 0)), (1, .int x), (2, .int set), (3, .int (bwL g i set (k))), (4, .int (nI (k)))] := hl
    refine lv_iload hx hb dX4_bared_9 (lv_at hl 4 rfl) ?_
    refine lv_aload_n hx hb dX4_bared_11 rfl (lv_at hl 0 rfl) ?_
    refine va_get (D := D) (ci := 4) (v := .int (nI k)) (C := RX4) (T := TX4) (N := 23) hx hb hts iX4 hown hK hP 0 mws_0 rfl 13 (by decide) (hts (.fieldLink RX4 78 "CapitalReckonerModel" "pieces" "I") (by decide +kernel)) (fun _ h9 => h9) rfl dX4_bared_12 ?_
    refine lv_icmp_ge (tgt := 48) hx hb dX4_bared_15 (by decide) (fun c_3 => ?_) (fun c_3 => absurd (zle_refl (nI k)) c_3)
    refine lv_iload_n hx hb dX4_bared_48 rfl (lv_at hl 3 rfl) ?_
    refine lv_if_ge (tgt := 56) hx hb dX4_bared_49 (by decide) (fun c_4 => ?_) (fun c_4 => ?_)
    · refine lv_iload_n hx hb dX4_bared_56 rfl (lv_at hl 3 rfl) ?_
      exact W.iret (v := bwL g i set (k)) hx hb hr (fun t ht hW => ⟨_, rfl, (by unfold bw; first | rw [if_pos (Int32.not_le.mp c_4)] | rw [if_neg (Int32.not_lt.mpr c_4)]), ht⟩) (fun _ h => nomatch h) dX4_bared_57
    · refine lv_iconst (v := 0) hx hb dX4_bared_52 (by decide) ?_
      refine lv_goto (tgt := 57) hx hb dX4_bared_53 (by decide) ?_
      exact W.iret (v := 0) hx hb hr (fun t ht hW => ⟨_, rfl, (by unfold bw; first | rw [if_pos (Int32.not_le.mp c_4)] | rw [if_neg (Int32.not_lt.mpr c_4)]), ht⟩) (fun _ h => nomatch h) dX4_bared_57
  · have hl : lv_has ls 5 [(0, .ref (am 0)), (1, .int x), (2, .int set), (3, .int (bwL g i set (j))), (4, .int (nI (j)))] := hl
    refine lv_iload hx hb dX4_bared_9 (lv_at hl 4 rfl) ?_
    refine lv_aload_n hx hb dX4_bared_11 rfl (lv_at hl 0 rfl) ?_
    refine va_get (D := D) (ci := 4) (v := .int (nI k)) (C := RX4) (T := TX4) (N := 23) hx hb hts iX4 hown hK hP 0 mws_0 rfl 13 (by decide) (hts (.fieldLink RX4 78 "CapitalReckonerModel" "pieces" "I") (by decide +kernel)) (fun _ h9 => h9) rfl dX4_bared_12 ?_
    refine lv_icmp_ge (tgt := 48) hx hb dX4_bared_15 (by decide) (fun c_5 => absurd c_5 (nI_ge hj (by have := hok.k; omega))) (fun c_5 => ?_)
    refine lv_iload_n hx hb dX4_bared_18 rfl (lv_at hl 3 rfl) ?_
    refine lv_iload_n hx hb dX4_bared_19 rfl (lv_at hl 2 rfl) ?_
    refine lv_iload hx hb dX4_bared_20 (lv_at hl 4 rfl) ?_
    refine lv_ishr hx hb dX4_bared_22 ?_
    refine lv_iconst (v := 1) hx hb dX4_bared_23 (by decide) ?_
    refine lv_iand hx hb dX4_bared_24 ?_
    refine lv_iconst (v := 1) hx hb dX4_bared_25 (by decide) ?_
    refine lv_icmp_ne (tgt := 39) hx hb dX4_bared_26 (by decide) (fun c_6 => ?_) (fun c_6 => ?_)
    · have c_6 := zhas_n1 c_6
      refine lv_iconst (v := 0) hx hb dX4_bared_39 (by decide) ?_
      refine lv_isub hx hb dX4_bared_40 ?_
      refine lv_istore_n (lv' := [(3, .int ((bwL g i set (j)) - 0)), (0, .ref (am 0)), (1, .int x), (2, .int set), (4, .int (nI (j)))]) hx hb dX4_bared_41 rfl hl (by decide) rfl (fun ls hl => ?_)
      refine lv_iinc (v := nI ((j) + 1)) (lv' := [(4, .int (nI ((j) + 1))), (3, .int ((bwL g i set (j)) - 0)), (0, .ref (am 0)), (1, .int x), (2, .int set)]) hx hb dX4_bared_42 hl (k := 4) rfl (zinc _) (by decide) rfl (fun ls hl => ?_)
      refine lv_goto (tgt := 9) hx hb dX4_bared_45 (by decide) ?_
      exact ih_9 ls (lv_re (lv_sub hl [2, 3, 4, 1, 0] rfl) (by first | rfl | (simp only [bwL, Int32.sub_zero, c_5, c_6]; done) | (simp only [bwL, Int32.sub_zero, c_5, c_6]; rfl) | (simp [bwL, Int32.sub_zero, c_5, c_6]; done)))
    · have c_6 := zhas_1 c_6
      refine lv_aload_n hx hb dX4_bared_29 rfl (lv_at hl 0 rfl) ?_
      refine lv_iload hx hb dX4_bared_30 (lv_at hl 4 rfl) ?_
      refine lv_iload_n hx hb dX4_bared_32 rfl (lv_at hl 1 rfl) ?_
      refine vp_callSi (va_Run.run (va_runV (As := [.int (nI (j)), .int x]) (rest := [.int (bwL g i set (j))]) ⟨hx, hb, hml, hown, hts⟩ (zX4_valued l D cI cL cE cP am g n k tb my lt th hok (nI (j)) (j) hj rfl (x) (i) hi hx0) (cwV 2 hts gX4_bared_X4_valued rfl rfl rfl (by decide +kernel) ⟨Nat.le_of_ble_eq_true rfl, Nat.le_of_ble_eq_true rfl⟩) ⟨zPr_blind, va_recv hK hP (ci := 4) (q0 := 0) rfl mws_0, zPr_mk hE hP⟩ rfl rfl hl.1 rfl (lv_room (Nat.le_of_ble_eq_true rfl)) dX4_bared_33 ⟨Nat.le_of_ble_eq_true rfl, Nat.le_of_ble_eq_true rfl⟩)) (fun r_7 e_8 => ?_)
      obtain rfl := e_8
      refine lv_goto (tgt := 40) hx hb dX4_bared_36 (by decide) ?_
      refine lv_isub hx hb dX4_bared_40 ?_
      refine lv_istore_n (lv' := [(3, .int ((bwL g i set (j)) - (vl g j i))), (0, .ref (am 0)), (1, .int x), (2, .int set), (4, .int (nI (j)))]) hx hb dX4_bared_41 rfl hl (by decide) rfl (fun ls hl => ?_)
      refine lv_iinc (v := nI ((j) + 1)) (lv' := [(4, .int (nI ((j) + 1))), (3, .int ((bwL g i set (j)) - (vl g j i))), (0, .ref (am 0)), (1, .int x), (2, .int set)]) hx hb dX4_bared_42 hl (k := 4) rfl (zinc _) (by decide) rfl (fun ls hl => ?_)
      refine lv_goto (tgt := 9) hx hb dX4_bared_45 (by decide) ?_
      exact ih_9 ls (lv_re (lv_sub hl [2, 3, 4, 1, 0] rfl) (by first | rfl | (simp only [bwL, Int32.sub_zero, c_5, c_6]; done) | (simp only [bwL, Int32.sub_zero, c_5, c_6]; rfl) | (simp [bwL, Int32.sub_zero, c_5, c_6]; done)))
set_option maxHeartbeats 4000000 in
set_option maxRecDepth 100000 in
theorem zX4_weighed (l : Launch) (D : va_G) (cI cL cE cP : ClassId) (am : Nat → Nat) (g : Nat → Nat → Int32) (n k : Nat) (tb my lt : Nat → Int32) (th : Int32) (hok : zOk g n k) (x : Int32) (i : Nat) (hi : i < n) (hx0 : x = nI i) (set : Int32) : Met l yX4_weighed wsX4_weighed ({ frames := 3, cells := 0, slots := 0, locals := 68 }) (zPr D cI cL cE cP (mws cI am g n k tb my lt th) [.ref (am 0), .int x, .int set]) (vp_Si (fun r : Int32 => r = wo g i (bw g k i set))) 0 0 (fun _ => False) := by
  refine Met.ofW (cc := cX4_weighed) (maxL := 7) (ret := (some .int)) (by decide) rfl ?_
  intro p e s m args below meth c s₁ B hml hv
  obtain ⟨rfl, hE, hP⟩ := hv
  have hx := B.exec
  have hb := B.bytes
  have hr := B.returns
  have hts := atoms_spec (ws := wsX4_weighed) B.pre
  have hown : s.vm.findClass RX4 = some m.cls := findClass_of_methodNamed B.named
  have hlocks := B.notSynchronized
  have hK := hE.1
  have iX4 : ∀ w ∈ wsX40, w ∈ wsX4_weighed := by decide +kernel
  have hl := lv_entry ([.ref (am 0), .int x, .int set]) (n := 7) (Nat.le_of_ble_eq_true rfl)
  rw [lg_entry_eq]
  generalize (lg_sl ([.ref (am 0), .int x, .int set]) ++ List.replicate (7 - (lg_sl ([.ref (am 0), .int x, .int set])).length) Slot.unset).toArray = ls at hl ⊢
  have hl : lv_has ls 7 [(0, .ref (am 0)), (1, .int x), (2, .int set)] := hl
  refine lv_aload_n hx hb dX4_weighed_0 rfl (lv_at hl 0 rfl) ?_
  refine lv_iload_n hx hb dX4_weighed_1 rfl (lv_at hl 1 rfl) ?_
  refine lv_iload_n hx hb dX4_weighed_2 rfl (lv_at hl 2 rfl) ?_
  refine vp_callSi (va_Run.run (va_runV (As := [.int x, .int set]) (rest := []) ⟨hx, hb, hml, hown, hts⟩ (zX4_bared l D cI cL cE cP am g n k tb my lt th hok (x) (i) hi hx0 (set)) (cwV 2 hts gX4_weighed_X4_bared rfl rfl rfl (by decide +kernel) ⟨Nat.le_of_ble_eq_true rfl, Nat.le_of_ble_eq_true rfl⟩) ⟨zPr_blind, va_recv hK hP (ci := 4) (q0 := 0) rfl mws_0, zPr_mk hE hP⟩ rfl rfl hl.1 rfl (lv_room (Nat.le_of_ble_eq_true rfl)) dX4_weighed_3 ⟨Nat.le_of_ble_eq_true rfl, Nat.le_of_ble_eq_true rfl⟩)) (fun r_1 e_2 => ?_)
  obtain rfl := e_2
  refine lv_istore_n (lv' := [(3, .int (bw g k i set)), (0, .ref (am 0)), (1, .int x), (2, .int set)]) hx hb dX4_weighed_6 rfl hl (by decide) rfl (fun ls hl => ?_)
  refine lv_aload_n hx hb dX4_weighed_7 rfl (lv_at hl 1 rfl) ?_
  refine va_get (D := D) (ci := 4) (v := .ref (am 1)) (C := RX4) (T := TX4) (N := 23) hx hb hts iX4 hown hK hP 0 mws_0 rfl 0 (by decide) (hts (.fieldLink RX4 7 "CapitalReckonerModel" "weight" "[I") (by decide +kernel)) (fun _ h9 => h9) rfl dX4_weighed_8 ?_
  refine lv_aload_n hx hb dX4_weighed_11 rfl (lv_at hl 1 rfl) ?_
  refine va_get (D := D) (ci := 4) (v := .ref (am 3)) (C := RX4) (T := TX4) (N := 23) hx hb hts iX4 hown hK hP 0 mws_0 rfl 5 (by decide) (hts (.fieldLink RX4 20 "CapitalReckonerModel" "kind" "[I") (by decide +kernel)) (fun _ h9 => h9) rfl dX4_weighed_12 ?_
  refine lv_iload_n hx hb dX4_weighed_15 rfl (lv_at hl 2 rfl) ?_
  refine ziald (v := (g 3) i) hx hb hK hP 3 0 mws_3 rfl (by rw [hx0]; exact vp_in_nI (by have := hok.n; omega) (by decide)) (by rw [hx0, nI_clamp (by have := hok.n; omega)]) dX4_weighed_16 ?_
  refine ziald (v := (g 0) ((g 3 i).toNatClampNeg)) hx hb hK hP 1 0 mws_1 rfl ((hok.2.2.2.2.2.1 i hi).1) (rfl) dX4_weighed_17 ?_
  refine lv_istore (lv' := [(4, .int ((g 0) ((g 3 i).toNatClampNeg))), (3, .int (bw g k i set)), (0, .ref (am 0)), (1, .int x), (2, .int set)]) hx hb dX4_weighed_18 hl (by decide) rfl (fun ls hl => ?_)
  refine lv_aload_n hx hb dX4_weighed_20 rfl (lv_at hl 2 rfl) ?_
  refine va_get (D := D) (ci := 4) (v := .ref (am 1)) (C := RX4) (T := TX4) (N := 23) hx hb hts iX4 hown hK hP 0 mws_0 rfl 0 (by decide) (hts (.fieldLink RX4 7 "CapitalReckonerModel" "weight" "[I") (by decide +kernel)) (fun _ h9 => h9) rfl dX4_weighed_21 ?_
  refine lv_aload_n hx hb dX4_weighed_24 rfl (lv_at hl 2 rfl) ?_
  refine va_get (D := D) (ci := 4) (v := .ref (am 9)) (C := RX4) (T := TX4) (N := 23) hx hb hts iX4 hown hK hP 0 mws_0 rfl 11 (by decide) (hts (.fieldLink RX4 38 "CapitalReckonerModel" "better" "[I") (by decide +kernel)) (fun _ h9 => h9) rfl dX4_weighed_25 ?_
  refine lv_iload_n hx hb dX4_weighed_28 rfl (lv_at hl 3 rfl) ?_
  refine ziald (v := (g 9) i) hx hb hK hP 9 0 mws_9 rfl (by rw [hx0]; exact vp_in_nI (by have := hok.n; omega) (by decide)) (by rw [hx0, nI_clamp (by have := hok.n; omega)]) dX4_weighed_29 ?_
  refine ziald (v := (g 0) ((g 9 i).toNatClampNeg)) hx hb hK hP 1 0 mws_1 rfl ((hok.2.2.2.2.2.1 i hi).2.2.2.2.2.2.1) (rfl) dX4_weighed_30 ?_
  refine lv_istore (lv' := [(5, .int ((g 0) ((g 9 i).toNatClampNeg))), (4, .int ((g 0) ((g 3 i).toNatClampNeg))), (3, .int (bw g k i set)), (0, .ref (am 0)), (1, .int x), (2, .int set)]) hx hb dX4_weighed_31 hl (by decide) rfl (fun ls hl => ?_)
  refine lv_iload hx hb dX4_weighed_33 (lv_at hl 0 rfl) ?_
  refine lv_iload hx hb dX4_weighed_35 (lv_at hl 1 rfl) ?_
  refine lv_icmp_ge (tgt := 63) hx hb dX4_weighed_37 (by decide) (fun c_3 => ?_) (fun c_3 => ?_)
  · refine lv_iconst (v := 0) hx hb dX4_weighed_63 (by decide) ?_
    refine lv_istore (lv' := [(6, .int 0), (5, .int ((g 0) ((g 9 i).toNatClampNeg))), (4, .int ((g 0) ((g 3 i).toNatClampNeg))), (3, .int (bw g k i set)), (0, .ref (am 0)), (1, .int x), (2, .int set)]) hx hb dX4_weighed_64 hl (by decide) rfl (fun ls hl => ?_)
    refine lv_iload hx hb dX4_weighed_66 (lv_at hl 0 rfl) ?_
    refine lv_iload hx hb dX4_weighed_68 (lv_at hl 1 rfl) ?_
    refine vp_callSi (va_Run.run (va_runS (As := [.int 0, .int ((g 0) ((g 9 i).toNatClampNeg))]) (rest := []) ⟨hx, hb, hml, hown, hts⟩ (zX4_percent l D cI cL cE cP (mws cI am g n k tb my lt th) 0 ((g 0) ((g 9 i).toNatClampNeg))) (va_cwS 2 hts gX4_weighed_X4_percent rfl rfl rfl (by decide +kernel) ⟨Nat.le_of_ble_eq_true rfl, Nat.le_of_ble_eq_true rfl⟩) ⟨zPr_blind, zPr_mk hE hP⟩ rfl rfl hl.1 rfl (lv_room (Nat.le_of_ble_eq_true rfl)) dX4_weighed_70 ⟨Nat.le_of_ble_eq_true rfl, Nat.le_of_ble_eq_true rfl⟩)) (fun r_4 e_5 => ?_)
    obtain rfl := e_5
    refine lv_iload_n hx hb dX4_weighed_73 rfl (lv_at hl 3 rfl) ?_
    refine lv_iload hx hb dX4_weighed_74 (lv_at hl 0 rfl) ?_
    refine lv_isub hx hb dX4_weighed_76 ?_
    refine lv_iload hx hb dX4_weighed_77 (lv_at hl 2 rfl) ?_
    refine vp_callSi (va_Run.run (va_runS (As := [.int ((bw g k i set) - 0), .int ((g 0) ((g 3 i).toNatClampNeg))]) (rest := [.int (pct 0 ((g 0) ((g 9 i).toNatClampNeg)))]) ⟨hx, hb, hml, hown, hts⟩ (zX4_percent l D cI cL cE cP (mws cI am g n k tb my lt th) ((bw g k i set) - 0) ((g 0) ((g 3 i).toNatClampNeg))) (va_cwS 2 hts gX4_weighed_X4_percent rfl rfl rfl (by decide +kernel) ⟨Nat.le_of_ble_eq_true rfl, Nat.le_of_ble_eq_true rfl⟩) ⟨zPr_blind, zPr_mk hE hP⟩ rfl rfl hl.1 rfl (lv_room (Nat.le_of_ble_eq_true rfl)) dX4_weighed_79 ⟨Nat.le_of_ble_eq_true rfl, Nat.le_of_ble_eq_true rfl⟩)) (fun r_6 e_7 => ?_)
    obtain rfl := e_7
    refine lv_iadd hx hb dX4_weighed_82 ?_
    exact W.iret (v := (pct 0 ((g 0) ((g 9 i).toNatClampNeg))) + (pct ((bw g k i set) - 0) ((g 0) ((g 3 i).toNatClampNeg)))) hx hb hr (fun t ht hW => ⟨_, rfl, (by show _ = _; unfold wo; rw [zat_in (by decide) (hok.2.2.2.2.2.1 i hi).1, zat_in (by decide) (hok.2.2.2.2.2.1 i hi).2.2.2.2.2.2.1]; first | rw [if_pos c_3] | rw [if_neg c_3, zmA c_3] | rw [if_neg c_3, zmB c_3]), ht⟩) (fun _ h => nomatch h) dX4_weighed_83
  · refine lv_iload_n hx hb dX4_weighed_40 rfl (lv_at hl 2 rfl) ?_
    refine lv_aload_n hx hb dX4_weighed_41 rfl (lv_at hl 3 rfl) ?_
    refine va_get (D := D) (ci := 4) (v := .ref (am 10)) (C := RX4) (T := TX4) (N := 23) hx hb hts iX4 hown hK hP 0 mws_0 rfl 12 (by decide) (hts (.fieldLink RX4 41 "CapitalReckonerModel" "sure" "[I") (by decide +kernel)) (fun _ h9 => h9) rfl dX4_weighed_42 ?_
    refine lv_iload_n hx hb dX4_weighed_45 rfl (lv_at hl 4 rfl) ?_
    refine ziald (v := (g 10) i) hx hb hK hP 10 0 mws_10 rfl (by rw [hx0]; exact vp_in_nI (by have := hok.n; omega) (by decide)) (by rw [hx0, nI_clamp (by have := hok.n; omega)]) dX4_weighed_46 ?_
    refine lv_icmp_ge (tgt := 54) hx hb dX4_weighed_47 (by decide) (fun c_8 => ?_) (fun c_8 => ?_)
    · refine lv_aload_n hx hb dX4_weighed_54 rfl (lv_at hl 3 rfl) ?_
      refine va_get (D := D) (ci := 4) (v := .ref (am 10)) (C := RX4) (T := TX4) (N := 23) hx hb hts iX4 hown hK hP 0 mws_0 rfl 12 (by decide) (hts (.fieldLink RX4 41 "CapitalReckonerModel" "sure" "[I") (by decide +kernel)) (fun _ h9 => h9) rfl dX4_weighed_55 ?_
      refine lv_iload_n hx hb dX4_weighed_58 rfl (lv_at hl 4 rfl) ?_
      refine ziald (v := (g 10) i) hx hb hK hP 10 0 mws_10 rfl (by rw [hx0]; exact vp_in_nI (by have := hok.n; omega) (by decide)) (by rw [hx0, nI_clamp (by have := hok.n; omega)]) dX4_weighed_59 ?_
      refine lv_goto (tgt := 64) hx hb dX4_weighed_60 (by decide) ?_
      refine lv_istore (lv' := [(6, .int ((g 10) i)), (5, .int ((g 0) ((g 9 i).toNatClampNeg))), (4, .int ((g 0) ((g 3 i).toNatClampNeg))), (3, .int (bw g k i set)), (0, .ref (am 0)), (1, .int x), (2, .int set)]) hx hb dX4_weighed_64 hl (by decide) rfl (fun ls hl => ?_)
      refine lv_iload hx hb dX4_weighed_66 (lv_at hl 0 rfl) ?_
      refine lv_iload hx hb dX4_weighed_68 (lv_at hl 1 rfl) ?_
      refine vp_callSi (va_Run.run (va_runS (As := [.int ((g 10) i), .int ((g 0) ((g 9 i).toNatClampNeg))]) (rest := []) ⟨hx, hb, hml, hown, hts⟩ (zX4_percent l D cI cL cE cP (mws cI am g n k tb my lt th) ((g 10) i) ((g 0) ((g 9 i).toNatClampNeg))) (va_cwS 2 hts gX4_weighed_X4_percent rfl rfl rfl (by decide +kernel) ⟨Nat.le_of_ble_eq_true rfl, Nat.le_of_ble_eq_true rfl⟩) ⟨zPr_blind, zPr_mk hE hP⟩ rfl rfl hl.1 rfl (lv_room (Nat.le_of_ble_eq_true rfl)) dX4_weighed_70 ⟨Nat.le_of_ble_eq_true rfl, Nat.le_of_ble_eq_true rfl⟩)) (fun r_9 e_10 => ?_)
      obtain rfl := e_10
      refine lv_iload_n hx hb dX4_weighed_73 rfl (lv_at hl 3 rfl) ?_
      refine lv_iload hx hb dX4_weighed_74 (lv_at hl 0 rfl) ?_
      refine lv_isub hx hb dX4_weighed_76 ?_
      refine lv_iload hx hb dX4_weighed_77 (lv_at hl 2 rfl) ?_
      refine vp_callSi (va_Run.run (va_runS (As := [.int ((bw g k i set) - ((g 10) i)), .int ((g 0) ((g 3 i).toNatClampNeg))]) (rest := [.int (pct ((g 10) i) ((g 0) ((g 9 i).toNatClampNeg)))]) ⟨hx, hb, hml, hown, hts⟩ (zX4_percent l D cI cL cE cP (mws cI am g n k tb my lt th) ((bw g k i set) - ((g 10) i)) ((g 0) ((g 3 i).toNatClampNeg))) (va_cwS 2 hts gX4_weighed_X4_percent rfl rfl rfl (by decide +kernel) ⟨Nat.le_of_ble_eq_true rfl, Nat.le_of_ble_eq_true rfl⟩) ⟨zPr_blind, zPr_mk hE hP⟩ rfl rfl hl.1 rfl (lv_room (Nat.le_of_ble_eq_true rfl)) dX4_weighed_79 ⟨Nat.le_of_ble_eq_true rfl, Nat.le_of_ble_eq_true rfl⟩)) (fun r_11 e_12 => ?_)
      obtain rfl := e_12
      refine lv_iadd hx hb dX4_weighed_82 ?_
      exact W.iret (v := (pct ((g 10) i) ((g 0) ((g 9 i).toNatClampNeg))) + (pct ((bw g k i set) - ((g 10) i)) ((g 0) ((g 3 i).toNatClampNeg)))) hx hb hr (fun t ht hW => ⟨_, rfl, (by show _ = _; unfold wo; rw [zat_in (by decide) (hok.2.2.2.2.2.1 i hi).1, zat_in (by decide) (hok.2.2.2.2.2.1 i hi).2.2.2.2.2.2.1]; first | rw [if_pos c_3] | rw [if_neg c_3, zmA c_8] | rw [if_neg c_3, zmB c_8]), ht⟩) (fun _ h => nomatch h) dX4_weighed_83
    · refine lv_iload_n hx hb dX4_weighed_50 rfl (lv_at hl 2 rfl) ?_
      refine lv_goto (tgt := 64) hx hb dX4_weighed_51 (by decide) ?_
      refine lv_istore (lv' := [(6, .int (bw g k i set)), (5, .int ((g 0) ((g 9 i).toNatClampNeg))), (4, .int ((g 0) ((g 3 i).toNatClampNeg))), (3, .int (bw g k i set)), (0, .ref (am 0)), (1, .int x), (2, .int set)]) hx hb dX4_weighed_64 hl (by decide) rfl (fun ls hl => ?_)
      refine lv_iload hx hb dX4_weighed_66 (lv_at hl 0 rfl) ?_
      refine lv_iload hx hb dX4_weighed_68 (lv_at hl 1 rfl) ?_
      refine vp_callSi (va_Run.run (va_runS (As := [.int (bw g k i set), .int ((g 0) ((g 9 i).toNatClampNeg))]) (rest := []) ⟨hx, hb, hml, hown, hts⟩ (zX4_percent l D cI cL cE cP (mws cI am g n k tb my lt th) (bw g k i set) ((g 0) ((g 9 i).toNatClampNeg))) (va_cwS 2 hts gX4_weighed_X4_percent rfl rfl rfl (by decide +kernel) ⟨Nat.le_of_ble_eq_true rfl, Nat.le_of_ble_eq_true rfl⟩) ⟨zPr_blind, zPr_mk hE hP⟩ rfl rfl hl.1 rfl (lv_room (Nat.le_of_ble_eq_true rfl)) dX4_weighed_70 ⟨Nat.le_of_ble_eq_true rfl, Nat.le_of_ble_eq_true rfl⟩)) (fun r_13 e_14 => ?_)
      obtain rfl := e_14
      refine lv_iload_n hx hb dX4_weighed_73 rfl (lv_at hl 3 rfl) ?_
      refine lv_iload hx hb dX4_weighed_74 (lv_at hl 0 rfl) ?_
      refine lv_isub hx hb dX4_weighed_76 ?_
      refine lv_iload hx hb dX4_weighed_77 (lv_at hl 2 rfl) ?_
      refine vp_callSi (va_Run.run (va_runS (As := [.int ((bw g k i set) - (bw g k i set)), .int ((g 0) ((g 3 i).toNatClampNeg))]) (rest := [.int (pct (bw g k i set) ((g 0) ((g 9 i).toNatClampNeg)))]) ⟨hx, hb, hml, hown, hts⟩ (zX4_percent l D cI cL cE cP (mws cI am g n k tb my lt th) ((bw g k i set) - (bw g k i set)) ((g 0) ((g 3 i).toNatClampNeg))) (va_cwS 2 hts gX4_weighed_X4_percent rfl rfl rfl (by decide +kernel) ⟨Nat.le_of_ble_eq_true rfl, Nat.le_of_ble_eq_true rfl⟩) ⟨zPr_blind, zPr_mk hE hP⟩ rfl rfl hl.1 rfl (lv_room (Nat.le_of_ble_eq_true rfl)) dX4_weighed_79 ⟨Nat.le_of_ble_eq_true rfl, Nat.le_of_ble_eq_true rfl⟩)) (fun r_15 e_16 => ?_)
      obtain rfl := e_16
      refine lv_iadd hx hb dX4_weighed_82 ?_
      exact W.iret (v := (pct (bw g k i set) ((g 0) ((g 9 i).toNatClampNeg))) + (pct ((bw g k i set) - (bw g k i set)) ((g 0) ((g 3 i).toNatClampNeg)))) hx hb hr (fun t ht hW => ⟨_, rfl, (by show _ = _; unfold wo; rw [zat_in (by decide) (hok.2.2.2.2.2.1 i hi).1, zat_in (by decide) (hok.2.2.2.2.2.1 i hi).2.2.2.2.2.2.1]; first | rw [if_pos c_3] | rw [if_neg c_3, zmA c_8] | rw [if_neg c_3, zmB c_8]), ht⟩) (fun _ h => nomatch h) dX4_weighed_83
set_option maxHeartbeats 4000000 in
set_option maxRecDepth 100000 in
theorem zX4_setWeights (l : Launch) (D : va_G) (cI cL cE cP : ClassId) (am : Nat → Nat) (g : Nat → Nat → Int32) (n k : Nat) (tb my lt : Nat → Int32) (th : Int32) (hok : zOk g n k) (x w0 p0 : Int32) (sz : Nat) : Met l yX4_setWeights wsX4_setWeights ({ frames := 2, cells := 0, slots := 0, locals := 42 }) (zPw D cI cL cE cP (mws cI am g n k tb my lt th) sz [.ref (am 0), .int x, .int w0, .int p0]) (zQi D (mws cI am g n k tb my lt th) sz (fun r : Int32 => (T_setWeights x w0 p0 = 0 → r = g 0 x.toNatClampNeg)) (mws cI am (if T_setWeights x w0 p0 = 0 then gR (gR g 0 (upd (g 0) x.toNatClampNeg w0)) 1 (upd (g 1) x.toNatClampNeg p0) else g) n k tb my lt (T_setWeights x w0 p0))) 0 0 (va_A (mws cI am g n k tb my lt th) sz) := by
  refine Met.ofW (cc := cX4_setWeights) (maxL := 5) (ret := (some .int)) (by decide) rfl ?_
  intro p e s m args below meth c s₁ B hml hv
  obtain ⟨rfl, hsz, hE, hP, hD0⟩ := hv
  subst hsz
  obtain ⟨A, hAe⟩ : ∃ A, A = va_A (mws cI am g n k tb my lt th) s.heap.size := ⟨_, rfl⟩
  have hD : va_D A (mws cI am g n k tb my lt th) := by rw [hAe]; exact hD0.self
  have hA : ∀ q : Nat, s.heap.size ≤ q → A q := fun q h => by rw [hAe]; exact Or.inr h
  have hS : va_S A s.heap s.heap [] := va_S.rf
  have hx := B.exec
  have hb := B.bytes
  have hr := B.returns
  have hts := atoms_spec (ws := wsX4_setWeights) B.pre
  have hown : s.vm.findClass RX4 = some m.cls := findClass_of_methodNamed B.named
  have hlocks := B.notSynchronized
  have hK := hE.1
  have iX4 : ∀ w ∈ wsX40, w ∈ wsX4_setWeights := by decide +kernel
  have hl := lv_entry ([.ref (am 0), .int x, .int w0, .int p0]) (n := 5) (Nat.le_of_ble_eq_true rfl)
  rw [lg_entry_eq]
  generalize (lg_sl ([.ref (am 0), .int x, .int w0, .int p0]) ++ List.replicate (5 - (lg_sl ([.ref (am 0), .int x, .int w0, .int p0])).length) Slot.unset).toArray = ls at hl ⊢
  have hl : lv_has ls 5 [(0, .ref (am 0)), (1, .int x), (2, .int w0), (3, .int p0)] := hl
  refine lv_aload_n hx hb dX4_setWeights_0 rfl (lv_at hl 0 rfl) ?_
  refine lv_iload_n hx hb dX4_setWeights_1 rfl (lv_at hl 1 rfl) ?_
  refine vp_callSi (va_Run.run (va_runS (As := [.int x]) (rest := [.ref (am 0)]) ⟨hx, hb, hml, hown, hts⟩ (zX4_isFour l D cI cL cE cP (mws cI am g n k tb my lt th) x) (va_cwS 1 hts gX4_setWeights_X4_isFour rfl rfl rfl (by decide +kernel) ⟨Nat.le_of_ble_eq_true rfl, Nat.le_of_ble_eq_true rfl⟩) ⟨zPr_blind, zPr_mk hE hP⟩ rfl rfl hl.1 rfl (lv_room (Nat.le_of_ble_eq_true rfl)) dX4_setWeights_2 ⟨Nat.le_of_ble_eq_true rfl, Nat.le_of_ble_eq_true rfl⟩)) (fun r_1 e_2 => ?_)
  obtain rfl := e_2
  refine lv_if_ne (tgt := 12) hx hb dX4_setWeights_5 (by decide) (fun c_3 => ?_) (fun c_3 => ?_)
  · have c_3 := zb_ne c_3
    refine lv_iload_n hx hb dX4_setWeights_12 rfl (lv_at hl 2 rfl) ?_
    refine lv_iconst (v := 0) hx hb dX4_setWeights_13 (by decide) ?_
    refine lv_sipush (v := 400) hx hb dX4_setWeights_14 (by decide) ?_
    refine vp_callSi (va_Run.run (va_runS (As := [.int w0, .int 0, .int 400]) (rest := [.ref (am 0)]) ⟨hx, hb, hml, hown, hts⟩ (zX4_isIn l D cI cL cE cP (mws cI am g n k tb my lt th) w0 0 400) (va_cwS 3 hts gX4_setWeights_X4_isIn rfl rfl rfl (by decide +kernel) ⟨Nat.le_of_ble_eq_true rfl, Nat.le_of_ble_eq_true rfl⟩) ⟨zPr_blind, zPr_mk hE hP⟩ rfl rfl hl.1 rfl (lv_room (Nat.le_of_ble_eq_true rfl)) dX4_setWeights_17 ⟨Nat.le_of_ble_eq_true rfl, Nat.le_of_ble_eq_true rfl⟩)) (fun r_4 e_5 => ?_)
    obtain rfl := e_5
    refine lv_if_eq (tgt := 38) hx hb dX4_setWeights_20 (by decide) (fun c_6 => ?_) (fun c_6 => ?_)
    · have c_6 := zb_eq c_6
      refine lv_iconst (v := 2) hx hb dX4_setWeights_38 (by decide) ?_
      refine va_put (D := D) (ci := 4) (v := .int 2) (ty := .int) (C := RX4) (T := TX4) (N := 23) hx hb hts iX4 tyX4 tyX4_ok nmX4 hown hK hP hD hS 0 mws_0 rfl 22 (by decide) (hts (.fieldLink RX4 68 "CapitalReckonerModel" "thrown" "I") (by decide +kernel)) (fun _ h9 => h9) rfl (by decide +kernel) rfl rfl (Nat.le_of_ble_eq_true rfl) dX4_setWeights_39 (fun H locs hP hD hS => ?_)
      have hP : va_P D vwCl (mws cI am g n k tb my lt 2) H := zP_re hP (mws_sth).symm
      have hD : va_D A (mws cI am g n k tb my lt 2) := zD_re hD (mws_sth).symm
      refine lv_aload_n hx hb dX4_setWeights_42 rfl (lv_at hl 0 rfl) ?_
      refine va_get (D := D) (ci := 4) (v := .int 2) (C := RX4) (T := TX4) (N := 23) hx hb hts iX4 hown hK hP 0 mws_0 rfl 22 (by decide) (hts (.fieldLink RX4 68 "CapitalReckonerModel" "thrown" "I") (by decide +kernel)) (fun _ h9 => h9) rfl dX4_setWeights_43 ?_
      refine lv_if_le (tgt := 51) hx hb dX4_setWeights_46 (by decide) (fun c_7 => absurd c_7 (by decide)) (fun c_7 => ?_)
      refine lv_iconst (v := 0) hx hb dX4_setWeights_49 (by decide) ?_
      have hT : T_setWeights x w0 p0 = 2 := by simp [T_setWeights, c_3, c_6]
      exact ziret (v := 0) hx hb hr hAe (fun h => absurd (hT.symm.trans h) (by decide)) (zP_re hP (by rw [hT]; first | done | rfl)) (zD_re hD (by rw [hT]; first | done | rfl)) hS dX4_setWeights_50
    · have c_6 := zb_ne c_6
      refine lv_iload_n hx hb dX4_setWeights_23 rfl (lv_at hl 3 rfl) ?_
      refine lv_iconst (v := 0) hx hb dX4_setWeights_24 (by decide) ?_
      refine lv_sipush (v := 400) hx hb dX4_setWeights_25 (by decide) ?_
      refine vp_callSi (va_Run.run (va_runS (As := [.int p0, .int 0, .int 400]) (rest := [.ref (am 0)]) ⟨hx, hb, hml, hown, hts⟩ (zX4_isIn l D cI cL cE cP (mws cI am g n k tb my lt th) p0 0 400) (va_cwS 3 hts gX4_setWeights_X4_isIn rfl rfl rfl (by decide +kernel) ⟨Nat.le_of_ble_eq_true rfl, Nat.le_of_ble_eq_true rfl⟩) ⟨zPr_blind, zPr_mk hE hP⟩ rfl rfl hl.1 rfl (lv_room (Nat.le_of_ble_eq_true rfl)) dX4_setWeights_28 ⟨Nat.le_of_ble_eq_true rfl, Nat.le_of_ble_eq_true rfl⟩)) (fun r_8 e_9 => ?_)
      obtain rfl := e_9
      refine lv_if_eq (tgt := 38) hx hb dX4_setWeights_31 (by decide) (fun c_10 => ?_) (fun c_10 => ?_)
      · have c_10 := zb_eq c_10
        refine lv_iconst (v := 2) hx hb dX4_setWeights_38 (by decide) ?_
        refine va_put (D := D) (ci := 4) (v := .int 2) (ty := .int) (C := RX4) (T := TX4) (N := 23) hx hb hts iX4 tyX4 tyX4_ok nmX4 hown hK hP hD hS 0 mws_0 rfl 22 (by decide) (hts (.fieldLink RX4 68 "CapitalReckonerModel" "thrown" "I") (by decide +kernel)) (fun _ h9 => h9) rfl (by decide +kernel) rfl rfl (Nat.le_of_ble_eq_true rfl) dX4_setWeights_39 (fun H locs hP hD hS => ?_)
        have hP : va_P D vwCl (mws cI am g n k tb my lt 2) H := zP_re hP (mws_sth).symm
        have hD : va_D A (mws cI am g n k tb my lt 2) := zD_re hD (mws_sth).symm
        refine lv_aload_n hx hb dX4_setWeights_42 rfl (lv_at hl 0 rfl) ?_
        refine va_get (D := D) (ci := 4) (v := .int 2) (C := RX4) (T := TX4) (N := 23) hx hb hts iX4 hown hK hP 0 mws_0 rfl 22 (by decide) (hts (.fieldLink RX4 68 "CapitalReckonerModel" "thrown" "I") (by decide +kernel)) (fun _ h9 => h9) rfl dX4_setWeights_43 ?_
        refine lv_if_le (tgt := 51) hx hb dX4_setWeights_46 (by decide) (fun c_11 => absurd c_11 (by decide)) (fun c_11 => ?_)
        refine lv_iconst (v := 0) hx hb dX4_setWeights_49 (by decide) ?_
        have hT : T_setWeights x w0 p0 = 2 := by simp [T_setWeights, c_3, c_6, c_10]
        exact ziret (v := 0) hx hb hr hAe (fun h => absurd (hT.symm.trans h) (by decide)) (zP_re hP (by rw [hT]; first | done | rfl)) (zD_re hD (by rw [hT]; first | done | rfl)) hS dX4_setWeights_50
      · have c_10 := zb_ne c_10
        refine lv_iconst (v := 0) hx hb dX4_setWeights_34 (by decide) ?_
        refine lv_goto (tgt := 39) hx hb dX4_setWeights_35 (by decide) ?_
        refine va_put (D := D) (ci := 4) (v := .int 0) (ty := .int) (C := RX4) (T := TX4) (N := 23) hx hb hts iX4 tyX4 tyX4_ok nmX4 hown hK hP hD hS 0 mws_0 rfl 22 (by decide) (hts (.fieldLink RX4 68 "CapitalReckonerModel" "thrown" "I") (by decide +kernel)) (fun _ h9 => h9) rfl (by decide +kernel) rfl rfl (Nat.le_of_ble_eq_true rfl) dX4_setWeights_39 (fun H locs hP hD hS => ?_)
        have hP : va_P D vwCl (mws cI am g n k tb my lt 0) H := zP_re hP (mws_sth).symm
        have hD : va_D A (mws cI am g n k tb my lt 0) := zD_re hD (mws_sth).symm
        refine lv_aload_n hx hb dX4_setWeights_42 rfl (lv_at hl 0 rfl) ?_
        refine va_get (D := D) (ci := 4) (v := .int 0) (C := RX4) (T := TX4) (N := 23) hx hb hts iX4 hown hK hP 0 mws_0 rfl 22 (by decide) (hts (.fieldLink RX4 68 "CapitalReckonerModel" "thrown" "I") (by decide +kernel)) (fun _ h9 => h9) rfl dX4_setWeights_43 ?_
        refine lv_if_le (tgt := 51) hx hb dX4_setWeights_46 (by decide) (fun c_12 => ?_) (fun c_12 => absurd c_12 (by decide))
        refine lv_aload_n hx hb dX4_setWeights_51 rfl (lv_at hl 0 rfl) ?_
        refine va_get (D := D) (ci := 4) (v := .ref (am 1)) (C := RX4) (T := TX4) (N := 23) hx hb hts iX4 hown hK hP 0 mws_0 rfl 0 (by decide) (hts (.fieldLink RX4 7 "CapitalReckonerModel" "weight" "[I") (by decide +kernel)) (fun _ h9 => h9) rfl dX4_setWeights_52 ?_
        refine lv_iload_n hx hb dX4_setWeights_55 rfl (lv_at hl 1 rfl) ?_
        refine ziald (v := (g 0) x.toNatClampNeg) hx hb hK hP 1 0 mws_1 rfl (zwi_in 4 (by decide) c_3) (rfl) dX4_setWeights_56 ?_
        refine lv_istore (lv' := [(4, .int ((g 0) x.toNatClampNeg)), (0, .ref (am 0)), (1, .int x), (2, .int w0), (3, .int p0)]) hx hb dX4_setWeights_57 hl (by decide) rfl (fun ls hl => ?_)
        refine lv_aload_n hx hb dX4_setWeights_59 rfl (lv_at hl 1 rfl) ?_
        refine va_get (D := D) (ci := 4) (v := .ref (am 1)) (C := RX4) (T := TX4) (N := 23) hx hb hts iX4 hown hK hP 0 mws_0 rfl 0 (by decide) (hts (.fieldLink RX4 7 "CapitalReckonerModel" "weight" "[I") (by decide +kernel)) (fun _ h9 => h9) rfl dX4_setWeights_60 ?_
        refine lv_iload_n hx hb dX4_setWeights_63 rfl (lv_at hl 2 rfl) ?_
        refine lv_iload_n hx hb dX4_setWeights_64 rfl (lv_at hl 3 rfl) ?_
        refine ziast (f2 := upd (g 0) x.toNatClampNeg w0) hx hb hK hP hD hS 1 0 mws_1 rfl (zwi_in 4 (by decide) c_3) (rfl) dX4_setWeights_65 (fun H locs hP hD hS => ?_)
        have hP : va_P D vwCl (mws cI am (gR g 0 (upd (g 0) x.toNatClampNeg w0)) n k tb my lt 0) H := zP_re hP (mws_s1).symm
        have hD : va_D A (mws cI am (gR g 0 (upd (g 0) x.toNatClampNeg w0)) n k tb my lt 0) := zD_re hD (mws_s1).symm
        refine lv_aload_n hx hb dX4_setWeights_66 rfl (lv_at hl 1 rfl) ?_
        refine va_get (D := D) (ci := 4) (v := .ref (am 2)) (C := RX4) (T := TX4) (N := 23) hx hb hts iX4 hown hK hP 0 mws_0 rfl 1 (by decide) (hts (.fieldLink RX4 13 "CapitalReckonerModel" "simple" "[I") (by decide +kernel)) (fun _ h9 => h9) rfl dX4_setWeights_67 ?_
        refine lv_iload_n hx hb dX4_setWeights_70 rfl (lv_at hl 2 rfl) ?_
        refine lv_iload_n hx hb dX4_setWeights_71 rfl (lv_at hl 4 rfl) ?_
        refine ziast (f2 := upd (g 1) x.toNatClampNeg p0) hx hb hK hP hD hS 2 0 mws_2 rfl (zwi_in 4 (by decide) c_3) (rfl) dX4_setWeights_72 (fun H locs hP hD hS => ?_)
        have hP : va_P D vwCl (mws cI am (gR (gR g 0 (upd (g 0) x.toNatClampNeg w0)) 1 (upd (g 1) x.toNatClampNeg p0)) n k tb my lt 0) H := zP_re hP (mws_s2).symm
        have hD : va_D A (mws cI am (gR (gR g 0 (upd (g 0) x.toNatClampNeg w0)) 1 (upd (g 1) x.toNatClampNeg p0)) n k tb my lt 0) := zD_re hD (mws_s2).symm
        refine lv_iload hx hb dX4_setWeights_73 (lv_at hl 0 rfl) ?_
        have hT : T_setWeights x w0 p0 = 0 := by simp [T_setWeights, c_3, c_6, c_10]
        exact ziret (v := (g 0) x.toNatClampNeg) hx hb hr hAe (fun _ => rfl) (zP_re hP (by rw [hT]; first | done | rfl)) (zD_re hD (by rw [hT]; first | done | rfl)) hS dX4_setWeights_75
  · have c_3 := zb_eq c_3
    refine lv_iconst (v := 1) hx hb dX4_setWeights_8 (by decide) ?_
    refine lv_goto (tgt := 39) hx hb dX4_setWeights_9 (by decide) ?_
    refine va_put (D := D) (ci := 4) (v := .int 1) (ty := .int) (C := RX4) (T := TX4) (N := 23) hx hb hts iX4 tyX4 tyX4_ok nmX4 hown hK hP hD hS 0 mws_0 rfl 22 (by decide) (hts (.fieldLink RX4 68 "CapitalReckonerModel" "thrown" "I") (by decide +kernel)) (fun _ h9 => h9) rfl (by decide +kernel) rfl rfl (Nat.le_of_ble_eq_true rfl) dX4_setWeights_39 (fun H locs hP hD hS => ?_)
    have hP : va_P D vwCl (mws cI am g n k tb my lt 1) H := zP_re hP (mws_sth).symm
    have hD : va_D A (mws cI am g n k tb my lt 1) := zD_re hD (mws_sth).symm
    refine lv_aload_n hx hb dX4_setWeights_42 rfl (lv_at hl 0 rfl) ?_
    refine va_get (D := D) (ci := 4) (v := .int 1) (C := RX4) (T := TX4) (N := 23) hx hb hts iX4 hown hK hP 0 mws_0 rfl 22 (by decide) (hts (.fieldLink RX4 68 "CapitalReckonerModel" "thrown" "I") (by decide +kernel)) (fun _ h9 => h9) rfl dX4_setWeights_43 ?_
    refine lv_if_le (tgt := 51) hx hb dX4_setWeights_46 (by decide) (fun c_13 => absurd c_13 (by decide)) (fun c_13 => ?_)
    refine lv_iconst (v := 0) hx hb dX4_setWeights_49 (by decide) ?_
    have hT : T_setWeights x w0 p0 = 1 := by simp [T_setWeights, c_3]
    exact ziret (v := 0) hx hb hr hAe (fun h => absurd (hT.symm.trans h) (by decide)) (zP_re hP (by rw [hT]; first | done | rfl)) (zD_re hD (by rw [hT]; first | done | rfl)) hS dX4_setWeights_50
set_option maxHeartbeats 4000000 in
set_option maxRecDepth 100000 in
theorem zX4_setFloor (l : Launch) (D : va_G) (cI cL cE cP : ClassId) (am : Nat → Nat) (g : Nat → Nat → Int32) (n k : Nat) (tb my lt : Nat → Int32) (th : Int32) (hok : zOk g n k) (x : Int32) (sz : Nat) : Met l yX4_setFloor wsX4_setFloor ({ frames := 1, cells := 0, slots := 0, locals := 22 }) (zPw D cI cL cE cP (mws cI am g n k tb my lt th) sz [.ref (am 0), .int x]) (zQi D (mws cI am g n k tb my lt th) sz (fun r : Int32 => (T_setFloor x = 0 → r = g 2 0)) (mws cI am (if T_setFloor x = 0 then gR g 2 (upd (g 2) 0 x) else g) n k tb my lt (T_setFloor x))) 0 0 (va_A (mws cI am g n k tb my lt th) sz) := by
  refine Met.ofW (cc := cX4_setFloor) (maxL := 3) (ret := (some .int)) (by decide) rfl ?_
  intro p e s m args below meth c s₁ B hml hv
  obtain ⟨rfl, hsz, hE, hP, hD0⟩ := hv
  subst hsz
  obtain ⟨A, hAe⟩ : ∃ A, A = va_A (mws cI am g n k tb my lt th) s.heap.size := ⟨_, rfl⟩
  have hD : va_D A (mws cI am g n k tb my lt th) := by rw [hAe]; exact hD0.self
  have hA : ∀ q : Nat, s.heap.size ≤ q → A q := fun q h => by rw [hAe]; exact Or.inr h
  have hS : va_S A s.heap s.heap [] := va_S.rf
  have hx := B.exec
  have hb := B.bytes
  have hr := B.returns
  have hts := atoms_spec (ws := wsX4_setFloor) B.pre
  have hown : s.vm.findClass RX4 = some m.cls := findClass_of_methodNamed B.named
  have hlocks := B.notSynchronized
  have hK := hE.1
  have iX4 : ∀ w ∈ wsX40, w ∈ wsX4_setFloor := by decide +kernel
  have hl := lv_entry ([.ref (am 0), .int x]) (n := 3) (Nat.le_of_ble_eq_true rfl)
  rw [lg_entry_eq]
  generalize (lg_sl ([.ref (am 0), .int x]) ++ List.replicate (3 - (lg_sl ([.ref (am 0), .int x])).length) Slot.unset).toArray = ls at hl ⊢
  have hl : lv_has ls 3 [(0, .ref (am 0)), (1, .int x)] := hl
  refine lv_aload_n hx hb dX4_setFloor_0 rfl (lv_at hl 0 rfl) ?_
  refine lv_iload_n hx hb dX4_setFloor_1 rfl (lv_at hl 1 rfl) ?_
  refine lv_iconst (v := 0) hx hb dX4_setFloor_2 (by decide) ?_
  refine lv_bipush (v := 100) hx hb dX4_setFloor_3 (by decide) ?_
  refine vp_callSi (va_Run.run (va_runS (As := [.int x, .int 0, .int 100]) (rest := [.ref (am 0)]) ⟨hx, hb, hml, hown, hts⟩ (zX4_isIn l D cI cL cE cP (mws cI am g n k tb my lt th) x 0 100) (va_cwS 3 hts gX4_setFloor_X4_isIn rfl rfl rfl (by decide +kernel) ⟨Nat.le_of_ble_eq_true rfl, Nat.le_of_ble_eq_true rfl⟩) ⟨zPr_blind, zPr_mk hE hP⟩ rfl rfl hl.1 rfl (lv_room (Nat.le_of_ble_eq_true rfl)) dX4_setFloor_5 ⟨Nat.le_of_ble_eq_true rfl, Nat.le_of_ble_eq_true rfl⟩)) (fun r_1 e_2 => ?_)
  obtain rfl := e_2
  refine lv_if_eq (tgt := 15) hx hb dX4_setFloor_8 (by decide) (fun c_3 => ?_) (fun c_3 => ?_)
  · have c_3 := zb_eq c_3
    refine lv_iconst (v := 1) hx hb dX4_setFloor_15 (by decide) ?_
    refine va_put (D := D) (ci := 4) (v := .int 1) (ty := .int) (C := RX4) (T := TX4) (N := 23) hx hb hts iX4 tyX4 tyX4_ok nmX4 hown hK hP hD hS 0 mws_0 rfl 22 (by decide) (hts (.fieldLink RX4 68 "CapitalReckonerModel" "thrown" "I") (by decide +kernel)) (fun _ h9 => h9) rfl (by decide +kernel) rfl rfl (Nat.le_of_ble_eq_true rfl) dX4_setFloor_16 (fun H locs hP hD hS => ?_)
    have hP : va_P D vwCl (mws cI am g n k tb my lt 1) H := zP_re hP (mws_sth).symm
    have hD : va_D A (mws cI am g n k tb my lt 1) := zD_re hD (mws_sth).symm
    refine lv_aload_n hx hb dX4_setFloor_19 rfl (lv_at hl 0 rfl) ?_
    refine va_get (D := D) (ci := 4) (v := .int 1) (C := RX4) (T := TX4) (N := 23) hx hb hts iX4 hown hK hP 0 mws_0 rfl 22 (by decide) (hts (.fieldLink RX4 68 "CapitalReckonerModel" "thrown" "I") (by decide +kernel)) (fun _ h9 => h9) rfl dX4_setFloor_20 ?_
    refine lv_if_le (tgt := 28) hx hb dX4_setFloor_23 (by decide) (fun c_4 => absurd c_4 (by decide)) (fun c_4 => ?_)
    refine lv_iconst (v := 0) hx hb dX4_setFloor_26 (by decide) ?_
    have hT : T_setFloor x = 1 := by simp [T_setFloor, c_3]
    exact ziret (v := 0) hx hb hr hAe (fun h => absurd (hT.symm.trans h) (by decide)) (zP_re hP (by rw [hT]; first | done | rfl)) (zD_re hD (by rw [hT]; first | done | rfl)) hS dX4_setFloor_27
  · have c_3 := zb_ne c_3
    refine lv_iconst (v := 0) hx hb dX4_setFloor_11 (by decide) ?_
    refine lv_goto (tgt := 16) hx hb dX4_setFloor_12 (by decide) ?_
    refine va_put (D := D) (ci := 4) (v := .int 0) (ty := .int) (C := RX4) (T := TX4) (N := 23) hx hb hts iX4 tyX4 tyX4_ok nmX4 hown hK hP hD hS 0 mws_0 rfl 22 (by decide) (hts (.fieldLink RX4 68 "CapitalReckonerModel" "thrown" "I") (by decide +kernel)) (fun _ h9 => h9) rfl (by decide +kernel) rfl rfl (Nat.le_of_ble_eq_true rfl) dX4_setFloor_16 (fun H locs hP hD hS => ?_)
    have hP : va_P D vwCl (mws cI am g n k tb my lt 0) H := zP_re hP (mws_sth).symm
    have hD : va_D A (mws cI am g n k tb my lt 0) := zD_re hD (mws_sth).symm
    refine lv_aload_n hx hb dX4_setFloor_19 rfl (lv_at hl 0 rfl) ?_
    refine va_get (D := D) (ci := 4) (v := .int 0) (C := RX4) (T := TX4) (N := 23) hx hb hts iX4 hown hK hP 0 mws_0 rfl 22 (by decide) (hts (.fieldLink RX4 68 "CapitalReckonerModel" "thrown" "I") (by decide +kernel)) (fun _ h9 => h9) rfl dX4_setFloor_20 ?_
    refine lv_if_le (tgt := 28) hx hb dX4_setFloor_23 (by decide) (fun c_5 => ?_) (fun c_5 => absurd c_5 (by decide))
    refine lv_aload_n hx hb dX4_setFloor_28 rfl (lv_at hl 0 rfl) ?_
    refine va_get (D := D) (ci := 4) (v := .int ((g 2) 0)) (C := RX4) (T := TX4) (N := 23) hx hb hts iX4 hown hK hP 0 mws_0 rfl 2 (by decide) (hts (.fieldLink RX4 16 "CapitalReckonerModel" "floor" "I") (by decide +kernel)) (fun _ h9 => h9) rfl dX4_setFloor_29 ?_
    refine lv_istore_n (lv' := [(2, .int ((g 2) 0)), (0, .ref (am 0)), (1, .int x)]) hx hb dX4_setFloor_32 rfl hl (by decide) rfl (fun ls hl => ?_)
    refine lv_aload_n hx hb dX4_setFloor_33 rfl (lv_at hl 1 rfl) ?_
    refine lv_iload_n hx hb dX4_setFloor_34 rfl (lv_at hl 2 rfl) ?_
    refine va_put (D := D) (ci := 4) (v := .int x) (ty := .int) (C := RX4) (T := TX4) (N := 23) hx hb hts iX4 tyX4 tyX4_ok nmX4 hown hK hP hD hS 0 mws_0 rfl 2 (by decide) (hts (.fieldLink RX4 16 "CapitalReckonerModel" "floor" "I") (by decide +kernel)) (fun _ h9 => h9) rfl (by decide +kernel) rfl rfl (Nat.le_of_ble_eq_true rfl) dX4_setFloor_35 (fun H locs hP hD hS => ?_)
    have hP : va_P D vwCl (mws cI am (gR g 2 (upd (g 2) 0 x)) n k tb my lt 0) H := zP_re hP (mws_sfl).symm
    have hD : va_D A (mws cI am (gR g 2 (upd (g 2) 0 x)) n k tb my lt 0) := zD_re hD (mws_sfl).symm
    refine lv_iload_n hx hb dX4_setFloor_38 rfl (lv_at hl 0 rfl) ?_
    have hT : T_setFloor x = 0 := by simp [T_setFloor, c_3]
    exact ziret (v := (g 2) 0) hx hb hr hAe (fun _ => rfl) (zP_re hP (by rw [hT]; first | done | rfl)) (zD_re hD (by rw [hT]; first | done | rfl)) hS dX4_setFloor_39
set_option maxHeartbeats 4000000 in
set_option maxRecDepth 100000 in
theorem zX4_setCapital (l : Launch) (D : va_G) (cI cL cE cP : ClassId) (am : Nat → Nat) (g : Nat → Nat → Int32) (n k : Nat) (tb my lt : Nat → Int32) (th : Int32) (hok : zOk g n k) (x : Int32) (sz : Nat) : Met l yX4_setCapital wsX4_setCapital ({ frames := 1, cells := 0, slots := 0, locals := 22 }) (zPw D cI cL cE cP (mws cI am g n k tb my lt th) sz [.ref (am 0), .int x]) (zQi D (mws cI am g n k tb my lt th) sz (fun r : Int32 => (T_setCapital x = 0 → r = g 2 1)) (mws cI am (if T_setCapital x = 0 then gR g 2 (upd (g 2) 1 x) else g) n k tb my lt (T_setCapital x))) 0 0 (va_A (mws cI am g n k tb my lt th) sz) := by
  refine Met.ofW (cc := cX4_setCapital) (maxL := 3) (ret := (some .int)) (by decide) rfl ?_
  intro p e s m args below meth c s₁ B hml hv
  obtain ⟨rfl, hsz, hE, hP, hD0⟩ := hv
  subst hsz
  obtain ⟨A, hAe⟩ : ∃ A, A = va_A (mws cI am g n k tb my lt th) s.heap.size := ⟨_, rfl⟩
  have hD : va_D A (mws cI am g n k tb my lt th) := by rw [hAe]; exact hD0.self
  have hA : ∀ q : Nat, s.heap.size ≤ q → A q := fun q h => by rw [hAe]; exact Or.inr h
  have hS : va_S A s.heap s.heap [] := va_S.rf
  have hx := B.exec
  have hb := B.bytes
  have hr := B.returns
  have hts := atoms_spec (ws := wsX4_setCapital) B.pre
  have hown : s.vm.findClass RX4 = some m.cls := findClass_of_methodNamed B.named
  have hlocks := B.notSynchronized
  have hK := hE.1
  have iX4 : ∀ w ∈ wsX40, w ∈ wsX4_setCapital := by decide +kernel
  have hl := lv_entry ([.ref (am 0), .int x]) (n := 3) (Nat.le_of_ble_eq_true rfl)
  rw [lg_entry_eq]
  generalize (lg_sl ([.ref (am 0), .int x]) ++ List.replicate (3 - (lg_sl ([.ref (am 0), .int x])).length) Slot.unset).toArray = ls at hl ⊢
  have hl : lv_has ls 3 [(0, .ref (am 0)), (1, .int x)] := hl
  refine lv_aload_n hx hb dX4_setCapital_0 rfl (lv_at hl 0 rfl) ?_
  refine lv_iload_n hx hb dX4_setCapital_1 rfl (lv_at hl 1 rfl) ?_
  refine lv_iconst (v := 0) hx hb dX4_setCapital_2 (by decide) ?_
  refine lv_ldc (v := 1000000000) hx hb hown (hts (.constant RX4 87 (1000000000)) (by decide +kernel)) dX4_setCapital_3 ?_
  refine vp_callSi (va_Run.run (va_runS (As := [.int x, .int 0, .int 1000000000]) (rest := [.ref (am 0)]) ⟨hx, hb, hml, hown, hts⟩ (zX4_isIn l D cI cL cE cP (mws cI am g n k tb my lt th) x 0 1000000000) (va_cwS 3 hts gX4_setCapital_X4_isIn rfl rfl rfl (by decide +kernel) ⟨Nat.le_of_ble_eq_true rfl, Nat.le_of_ble_eq_true rfl⟩) ⟨zPr_blind, zPr_mk hE hP⟩ rfl rfl hl.1 rfl (lv_room (Nat.le_of_ble_eq_true rfl)) dX4_setCapital_5 ⟨Nat.le_of_ble_eq_true rfl, Nat.le_of_ble_eq_true rfl⟩)) (fun r_1 e_2 => ?_)
  obtain rfl := e_2
  refine lv_if_eq (tgt := 15) hx hb dX4_setCapital_8 (by decide) (fun c_3 => ?_) (fun c_3 => ?_)
  · have c_3 := zb_eq c_3
    refine lv_iconst (v := 1) hx hb dX4_setCapital_15 (by decide) ?_
    refine va_put (D := D) (ci := 4) (v := .int 1) (ty := .int) (C := RX4) (T := TX4) (N := 23) hx hb hts iX4 tyX4 tyX4_ok nmX4 hown hK hP hD hS 0 mws_0 rfl 22 (by decide) (hts (.fieldLink RX4 68 "CapitalReckonerModel" "thrown" "I") (by decide +kernel)) (fun _ h9 => h9) rfl (by decide +kernel) rfl rfl (Nat.le_of_ble_eq_true rfl) dX4_setCapital_16 (fun H locs hP hD hS => ?_)
    have hP : va_P D vwCl (mws cI am g n k tb my lt 1) H := zP_re hP (mws_sth).symm
    have hD : va_D A (mws cI am g n k tb my lt 1) := zD_re hD (mws_sth).symm
    refine lv_aload_n hx hb dX4_setCapital_19 rfl (lv_at hl 0 rfl) ?_
    refine va_get (D := D) (ci := 4) (v := .int 1) (C := RX4) (T := TX4) (N := 23) hx hb hts iX4 hown hK hP 0 mws_0 rfl 22 (by decide) (hts (.fieldLink RX4 68 "CapitalReckonerModel" "thrown" "I") (by decide +kernel)) (fun _ h9 => h9) rfl dX4_setCapital_20 ?_
    refine lv_if_le (tgt := 28) hx hb dX4_setCapital_23 (by decide) (fun c_4 => absurd c_4 (by decide)) (fun c_4 => ?_)
    refine lv_iconst (v := 0) hx hb dX4_setCapital_26 (by decide) ?_
    have hT : T_setCapital x = 1 := by simp [T_setCapital, c_3]
    exact ziret (v := 0) hx hb hr hAe (fun h => absurd (hT.symm.trans h) (by decide)) (zP_re hP (by rw [hT]; first | done | rfl)) (zD_re hD (by rw [hT]; first | done | rfl)) hS dX4_setCapital_27
  · have c_3 := zb_ne c_3
    refine lv_iconst (v := 0) hx hb dX4_setCapital_11 (by decide) ?_
    refine lv_goto (tgt := 16) hx hb dX4_setCapital_12 (by decide) ?_
    refine va_put (D := D) (ci := 4) (v := .int 0) (ty := .int) (C := RX4) (T := TX4) (N := 23) hx hb hts iX4 tyX4 tyX4_ok nmX4 hown hK hP hD hS 0 mws_0 rfl 22 (by decide) (hts (.fieldLink RX4 68 "CapitalReckonerModel" "thrown" "I") (by decide +kernel)) (fun _ h9 => h9) rfl (by decide +kernel) rfl rfl (Nat.le_of_ble_eq_true rfl) dX4_setCapital_16 (fun H locs hP hD hS => ?_)
    have hP : va_P D vwCl (mws cI am g n k tb my lt 0) H := zP_re hP (mws_sth).symm
    have hD : va_D A (mws cI am g n k tb my lt 0) := zD_re hD (mws_sth).symm
    refine lv_aload_n hx hb dX4_setCapital_19 rfl (lv_at hl 0 rfl) ?_
    refine va_get (D := D) (ci := 4) (v := .int 0) (C := RX4) (T := TX4) (N := 23) hx hb hts iX4 hown hK hP 0 mws_0 rfl 22 (by decide) (hts (.fieldLink RX4 68 "CapitalReckonerModel" "thrown" "I") (by decide +kernel)) (fun _ h9 => h9) rfl dX4_setCapital_20 ?_
    refine lv_if_le (tgt := 28) hx hb dX4_setCapital_23 (by decide) (fun c_5 => ?_) (fun c_5 => absurd c_5 (by decide))
    refine lv_aload_n hx hb dX4_setCapital_28 rfl (lv_at hl 0 rfl) ?_
    refine va_get (D := D) (ci := 4) (v := .int ((g 2) 1)) (C := RX4) (T := TX4) (N := 23) hx hb hts iX4 hown hK hP 0 mws_0 rfl 3 (by decide) (hts (.fieldLink RX4 88 "CapitalReckonerModel" "capital" "I") (by decide +kernel)) (fun _ h9 => h9) rfl dX4_setCapital_29 ?_
    refine lv_istore_n (lv' := [(2, .int ((g 2) 1)), (0, .ref (am 0)), (1, .int x)]) hx hb dX4_setCapital_32 rfl hl (by decide) rfl (fun ls hl => ?_)
    refine lv_aload_n hx hb dX4_setCapital_33 rfl (lv_at hl 1 rfl) ?_
    refine lv_iload_n hx hb dX4_setCapital_34 rfl (lv_at hl 2 rfl) ?_
    refine va_put (D := D) (ci := 4) (v := .int x) (ty := .int) (C := RX4) (T := TX4) (N := 23) hx hb hts iX4 tyX4 tyX4_ok nmX4 hown hK hP hD hS 0 mws_0 rfl 3 (by decide) (hts (.fieldLink RX4 88 "CapitalReckonerModel" "capital" "I") (by decide +kernel)) (fun _ h9 => h9) rfl (by decide +kernel) rfl rfl (Nat.le_of_ble_eq_true rfl) dX4_setCapital_35 (fun H locs hP hD hS => ?_)
    have hP : va_P D vwCl (mws cI am (gR g 2 (upd (g 2) 1 x)) n k tb my lt 0) H := zP_re hP (mws_sca).symm
    have hD : va_D A (mws cI am (gR g 2 (upd (g 2) 1 x)) n k tb my lt 0) := zD_re hD (mws_sca).symm
    refine lv_iload_n hx hb dX4_setCapital_38 rfl (lv_at hl 0 rfl) ?_
    have hT : T_setCapital x = 0 := by simp [T_setCapital, c_3]
    exact ziret (v := (g 2) 1) hx hb hr hAe (fun _ => rfl) (zP_re hP (by rw [hT]; first | done | rfl)) (zD_re hD (by rw [hT]; first | done | rfl)) hS dX4_setCapital_39
set_option maxHeartbeats 4000000 in
set_option maxRecDepth 100000 in
theorem zX4_addExposure (l : Launch) (D : va_G) (cI cL cE cP : ClassId) (am : Nat → Nat) (g : Nat → Nat → Int32) (n k : Nat) (tb my lt : Nat → Int32) (th : Int32) (hok : zOk g n k) (a0 a1 a2 a3 a4 a5 : Int32) (sz : Nat) : Met l yX4_addExposure wsX4_addExposure ({ frames := 2, cells := 0, slots := 0, locals := 42 }) (zPw D cI cL cE cP (mws cI am g n k tb my lt th) sz [.ref (am 0), .int a0, .int a1, .int a2, .int a3, .int a4, .int a5]) (zQi D (mws cI am g n k tb my lt th) sz (fun r : Int32 => (T_addExposure n a0 a1 a2 a3 a4 a5 = 0 → r = nI n)) (mws cI am (if T_addExposure n a0 a1 a2 a3 a4 a5 = 0 then gR (gR (gR (gR (gR (gR g 3 (upd (g 3) n a0)) 4 (upd (g 4) n a1)) 5 (upd (g 5) n a2)) 6 (upd (g 6) n a3)) 7 (upd (g 7) n a4)) 8 (upd (g 8) n a5) else g) (if T_addExposure n a0 a1 a2 a3 a4 a5 = 0 then n + 1 else n) k tb my lt (T_addExposure n a0 a1 a2 a3 a4 a5))) 0 0 (va_A (mws cI am g n k tb my lt th) sz) := by
  refine Met.ofW (cc := cX4_addExposure) (maxL := 8) (ret := (some .int)) (by decide) rfl ?_
  intro p e s m args below meth c s₁ B hml hv
  obtain ⟨rfl, hsz, hE, hP, hD0⟩ := hv
  subst hsz
  obtain ⟨A, hAe⟩ : ∃ A, A = va_A (mws cI am g n k tb my lt th) s.heap.size := ⟨_, rfl⟩
  have hD : va_D A (mws cI am g n k tb my lt th) := by rw [hAe]; exact hD0.self
  have hA : ∀ q : Nat, s.heap.size ≤ q → A q := fun q h => by rw [hAe]; exact Or.inr h
  have hS : va_S A s.heap s.heap [] := va_S.rf
  have hx := B.exec
  have hb := B.bytes
  have hr := B.returns
  have hts := atoms_spec (ws := wsX4_addExposure) B.pre
  have hown : s.vm.findClass RX4 = some m.cls := findClass_of_methodNamed B.named
  have hlocks := B.notSynchronized
  have hK := hE.1
  have iX4 : ∀ w ∈ wsX40, w ∈ wsX4_addExposure := by decide +kernel
  have hl := lv_entry ([.ref (am 0), .int a0, .int a1, .int a2, .int a3, .int a4, .int a5]) (n := 8) (Nat.le_of_ble_eq_true rfl)
  rw [lg_entry_eq]
  generalize (lg_sl ([.ref (am 0), .int a0, .int a1, .int a2, .int a3, .int a4, .int a5]) ++ List.replicate (8 - (lg_sl ([.ref (am 0), .int a0, .int a1, .int a2, .int a3, .int a4, .int a5])).length) Slot.unset).toArray = ls at hl ⊢
  have hl : lv_has ls 8 [(0, .ref (am 0)), (1, .int a0), (2, .int a1), (3, .int a2), (4, .int a3), (5, .int a4), (6, .int a5)] := hl
  refine lv_iload_n hx hb dX4_addExposure_0 rfl (lv_at hl 3 rfl) ?_
  refine vp_callSi (va_Run.run (va_runS (As := [.int a2]) (rest := []) ⟨hx, hb, hml, hown, hts⟩ (zX4_isSum l D cI cL cE cP (mws cI am g n k tb my lt th) a2) (va_cwS 1 hts gX4_addExposure_X4_isSum rfl rfl rfl (by decide +kernel) ⟨Nat.le_of_ble_eq_true rfl, Nat.le_of_ble_eq_true rfl⟩) ⟨zPr_blind, zPr_mk hE hP⟩ rfl rfl hl.1 rfl (lv_room (Nat.le_of_ble_eq_true rfl)) dX4_addExposure_1 ⟨Nat.le_of_ble_eq_true rfl, Nat.le_of_ble_eq_true rfl⟩)) (fun r_1 e_2 => ?_)
  obtain rfl := e_2
  refine lv_if_eq (tgt := 41) hx hb dX4_addExposure_4 (by decide) (fun c_3 => ?_) (fun c_3 => ?_)
  · have c_3 := zb_eq c_3
    refine lv_iconst (v := 0) hx hb dX4_addExposure_41 (by decide) ?_
    refine lv_istore (lv' := [(7, .int 0), (0, .ref (am 0)), (1, .int a0), (2, .int a1), (3, .int a2), (4, .int a3), (5, .int a4), (6, .int a5)]) hx hb dX4_addExposure_42 hl (by decide) rfl (fun ls hl => ?_)
    refine lv_aload_n hx hb dX4_addExposure_44 rfl (lv_at hl 1 rfl) ?_
    refine lv_iload_n hx hb dX4_addExposure_45 rfl (lv_at hl 2 rfl) ?_
    refine vp_callSi (va_Run.run (va_runS (As := [.int a0]) (rest := [.ref (am 0)]) ⟨hx, hb, hml, hown, hts⟩ (zX4_isFour l D cI cL cE cP (mws cI am g n k tb my lt th) a0) (va_cwS 1 hts gX4_addExposure_X4_isFour rfl rfl rfl (by decide +kernel) ⟨Nat.le_of_ble_eq_true rfl, Nat.le_of_ble_eq_true rfl⟩) ⟨zPr_blind, zPr_mk hE hP⟩ rfl rfl hl.1 rfl (lv_room (Nat.le_of_ble_eq_true rfl)) dX4_addExposure_46 ⟨Nat.le_of_ble_eq_true rfl, Nat.le_of_ble_eq_true rfl⟩)) (fun r_4 e_5 => ?_)
    obtain rfl := e_5
    refine lv_if_eq (tgt := 59) hx hb dX4_addExposure_49 (by decide) (fun c_6 => ?_) (fun c_6 => ?_)
    · have c_6 := zb_eq c_6
      refine lv_iconst (v := 1) hx hb dX4_addExposure_59 (by decide) ?_
      refine lv_goto (tgt := 86) hx hb dX4_addExposure_60 (by decide) ?_
      refine va_put (D := D) (ci := 4) (v := .int 1) (ty := .int) (C := RX4) (T := TX4) (N := 23) hx hb hts iX4 tyX4 tyX4_ok nmX4 hown hK hP hD hS 0 mws_0 rfl 22 (by decide) (hts (.fieldLink RX4 68 "CapitalReckonerModel" "thrown" "I") (by decide +kernel)) (fun _ h9 => h9) rfl (by decide +kernel) rfl rfl (Nat.le_of_ble_eq_true rfl) dX4_addExposure_86 (fun H locs hP hD hS => ?_)
      have hP : va_P D vwCl (mws cI am g n k tb my lt 1) H := zP_re hP (mws_sth).symm
      have hD : va_D A (mws cI am g n k tb my lt 1) := zD_re hD (mws_sth).symm
      refine lv_aload_n hx hb dX4_addExposure_89 rfl (lv_at hl 1 rfl) ?_
      refine va_get (D := D) (ci := 4) (v := .int 1) (C := RX4) (T := TX4) (N := 23) hx hb hts iX4 hown hK hP 0 mws_0 rfl 22 (by decide) (hts (.fieldLink RX4 68 "CapitalReckonerModel" "thrown" "I") (by decide +kernel)) (fun _ h9 => h9) rfl dX4_addExposure_90 ?_
      refine lv_if_le (tgt := 98) hx hb dX4_addExposure_93 (by decide) (fun c_7 => absurd c_7 (by decide)) (fun c_7 => ?_)
      refine lv_iconst (v := 0) hx hb dX4_addExposure_96 (by decide) ?_
      have hT : T_addExposure n a0 a1 a2 a3 a4 a5 = 1 := by simp [T_addExposure, c_3, c_6]
      exact ziret (v := 0) hx hb hr hAe (fun h => absurd (hT.symm.trans h) (by decide)) (zP_re hP (by rw [hT]; first | done | rfl)) (zD_re hD (by rw [hT]; first | done | rfl)) hS dX4_addExposure_97
    · have c_6 := zb_ne c_6
      refine lv_iload_n hx hb dX4_addExposure_52 rfl (lv_at hl 3 rfl) ?_
      refine vp_callSi (va_Run.run (va_runS (As := [.int a1]) (rest := [.ref (am 0)]) ⟨hx, hb, hml, hown, hts⟩ (zX4_isFour l D cI cL cE cP (mws cI am g n k tb my lt th) a1) (va_cwS 1 hts gX4_addExposure_X4_isFour rfl rfl rfl (by decide +kernel) ⟨Nat.le_of_ble_eq_true rfl, Nat.le_of_ble_eq_true rfl⟩) ⟨zPr_blind, zPr_mk hE hP⟩ rfl rfl hl.1 rfl (lv_room (Nat.le_of_ble_eq_true rfl)) dX4_addExposure_53 ⟨Nat.le_of_ble_eq_true rfl, Nat.le_of_ble_eq_true rfl⟩)) (fun r_8 e_9 => ?_)
      obtain rfl := e_9
      refine lv_if_ne (tgt := 63) hx hb dX4_addExposure_56 (by decide) (fun c_10 => ?_) (fun c_10 => ?_)
      · have c_10 := zb_ne c_10
        refine lv_iload hx hb dX4_addExposure_63 (lv_at hl 0 rfl) ?_
        refine lv_if_ne (tgt := 72) hx hb dX4_addExposure_65 (by decide) (fun c_11 => absurd c_11 (by decide)) (fun c_11 => ?_)
        refine lv_iconst (v := 2) hx hb dX4_addExposure_68 (by decide) ?_
        refine lv_goto (tgt := 86) hx hb dX4_addExposure_69 (by decide) ?_
        refine va_put (D := D) (ci := 4) (v := .int 2) (ty := .int) (C := RX4) (T := TX4) (N := 23) hx hb hts iX4 tyX4 tyX4_ok nmX4 hown hK hP hD hS 0 mws_0 rfl 22 (by decide) (hts (.fieldLink RX4 68 "CapitalReckonerModel" "thrown" "I") (by decide +kernel)) (fun _ h9 => h9) rfl (by decide +kernel) rfl rfl (Nat.le_of_ble_eq_true rfl) dX4_addExposure_86 (fun H locs hP hD hS => ?_)
        have hP : va_P D vwCl (mws cI am g n k tb my lt 2) H := zP_re hP (mws_sth).symm
        have hD : va_D A (mws cI am g n k tb my lt 2) := zD_re hD (mws_sth).symm
        refine lv_aload_n hx hb dX4_addExposure_89 rfl (lv_at hl 1 rfl) ?_
        refine va_get (D := D) (ci := 4) (v := .int 2) (C := RX4) (T := TX4) (N := 23) hx hb hts iX4 hown hK hP 0 mws_0 rfl 22 (by decide) (hts (.fieldLink RX4 68 "CapitalReckonerModel" "thrown" "I") (by decide +kernel)) (fun _ h9 => h9) rfl dX4_addExposure_90 ?_
        refine lv_if_le (tgt := 98) hx hb dX4_addExposure_93 (by decide) (fun c_12 => absurd c_12 (by decide)) (fun c_12 => ?_)
        refine lv_iconst (v := 0) hx hb dX4_addExposure_96 (by decide) ?_
        have hT : T_addExposure n a0 a1 a2 a3 a4 a5 = 2 := by simp [T_addExposure, c_3, c_6, c_10]
        exact ziret (v := 0) hx hb hr hAe (fun h => absurd (hT.symm.trans h) (by decide)) (zP_re hP (by rw [hT]; first | done | rfl)) (zD_re hD (by rw [hT]; first | done | rfl)) hS dX4_addExposure_97
      · have c_10 := zb_eq c_10
        refine lv_iconst (v := 1) hx hb dX4_addExposure_59 (by decide) ?_
        refine lv_goto (tgt := 86) hx hb dX4_addExposure_60 (by decide) ?_
        refine va_put (D := D) (ci := 4) (v := .int 1) (ty := .int) (C := RX4) (T := TX4) (N := 23) hx hb hts iX4 tyX4 tyX4_ok nmX4 hown hK hP hD hS 0 mws_0 rfl 22 (by decide) (hts (.fieldLink RX4 68 "CapitalReckonerModel" "thrown" "I") (by decide +kernel)) (fun _ h9 => h9) rfl (by decide +kernel) rfl rfl (Nat.le_of_ble_eq_true rfl) dX4_addExposure_86 (fun H locs hP hD hS => ?_)
        have hP : va_P D vwCl (mws cI am g n k tb my lt 1) H := zP_re hP (mws_sth).symm
        have hD : va_D A (mws cI am g n k tb my lt 1) := zD_re hD (mws_sth).symm
        refine lv_aload_n hx hb dX4_addExposure_89 rfl (lv_at hl 1 rfl) ?_
        refine va_get (D := D) (ci := 4) (v := .int 1) (C := RX4) (T := TX4) (N := 23) hx hb hts iX4 hown hK hP 0 mws_0 rfl 22 (by decide) (hts (.fieldLink RX4 68 "CapitalReckonerModel" "thrown" "I") (by decide +kernel)) (fun _ h9 => h9) rfl dX4_addExposure_90 ?_
        refine lv_if_le (tgt := 98) hx hb dX4_addExposure_93 (by decide) (fun c_13 => absurd c_13 (by decide)) (fun c_13 => ?_)
        refine lv_iconst (v := 0) hx hb dX4_addExposure_96 (by decide) ?_
        have hT : T_addExposure n a0 a1 a2 a3 a4 a5 = 1 := by simp [T_addExposure, c_3, c_6, c_10]
        exact ziret (v := 0) hx hb hr hAe (fun h => absurd (hT.symm.trans h) (by decide)) (zP_re hP (by rw [hT]; first | done | rfl)) (zD_re hD (by rw [hT]; first | done | rfl)) hS dX4_addExposure_97
  · have c_3 := zb_ne c_3
    refine lv_iload hx hb dX4_addExposure_7 (lv_at hl 4 rfl) ?_
    refine vp_callSi (va_Run.run (va_runS (As := [.int a3]) (rest := []) ⟨hx, hb, hml, hown, hts⟩ (zX4_isSum l D cI cL cE cP (mws cI am g n k tb my lt th) a3) (va_cwS 1 hts gX4_addExposure_X4_isSum rfl rfl rfl (by decide +kernel) ⟨Nat.le_of_ble_eq_true rfl, Nat.le_of_ble_eq_true rfl⟩) ⟨zPr_blind, zPr_mk hE hP⟩ rfl rfl hl.1 rfl (lv_room (Nat.le_of_ble_eq_true rfl)) dX4_addExposure_9 ⟨Nat.le_of_ble_eq_true rfl, Nat.le_of_ble_eq_true rfl⟩)) (fun r_14 e_15 => ?_)
    obtain rfl := e_15
    refine lv_if_eq (tgt := 41) hx hb dX4_addExposure_12 (by decide) (fun c_16 => ?_) (fun c_16 => ?_)
    · have c_16 := zb_eq c_16
      refine lv_iconst (v := 0) hx hb dX4_addExposure_41 (by decide) ?_
      refine lv_istore (lv' := [(7, .int 0), (0, .ref (am 0)), (1, .int a0), (2, .int a1), (3, .int a2), (4, .int a3), (5, .int a4), (6, .int a5)]) hx hb dX4_addExposure_42 hl (by decide) rfl (fun ls hl => ?_)
      refine lv_aload_n hx hb dX4_addExposure_44 rfl (lv_at hl 1 rfl) ?_
      refine lv_iload_n hx hb dX4_addExposure_45 rfl (lv_at hl 2 rfl) ?_
      refine vp_callSi (va_Run.run (va_runS (As := [.int a0]) (rest := [.ref (am 0)]) ⟨hx, hb, hml, hown, hts⟩ (zX4_isFour l D cI cL cE cP (mws cI am g n k tb my lt th) a0) (va_cwS 1 hts gX4_addExposure_X4_isFour rfl rfl rfl (by decide +kernel) ⟨Nat.le_of_ble_eq_true rfl, Nat.le_of_ble_eq_true rfl⟩) ⟨zPr_blind, zPr_mk hE hP⟩ rfl rfl hl.1 rfl (lv_room (Nat.le_of_ble_eq_true rfl)) dX4_addExposure_46 ⟨Nat.le_of_ble_eq_true rfl, Nat.le_of_ble_eq_true rfl⟩)) (fun r_17 e_18 => ?_)
      obtain rfl := e_18
      refine lv_if_eq (tgt := 59) hx hb dX4_addExposure_49 (by decide) (fun c_19 => ?_) (fun c_19 => ?_)
      · have c_19 := zb_eq c_19
        refine lv_iconst (v := 1) hx hb dX4_addExposure_59 (by decide) ?_
        refine lv_goto (tgt := 86) hx hb dX4_addExposure_60 (by decide) ?_
        refine va_put (D := D) (ci := 4) (v := .int 1) (ty := .int) (C := RX4) (T := TX4) (N := 23) hx hb hts iX4 tyX4 tyX4_ok nmX4 hown hK hP hD hS 0 mws_0 rfl 22 (by decide) (hts (.fieldLink RX4 68 "CapitalReckonerModel" "thrown" "I") (by decide +kernel)) (fun _ h9 => h9) rfl (by decide +kernel) rfl rfl (Nat.le_of_ble_eq_true rfl) dX4_addExposure_86 (fun H locs hP hD hS => ?_)
        have hP : va_P D vwCl (mws cI am g n k tb my lt 1) H := zP_re hP (mws_sth).symm
        have hD : va_D A (mws cI am g n k tb my lt 1) := zD_re hD (mws_sth).symm
        refine lv_aload_n hx hb dX4_addExposure_89 rfl (lv_at hl 1 rfl) ?_
        refine va_get (D := D) (ci := 4) (v := .int 1) (C := RX4) (T := TX4) (N := 23) hx hb hts iX4 hown hK hP 0 mws_0 rfl 22 (by decide) (hts (.fieldLink RX4 68 "CapitalReckonerModel" "thrown" "I") (by decide +kernel)) (fun _ h9 => h9) rfl dX4_addExposure_90 ?_
        refine lv_if_le (tgt := 98) hx hb dX4_addExposure_93 (by decide) (fun c_20 => absurd c_20 (by decide)) (fun c_20 => ?_)
        refine lv_iconst (v := 0) hx hb dX4_addExposure_96 (by decide) ?_
        have hT : T_addExposure n a0 a1 a2 a3 a4 a5 = 1 := by simp [T_addExposure, c_3, c_16, c_19]
        exact ziret (v := 0) hx hb hr hAe (fun h => absurd (hT.symm.trans h) (by decide)) (zP_re hP (by rw [hT]; first | done | rfl)) (zD_re hD (by rw [hT]; first | done | rfl)) hS dX4_addExposure_97
      · have c_19 := zb_ne c_19
        refine lv_iload_n hx hb dX4_addExposure_52 rfl (lv_at hl 3 rfl) ?_
        refine vp_callSi (va_Run.run (va_runS (As := [.int a1]) (rest := [.ref (am 0)]) ⟨hx, hb, hml, hown, hts⟩ (zX4_isFour l D cI cL cE cP (mws cI am g n k tb my lt th) a1) (va_cwS 1 hts gX4_addExposure_X4_isFour rfl rfl rfl (by decide +kernel) ⟨Nat.le_of_ble_eq_true rfl, Nat.le_of_ble_eq_true rfl⟩) ⟨zPr_blind, zPr_mk hE hP⟩ rfl rfl hl.1 rfl (lv_room (Nat.le_of_ble_eq_true rfl)) dX4_addExposure_53 ⟨Nat.le_of_ble_eq_true rfl, Nat.le_of_ble_eq_true rfl⟩)) (fun r_21 e_22 => ?_)
        obtain rfl := e_22
        refine lv_if_ne (tgt := 63) hx hb dX4_addExposure_56 (by decide) (fun c_23 => ?_) (fun c_23 => ?_)
        · have c_23 := zb_ne c_23
          refine lv_iload hx hb dX4_addExposure_63 (lv_at hl 0 rfl) ?_
          refine lv_if_ne (tgt := 72) hx hb dX4_addExposure_65 (by decide) (fun c_24 => absurd c_24 (by decide)) (fun c_24 => ?_)
          refine lv_iconst (v := 2) hx hb dX4_addExposure_68 (by decide) ?_
          refine lv_goto (tgt := 86) hx hb dX4_addExposure_69 (by decide) ?_
          refine va_put (D := D) (ci := 4) (v := .int 2) (ty := .int) (C := RX4) (T := TX4) (N := 23) hx hb hts iX4 tyX4 tyX4_ok nmX4 hown hK hP hD hS 0 mws_0 rfl 22 (by decide) (hts (.fieldLink RX4 68 "CapitalReckonerModel" "thrown" "I") (by decide +kernel)) (fun _ h9 => h9) rfl (by decide +kernel) rfl rfl (Nat.le_of_ble_eq_true rfl) dX4_addExposure_86 (fun H locs hP hD hS => ?_)
          have hP : va_P D vwCl (mws cI am g n k tb my lt 2) H := zP_re hP (mws_sth).symm
          have hD : va_D A (mws cI am g n k tb my lt 2) := zD_re hD (mws_sth).symm
          refine lv_aload_n hx hb dX4_addExposure_89 rfl (lv_at hl 1 rfl) ?_
          refine va_get (D := D) (ci := 4) (v := .int 2) (C := RX4) (T := TX4) (N := 23) hx hb hts iX4 hown hK hP 0 mws_0 rfl 22 (by decide) (hts (.fieldLink RX4 68 "CapitalReckonerModel" "thrown" "I") (by decide +kernel)) (fun _ h9 => h9) rfl dX4_addExposure_90 ?_
          refine lv_if_le (tgt := 98) hx hb dX4_addExposure_93 (by decide) (fun c_25 => absurd c_25 (by decide)) (fun c_25 => ?_)
          refine lv_iconst (v := 0) hx hb dX4_addExposure_96 (by decide) ?_
          have hT : T_addExposure n a0 a1 a2 a3 a4 a5 = 2 := by simp [T_addExposure, c_3, c_16, c_19, c_23]
          exact ziret (v := 0) hx hb hr hAe (fun h => absurd (hT.symm.trans h) (by decide)) (zP_re hP (by rw [hT]; first | done | rfl)) (zD_re hD (by rw [hT]; first | done | rfl)) hS dX4_addExposure_97
        · have c_23 := zb_eq c_23
          refine lv_iconst (v := 1) hx hb dX4_addExposure_59 (by decide) ?_
          refine lv_goto (tgt := 86) hx hb dX4_addExposure_60 (by decide) ?_
          refine va_put (D := D) (ci := 4) (v := .int 1) (ty := .int) (C := RX4) (T := TX4) (N := 23) hx hb hts iX4 tyX4 tyX4_ok nmX4 hown hK hP hD hS 0 mws_0 rfl 22 (by decide) (hts (.fieldLink RX4 68 "CapitalReckonerModel" "thrown" "I") (by decide +kernel)) (fun _ h9 => h9) rfl (by decide +kernel) rfl rfl (Nat.le_of_ble_eq_true rfl) dX4_addExposure_86 (fun H locs hP hD hS => ?_)
          have hP : va_P D vwCl (mws cI am g n k tb my lt 1) H := zP_re hP (mws_sth).symm
          have hD : va_D A (mws cI am g n k tb my lt 1) := zD_re hD (mws_sth).symm
          refine lv_aload_n hx hb dX4_addExposure_89 rfl (lv_at hl 1 rfl) ?_
          refine va_get (D := D) (ci := 4) (v := .int 1) (C := RX4) (T := TX4) (N := 23) hx hb hts iX4 hown hK hP 0 mws_0 rfl 22 (by decide) (hts (.fieldLink RX4 68 "CapitalReckonerModel" "thrown" "I") (by decide +kernel)) (fun _ h9 => h9) rfl dX4_addExposure_90 ?_
          refine lv_if_le (tgt := 98) hx hb dX4_addExposure_93 (by decide) (fun c_26 => absurd c_26 (by decide)) (fun c_26 => ?_)
          refine lv_iconst (v := 0) hx hb dX4_addExposure_96 (by decide) ?_
          have hT : T_addExposure n a0 a1 a2 a3 a4 a5 = 1 := by simp [T_addExposure, c_3, c_16, c_19, c_23]
          exact ziret (v := 0) hx hb hr hAe (fun h => absurd (hT.symm.trans h) (by decide)) (zP_re hP (by rw [hT]; first | done | rfl)) (zD_re hD (by rw [hT]; first | done | rfl)) hS dX4_addExposure_97
    · have c_16 := zb_ne c_16
      refine lv_iload hx hb dX4_addExposure_15 (lv_at hl 5 rfl) ?_
      refine lv_iconst (v := 0) hx hb dX4_addExposure_17 (by decide) ?_
      refine lv_iconst (v := 2) hx hb dX4_addExposure_18 (by decide) ?_
      refine vp_callSi (va_Run.run (va_runS (As := [.int a4, .int 0, .int 2]) (rest := []) ⟨hx, hb, hml, hown, hts⟩ (zX4_isIn l D cI cL cE cP (mws cI am g n k tb my lt th) a4 0 2) (va_cwS 3 hts gX4_addExposure_X4_isIn rfl rfl rfl (by decide +kernel) ⟨Nat.le_of_ble_eq_true rfl, Nat.le_of_ble_eq_true rfl⟩) ⟨zPr_blind, zPr_mk hE hP⟩ rfl rfl hl.1 rfl (lv_room (Nat.le_of_ble_eq_true rfl)) dX4_addExposure_19 ⟨Nat.le_of_ble_eq_true rfl, Nat.le_of_ble_eq_true rfl⟩)) (fun r_27 e_28 => ?_)
      obtain rfl := e_28
      refine lv_if_eq (tgt := 41) hx hb dX4_addExposure_22 (by decide) (fun c_29 => ?_) (fun c_29 => ?_)
      · have c_29 := zb_eq c_29
        refine lv_iconst (v := 0) hx hb dX4_addExposure_41 (by decide) ?_
        refine lv_istore (lv' := [(7, .int 0), (0, .ref (am 0)), (1, .int a0), (2, .int a1), (3, .int a2), (4, .int a3), (5, .int a4), (6, .int a5)]) hx hb dX4_addExposure_42 hl (by decide) rfl (fun ls hl => ?_)
        refine lv_aload_n hx hb dX4_addExposure_44 rfl (lv_at hl 1 rfl) ?_
        refine lv_iload_n hx hb dX4_addExposure_45 rfl (lv_at hl 2 rfl) ?_
        refine vp_callSi (va_Run.run (va_runS (As := [.int a0]) (rest := [.ref (am 0)]) ⟨hx, hb, hml, hown, hts⟩ (zX4_isFour l D cI cL cE cP (mws cI am g n k tb my lt th) a0) (va_cwS 1 hts gX4_addExposure_X4_isFour rfl rfl rfl (by decide +kernel) ⟨Nat.le_of_ble_eq_true rfl, Nat.le_of_ble_eq_true rfl⟩) ⟨zPr_blind, zPr_mk hE hP⟩ rfl rfl hl.1 rfl (lv_room (Nat.le_of_ble_eq_true rfl)) dX4_addExposure_46 ⟨Nat.le_of_ble_eq_true rfl, Nat.le_of_ble_eq_true rfl⟩)) (fun r_30 e_31 => ?_)
        obtain rfl := e_31
        refine lv_if_eq (tgt := 59) hx hb dX4_addExposure_49 (by decide) (fun c_32 => ?_) (fun c_32 => ?_)
        · have c_32 := zb_eq c_32
          refine lv_iconst (v := 1) hx hb dX4_addExposure_59 (by decide) ?_
          refine lv_goto (tgt := 86) hx hb dX4_addExposure_60 (by decide) ?_
          refine va_put (D := D) (ci := 4) (v := .int 1) (ty := .int) (C := RX4) (T := TX4) (N := 23) hx hb hts iX4 tyX4 tyX4_ok nmX4 hown hK hP hD hS 0 mws_0 rfl 22 (by decide) (hts (.fieldLink RX4 68 "CapitalReckonerModel" "thrown" "I") (by decide +kernel)) (fun _ h9 => h9) rfl (by decide +kernel) rfl rfl (Nat.le_of_ble_eq_true rfl) dX4_addExposure_86 (fun H locs hP hD hS => ?_)
          have hP : va_P D vwCl (mws cI am g n k tb my lt 1) H := zP_re hP (mws_sth).symm
          have hD : va_D A (mws cI am g n k tb my lt 1) := zD_re hD (mws_sth).symm
          refine lv_aload_n hx hb dX4_addExposure_89 rfl (lv_at hl 1 rfl) ?_
          refine va_get (D := D) (ci := 4) (v := .int 1) (C := RX4) (T := TX4) (N := 23) hx hb hts iX4 hown hK hP 0 mws_0 rfl 22 (by decide) (hts (.fieldLink RX4 68 "CapitalReckonerModel" "thrown" "I") (by decide +kernel)) (fun _ h9 => h9) rfl dX4_addExposure_90 ?_
          refine lv_if_le (tgt := 98) hx hb dX4_addExposure_93 (by decide) (fun c_33 => absurd c_33 (by decide)) (fun c_33 => ?_)
          refine lv_iconst (v := 0) hx hb dX4_addExposure_96 (by decide) ?_
          have hT : T_addExposure n a0 a1 a2 a3 a4 a5 = 1 := by simp [T_addExposure, c_3, c_16, c_29, c_32]
          exact ziret (v := 0) hx hb hr hAe (fun h => absurd (hT.symm.trans h) (by decide)) (zP_re hP (by rw [hT]; first | done | rfl)) (zD_re hD (by rw [hT]; first | done | rfl)) hS dX4_addExposure_97
        · have c_32 := zb_ne c_32
          refine lv_iload_n hx hb dX4_addExposure_52 rfl (lv_at hl 3 rfl) ?_
          refine vp_callSi (va_Run.run (va_runS (As := [.int a1]) (rest := [.ref (am 0)]) ⟨hx, hb, hml, hown, hts⟩ (zX4_isFour l D cI cL cE cP (mws cI am g n k tb my lt th) a1) (va_cwS 1 hts gX4_addExposure_X4_isFour rfl rfl rfl (by decide +kernel) ⟨Nat.le_of_ble_eq_true rfl, Nat.le_of_ble_eq_true rfl⟩) ⟨zPr_blind, zPr_mk hE hP⟩ rfl rfl hl.1 rfl (lv_room (Nat.le_of_ble_eq_true rfl)) dX4_addExposure_53 ⟨Nat.le_of_ble_eq_true rfl, Nat.le_of_ble_eq_true rfl⟩)) (fun r_34 e_35 => ?_)
          obtain rfl := e_35
          refine lv_if_ne (tgt := 63) hx hb dX4_addExposure_56 (by decide) (fun c_36 => ?_) (fun c_36 => ?_)
          · have c_36 := zb_ne c_36
            refine lv_iload hx hb dX4_addExposure_63 (lv_at hl 0 rfl) ?_
            refine lv_if_ne (tgt := 72) hx hb dX4_addExposure_65 (by decide) (fun c_37 => absurd c_37 (by decide)) (fun c_37 => ?_)
            refine lv_iconst (v := 2) hx hb dX4_addExposure_68 (by decide) ?_
            refine lv_goto (tgt := 86) hx hb dX4_addExposure_69 (by decide) ?_
            refine va_put (D := D) (ci := 4) (v := .int 2) (ty := .int) (C := RX4) (T := TX4) (N := 23) hx hb hts iX4 tyX4 tyX4_ok nmX4 hown hK hP hD hS 0 mws_0 rfl 22 (by decide) (hts (.fieldLink RX4 68 "CapitalReckonerModel" "thrown" "I") (by decide +kernel)) (fun _ h9 => h9) rfl (by decide +kernel) rfl rfl (Nat.le_of_ble_eq_true rfl) dX4_addExposure_86 (fun H locs hP hD hS => ?_)
            have hP : va_P D vwCl (mws cI am g n k tb my lt 2) H := zP_re hP (mws_sth).symm
            have hD : va_D A (mws cI am g n k tb my lt 2) := zD_re hD (mws_sth).symm
            refine lv_aload_n hx hb dX4_addExposure_89 rfl (lv_at hl 1 rfl) ?_
            refine va_get (D := D) (ci := 4) (v := .int 2) (C := RX4) (T := TX4) (N := 23) hx hb hts iX4 hown hK hP 0 mws_0 rfl 22 (by decide) (hts (.fieldLink RX4 68 "CapitalReckonerModel" "thrown" "I") (by decide +kernel)) (fun _ h9 => h9) rfl dX4_addExposure_90 ?_
            refine lv_if_le (tgt := 98) hx hb dX4_addExposure_93 (by decide) (fun c_38 => absurd c_38 (by decide)) (fun c_38 => ?_)
            refine lv_iconst (v := 0) hx hb dX4_addExposure_96 (by decide) ?_
            have hT : T_addExposure n a0 a1 a2 a3 a4 a5 = 2 := by simp [T_addExposure, c_3, c_16, c_29, c_32, c_36]
            exact ziret (v := 0) hx hb hr hAe (fun h => absurd (hT.symm.trans h) (by decide)) (zP_re hP (by rw [hT]; first | done | rfl)) (zD_re hD (by rw [hT]; first | done | rfl)) hS dX4_addExposure_97
          · have c_36 := zb_eq c_36
            refine lv_iconst (v := 1) hx hb dX4_addExposure_59 (by decide) ?_
            refine lv_goto (tgt := 86) hx hb dX4_addExposure_60 (by decide) ?_
            refine va_put (D := D) (ci := 4) (v := .int 1) (ty := .int) (C := RX4) (T := TX4) (N := 23) hx hb hts iX4 tyX4 tyX4_ok nmX4 hown hK hP hD hS 0 mws_0 rfl 22 (by decide) (hts (.fieldLink RX4 68 "CapitalReckonerModel" "thrown" "I") (by decide +kernel)) (fun _ h9 => h9) rfl (by decide +kernel) rfl rfl (Nat.le_of_ble_eq_true rfl) dX4_addExposure_86 (fun H locs hP hD hS => ?_)
            have hP : va_P D vwCl (mws cI am g n k tb my lt 1) H := zP_re hP (mws_sth).symm
            have hD : va_D A (mws cI am g n k tb my lt 1) := zD_re hD (mws_sth).symm
            refine lv_aload_n hx hb dX4_addExposure_89 rfl (lv_at hl 1 rfl) ?_
            refine va_get (D := D) (ci := 4) (v := .int 1) (C := RX4) (T := TX4) (N := 23) hx hb hts iX4 hown hK hP 0 mws_0 rfl 22 (by decide) (hts (.fieldLink RX4 68 "CapitalReckonerModel" "thrown" "I") (by decide +kernel)) (fun _ h9 => h9) rfl dX4_addExposure_90 ?_
            refine lv_if_le (tgt := 98) hx hb dX4_addExposure_93 (by decide) (fun c_39 => absurd c_39 (by decide)) (fun c_39 => ?_)
            refine lv_iconst (v := 0) hx hb dX4_addExposure_96 (by decide) ?_
            have hT : T_addExposure n a0 a1 a2 a3 a4 a5 = 1 := by simp [T_addExposure, c_3, c_16, c_29, c_32, c_36]
            exact ziret (v := 0) hx hb hr hAe (fun h => absurd (hT.symm.trans h) (by decide)) (zP_re hP (by rw [hT]; first | done | rfl)) (zD_re hD (by rw [hT]; first | done | rfl)) hS dX4_addExposure_97
      · have c_29 := zb_ne c_29
        refine lv_iload hx hb dX4_addExposure_25 (lv_at hl 6 rfl) ?_
        refine lv_iconst (v := 1) hx hb dX4_addExposure_27 (by decide) ?_
        refine lv_sipush (v := 3650) hx hb dX4_addExposure_28 (by decide) ?_
        refine vp_callSi (va_Run.run (va_runS (As := [.int a5, .int 1, .int 3650]) (rest := []) ⟨hx, hb, hml, hown, hts⟩ (zX4_isIn l D cI cL cE cP (mws cI am g n k tb my lt th) a5 1 3650) (va_cwS 3 hts gX4_addExposure_X4_isIn rfl rfl rfl (by decide +kernel) ⟨Nat.le_of_ble_eq_true rfl, Nat.le_of_ble_eq_true rfl⟩) ⟨zPr_blind, zPr_mk hE hP⟩ rfl rfl hl.1 rfl (lv_room (Nat.le_of_ble_eq_true rfl)) dX4_addExposure_31 ⟨Nat.le_of_ble_eq_true rfl, Nat.le_of_ble_eq_true rfl⟩)) (fun r_40 e_41 => ?_)
        obtain rfl := e_41
        refine lv_if_eq (tgt := 41) hx hb dX4_addExposure_34 (by decide) (fun c_42 => ?_) (fun c_42 => ?_)
        · have c_42 := zb_eq c_42
          refine lv_iconst (v := 0) hx hb dX4_addExposure_41 (by decide) ?_
          refine lv_istore (lv' := [(7, .int 0), (0, .ref (am 0)), (1, .int a0), (2, .int a1), (3, .int a2), (4, .int a3), (5, .int a4), (6, .int a5)]) hx hb dX4_addExposure_42 hl (by decide) rfl (fun ls hl => ?_)
          refine lv_aload_n hx hb dX4_addExposure_44 rfl (lv_at hl 1 rfl) ?_
          refine lv_iload_n hx hb dX4_addExposure_45 rfl (lv_at hl 2 rfl) ?_
          refine vp_callSi (va_Run.run (va_runS (As := [.int a0]) (rest := [.ref (am 0)]) ⟨hx, hb, hml, hown, hts⟩ (zX4_isFour l D cI cL cE cP (mws cI am g n k tb my lt th) a0) (va_cwS 1 hts gX4_addExposure_X4_isFour rfl rfl rfl (by decide +kernel) ⟨Nat.le_of_ble_eq_true rfl, Nat.le_of_ble_eq_true rfl⟩) ⟨zPr_blind, zPr_mk hE hP⟩ rfl rfl hl.1 rfl (lv_room (Nat.le_of_ble_eq_true rfl)) dX4_addExposure_46 ⟨Nat.le_of_ble_eq_true rfl, Nat.le_of_ble_eq_true rfl⟩)) (fun r_43 e_44 => ?_)
          obtain rfl := e_44
          refine lv_if_eq (tgt := 59) hx hb dX4_addExposure_49 (by decide) (fun c_45 => ?_) (fun c_45 => ?_)
          · have c_45 := zb_eq c_45
            refine lv_iconst (v := 1) hx hb dX4_addExposure_59 (by decide) ?_
            refine lv_goto (tgt := 86) hx hb dX4_addExposure_60 (by decide) ?_
            refine va_put (D := D) (ci := 4) (v := .int 1) (ty := .int) (C := RX4) (T := TX4) (N := 23) hx hb hts iX4 tyX4 tyX4_ok nmX4 hown hK hP hD hS 0 mws_0 rfl 22 (by decide) (hts (.fieldLink RX4 68 "CapitalReckonerModel" "thrown" "I") (by decide +kernel)) (fun _ h9 => h9) rfl (by decide +kernel) rfl rfl (Nat.le_of_ble_eq_true rfl) dX4_addExposure_86 (fun H locs hP hD hS => ?_)
            have hP : va_P D vwCl (mws cI am g n k tb my lt 1) H := zP_re hP (mws_sth).symm
            have hD : va_D A (mws cI am g n k tb my lt 1) := zD_re hD (mws_sth).symm
            refine lv_aload_n hx hb dX4_addExposure_89 rfl (lv_at hl 1 rfl) ?_
            refine va_get (D := D) (ci := 4) (v := .int 1) (C := RX4) (T := TX4) (N := 23) hx hb hts iX4 hown hK hP 0 mws_0 rfl 22 (by decide) (hts (.fieldLink RX4 68 "CapitalReckonerModel" "thrown" "I") (by decide +kernel)) (fun _ h9 => h9) rfl dX4_addExposure_90 ?_
            refine lv_if_le (tgt := 98) hx hb dX4_addExposure_93 (by decide) (fun c_46 => absurd c_46 (by decide)) (fun c_46 => ?_)
            refine lv_iconst (v := 0) hx hb dX4_addExposure_96 (by decide) ?_
            have hT : T_addExposure n a0 a1 a2 a3 a4 a5 = 1 := by simp [T_addExposure, c_3, c_16, c_29, c_42, c_45]
            exact ziret (v := 0) hx hb hr hAe (fun h => absurd (hT.symm.trans h) (by decide)) (zP_re hP (by rw [hT]; first | done | rfl)) (zD_re hD (by rw [hT]; first | done | rfl)) hS dX4_addExposure_97
          · have c_45 := zb_ne c_45
            refine lv_iload_n hx hb dX4_addExposure_52 rfl (lv_at hl 3 rfl) ?_
            refine vp_callSi (va_Run.run (va_runS (As := [.int a1]) (rest := [.ref (am 0)]) ⟨hx, hb, hml, hown, hts⟩ (zX4_isFour l D cI cL cE cP (mws cI am g n k tb my lt th) a1) (va_cwS 1 hts gX4_addExposure_X4_isFour rfl rfl rfl (by decide +kernel) ⟨Nat.le_of_ble_eq_true rfl, Nat.le_of_ble_eq_true rfl⟩) ⟨zPr_blind, zPr_mk hE hP⟩ rfl rfl hl.1 rfl (lv_room (Nat.le_of_ble_eq_true rfl)) dX4_addExposure_53 ⟨Nat.le_of_ble_eq_true rfl, Nat.le_of_ble_eq_true rfl⟩)) (fun r_47 e_48 => ?_)
            obtain rfl := e_48
            refine lv_if_ne (tgt := 63) hx hb dX4_addExposure_56 (by decide) (fun c_49 => ?_) (fun c_49 => ?_)
            · have c_49 := zb_ne c_49
              refine lv_iload hx hb dX4_addExposure_63 (lv_at hl 0 rfl) ?_
              refine lv_if_ne (tgt := 72) hx hb dX4_addExposure_65 (by decide) (fun c_50 => absurd c_50 (by decide)) (fun c_50 => ?_)
              refine lv_iconst (v := 2) hx hb dX4_addExposure_68 (by decide) ?_
              refine lv_goto (tgt := 86) hx hb dX4_addExposure_69 (by decide) ?_
              refine va_put (D := D) (ci := 4) (v := .int 2) (ty := .int) (C := RX4) (T := TX4) (N := 23) hx hb hts iX4 tyX4 tyX4_ok nmX4 hown hK hP hD hS 0 mws_0 rfl 22 (by decide) (hts (.fieldLink RX4 68 "CapitalReckonerModel" "thrown" "I") (by decide +kernel)) (fun _ h9 => h9) rfl (by decide +kernel) rfl rfl (Nat.le_of_ble_eq_true rfl) dX4_addExposure_86 (fun H locs hP hD hS => ?_)
              have hP : va_P D vwCl (mws cI am g n k tb my lt 2) H := zP_re hP (mws_sth).symm
              have hD : va_D A (mws cI am g n k tb my lt 2) := zD_re hD (mws_sth).symm
              refine lv_aload_n hx hb dX4_addExposure_89 rfl (lv_at hl 1 rfl) ?_
              refine va_get (D := D) (ci := 4) (v := .int 2) (C := RX4) (T := TX4) (N := 23) hx hb hts iX4 hown hK hP 0 mws_0 rfl 22 (by decide) (hts (.fieldLink RX4 68 "CapitalReckonerModel" "thrown" "I") (by decide +kernel)) (fun _ h9 => h9) rfl dX4_addExposure_90 ?_
              refine lv_if_le (tgt := 98) hx hb dX4_addExposure_93 (by decide) (fun c_51 => absurd c_51 (by decide)) (fun c_51 => ?_)
              refine lv_iconst (v := 0) hx hb dX4_addExposure_96 (by decide) ?_
              have hT : T_addExposure n a0 a1 a2 a3 a4 a5 = 2 := by simp [T_addExposure, c_3, c_16, c_29, c_42, c_45, c_49]
              exact ziret (v := 0) hx hb hr hAe (fun h => absurd (hT.symm.trans h) (by decide)) (zP_re hP (by rw [hT]; first | done | rfl)) (zD_re hD (by rw [hT]; first | done | rfl)) hS dX4_addExposure_97
            · have c_49 := zb_eq c_49
              refine lv_iconst (v := 1) hx hb dX4_addExposure_59 (by decide) ?_
              refine lv_goto (tgt := 86) hx hb dX4_addExposure_60 (by decide) ?_
              refine va_put (D := D) (ci := 4) (v := .int 1) (ty := .int) (C := RX4) (T := TX4) (N := 23) hx hb hts iX4 tyX4 tyX4_ok nmX4 hown hK hP hD hS 0 mws_0 rfl 22 (by decide) (hts (.fieldLink RX4 68 "CapitalReckonerModel" "thrown" "I") (by decide +kernel)) (fun _ h9 => h9) rfl (by decide +kernel) rfl rfl (Nat.le_of_ble_eq_true rfl) dX4_addExposure_86 (fun H locs hP hD hS => ?_)
              have hP : va_P D vwCl (mws cI am g n k tb my lt 1) H := zP_re hP (mws_sth).symm
              have hD : va_D A (mws cI am g n k tb my lt 1) := zD_re hD (mws_sth).symm
              refine lv_aload_n hx hb dX4_addExposure_89 rfl (lv_at hl 1 rfl) ?_
              refine va_get (D := D) (ci := 4) (v := .int 1) (C := RX4) (T := TX4) (N := 23) hx hb hts iX4 hown hK hP 0 mws_0 rfl 22 (by decide) (hts (.fieldLink RX4 68 "CapitalReckonerModel" "thrown" "I") (by decide +kernel)) (fun _ h9 => h9) rfl dX4_addExposure_90 ?_
              refine lv_if_le (tgt := 98) hx hb dX4_addExposure_93 (by decide) (fun c_52 => absurd c_52 (by decide)) (fun c_52 => ?_)
              refine lv_iconst (v := 0) hx hb dX4_addExposure_96 (by decide) ?_
              have hT : T_addExposure n a0 a1 a2 a3 a4 a5 = 1 := by simp [T_addExposure, c_3, c_16, c_29, c_42, c_45, c_49]
              exact ziret (v := 0) hx hb hr hAe (fun h => absurd (hT.symm.trans h) (by decide)) (zP_re hP (by rw [hT]; first | done | rfl)) (zD_re hD (by rw [hT]; first | done | rfl)) hS dX4_addExposure_97
        · have c_42 := zb_ne c_42
          refine lv_iconst (v := 1) hx hb dX4_addExposure_37 (by decide) ?_
          refine lv_goto (tgt := 42) hx hb dX4_addExposure_38 (by decide) ?_
          refine lv_istore (lv' := [(7, .int 1), (0, .ref (am 0)), (1, .int a0), (2, .int a1), (3, .int a2), (4, .int a3), (5, .int a4), (6, .int a5)]) hx hb dX4_addExposure_42 hl (by decide) rfl (fun ls hl => ?_)
          refine lv_aload_n hx hb dX4_addExposure_44 rfl (lv_at hl 1 rfl) ?_
          refine lv_iload_n hx hb dX4_addExposure_45 rfl (lv_at hl 2 rfl) ?_
          refine vp_callSi (va_Run.run (va_runS (As := [.int a0]) (rest := [.ref (am 0)]) ⟨hx, hb, hml, hown, hts⟩ (zX4_isFour l D cI cL cE cP (mws cI am g n k tb my lt th) a0) (va_cwS 1 hts gX4_addExposure_X4_isFour rfl rfl rfl (by decide +kernel) ⟨Nat.le_of_ble_eq_true rfl, Nat.le_of_ble_eq_true rfl⟩) ⟨zPr_blind, zPr_mk hE hP⟩ rfl rfl hl.1 rfl (lv_room (Nat.le_of_ble_eq_true rfl)) dX4_addExposure_46 ⟨Nat.le_of_ble_eq_true rfl, Nat.le_of_ble_eq_true rfl⟩)) (fun r_53 e_54 => ?_)
          obtain rfl := e_54
          refine lv_if_eq (tgt := 59) hx hb dX4_addExposure_49 (by decide) (fun c_55 => ?_) (fun c_55 => ?_)
          · have c_55 := zb_eq c_55
            refine lv_iconst (v := 1) hx hb dX4_addExposure_59 (by decide) ?_
            refine lv_goto (tgt := 86) hx hb dX4_addExposure_60 (by decide) ?_
            refine va_put (D := D) (ci := 4) (v := .int 1) (ty := .int) (C := RX4) (T := TX4) (N := 23) hx hb hts iX4 tyX4 tyX4_ok nmX4 hown hK hP hD hS 0 mws_0 rfl 22 (by decide) (hts (.fieldLink RX4 68 "CapitalReckonerModel" "thrown" "I") (by decide +kernel)) (fun _ h9 => h9) rfl (by decide +kernel) rfl rfl (Nat.le_of_ble_eq_true rfl) dX4_addExposure_86 (fun H locs hP hD hS => ?_)
            have hP : va_P D vwCl (mws cI am g n k tb my lt 1) H := zP_re hP (mws_sth).symm
            have hD : va_D A (mws cI am g n k tb my lt 1) := zD_re hD (mws_sth).symm
            refine lv_aload_n hx hb dX4_addExposure_89 rfl (lv_at hl 1 rfl) ?_
            refine va_get (D := D) (ci := 4) (v := .int 1) (C := RX4) (T := TX4) (N := 23) hx hb hts iX4 hown hK hP 0 mws_0 rfl 22 (by decide) (hts (.fieldLink RX4 68 "CapitalReckonerModel" "thrown" "I") (by decide +kernel)) (fun _ h9 => h9) rfl dX4_addExposure_90 ?_
            refine lv_if_le (tgt := 98) hx hb dX4_addExposure_93 (by decide) (fun c_56 => absurd c_56 (by decide)) (fun c_56 => ?_)
            refine lv_iconst (v := 0) hx hb dX4_addExposure_96 (by decide) ?_
            have hT : T_addExposure n a0 a1 a2 a3 a4 a5 = 1 := by simp [T_addExposure, c_3, c_16, c_29, c_42, c_55]
            exact ziret (v := 0) hx hb hr hAe (fun h => absurd (hT.symm.trans h) (by decide)) (zP_re hP (by rw [hT]; first | done | rfl)) (zD_re hD (by rw [hT]; first | done | rfl)) hS dX4_addExposure_97
          · have c_55 := zb_ne c_55
            refine lv_iload_n hx hb dX4_addExposure_52 rfl (lv_at hl 3 rfl) ?_
            refine vp_callSi (va_Run.run (va_runS (As := [.int a1]) (rest := [.ref (am 0)]) ⟨hx, hb, hml, hown, hts⟩ (zX4_isFour l D cI cL cE cP (mws cI am g n k tb my lt th) a1) (va_cwS 1 hts gX4_addExposure_X4_isFour rfl rfl rfl (by decide +kernel) ⟨Nat.le_of_ble_eq_true rfl, Nat.le_of_ble_eq_true rfl⟩) ⟨zPr_blind, zPr_mk hE hP⟩ rfl rfl hl.1 rfl (lv_room (Nat.le_of_ble_eq_true rfl)) dX4_addExposure_53 ⟨Nat.le_of_ble_eq_true rfl, Nat.le_of_ble_eq_true rfl⟩)) (fun r_57 e_58 => ?_)
            obtain rfl := e_58
            refine lv_if_ne (tgt := 63) hx hb dX4_addExposure_56 (by decide) (fun c_59 => ?_) (fun c_59 => ?_)
            · have c_59 := zb_ne c_59
              refine lv_iload hx hb dX4_addExposure_63 (lv_at hl 0 rfl) ?_
              refine lv_if_ne (tgt := 72) hx hb dX4_addExposure_65 (by decide) (fun c_60 => ?_) (fun c_60 => absurd c_60 (by decide))
              refine lv_aload_n hx hb dX4_addExposure_72 rfl (lv_at hl 1 rfl) ?_
              refine va_get (D := D) (ci := 4) (v := .int (nI n)) (C := RX4) (T := TX4) (N := 23) hx hb hts iX4 hown hK hP 0 mws_0 rfl 4 (by decide) (hts (.fieldLink RX4 75 "CapitalReckonerModel" "exposures" "I") (by decide +kernel)) (fun _ h9 => h9) rfl dX4_addExposure_73 ?_
              refine lv_bipush (v := 8) hx hb dX4_addExposure_76 (by decide) ?_
              refine lv_icmp_ne (tgt := 85) hx hb dX4_addExposure_78 (by decide) (fun c_61 => ?_) (fun c_61 => ?_)
              · have c_61 := nI_n8 c_61
                refine lv_iconst (v := 0) hx hb dX4_addExposure_85 (by decide) ?_
                refine va_put (D := D) (ci := 4) (v := .int 0) (ty := .int) (C := RX4) (T := TX4) (N := 23) hx hb hts iX4 tyX4 tyX4_ok nmX4 hown hK hP hD hS 0 mws_0 rfl 22 (by decide) (hts (.fieldLink RX4 68 "CapitalReckonerModel" "thrown" "I") (by decide +kernel)) (fun _ h9 => h9) rfl (by decide +kernel) rfl rfl (Nat.le_of_ble_eq_true rfl) dX4_addExposure_86 (fun H locs hP hD hS => ?_)
                have hP : va_P D vwCl (mws cI am g n k tb my lt 0) H := zP_re hP (mws_sth).symm
                have hD : va_D A (mws cI am g n k tb my lt 0) := zD_re hD (mws_sth).symm
                refine lv_aload_n hx hb dX4_addExposure_89 rfl (lv_at hl 1 rfl) ?_
                refine va_get (D := D) (ci := 4) (v := .int 0) (C := RX4) (T := TX4) (N := 23) hx hb hts iX4 hown hK hP 0 mws_0 rfl 22 (by decide) (hts (.fieldLink RX4 68 "CapitalReckonerModel" "thrown" "I") (by decide +kernel)) (fun _ h9 => h9) rfl dX4_addExposure_90 ?_
                refine lv_if_le (tgt := 98) hx hb dX4_addExposure_93 (by decide) (fun c_62 => ?_) (fun c_62 => absurd c_62 (by decide))
                have hlt : n < 8 := by have := hok.n; omega
                refine lv_aload_n hx hb dX4_addExposure_98 rfl (lv_at hl 1 rfl) ?_
                refine va_get (D := D) (ci := 4) (v := .ref (am 3)) (C := RX4) (T := TX4) (N := 23) hx hb hts iX4 hown hK hP 0 mws_0 rfl 5 (by decide) (hts (.fieldLink RX4 20 "CapitalReckonerModel" "kind" "[I") (by decide +kernel)) (fun _ h9 => h9) rfl dX4_addExposure_99 ?_
                refine lv_aload_n hx hb dX4_addExposure_102 rfl (lv_at hl 1 rfl) ?_
                refine va_get (D := D) (ci := 4) (v := .int (nI n)) (C := RX4) (T := TX4) (N := 23) hx hb hts iX4 hown hK hP 0 mws_0 rfl 4 (by decide) (hts (.fieldLink RX4 75 "CapitalReckonerModel" "exposures" "I") (by decide +kernel)) (fun _ h9 => h9) rfl dX4_addExposure_103 ?_
                refine lv_iload_n hx hb dX4_addExposure_106 rfl (lv_at hl 2 rfl) ?_
                refine ziast (f2 := upd (g 3) n a0) hx hb hK hP hD hS 3 0 mws_3 rfl (vp_in_nI hlt (by decide)) (by rw [nI_clamp (by have := hok.n; omega)]; first | done | rfl) dX4_addExposure_107 (fun H locs hP hD hS => ?_)
                have hP : va_P D vwCl (mws cI am (gR g 3 (upd (g 3) n a0)) n k tb my lt 0) H := zP_re hP (mws_s3).symm
                have hD : va_D A (mws cI am (gR g 3 (upd (g 3) n a0)) n k tb my lt 0) := zD_re hD (mws_s3).symm
                refine lv_aload_n hx hb dX4_addExposure_108 rfl (lv_at hl 1 rfl) ?_
                refine va_get (D := D) (ci := 4) (v := .ref (am 4)) (C := RX4) (T := TX4) (N := 23) hx hb hts iX4 hown hK hP 0 mws_0 rfl 6 (by decide) (hts (.fieldLink RX4 23 "CapitalReckonerModel" "party" "[I") (by decide +kernel)) (fun _ h9 => h9) rfl dX4_addExposure_109 ?_
                refine lv_aload_n hx hb dX4_addExposure_112 rfl (lv_at hl 1 rfl) ?_
                refine va_get (D := D) (ci := 4) (v := .int (nI n)) (C := RX4) (T := TX4) (N := 23) hx hb hts iX4 hown hK hP 0 mws_0 rfl 4 (by decide) (hts (.fieldLink RX4 75 "CapitalReckonerModel" "exposures" "I") (by decide +kernel)) (fun _ h9 => h9) rfl dX4_addExposure_113 ?_
                refine lv_iload_n hx hb dX4_addExposure_116 rfl (lv_at hl 3 rfl) ?_
                refine ziast (f2 := upd (g 4) n a1) hx hb hK hP hD hS 4 0 mws_4 rfl (vp_in_nI hlt (by decide)) (by rw [nI_clamp (by have := hok.n; omega)]; first | done | rfl) dX4_addExposure_117 (fun H locs hP hD hS => ?_)
                have hP : va_P D vwCl (mws cI am (gR (gR g 3 (upd (g 3) n a0)) 4 (upd (g 4) n a1)) n k tb my lt 0) H := zP_re hP (mws_s4).symm
                have hD : va_D A (mws cI am (gR (gR g 3 (upd (g 3) n a0)) 4 (upd (g 4) n a1)) n k tb my lt 0) := zD_re hD (mws_s4).symm
                refine lv_aload_n hx hb dX4_addExposure_118 rfl (lv_at hl 1 rfl) ?_
                refine va_get (D := D) (ci := 4) (v := .ref (am 5)) (C := RX4) (T := TX4) (N := 23) hx hb hts iX4 hown hK hP 0 mws_0 rfl 7 (by decide) (hts (.fieldLink RX4 26 "CapitalReckonerModel" "drawn" "[I") (by decide +kernel)) (fun _ h9 => h9) rfl dX4_addExposure_119 ?_
                refine lv_aload_n hx hb dX4_addExposure_122 rfl (lv_at hl 1 rfl) ?_
                refine va_get (D := D) (ci := 4) (v := .int (nI n)) (C := RX4) (T := TX4) (N := 23) hx hb hts iX4 hown hK hP 0 mws_0 rfl 4 (by decide) (hts (.fieldLink RX4 75 "CapitalReckonerModel" "exposures" "I") (by decide +kernel)) (fun _ h9 => h9) rfl dX4_addExposure_123 ?_
                refine lv_iload_n hx hb dX4_addExposure_126 rfl (lv_at hl 4 rfl) ?_
                refine ziast (f2 := upd (g 5) n a2) hx hb hK hP hD hS 5 0 mws_5 rfl (vp_in_nI hlt (by decide)) (by rw [nI_clamp (by have := hok.n; omega)]; first | done | rfl) dX4_addExposure_127 (fun H locs hP hD hS => ?_)
                have hP : va_P D vwCl (mws cI am (gR (gR (gR g 3 (upd (g 3) n a0)) 4 (upd (g 4) n a1)) 5 (upd (g 5) n a2)) n k tb my lt 0) H := zP_re hP (mws_s5).symm
                have hD : va_D A (mws cI am (gR (gR (gR g 3 (upd (g 3) n a0)) 4 (upd (g 4) n a1)) 5 (upd (g 5) n a2)) n k tb my lt 0) := zD_re hD (mws_s5).symm
                refine lv_aload_n hx hb dX4_addExposure_128 rfl (lv_at hl 1 rfl) ?_
                refine va_get (D := D) (ci := 4) (v := .ref (am 6)) (C := RX4) (T := TX4) (N := 23) hx hb hts iX4 hown hK hP 0 mws_0 rfl 8 (by decide) (hts (.fieldLink RX4 29 "CapitalReckonerModel" "promised" "[I") (by decide +kernel)) (fun _ h9 => h9) rfl dX4_addExposure_129 ?_
                refine lv_aload_n hx hb dX4_addExposure_132 rfl (lv_at hl 1 rfl) ?_
                refine va_get (D := D) (ci := 4) (v := .int (nI n)) (C := RX4) (T := TX4) (N := 23) hx hb hts iX4 hown hK hP 0 mws_0 rfl 4 (by decide) (hts (.fieldLink RX4 75 "CapitalReckonerModel" "exposures" "I") (by decide +kernel)) (fun _ h9 => h9) rfl dX4_addExposure_133 ?_
                refine lv_iload hx hb dX4_addExposure_136 (lv_at hl 5 rfl) ?_
                refine ziast (f2 := upd (g 6) n a3) hx hb hK hP hD hS 6 0 mws_6 rfl (vp_in_nI hlt (by decide)) (by rw [nI_clamp (by have := hok.n; omega)]; first | done | rfl) dX4_addExposure_138 (fun H locs hP hD hS => ?_)
                have hP : va_P D vwCl (mws cI am (gR (gR (gR (gR g 3 (upd (g 3) n a0)) 4 (upd (g 4) n a1)) 5 (upd (g 5) n a2)) 6 (upd (g 6) n a3)) n k tb my lt 0) H := zP_re hP (mws_s6).symm
                have hD : va_D A (mws cI am (gR (gR (gR (gR g 3 (upd (g 3) n a0)) 4 (upd (g 4) n a1)) 5 (upd (g 5) n a2)) 6 (upd (g 6) n a3)) n k tb my lt 0) := zD_re hD (mws_s6).symm
                refine lv_aload_n hx hb dX4_addExposure_139 rfl (lv_at hl 1 rfl) ?_
                refine va_get (D := D) (ci := 4) (v := .ref (am 7)) (C := RX4) (T := TX4) (N := 23) hx hb hts iX4 hown hK hP 0 mws_0 rfl 9 (by decide) (hts (.fieldLink RX4 32 "CapitalReckonerModel" "currency" "[I") (by decide +kernel)) (fun _ h9 => h9) rfl dX4_addExposure_140 ?_
                refine lv_aload_n hx hb dX4_addExposure_143 rfl (lv_at hl 1 rfl) ?_
                refine va_get (D := D) (ci := 4) (v := .int (nI n)) (C := RX4) (T := TX4) (N := 23) hx hb hts iX4 hown hK hP 0 mws_0 rfl 4 (by decide) (hts (.fieldLink RX4 75 "CapitalReckonerModel" "exposures" "I") (by decide +kernel)) (fun _ h9 => h9) rfl dX4_addExposure_144 ?_
                refine lv_iload hx hb dX4_addExposure_147 (lv_at hl 6 rfl) ?_
                refine ziast (f2 := upd (g 7) n a4) hx hb hK hP hD hS 7 0 mws_7 rfl (vp_in_nI hlt (by decide)) (by rw [nI_clamp (by have := hok.n; omega)]; first | done | rfl) dX4_addExposure_149 (fun H locs hP hD hS => ?_)
                have hP : va_P D vwCl (mws cI am (gR (gR (gR (gR (gR g 3 (upd (g 3) n a0)) 4 (upd (g 4) n a1)) 5 (upd (g 5) n a2)) 6 (upd (g 6) n a3)) 7 (upd (g 7) n a4)) n k tb my lt 0) H := zP_re hP (mws_s7).symm
                have hD : va_D A (mws cI am (gR (gR (gR (gR (gR g 3 (upd (g 3) n a0)) 4 (upd (g 4) n a1)) 5 (upd (g 5) n a2)) 6 (upd (g 6) n a3)) 7 (upd (g 7) n a4)) n k tb my lt 0) := zD_re hD (mws_s7).symm
                refine lv_aload_n hx hb dX4_addExposure_150 rfl (lv_at hl 1 rfl) ?_
                refine va_get (D := D) (ci := 4) (v := .ref (am 8)) (C := RX4) (T := TX4) (N := 23) hx hb hts iX4 hown hK hP 0 mws_0 rfl 10 (by decide) (hts (.fieldLink RX4 35 "CapitalReckonerModel" "days" "[I") (by decide +kernel)) (fun _ h9 => h9) rfl dX4_addExposure_151 ?_
                refine lv_aload_n hx hb dX4_addExposure_154 rfl (lv_at hl 1 rfl) ?_
                refine va_get (D := D) (ci := 4) (v := .int (nI n)) (C := RX4) (T := TX4) (N := 23) hx hb hts iX4 hown hK hP 0 mws_0 rfl 4 (by decide) (hts (.fieldLink RX4 75 "CapitalReckonerModel" "exposures" "I") (by decide +kernel)) (fun _ h9 => h9) rfl dX4_addExposure_155 ?_
                refine lv_iload hx hb dX4_addExposure_158 (lv_at hl 7 rfl) ?_
                refine ziast (f2 := upd (g 8) n a5) hx hb hK hP hD hS 8 0 mws_8 rfl (vp_in_nI hlt (by decide)) (by rw [nI_clamp (by have := hok.n; omega)]; first | done | rfl) dX4_addExposure_160 (fun H locs hP hD hS => ?_)
                have hP : va_P D vwCl (mws cI am (gR (gR (gR (gR (gR (gR g 3 (upd (g 3) n a0)) 4 (upd (g 4) n a1)) 5 (upd (g 5) n a2)) 6 (upd (g 6) n a3)) 7 (upd (g 7) n a4)) 8 (upd (g 8) n a5)) n k tb my lt 0) H := zP_re hP (mws_s8).symm
                have hD : va_D A (mws cI am (gR (gR (gR (gR (gR (gR g 3 (upd (g 3) n a0)) 4 (upd (g 4) n a1)) 5 (upd (g 5) n a2)) 6 (upd (g 6) n a3)) 7 (upd (g 7) n a4)) 8 (upd (g 8) n a5)) n k tb my lt 0) := zD_re hD (mws_s8).symm
                refine lv_aload_n hx hb dX4_addExposure_161 rfl (lv_at hl 1 rfl) ?_
                refine lv_dup hx hb dX4_addExposure_162 rfl ?_
                refine va_get (D := D) (ci := 4) (v := .int (nI n)) (C := RX4) (T := TX4) (N := 23) hx hb hts iX4 hown hK hP 0 mws_0 rfl 4 (by decide) (hts (.fieldLink RX4 75 "CapitalReckonerModel" "exposures" "I") (by decide +kernel)) (fun _ h9 => h9) rfl dX4_addExposure_163 ?_
                refine lv_iconst (v := 1) hx hb dX4_addExposure_166 (by decide) ?_
                refine lv_iadd hx hb dX4_addExposure_167 ?_
                rw [show ((nI n) + 1) = nI (n + 1) from nI_1 n]
                refine va_put (D := D) (ci := 4) (v := .int (nI (n + 1))) (ty := .int) (C := RX4) (T := TX4) (N := 23) hx hb hts iX4 tyX4 tyX4_ok nmX4 hown hK hP hD hS 0 mws_0 rfl 4 (by decide) (hts (.fieldLink RX4 75 "CapitalReckonerModel" "exposures" "I") (by decide +kernel)) (fun _ h9 => h9) rfl (by decide +kernel) rfl rfl (Nat.le_of_ble_eq_true rfl) dX4_addExposure_168 (fun H locs hP hD hS => ?_)
                have hP : va_P D vwCl (mws cI am (gR (gR (gR (gR (gR (gR g 3 (upd (g 3) n a0)) 4 (upd (g 4) n a1)) 5 (upd (g 5) n a2)) 6 (upd (g 6) n a3)) 7 (upd (g 7) n a4)) 8 (upd (g 8) n a5)) (n + 1) k tb my lt 0) H := zP_re hP (mws_sn).symm
                have hD : va_D A (mws cI am (gR (gR (gR (gR (gR (gR g 3 (upd (g 3) n a0)) 4 (upd (g 4) n a1)) 5 (upd (g 5) n a2)) 6 (upd (g 6) n a3)) 7 (upd (g 7) n a4)) 8 (upd (g 8) n a5)) (n + 1) k tb my lt 0) := zD_re hD (mws_sn).symm
                refine lv_aload_n hx hb dX4_addExposure_171 rfl (lv_at hl 1 rfl) ?_
                refine va_get (D := D) (ci := 4) (v := .int (nI (n + 1))) (C := RX4) (T := TX4) (N := 23) hx hb hts iX4 hown hK hP 0 mws_0 rfl 4 (by decide) (hts (.fieldLink RX4 75 "CapitalReckonerModel" "exposures" "I") (by decide +kernel)) (fun _ h9 => h9) rfl dX4_addExposure_172 ?_
                refine lv_iconst (v := 1) hx hb dX4_addExposure_175 (by decide) ?_
                refine lv_isub hx hb dX4_addExposure_176 ?_
                have hT : T_addExposure n a0 a1 a2 a3 a4 a5 = 0 := by simp [T_addExposure, c_3, c_16, c_29, c_42, c_55, c_59, c_61]
                exact ziret (v := (nI (n + 1)) - 1) hx hb hr hAe (fun _ => nI_pred n) (zP_re hP (by rw [hT]; first | done | rfl)) (zD_re hD (by rw [hT]; first | done | rfl)) hS dX4_addExposure_177
              · have c_61 := nI_8 hok.n c_61
                refine lv_iconst (v := 3) hx hb dX4_addExposure_81 (by decide) ?_
                refine lv_goto (tgt := 86) hx hb dX4_addExposure_82 (by decide) ?_
                refine va_put (D := D) (ci := 4) (v := .int 3) (ty := .int) (C := RX4) (T := TX4) (N := 23) hx hb hts iX4 tyX4 tyX4_ok nmX4 hown hK hP hD hS 0 mws_0 rfl 22 (by decide) (hts (.fieldLink RX4 68 "CapitalReckonerModel" "thrown" "I") (by decide +kernel)) (fun _ h9 => h9) rfl (by decide +kernel) rfl rfl (Nat.le_of_ble_eq_true rfl) dX4_addExposure_86 (fun H locs hP hD hS => ?_)
                have hP : va_P D vwCl (mws cI am g n k tb my lt 3) H := zP_re hP (mws_sth).symm
                have hD : va_D A (mws cI am g n k tb my lt 3) := zD_re hD (mws_sth).symm
                refine lv_aload_n hx hb dX4_addExposure_89 rfl (lv_at hl 1 rfl) ?_
                refine va_get (D := D) (ci := 4) (v := .int 3) (C := RX4) (T := TX4) (N := 23) hx hb hts iX4 hown hK hP 0 mws_0 rfl 22 (by decide) (hts (.fieldLink RX4 68 "CapitalReckonerModel" "thrown" "I") (by decide +kernel)) (fun _ h9 => h9) rfl dX4_addExposure_90 ?_
                refine lv_if_le (tgt := 98) hx hb dX4_addExposure_93 (by decide) (fun c_63 => absurd c_63 (by decide)) (fun c_63 => ?_)
                refine lv_iconst (v := 0) hx hb dX4_addExposure_96 (by decide) ?_
                have hT : T_addExposure n a0 a1 a2 a3 a4 a5 = 3 := by simp [T_addExposure, c_3, c_16, c_29, c_42, c_55, c_59, c_61]
                exact ziret (v := 0) hx hb hr hAe (fun h => absurd (hT.symm.trans h) (by decide)) (zP_re hP (by rw [hT]; first | done | rfl)) (zD_re hD (by rw [hT]; first | done | rfl)) hS dX4_addExposure_97
            · have c_59 := zb_eq c_59
              refine lv_iconst (v := 1) hx hb dX4_addExposure_59 (by decide) ?_
              refine lv_goto (tgt := 86) hx hb dX4_addExposure_60 (by decide) ?_
              refine va_put (D := D) (ci := 4) (v := .int 1) (ty := .int) (C := RX4) (T := TX4) (N := 23) hx hb hts iX4 tyX4 tyX4_ok nmX4 hown hK hP hD hS 0 mws_0 rfl 22 (by decide) (hts (.fieldLink RX4 68 "CapitalReckonerModel" "thrown" "I") (by decide +kernel)) (fun _ h9 => h9) rfl (by decide +kernel) rfl rfl (Nat.le_of_ble_eq_true rfl) dX4_addExposure_86 (fun H locs hP hD hS => ?_)
              have hP : va_P D vwCl (mws cI am g n k tb my lt 1) H := zP_re hP (mws_sth).symm
              have hD : va_D A (mws cI am g n k tb my lt 1) := zD_re hD (mws_sth).symm
              refine lv_aload_n hx hb dX4_addExposure_89 rfl (lv_at hl 1 rfl) ?_
              refine va_get (D := D) (ci := 4) (v := .int 1) (C := RX4) (T := TX4) (N := 23) hx hb hts iX4 hown hK hP 0 mws_0 rfl 22 (by decide) (hts (.fieldLink RX4 68 "CapitalReckonerModel" "thrown" "I") (by decide +kernel)) (fun _ h9 => h9) rfl dX4_addExposure_90 ?_
              refine lv_if_le (tgt := 98) hx hb dX4_addExposure_93 (by decide) (fun c_64 => absurd c_64 (by decide)) (fun c_64 => ?_)
              refine lv_iconst (v := 0) hx hb dX4_addExposure_96 (by decide) ?_
              have hT : T_addExposure n a0 a1 a2 a3 a4 a5 = 1 := by simp [T_addExposure, c_3, c_16, c_29, c_42, c_55, c_59]
              exact ziret (v := 0) hx hb hr hAe (fun h => absurd (hT.symm.trans h) (by decide)) (zP_re hP (by rw [hT]; first | done | rfl)) (zD_re hD (by rw [hT]; first | done | rfl)) hS dX4_addExposure_97
set_option maxHeartbeats 4000000 in
set_option maxRecDepth 100000 in
theorem zX4_addPiece (l : Launch) (D : va_G) (cI cL cE cP : ClassId) (am : Nat → Nat) (g : Nat → Nat → Int32) (n k : Nat) (tb my lt : Nat → Int32) (th : Int32) (hok : zOk g n k) (a0 a1 a2 a3 a4 : Int32) (sz : Nat) : Met l yX4_addPiece wsX4_addPiece ({ frames := 1, cells := 0, slots := 0, locals := 22 }) (zPw D cI cL cE cP (mws cI am g n k tb my lt th) sz [.ref (am 0), .int a0, .int a1, .int a2, .int a3, .int a4]) (zQi D (mws cI am g n k tb my lt th) sz (fun r : Int32 => (T_addPiece k a0 a1 a2 a3 a4 = 0 → r = nI k)) (mws cI am (if T_addPiece k a0 a1 a2 a3 a4 = 0 then gR (gR (gR (gR (gR g 11 (upd (g 11) k a0)) 12 (upd (g 12) k a1)) 13 (upd (g 13) k a2)) 14 (upd (g 14) k a3)) 15 (upd (g 15) k a4) else g) n (if T_addPiece k a0 a1 a2 a3 a4 = 0 then k + 1 else k) tb my lt (T_addPiece k a0 a1 a2 a3 a4))) 0 0 (va_A (mws cI am g n k tb my lt th) sz) := by
  refine Met.ofW (cc := cX4_addPiece) (maxL := 7) (ret := (some .int)) (by decide) rfl ?_
  intro p e s m args below meth c s₁ B hml hv
  obtain ⟨rfl, hsz, hE, hP, hD0⟩ := hv
  subst hsz
  obtain ⟨A, hAe⟩ : ∃ A, A = va_A (mws cI am g n k tb my lt th) s.heap.size := ⟨_, rfl⟩
  have hD : va_D A (mws cI am g n k tb my lt th) := by rw [hAe]; exact hD0.self
  have hA : ∀ q : Nat, s.heap.size ≤ q → A q := fun q h => by rw [hAe]; exact Or.inr h
  have hS : va_S A s.heap s.heap [] := va_S.rf
  have hx := B.exec
  have hb := B.bytes
  have hr := B.returns
  have hts := atoms_spec (ws := wsX4_addPiece) B.pre
  have hown : s.vm.findClass RX4 = some m.cls := findClass_of_methodNamed B.named
  have hlocks := B.notSynchronized
  have hK := hE.1
  have iX4 : ∀ w ∈ wsX40, w ∈ wsX4_addPiece := by decide +kernel
  have hl := lv_entry ([.ref (am 0), .int a0, .int a1, .int a2, .int a3, .int a4]) (n := 7) (Nat.le_of_ble_eq_true rfl)
  rw [lg_entry_eq]
  generalize (lg_sl ([.ref (am 0), .int a0, .int a1, .int a2, .int a3, .int a4]) ++ List.replicate (7 - (lg_sl ([.ref (am 0), .int a0, .int a1, .int a2, .int a3, .int a4])).length) Slot.unset).toArray = ls at hl ⊢
  have hl : lv_has ls 7 [(0, .ref (am 0)), (1, .int a0), (2, .int a1), (3, .int a2), (4, .int a3), (5, .int a4)] := hl
  refine lv_iload_n hx hb dX4_addPiece_0 rfl (lv_at hl 1 rfl) ?_
  refine lv_iconst (v := 1) hx hb dX4_addPiece_1 (by decide) ?_
  refine lv_ldc (v := 10000000) hx hb hown (hts (.constant RX4 91 (10000000)) (by decide +kernel)) dX4_addPiece_2 ?_
  refine vp_callSi (va_Run.run (va_runS (As := [.int a0, .int 1, .int 10000000]) (rest := []) ⟨hx, hb, hml, hown, hts⟩ (zX4_isIn l D cI cL cE cP (mws cI am g n k tb my lt th) a0 1 10000000) (va_cwS 3 hts gX4_addPiece_X4_isIn rfl rfl rfl (by decide +kernel) ⟨Nat.le_of_ble_eq_true rfl, Nat.le_of_ble_eq_true rfl⟩) ⟨zPr_blind, zPr_mk hE hP⟩ rfl rfl hl.1 rfl (lv_room (Nat.le_of_ble_eq_true rfl)) dX4_addPiece_4 ⟨Nat.le_of_ble_eq_true rfl, Nat.le_of_ble_eq_true rfl⟩)) (fun r_1 e_2 => ?_)
  obtain rfl := e_2
  refine lv_if_eq (tgt := 57) hx hb dX4_addPiece_7 (by decide) (fun c_3 => ?_) (fun c_3 => ?_)
  · have c_3 := zb_eq c_3
    refine lv_iconst (v := 0) hx hb dX4_addPiece_57 (by decide) ?_
    refine lv_istore (lv' := [(6, .int 0), (0, .ref (am 0)), (1, .int a0), (2, .int a1), (3, .int a2), (4, .int a3), (5, .int a4)]) hx hb dX4_addPiece_58 hl (by decide) rfl (fun ls hl => ?_)
    refine lv_aload_n hx hb dX4_addPiece_60 rfl (lv_at hl 1 rfl) ?_
    refine lv_iload hx hb dX4_addPiece_61 (lv_at hl 0 rfl) ?_
    refine lv_if_ne (tgt := 70) hx hb dX4_addPiece_63 (by decide) (fun c_4 => absurd c_4 (by decide)) (fun c_4 => ?_)
    refine lv_iconst (v := 1) hx hb dX4_addPiece_66 (by decide) ?_
    refine lv_goto (tgt := 83) hx hb dX4_addPiece_67 (by decide) ?_
    refine va_put (D := D) (ci := 4) (v := .int 1) (ty := .int) (C := RX4) (T := TX4) (N := 23) hx hb hts iX4 tyX4 tyX4_ok nmX4 hown hK hP hD hS 0 mws_0 rfl 22 (by decide) (hts (.fieldLink RX4 68 "CapitalReckonerModel" "thrown" "I") (by decide +kernel)) (fun _ h9 => h9) rfl (by decide +kernel) rfl rfl (Nat.le_of_ble_eq_true rfl) dX4_addPiece_83 (fun H locs hP hD hS => ?_)
    have hP : va_P D vwCl (mws cI am g n k tb my lt 1) H := zP_re hP (mws_sth).symm
    have hD : va_D A (mws cI am g n k tb my lt 1) := zD_re hD (mws_sth).symm
    refine lv_aload_n hx hb dX4_addPiece_86 rfl (lv_at hl 1 rfl) ?_
    refine va_get (D := D) (ci := 4) (v := .int 1) (C := RX4) (T := TX4) (N := 23) hx hb hts iX4 hown hK hP 0 mws_0 rfl 22 (by decide) (hts (.fieldLink RX4 68 "CapitalReckonerModel" "thrown" "I") (by decide +kernel)) (fun _ h9 => h9) rfl dX4_addPiece_87 ?_
    refine lv_if_le (tgt := 95) hx hb dX4_addPiece_90 (by decide) (fun c_5 => absurd c_5 (by decide)) (fun c_5 => ?_)
    refine lv_iconst (v := 0) hx hb dX4_addPiece_93 (by decide) ?_
    have hT : T_addPiece k a0 a1 a2 a3 a4 = 1 := by simp [T_addPiece, c_3]
    exact ziret (v := 0) hx hb hr hAe (fun h => absurd (hT.symm.trans h) (by decide)) (zP_re hP (by rw [hT]; first | done | rfl)) (zD_re hD (by rw [hT]; first | done | rfl)) hS dX4_addPiece_94
  · have c_3 := zb_ne c_3
    refine lv_iload_n hx hb dX4_addPiece_10 rfl (lv_at hl 2 rfl) ?_
    refine lv_iconst (v := 0) hx hb dX4_addPiece_11 (by decide) ?_
    refine lv_bipush (v := 100) hx hb dX4_addPiece_12 (by decide) ?_
    refine vp_callSi (va_Run.run (va_runS (As := [.int a1, .int 0, .int 100]) (rest := []) ⟨hx, hb, hml, hown, hts⟩ (zX4_isIn l D cI cL cE cP (mws cI am g n k tb my lt th) a1 0 100) (va_cwS 3 hts gX4_addPiece_X4_isIn rfl rfl rfl (by decide +kernel) ⟨Nat.le_of_ble_eq_true rfl, Nat.le_of_ble_eq_true rfl⟩) ⟨zPr_blind, zPr_mk hE hP⟩ rfl rfl hl.1 rfl (lv_room (Nat.le_of_ble_eq_true rfl)) dX4_addPiece_14 ⟨Nat.le_of_ble_eq_true rfl, Nat.le_of_ble_eq_true rfl⟩)) (fun r_6 e_7 => ?_)
    obtain rfl := e_7
    refine lv_if_eq (tgt := 57) hx hb dX4_addPiece_17 (by decide) (fun c_8 => ?_) (fun c_8 => ?_)
    · have c_8 := zb_eq c_8
      refine lv_iconst (v := 0) hx hb dX4_addPiece_57 (by decide) ?_
      refine lv_istore (lv' := [(6, .int 0), (0, .ref (am 0)), (1, .int a0), (2, .int a1), (3, .int a2), (4, .int a3), (5, .int a4)]) hx hb dX4_addPiece_58 hl (by decide) rfl (fun ls hl => ?_)
      refine lv_aload_n hx hb dX4_addPiece_60 rfl (lv_at hl 1 rfl) ?_
      refine lv_iload hx hb dX4_addPiece_61 (lv_at hl 0 rfl) ?_
      refine lv_if_ne (tgt := 70) hx hb dX4_addPiece_63 (by decide) (fun c_9 => absurd c_9 (by decide)) (fun c_9 => ?_)
      refine lv_iconst (v := 1) hx hb dX4_addPiece_66 (by decide) ?_
      refine lv_goto (tgt := 83) hx hb dX4_addPiece_67 (by decide) ?_
      refine va_put (D := D) (ci := 4) (v := .int 1) (ty := .int) (C := RX4) (T := TX4) (N := 23) hx hb hts iX4 tyX4 tyX4_ok nmX4 hown hK hP hD hS 0 mws_0 rfl 22 (by decide) (hts (.fieldLink RX4 68 "CapitalReckonerModel" "thrown" "I") (by decide +kernel)) (fun _ h9 => h9) rfl (by decide +kernel) rfl rfl (Nat.le_of_ble_eq_true rfl) dX4_addPiece_83 (fun H locs hP hD hS => ?_)
      have hP : va_P D vwCl (mws cI am g n k tb my lt 1) H := zP_re hP (mws_sth).symm
      have hD : va_D A (mws cI am g n k tb my lt 1) := zD_re hD (mws_sth).symm
      refine lv_aload_n hx hb dX4_addPiece_86 rfl (lv_at hl 1 rfl) ?_
      refine va_get (D := D) (ci := 4) (v := .int 1) (C := RX4) (T := TX4) (N := 23) hx hb hts iX4 hown hK hP 0 mws_0 rfl 22 (by decide) (hts (.fieldLink RX4 68 "CapitalReckonerModel" "thrown" "I") (by decide +kernel)) (fun _ h9 => h9) rfl dX4_addPiece_87 ?_
      refine lv_if_le (tgt := 95) hx hb dX4_addPiece_90 (by decide) (fun c_10 => absurd c_10 (by decide)) (fun c_10 => ?_)
      refine lv_iconst (v := 0) hx hb dX4_addPiece_93 (by decide) ?_
      have hT : T_addPiece k a0 a1 a2 a3 a4 = 1 := by simp [T_addPiece, c_3, c_8]
      exact ziret (v := 0) hx hb hr hAe (fun h => absurd (hT.symm.trans h) (by decide)) (zP_re hP (by rw [hT]; first | done | rfl)) (zD_re hD (by rw [hT]; first | done | rfl)) hS dX4_addPiece_94
    · have c_8 := zb_ne c_8
      refine lv_iload_n hx hb dX4_addPiece_20 rfl (lv_at hl 3 rfl) ?_
      refine lv_iconst (v := 0) hx hb dX4_addPiece_21 (by decide) ?_
      refine lv_iconst (v := 2) hx hb dX4_addPiece_22 (by decide) ?_
      refine vp_callSi (va_Run.run (va_runS (As := [.int a2, .int 0, .int 2]) (rest := []) ⟨hx, hb, hml, hown, hts⟩ (zX4_isIn l D cI cL cE cP (mws cI am g n k tb my lt th) a2 0 2) (va_cwS 3 hts gX4_addPiece_X4_isIn rfl rfl rfl (by decide +kernel) ⟨Nat.le_of_ble_eq_true rfl, Nat.le_of_ble_eq_true rfl⟩) ⟨zPr_blind, zPr_mk hE hP⟩ rfl rfl hl.1 rfl (lv_room (Nat.le_of_ble_eq_true rfl)) dX4_addPiece_23 ⟨Nat.le_of_ble_eq_true rfl, Nat.le_of_ble_eq_true rfl⟩)) (fun r_11 e_12 => ?_)
      obtain rfl := e_12
      refine lv_if_eq (tgt := 57) hx hb dX4_addPiece_26 (by decide) (fun c_13 => ?_) (fun c_13 => ?_)
      · have c_13 := zb_eq c_13
        refine lv_iconst (v := 0) hx hb dX4_addPiece_57 (by decide) ?_
        refine lv_istore (lv' := [(6, .int 0), (0, .ref (am 0)), (1, .int a0), (2, .int a1), (3, .int a2), (4, .int a3), (5, .int a4)]) hx hb dX4_addPiece_58 hl (by decide) rfl (fun ls hl => ?_)
        refine lv_aload_n hx hb dX4_addPiece_60 rfl (lv_at hl 1 rfl) ?_
        refine lv_iload hx hb dX4_addPiece_61 (lv_at hl 0 rfl) ?_
        refine lv_if_ne (tgt := 70) hx hb dX4_addPiece_63 (by decide) (fun c_14 => absurd c_14 (by decide)) (fun c_14 => ?_)
        refine lv_iconst (v := 1) hx hb dX4_addPiece_66 (by decide) ?_
        refine lv_goto (tgt := 83) hx hb dX4_addPiece_67 (by decide) ?_
        refine va_put (D := D) (ci := 4) (v := .int 1) (ty := .int) (C := RX4) (T := TX4) (N := 23) hx hb hts iX4 tyX4 tyX4_ok nmX4 hown hK hP hD hS 0 mws_0 rfl 22 (by decide) (hts (.fieldLink RX4 68 "CapitalReckonerModel" "thrown" "I") (by decide +kernel)) (fun _ h9 => h9) rfl (by decide +kernel) rfl rfl (Nat.le_of_ble_eq_true rfl) dX4_addPiece_83 (fun H locs hP hD hS => ?_)
        have hP : va_P D vwCl (mws cI am g n k tb my lt 1) H := zP_re hP (mws_sth).symm
        have hD : va_D A (mws cI am g n k tb my lt 1) := zD_re hD (mws_sth).symm
        refine lv_aload_n hx hb dX4_addPiece_86 rfl (lv_at hl 1 rfl) ?_
        refine va_get (D := D) (ci := 4) (v := .int 1) (C := RX4) (T := TX4) (N := 23) hx hb hts iX4 hown hK hP 0 mws_0 rfl 22 (by decide) (hts (.fieldLink RX4 68 "CapitalReckonerModel" "thrown" "I") (by decide +kernel)) (fun _ h9 => h9) rfl dX4_addPiece_87 ?_
        refine lv_if_le (tgt := 95) hx hb dX4_addPiece_90 (by decide) (fun c_15 => absurd c_15 (by decide)) (fun c_15 => ?_)
        refine lv_iconst (v := 0) hx hb dX4_addPiece_93 (by decide) ?_
        have hT : T_addPiece k a0 a1 a2 a3 a4 = 1 := by simp [T_addPiece, c_3, c_8, c_13]
        exact ziret (v := 0) hx hb hr hAe (fun h => absurd (hT.symm.trans h) (by decide)) (zP_re hP (by rw [hT]; first | done | rfl)) (zD_re hD (by rw [hT]; first | done | rfl)) hS dX4_addPiece_94
      · have c_13 := zb_ne c_13
        refine lv_iload hx hb dX4_addPiece_29 (lv_at hl 4 rfl) ?_
        refine lv_iconst (v := 1) hx hb dX4_addPiece_31 (by decide) ?_
        refine lv_sipush (v := 3650) hx hb dX4_addPiece_32 (by decide) ?_
        refine vp_callSi (va_Run.run (va_runS (As := [.int a3, .int 1, .int 3650]) (rest := []) ⟨hx, hb, hml, hown, hts⟩ (zX4_isIn l D cI cL cE cP (mws cI am g n k tb my lt th) a3 1 3650) (va_cwS 3 hts gX4_addPiece_X4_isIn rfl rfl rfl (by decide +kernel) ⟨Nat.le_of_ble_eq_true rfl, Nat.le_of_ble_eq_true rfl⟩) ⟨zPr_blind, zPr_mk hE hP⟩ rfl rfl hl.1 rfl (lv_room (Nat.le_of_ble_eq_true rfl)) dX4_addPiece_35 ⟨Nat.le_of_ble_eq_true rfl, Nat.le_of_ble_eq_true rfl⟩)) (fun r_16 e_17 => ?_)
        obtain rfl := e_17
        refine lv_if_eq (tgt := 57) hx hb dX4_addPiece_38 (by decide) (fun c_18 => ?_) (fun c_18 => ?_)
        · have c_18 := zb_eq c_18
          refine lv_iconst (v := 0) hx hb dX4_addPiece_57 (by decide) ?_
          refine lv_istore (lv' := [(6, .int 0), (0, .ref (am 0)), (1, .int a0), (2, .int a1), (3, .int a2), (4, .int a3), (5, .int a4)]) hx hb dX4_addPiece_58 hl (by decide) rfl (fun ls hl => ?_)
          refine lv_aload_n hx hb dX4_addPiece_60 rfl (lv_at hl 1 rfl) ?_
          refine lv_iload hx hb dX4_addPiece_61 (lv_at hl 0 rfl) ?_
          refine lv_if_ne (tgt := 70) hx hb dX4_addPiece_63 (by decide) (fun c_19 => absurd c_19 (by decide)) (fun c_19 => ?_)
          refine lv_iconst (v := 1) hx hb dX4_addPiece_66 (by decide) ?_
          refine lv_goto (tgt := 83) hx hb dX4_addPiece_67 (by decide) ?_
          refine va_put (D := D) (ci := 4) (v := .int 1) (ty := .int) (C := RX4) (T := TX4) (N := 23) hx hb hts iX4 tyX4 tyX4_ok nmX4 hown hK hP hD hS 0 mws_0 rfl 22 (by decide) (hts (.fieldLink RX4 68 "CapitalReckonerModel" "thrown" "I") (by decide +kernel)) (fun _ h9 => h9) rfl (by decide +kernel) rfl rfl (Nat.le_of_ble_eq_true rfl) dX4_addPiece_83 (fun H locs hP hD hS => ?_)
          have hP : va_P D vwCl (mws cI am g n k tb my lt 1) H := zP_re hP (mws_sth).symm
          have hD : va_D A (mws cI am g n k tb my lt 1) := zD_re hD (mws_sth).symm
          refine lv_aload_n hx hb dX4_addPiece_86 rfl (lv_at hl 1 rfl) ?_
          refine va_get (D := D) (ci := 4) (v := .int 1) (C := RX4) (T := TX4) (N := 23) hx hb hts iX4 hown hK hP 0 mws_0 rfl 22 (by decide) (hts (.fieldLink RX4 68 "CapitalReckonerModel" "thrown" "I") (by decide +kernel)) (fun _ h9 => h9) rfl dX4_addPiece_87 ?_
          refine lv_if_le (tgt := 95) hx hb dX4_addPiece_90 (by decide) (fun c_20 => absurd c_20 (by decide)) (fun c_20 => ?_)
          refine lv_iconst (v := 0) hx hb dX4_addPiece_93 (by decide) ?_
          have hT : T_addPiece k a0 a1 a2 a3 a4 = 1 := by simp [T_addPiece, c_3, c_8, c_13, c_18]
          exact ziret (v := 0) hx hb hr hAe (fun h => absurd (hT.symm.trans h) (by decide)) (zP_re hP (by rw [hT]; first | done | rfl)) (zD_re hD (by rw [hT]; first | done | rfl)) hS dX4_addPiece_94
        · have c_18 := zb_ne c_18
          refine lv_iload hx hb dX4_addPiece_41 (lv_at hl 5 rfl) ?_
          refine lv_iconst (v := 0) hx hb dX4_addPiece_43 (by decide) ?_
          refine lv_sipush (v := 255) hx hb dX4_addPiece_44 (by decide) ?_
          refine vp_callSi (va_Run.run (va_runS (As := [.int a4, .int 0, .int 255]) (rest := []) ⟨hx, hb, hml, hown, hts⟩ (zX4_isIn l D cI cL cE cP (mws cI am g n k tb my lt th) a4 0 255) (va_cwS 3 hts gX4_addPiece_X4_isIn rfl rfl rfl (by decide +kernel) ⟨Nat.le_of_ble_eq_true rfl, Nat.le_of_ble_eq_true rfl⟩) ⟨zPr_blind, zPr_mk hE hP⟩ rfl rfl hl.1 rfl (lv_room (Nat.le_of_ble_eq_true rfl)) dX4_addPiece_47 ⟨Nat.le_of_ble_eq_true rfl, Nat.le_of_ble_eq_true rfl⟩)) (fun r_21 e_22 => ?_)
          obtain rfl := e_22
          refine lv_if_eq (tgt := 57) hx hb dX4_addPiece_50 (by decide) (fun c_23 => ?_) (fun c_23 => ?_)
          · have c_23 := zb_eq c_23
            refine lv_iconst (v := 0) hx hb dX4_addPiece_57 (by decide) ?_
            refine lv_istore (lv' := [(6, .int 0), (0, .ref (am 0)), (1, .int a0), (2, .int a1), (3, .int a2), (4, .int a3), (5, .int a4)]) hx hb dX4_addPiece_58 hl (by decide) rfl (fun ls hl => ?_)
            refine lv_aload_n hx hb dX4_addPiece_60 rfl (lv_at hl 1 rfl) ?_
            refine lv_iload hx hb dX4_addPiece_61 (lv_at hl 0 rfl) ?_
            refine lv_if_ne (tgt := 70) hx hb dX4_addPiece_63 (by decide) (fun c_24 => absurd c_24 (by decide)) (fun c_24 => ?_)
            refine lv_iconst (v := 1) hx hb dX4_addPiece_66 (by decide) ?_
            refine lv_goto (tgt := 83) hx hb dX4_addPiece_67 (by decide) ?_
            refine va_put (D := D) (ci := 4) (v := .int 1) (ty := .int) (C := RX4) (T := TX4) (N := 23) hx hb hts iX4 tyX4 tyX4_ok nmX4 hown hK hP hD hS 0 mws_0 rfl 22 (by decide) (hts (.fieldLink RX4 68 "CapitalReckonerModel" "thrown" "I") (by decide +kernel)) (fun _ h9 => h9) rfl (by decide +kernel) rfl rfl (Nat.le_of_ble_eq_true rfl) dX4_addPiece_83 (fun H locs hP hD hS => ?_)
            have hP : va_P D vwCl (mws cI am g n k tb my lt 1) H := zP_re hP (mws_sth).symm
            have hD : va_D A (mws cI am g n k tb my lt 1) := zD_re hD (mws_sth).symm
            refine lv_aload_n hx hb dX4_addPiece_86 rfl (lv_at hl 1 rfl) ?_
            refine va_get (D := D) (ci := 4) (v := .int 1) (C := RX4) (T := TX4) (N := 23) hx hb hts iX4 hown hK hP 0 mws_0 rfl 22 (by decide) (hts (.fieldLink RX4 68 "CapitalReckonerModel" "thrown" "I") (by decide +kernel)) (fun _ h9 => h9) rfl dX4_addPiece_87 ?_
            refine lv_if_le (tgt := 95) hx hb dX4_addPiece_90 (by decide) (fun c_25 => absurd c_25 (by decide)) (fun c_25 => ?_)
            refine lv_iconst (v := 0) hx hb dX4_addPiece_93 (by decide) ?_
            have hT : T_addPiece k a0 a1 a2 a3 a4 = 1 := by simp [T_addPiece, c_3, c_8, c_13, c_18, c_23]
            exact ziret (v := 0) hx hb hr hAe (fun h => absurd (hT.symm.trans h) (by decide)) (zP_re hP (by rw [hT]; first | done | rfl)) (zD_re hD (by rw [hT]; first | done | rfl)) hS dX4_addPiece_94
          · have c_23 := zb_ne c_23
            refine lv_iconst (v := 1) hx hb dX4_addPiece_53 (by decide) ?_
            refine lv_goto (tgt := 58) hx hb dX4_addPiece_54 (by decide) ?_
            refine lv_istore (lv' := [(6, .int 1), (0, .ref (am 0)), (1, .int a0), (2, .int a1), (3, .int a2), (4, .int a3), (5, .int a4)]) hx hb dX4_addPiece_58 hl (by decide) rfl (fun ls hl => ?_)
            refine lv_aload_n hx hb dX4_addPiece_60 rfl (lv_at hl 1 rfl) ?_
            refine lv_iload hx hb dX4_addPiece_61 (lv_at hl 0 rfl) ?_
            refine lv_if_ne (tgt := 70) hx hb dX4_addPiece_63 (by decide) (fun c_26 => ?_) (fun c_26 => absurd c_26 (by decide))
            refine lv_aload_n hx hb dX4_addPiece_70 rfl (lv_at hl 1 rfl) ?_
            refine va_get (D := D) (ci := 4) (v := .int (nI k)) (C := RX4) (T := TX4) (N := 23) hx hb hts iX4 hown hK hP 0 mws_0 rfl 13 (by decide) (hts (.fieldLink RX4 78 "CapitalReckonerModel" "pieces" "I") (by decide +kernel)) (fun _ h9 => h9) rfl dX4_addPiece_71 ?_
            refine lv_iconst (v := 5) hx hb dX4_addPiece_74 (by decide) ?_
            refine lv_icmp_ne (tgt := 82) hx hb dX4_addPiece_75 (by decide) (fun c_27 => ?_) (fun c_27 => ?_)
            · have c_27 := nI_n5 c_27
              refine lv_iconst (v := 0) hx hb dX4_addPiece_82 (by decide) ?_
              refine va_put (D := D) (ci := 4) (v := .int 0) (ty := .int) (C := RX4) (T := TX4) (N := 23) hx hb hts iX4 tyX4 tyX4_ok nmX4 hown hK hP hD hS 0 mws_0 rfl 22 (by decide) (hts (.fieldLink RX4 68 "CapitalReckonerModel" "thrown" "I") (by decide +kernel)) (fun _ h9 => h9) rfl (by decide +kernel) rfl rfl (Nat.le_of_ble_eq_true rfl) dX4_addPiece_83 (fun H locs hP hD hS => ?_)
              have hP : va_P D vwCl (mws cI am g n k tb my lt 0) H := zP_re hP (mws_sth).symm
              have hD : va_D A (mws cI am g n k tb my lt 0) := zD_re hD (mws_sth).symm
              refine lv_aload_n hx hb dX4_addPiece_86 rfl (lv_at hl 1 rfl) ?_
              refine va_get (D := D) (ci := 4) (v := .int 0) (C := RX4) (T := TX4) (N := 23) hx hb hts iX4 hown hK hP 0 mws_0 rfl 22 (by decide) (hts (.fieldLink RX4 68 "CapitalReckonerModel" "thrown" "I") (by decide +kernel)) (fun _ h9 => h9) rfl dX4_addPiece_87 ?_
              refine lv_if_le (tgt := 95) hx hb dX4_addPiece_90 (by decide) (fun c_28 => ?_) (fun c_28 => absurd c_28 (by decide))
              have hlt : k < 5 := by have := hok.k; omega
              refine lv_aload_n hx hb dX4_addPiece_95 rfl (lv_at hl 1 rfl) ?_
              refine va_get (D := D) (ci := 4) (v := .ref (am 11)) (C := RX4) (T := TX4) (N := 23) hx hb hts iX4 hown hK hP 0 mws_0 rfl 14 (by decide) (hts (.fieldLink RX4 44 "CapitalReckonerModel" "size" "[I") (by decide +kernel)) (fun _ h9 => h9) rfl dX4_addPiece_96 ?_
              refine lv_aload_n hx hb dX4_addPiece_99 rfl (lv_at hl 1 rfl) ?_
              refine va_get (D := D) (ci := 4) (v := .int (nI k)) (C := RX4) (T := TX4) (N := 23) hx hb hts iX4 hown hK hP 0 mws_0 rfl 13 (by decide) (hts (.fieldLink RX4 78 "CapitalReckonerModel" "pieces" "I") (by decide +kernel)) (fun _ h9 => h9) rfl dX4_addPiece_100 ?_
              refine lv_iload_n hx hb dX4_addPiece_103 rfl (lv_at hl 2 rfl) ?_
              refine ziast (f2 := upd (g 11) k a0) hx hb hK hP hD hS 11 0 mws_11 rfl (vp_in_nI hlt (by decide)) (by rw [nI_clamp (by have := hok.k; omega)]; first | done | rfl) dX4_addPiece_104 (fun H locs hP hD hS => ?_)
              have hP : va_P D vwCl (mws cI am (gR g 11 (upd (g 11) k a0)) n k tb my lt 0) H := zP_re hP (mws_s11).symm
              have hD : va_D A (mws cI am (gR g 11 (upd (g 11) k a0)) n k tb my lt 0) := zD_re hD (mws_s11).symm
              refine lv_aload_n hx hb dX4_addPiece_105 rfl (lv_at hl 1 rfl) ?_
              refine va_get (D := D) (ci := 4) (v := .ref (am 12)) (C := RX4) (T := TX4) (N := 23) hx hb hts iX4 hown hK hP 0 mws_0 rfl 15 (by decide) (hts (.fieldLink RX4 47 "CapitalReckonerModel" "cut" "[I") (by decide +kernel)) (fun _ h9 => h9) rfl dX4_addPiece_106 ?_
              refine lv_aload_n hx hb dX4_addPiece_109 rfl (lv_at hl 1 rfl) ?_
              refine va_get (D := D) (ci := 4) (v := .int (nI k)) (C := RX4) (T := TX4) (N := 23) hx hb hts iX4 hown hK hP 0 mws_0 rfl 13 (by decide) (hts (.fieldLink RX4 78 "CapitalReckonerModel" "pieces" "I") (by decide +kernel)) (fun _ h9 => h9) rfl dX4_addPiece_110 ?_
              refine lv_iload_n hx hb dX4_addPiece_113 rfl (lv_at hl 3 rfl) ?_
              refine ziast (f2 := upd (g 12) k a1) hx hb hK hP hD hS 12 0 mws_12 rfl (vp_in_nI hlt (by decide)) (by rw [nI_clamp (by have := hok.k; omega)]; first | done | rfl) dX4_addPiece_114 (fun H locs hP hD hS => ?_)
              have hP : va_P D vwCl (mws cI am (gR (gR g 11 (upd (g 11) k a0)) 12 (upd (g 12) k a1)) n k tb my lt 0) H := zP_re hP (mws_s12).symm
              have hD : va_D A (mws cI am (gR (gR g 11 (upd (g 11) k a0)) 12 (upd (g 12) k a1)) n k tb my lt 0) := zD_re hD (mws_s12).symm
              refine lv_aload_n hx hb dX4_addPiece_115 rfl (lv_at hl 1 rfl) ?_
              refine va_get (D := D) (ci := 4) (v := .ref (am 13)) (C := RX4) (T := TX4) (N := 23) hx hb hts iX4 hown hK hP 0 mws_0 rfl 16 (by decide) (hts (.fieldLink RX4 50 "CapitalReckonerModel" "coin" "[I") (by decide +kernel)) (fun _ h9 => h9) rfl dX4_addPiece_116 ?_
              refine lv_aload_n hx hb dX4_addPiece_119 rfl (lv_at hl 1 rfl) ?_
              refine va_get (D := D) (ci := 4) (v := .int (nI k)) (C := RX4) (T := TX4) (N := 23) hx hb hts iX4 hown hK hP 0 mws_0 rfl 13 (by decide) (hts (.fieldLink RX4 78 "CapitalReckonerModel" "pieces" "I") (by decide +kernel)) (fun _ h9 => h9) rfl dX4_addPiece_120 ?_
              refine lv_iload_n hx hb dX4_addPiece_123 rfl (lv_at hl 4 rfl) ?_
              refine ziast (f2 := upd (g 13) k a2) hx hb hK hP hD hS 13 0 mws_13 rfl (vp_in_nI hlt (by decide)) (by rw [nI_clamp (by have := hok.k; omega)]; first | done | rfl) dX4_addPiece_124 (fun H locs hP hD hS => ?_)
              have hP : va_P D vwCl (mws cI am (gR (gR (gR g 11 (upd (g 11) k a0)) 12 (upd (g 12) k a1)) 13 (upd (g 13) k a2)) n k tb my lt 0) H := zP_re hP (mws_s13).symm
              have hD : va_D A (mws cI am (gR (gR (gR g 11 (upd (g 11) k a0)) 12 (upd (g 12) k a1)) 13 (upd (g 13) k a2)) n k tb my lt 0) := zD_re hD (mws_s13).symm
              refine lv_aload_n hx hb dX4_addPiece_125 rfl (lv_at hl 1 rfl) ?_
              refine va_get (D := D) (ci := 4) (v := .ref (am 14)) (C := RX4) (T := TX4) (N := 23) hx hb hts iX4 hown hK hP 0 mws_0 rfl 17 (by decide) (hts (.fieldLink RX4 53 "CapitalReckonerModel" "left" "[I") (by decide +kernel)) (fun _ h9 => h9) rfl dX4_addPiece_126 ?_
              refine lv_aload_n hx hb dX4_addPiece_129 rfl (lv_at hl 1 rfl) ?_
              refine va_get (D := D) (ci := 4) (v := .int (nI k)) (C := RX4) (T := TX4) (N := 23) hx hb hts iX4 hown hK hP 0 mws_0 rfl 13 (by decide) (hts (.fieldLink RX4 78 "CapitalReckonerModel" "pieces" "I") (by decide +kernel)) (fun _ h9 => h9) rfl dX4_addPiece_130 ?_
              refine lv_iload hx hb dX4_addPiece_133 (lv_at hl 5 rfl) ?_
              refine ziast (f2 := upd (g 14) k a3) hx hb hK hP hD hS 14 0 mws_14 rfl (vp_in_nI hlt (by decide)) (by rw [nI_clamp (by have := hok.k; omega)]; first | done | rfl) dX4_addPiece_135 (fun H locs hP hD hS => ?_)
              have hP : va_P D vwCl (mws cI am (gR (gR (gR (gR g 11 (upd (g 11) k a0)) 12 (upd (g 12) k a1)) 13 (upd (g 13) k a2)) 14 (upd (g 14) k a3)) n k tb my lt 0) H := zP_re hP (mws_s14).symm
              have hD : va_D A (mws cI am (gR (gR (gR (gR g 11 (upd (g 11) k a0)) 12 (upd (g 12) k a1)) 13 (upd (g 13) k a2)) 14 (upd (g 14) k a3)) n k tb my lt 0) := zD_re hD (mws_s14).symm
              refine lv_aload_n hx hb dX4_addPiece_136 rfl (lv_at hl 1 rfl) ?_
              refine va_get (D := D) (ci := 4) (v := .ref (am 15)) (C := RX4) (T := TX4) (N := 23) hx hb hts iX4 hown hK hP 0 mws_0 rfl 18 (by decide) (hts (.fieldLink RX4 56 "CapitalReckonerModel" "uses" "[I") (by decide +kernel)) (fun _ h9 => h9) rfl dX4_addPiece_137 ?_
              refine lv_aload_n hx hb dX4_addPiece_140 rfl (lv_at hl 1 rfl) ?_
              refine va_get (D := D) (ci := 4) (v := .int (nI k)) (C := RX4) (T := TX4) (N := 23) hx hb hts iX4 hown hK hP 0 mws_0 rfl 13 (by decide) (hts (.fieldLink RX4 78 "CapitalReckonerModel" "pieces" "I") (by decide +kernel)) (fun _ h9 => h9) rfl dX4_addPiece_141 ?_
              refine lv_iload hx hb dX4_addPiece_144 (lv_at hl 6 rfl) ?_
              refine ziast (f2 := upd (g 15) k a4) hx hb hK hP hD hS 15 0 mws_15 rfl (vp_in_nI hlt (by decide)) (by rw [nI_clamp (by have := hok.k; omega)]; first | done | rfl) dX4_addPiece_146 (fun H locs hP hD hS => ?_)
              have hP : va_P D vwCl (mws cI am (gR (gR (gR (gR (gR g 11 (upd (g 11) k a0)) 12 (upd (g 12) k a1)) 13 (upd (g 13) k a2)) 14 (upd (g 14) k a3)) 15 (upd (g 15) k a4)) n k tb my lt 0) H := zP_re hP (mws_s15).symm
              have hD : va_D A (mws cI am (gR (gR (gR (gR (gR g 11 (upd (g 11) k a0)) 12 (upd (g 12) k a1)) 13 (upd (g 13) k a2)) 14 (upd (g 14) k a3)) 15 (upd (g 15) k a4)) n k tb my lt 0) := zD_re hD (mws_s15).symm
              refine lv_aload_n hx hb dX4_addPiece_147 rfl (lv_at hl 1 rfl) ?_
              refine lv_dup hx hb dX4_addPiece_148 rfl ?_
              refine va_get (D := D) (ci := 4) (v := .int (nI k)) (C := RX4) (T := TX4) (N := 23) hx hb hts iX4 hown hK hP 0 mws_0 rfl 13 (by decide) (hts (.fieldLink RX4 78 "CapitalReckonerModel" "pieces" "I") (by decide +kernel)) (fun _ h9 => h9) rfl dX4_addPiece_149 ?_
              refine lv_iconst (v := 1) hx hb dX4_addPiece_152 (by decide) ?_
              refine lv_iadd hx hb dX4_addPiece_153 ?_
              rw [show ((nI k) + 1) = nI (k + 1) from nI_1 k]
              refine va_put (D := D) (ci := 4) (v := .int (nI (k + 1))) (ty := .int) (C := RX4) (T := TX4) (N := 23) hx hb hts iX4 tyX4 tyX4_ok nmX4 hown hK hP hD hS 0 mws_0 rfl 13 (by decide) (hts (.fieldLink RX4 78 "CapitalReckonerModel" "pieces" "I") (by decide +kernel)) (fun _ h9 => h9) rfl (by decide +kernel) rfl rfl (Nat.le_of_ble_eq_true rfl) dX4_addPiece_154 (fun H locs hP hD hS => ?_)
              have hP : va_P D vwCl (mws cI am (gR (gR (gR (gR (gR g 11 (upd (g 11) k a0)) 12 (upd (g 12) k a1)) 13 (upd (g 13) k a2)) 14 (upd (g 14) k a3)) 15 (upd (g 15) k a4)) n (k + 1) tb my lt 0) H := zP_re hP (mws_sk).symm
              have hD : va_D A (mws cI am (gR (gR (gR (gR (gR g 11 (upd (g 11) k a0)) 12 (upd (g 12) k a1)) 13 (upd (g 13) k a2)) 14 (upd (g 14) k a3)) 15 (upd (g 15) k a4)) n (k + 1) tb my lt 0) := zD_re hD (mws_sk).symm
              refine lv_aload_n hx hb dX4_addPiece_157 rfl (lv_at hl 1 rfl) ?_
              refine va_get (D := D) (ci := 4) (v := .int (nI (k + 1))) (C := RX4) (T := TX4) (N := 23) hx hb hts iX4 hown hK hP 0 mws_0 rfl 13 (by decide) (hts (.fieldLink RX4 78 "CapitalReckonerModel" "pieces" "I") (by decide +kernel)) (fun _ h9 => h9) rfl dX4_addPiece_158 ?_
              refine lv_iconst (v := 1) hx hb dX4_addPiece_161 (by decide) ?_
              refine lv_isub hx hb dX4_addPiece_162 ?_
              have hT : T_addPiece k a0 a1 a2 a3 a4 = 0 := by simp [T_addPiece, c_3, c_8, c_13, c_18, c_23, c_27]
              exact ziret (v := (nI (k + 1)) - 1) hx hb hr hAe (fun _ => nI_pred k) (zP_re hP (by rw [hT]; first | done | rfl)) (zD_re hD (by rw [hT]; first | done | rfl)) hS dX4_addPiece_163
            · have c_27 := nI_5 hok.k c_27
              refine lv_iconst (v := 2) hx hb dX4_addPiece_78 (by decide) ?_
              refine lv_goto (tgt := 83) hx hb dX4_addPiece_79 (by decide) ?_
              refine va_put (D := D) (ci := 4) (v := .int 2) (ty := .int) (C := RX4) (T := TX4) (N := 23) hx hb hts iX4 tyX4 tyX4_ok nmX4 hown hK hP hD hS 0 mws_0 rfl 22 (by decide) (hts (.fieldLink RX4 68 "CapitalReckonerModel" "thrown" "I") (by decide +kernel)) (fun _ h9 => h9) rfl (by decide +kernel) rfl rfl (Nat.le_of_ble_eq_true rfl) dX4_addPiece_83 (fun H locs hP hD hS => ?_)
              have hP : va_P D vwCl (mws cI am g n k tb my lt 2) H := zP_re hP (mws_sth).symm
              have hD : va_D A (mws cI am g n k tb my lt 2) := zD_re hD (mws_sth).symm
              refine lv_aload_n hx hb dX4_addPiece_86 rfl (lv_at hl 1 rfl) ?_
              refine va_get (D := D) (ci := 4) (v := .int 2) (C := RX4) (T := TX4) (N := 23) hx hb hts iX4 hown hK hP 0 mws_0 rfl 22 (by decide) (hts (.fieldLink RX4 68 "CapitalReckonerModel" "thrown" "I") (by decide +kernel)) (fun _ h9 => h9) rfl dX4_addPiece_87 ?_
              refine lv_if_le (tgt := 95) hx hb dX4_addPiece_90 (by decide) (fun c_29 => absurd c_29 (by decide)) (fun c_29 => ?_)
              refine lv_iconst (v := 0) hx hb dX4_addPiece_93 (by decide) ?_
              have hT : T_addPiece k a0 a1 a2 a3 a4 = 2 := by simp [T_addPiece, c_3, c_8, c_13, c_18, c_23, c_27]
              exact ziret (v := 0) hx hb hr hAe (fun h => absurd (hT.symm.trans h) (by decide)) (zP_re hP (by rw [hT]; first | done | rfl)) (zD_re hD (by rw [hT]; first | done | rfl)) hS dX4_addPiece_94
set_option maxHeartbeats 4000000 in
set_option maxRecDepth 100000 in
theorem zX4_draw (l : Launch) (D : va_G) (cI cL cE cP : ClassId) (am : Nat → Nat) (g : Nat → Nat → Int32) (n k : Nat) (tb my lt : Nat → Int32) (th : Int32) (hok : zOk g n k) (x d0 : Int32) (sz : Nat) : Met l yX4_draw wsX4_draw ({ frames := 2, cells := 0, slots := 0, locals := 43 }) (zPw D cI cL cE cP (mws cI am g n k tb my lt th) sz [.ref (am 0), .int x, .int d0]) (zQi D (mws cI am g n k tb my lt th) sz (fun r : Int32 => (T_draw g n x d0 = 0 → r = g 5 x.toNatClampNeg + d0)) (mws cI am (if T_draw g n x d0 = 0 then gR (gR g 5 (upd (g 5) x.toNatClampNeg (g 5 x.toNatClampNeg + d0))) 6 (upd (g 6) x.toNatClampNeg (g 6 x.toNatClampNeg - d0)) else g) n k tb my lt (T_draw g n x d0))) 0 0 (va_A (mws cI am g n k tb my lt th) sz) := by
  refine Met.ofW (cc := cX4_draw) (maxL := 3) (ret := (some .int)) (by decide) rfl ?_
  intro p e s m args below meth c s₁ B hml hv
  obtain ⟨rfl, hsz, hE, hP, hD0⟩ := hv
  subst hsz
  obtain ⟨A, hAe⟩ : ∃ A, A = va_A (mws cI am g n k tb my lt th) s.heap.size := ⟨_, rfl⟩
  have hD : va_D A (mws cI am g n k tb my lt th) := by rw [hAe]; exact hD0.self
  have hA : ∀ q : Nat, s.heap.size ≤ q → A q := fun q h => by rw [hAe]; exact Or.inr h
  have hS : va_S A s.heap s.heap [] := va_S.rf
  have hx := B.exec
  have hb := B.bytes
  have hr := B.returns
  have hts := atoms_spec (ws := wsX4_draw) B.pre
  have hown : s.vm.findClass RX4 = some m.cls := findClass_of_methodNamed B.named
  have hlocks := B.notSynchronized
  have hK := hE.1
  have iX4 : ∀ w ∈ wsX40, w ∈ wsX4_draw := by decide +kernel
  have hl := lv_entry ([.ref (am 0), .int x, .int d0]) (n := 3) (Nat.le_of_ble_eq_true rfl)
  rw [lg_entry_eq]
  generalize (lg_sl ([.ref (am 0), .int x, .int d0]) ++ List.replicate (3 - (lg_sl ([.ref (am 0), .int x, .int d0])).length) Slot.unset).toArray = ls at hl ⊢
  have hl : lv_has ls 3 [(0, .ref (am 0)), (1, .int x), (2, .int d0)] := hl
  refine lv_aload_n hx hb dX4_draw_0 rfl (lv_at hl 0 rfl) ?_
  refine lv_aload_n hx hb dX4_draw_1 rfl (lv_at hl 0 rfl) ?_
  refine lv_iload_n hx hb dX4_draw_2 rfl (lv_at hl 1 rfl) ?_
  refine vp_callSi (va_Run.run (va_runV (As := [.int x]) (rest := [.ref (am 0)]) ⟨hx, hb, hml, hown, hts⟩ (zX4_isExposure l D cI cL cE cP am g n k tb my lt th hok (x)) (cwV 1 hts gX4_draw_X4_isExposure rfl rfl rfl (by decide +kernel) ⟨Nat.le_of_ble_eq_true rfl, Nat.le_of_ble_eq_true rfl⟩) ⟨zPr_blind, va_recv hK hP (ci := 4) (q0 := 0) rfl mws_0, zPr_mk hE hP⟩ rfl rfl hl.1 rfl (lv_room (Nat.le_of_ble_eq_true rfl)) dX4_draw_3 ⟨Nat.le_of_ble_eq_true rfl, Nat.le_of_ble_eq_true rfl⟩)) (fun r_1 e_2 => ?_)
  obtain rfl := e_2
  refine lv_if_ne (tgt := 13) hx hb dX4_draw_6 (by decide) (fun c_3 => ?_) (fun c_3 => ?_)
  · have c_3 := zb_ne c_3
    refine lv_iload_n hx hb dX4_draw_13 rfl (lv_at hl 2 rfl) ?_
    refine lv_ldc (v := -10000000) hx hb hown (hts (.constant RX4 98 (-10000000)) (by decide +kernel)) dX4_draw_14 ?_
    refine lv_ldc (v := 10000000) hx hb hown (hts (.constant RX4 91 (10000000)) (by decide +kernel)) dX4_draw_16 ?_
    refine vp_callSi (va_Run.run (va_runS (As := [.int d0, .int (-10000000), .int 10000000]) (rest := [.ref (am 0)]) ⟨hx, hb, hml, hown, hts⟩ (zX4_isIn l D cI cL cE cP (mws cI am g n k tb my lt th) d0 (-10000000) 10000000) (va_cwS 3 hts gX4_draw_X4_isIn rfl rfl rfl (by decide +kernel) ⟨Nat.le_of_ble_eq_true rfl, Nat.le_of_ble_eq_true rfl⟩) ⟨zPr_blind, zPr_mk hE hP⟩ rfl rfl hl.1 rfl (lv_room (Nat.le_of_ble_eq_true rfl)) dX4_draw_18 ⟨Nat.le_of_ble_eq_true rfl, Nat.le_of_ble_eq_true rfl⟩)) (fun r_4 e_5 => ?_)
    obtain rfl := e_5
    refine lv_if_eq (tgt := 28) hx hb dX4_draw_21 (by decide) (fun c_6 => ?_) (fun c_6 => ?_)
    · have c_6 := zb_eq c_6
      refine lv_iconst (v := 2) hx hb dX4_draw_28 (by decide) ?_
      refine va_put (D := D) (ci := 4) (v := .int 2) (ty := .int) (C := RX4) (T := TX4) (N := 23) hx hb hts iX4 tyX4 tyX4_ok nmX4 hown hK hP hD hS 0 mws_0 rfl 22 (by decide) (hts (.fieldLink RX4 68 "CapitalReckonerModel" "thrown" "I") (by decide +kernel)) (fun _ h9 => h9) rfl (by decide +kernel) rfl rfl (Nat.le_of_ble_eq_true rfl) dX4_draw_29 (fun H locs hP hD hS => ?_)
      have hP : va_P D vwCl (mws cI am g n k tb my lt 2) H := zP_re hP (mws_sth).symm
      have hD : va_D A (mws cI am g n k tb my lt 2) := zD_re hD (mws_sth).symm
      refine lv_aload_n hx hb dX4_draw_32 rfl (lv_at hl 0 rfl) ?_
      refine va_get (D := D) (ci := 4) (v := .int 2) (C := RX4) (T := TX4) (N := 23) hx hb hts iX4 hown hK hP 0 mws_0 rfl 22 (by decide) (hts (.fieldLink RX4 68 "CapitalReckonerModel" "thrown" "I") (by decide +kernel)) (fun _ h9 => h9) rfl dX4_draw_33 ?_
      refine lv_if_le (tgt := 41) hx hb dX4_draw_36 (by decide) (fun c_7 => absurd c_7 (by decide)) (fun c_7 => ?_)
      refine lv_iconst (v := 0) hx hb dX4_draw_39 (by decide) ?_
      have hT : T_draw g n x d0 = 2 := by simp [T_draw, c_3, c_6]
      exact ziret (v := 0) hx hb hr hAe (fun h => absurd (hT.symm.trans h) (by decide)) (zP_re hP (by rw [hT]; first | done | rfl)) (zD_re hD (by rw [hT]; first | done | rfl)) hS dX4_draw_40
    · have c_6 := zb_ne c_6
      refine lv_iconst (v := 0) hx hb dX4_draw_24 (by decide) ?_
      refine lv_goto (tgt := 29) hx hb dX4_draw_25 (by decide) ?_
      refine va_put (D := D) (ci := 4) (v := .int 0) (ty := .int) (C := RX4) (T := TX4) (N := 23) hx hb hts iX4 tyX4 tyX4_ok nmX4 hown hK hP hD hS 0 mws_0 rfl 22 (by decide) (hts (.fieldLink RX4 68 "CapitalReckonerModel" "thrown" "I") (by decide +kernel)) (fun _ h9 => h9) rfl (by decide +kernel) rfl rfl (Nat.le_of_ble_eq_true rfl) dX4_draw_29 (fun H locs hP hD hS => ?_)
      have hP : va_P D vwCl (mws cI am g n k tb my lt 0) H := zP_re hP (mws_sth).symm
      have hD : va_D A (mws cI am g n k tb my lt 0) := zD_re hD (mws_sth).symm
      refine lv_aload_n hx hb dX4_draw_32 rfl (lv_at hl 0 rfl) ?_
      refine va_get (D := D) (ci := 4) (v := .int 0) (C := RX4) (T := TX4) (N := 23) hx hb hts iX4 hown hK hP 0 mws_0 rfl 22 (by decide) (hts (.fieldLink RX4 68 "CapitalReckonerModel" "thrown" "I") (by decide +kernel)) (fun _ h9 => h9) rfl dX4_draw_33 ?_
      refine lv_if_le (tgt := 41) hx hb dX4_draw_36 (by decide) (fun c_8 => ?_) (fun c_8 => absurd c_8 (by decide))
      refine lv_aload_n hx hb dX4_draw_41 rfl (lv_at hl 0 rfl) ?_
      refine lv_aload_n hx hb dX4_draw_42 rfl (lv_at hl 0 rfl) ?_
      refine va_get (D := D) (ci := 4) (v := .ref (am 5)) (C := RX4) (T := TX4) (N := 23) hx hb hts iX4 hown hK hP 0 mws_0 rfl 7 (by decide) (hts (.fieldLink RX4 26 "CapitalReckonerModel" "drawn" "[I") (by decide +kernel)) (fun _ h9 => h9) rfl dX4_draw_43 ?_
      refine lv_iload_n hx hb dX4_draw_46 rfl (lv_at hl 1 rfl) ?_
      refine ziald (v := (g 5) x.toNatClampNeg) hx hb hK hP 5 0 mws_5 rfl (vp_in_le (zex_vp hok.n8 c_3) hok.n) (rfl) dX4_draw_47 ?_
      refine lv_iload_n hx hb dX4_draw_48 rfl (lv_at hl 2 rfl) ?_
      refine lv_iadd hx hb dX4_draw_49 ?_
      refine vp_callSi (va_Run.run (va_runS (As := [.int (((g 5) x.toNatClampNeg) + d0)]) (rest := [.ref (am 0)]) ⟨hx, hb, hml, hown, hts⟩ (zX4_isSum l D cI cL cE cP (mws cI am g n k tb my lt 0) (((g 5) x.toNatClampNeg) + d0)) (va_cwS 1 hts gX4_draw_X4_isSum rfl rfl rfl (by decide +kernel) ⟨Nat.le_of_ble_eq_true rfl, Nat.le_of_ble_eq_true rfl⟩) ⟨zPr_blind, zPr_mk hE hP⟩ rfl rfl hl.1 rfl (lv_room (Nat.le_of_ble_eq_true rfl)) dX4_draw_50 ⟨Nat.le_of_ble_eq_true rfl, Nat.le_of_ble_eq_true rfl⟩)) (fun r_9 e_10 => ?_)
      obtain rfl := e_10
      refine lv_if_eq (tgt := 74) hx hb dX4_draw_53 (by decide) (fun c_11 => ?_) (fun c_11 => ?_)
      · have c_11 := zb_eq c_11
        refine lv_iconst (v := 3) hx hb dX4_draw_74 (by decide) ?_
        refine va_put (D := D) (ci := 4) (v := .int 3) (ty := .int) (C := RX4) (T := TX4) (N := 23) hx hb hts iX4 tyX4 tyX4_ok nmX4 hown hK hP hD hS 0 mws_0 rfl 22 (by decide) (hts (.fieldLink RX4 68 "CapitalReckonerModel" "thrown" "I") (by decide +kernel)) (fun _ h9 => h9) rfl (by decide +kernel) rfl rfl (Nat.le_of_ble_eq_true rfl) dX4_draw_75 (fun H locs hP hD hS => ?_)
        have hP : va_P D vwCl (mws cI am g n k tb my lt 3) H := zP_re hP (mws_sth).symm
        have hD : va_D A (mws cI am g n k tb my lt 3) := zD_re hD (mws_sth).symm
        refine lv_aload_n hx hb dX4_draw_78 rfl (lv_at hl 0 rfl) ?_
        refine va_get (D := D) (ci := 4) (v := .int 3) (C := RX4) (T := TX4) (N := 23) hx hb hts iX4 hown hK hP 0 mws_0 rfl 22 (by decide) (hts (.fieldLink RX4 68 "CapitalReckonerModel" "thrown" "I") (by decide +kernel)) (fun _ h9 => h9) rfl dX4_draw_79 ?_
        refine lv_if_le (tgt := 87) hx hb dX4_draw_82 (by decide) (fun c_12 => absurd c_12 (by decide)) (fun c_12 => ?_)
        refine lv_iconst (v := 0) hx hb dX4_draw_85 (by decide) ?_
        have hT : T_draw g n x d0 = 3 := by simp [T_draw, c_3, c_6, c_11]
        exact ziret (v := 0) hx hb hr hAe (fun h => absurd (hT.symm.trans h) (by decide)) (zP_re hP (by rw [hT]; first | done | rfl)) (zD_re hD (by rw [hT]; first | done | rfl)) hS dX4_draw_86
      · have c_11 := zb_ne c_11
        refine lv_aload_n hx hb dX4_draw_56 rfl (lv_at hl 0 rfl) ?_
        refine va_get (D := D) (ci := 4) (v := .ref (am 6)) (C := RX4) (T := TX4) (N := 23) hx hb hts iX4 hown hK hP 0 mws_0 rfl 8 (by decide) (hts (.fieldLink RX4 29 "CapitalReckonerModel" "promised" "[I") (by decide +kernel)) (fun _ h9 => h9) rfl dX4_draw_57 ?_
        refine lv_iload_n hx hb dX4_draw_60 rfl (lv_at hl 1 rfl) ?_
        refine ziald (v := (g 6) x.toNatClampNeg) hx hb hK hP 6 0 mws_6 rfl (vp_in_le (zex_vp hok.n8 c_3) hok.n) (rfl) dX4_draw_61 ?_
        refine lv_iload_n hx hb dX4_draw_62 rfl (lv_at hl 2 rfl) ?_
        refine lv_isub hx hb dX4_draw_63 ?_
        refine vp_callSi (va_Run.run (va_runS (As := [.int (((g 6) x.toNatClampNeg) - d0)]) (rest := [.ref (am 0)]) ⟨hx, hb, hml, hown, hts⟩ (zX4_isSum l D cI cL cE cP (mws cI am g n k tb my lt 0) (((g 6) x.toNatClampNeg) - d0)) (va_cwS 1 hts gX4_draw_X4_isSum rfl rfl rfl (by decide +kernel) ⟨Nat.le_of_ble_eq_true rfl, Nat.le_of_ble_eq_true rfl⟩) ⟨zPr_blind, zPr_mk hE hP⟩ rfl rfl hl.1 rfl (lv_room (Nat.le_of_ble_eq_true rfl)) dX4_draw_64 ⟨Nat.le_of_ble_eq_true rfl, Nat.le_of_ble_eq_true rfl⟩)) (fun r_13 e_14 => ?_)
        obtain rfl := e_14
        refine lv_if_eq (tgt := 74) hx hb dX4_draw_67 (by decide) (fun c_15 => ?_) (fun c_15 => ?_)
        · have c_15 := zb_eq c_15
          refine lv_iconst (v := 3) hx hb dX4_draw_74 (by decide) ?_
          refine va_put (D := D) (ci := 4) (v := .int 3) (ty := .int) (C := RX4) (T := TX4) (N := 23) hx hb hts iX4 tyX4 tyX4_ok nmX4 hown hK hP hD hS 0 mws_0 rfl 22 (by decide) (hts (.fieldLink RX4 68 "CapitalReckonerModel" "thrown" "I") (by decide +kernel)) (fun _ h9 => h9) rfl (by decide +kernel) rfl rfl (Nat.le_of_ble_eq_true rfl) dX4_draw_75 (fun H locs hP hD hS => ?_)
          have hP : va_P D vwCl (mws cI am g n k tb my lt 3) H := zP_re hP (mws_sth).symm
          have hD : va_D A (mws cI am g n k tb my lt 3) := zD_re hD (mws_sth).symm
          refine lv_aload_n hx hb dX4_draw_78 rfl (lv_at hl 0 rfl) ?_
          refine va_get (D := D) (ci := 4) (v := .int 3) (C := RX4) (T := TX4) (N := 23) hx hb hts iX4 hown hK hP 0 mws_0 rfl 22 (by decide) (hts (.fieldLink RX4 68 "CapitalReckonerModel" "thrown" "I") (by decide +kernel)) (fun _ h9 => h9) rfl dX4_draw_79 ?_
          refine lv_if_le (tgt := 87) hx hb dX4_draw_82 (by decide) (fun c_16 => absurd c_16 (by decide)) (fun c_16 => ?_)
          refine lv_iconst (v := 0) hx hb dX4_draw_85 (by decide) ?_
          have hT : T_draw g n x d0 = 3 := by simp [T_draw, c_3, c_6, c_11, c_15]
          exact ziret (v := 0) hx hb hr hAe (fun h => absurd (hT.symm.trans h) (by decide)) (zP_re hP (by rw [hT]; first | done | rfl)) (zD_re hD (by rw [hT]; first | done | rfl)) hS dX4_draw_86
        · have c_15 := zb_ne c_15
          refine lv_iconst (v := 0) hx hb dX4_draw_70 (by decide) ?_
          refine lv_goto (tgt := 75) hx hb dX4_draw_71 (by decide) ?_
          refine va_put (D := D) (ci := 4) (v := .int 0) (ty := .int) (C := RX4) (T := TX4) (N := 23) hx hb hts iX4 tyX4 tyX4_ok nmX4 hown hK hP hD hS 0 mws_0 rfl 22 (by decide) (hts (.fieldLink RX4 68 "CapitalReckonerModel" "thrown" "I") (by decide +kernel)) (fun _ h9 => h9) rfl (by decide +kernel) rfl rfl (Nat.le_of_ble_eq_true rfl) dX4_draw_75 (fun H locs hP hD hS => ?_)
          have hP : va_P D vwCl (mws cI am g n k tb my lt 0) H := zP_re hP (mws_sth).symm
          have hD : va_D A (mws cI am g n k tb my lt 0) := zD_re hD (mws_sth).symm
          refine lv_aload_n hx hb dX4_draw_78 rfl (lv_at hl 0 rfl) ?_
          refine va_get (D := D) (ci := 4) (v := .int 0) (C := RX4) (T := TX4) (N := 23) hx hb hts iX4 hown hK hP 0 mws_0 rfl 22 (by decide) (hts (.fieldLink RX4 68 "CapitalReckonerModel" "thrown" "I") (by decide +kernel)) (fun _ h9 => h9) rfl dX4_draw_79 ?_
          refine lv_if_le (tgt := 87) hx hb dX4_draw_82 (by decide) (fun c_17 => ?_) (fun c_17 => absurd c_17 (by decide))
          refine lv_aload_n hx hb dX4_draw_87 rfl (lv_at hl 0 rfl) ?_
          refine va_get (D := D) (ci := 4) (v := .ref (am 5)) (C := RX4) (T := TX4) (N := 23) hx hb hts iX4 hown hK hP 0 mws_0 rfl 7 (by decide) (hts (.fieldLink RX4 26 "CapitalReckonerModel" "drawn" "[I") (by decide +kernel)) (fun _ h9 => h9) rfl dX4_draw_88 ?_
          refine lv_iload_n hx hb dX4_draw_91 rfl (lv_at hl 1 rfl) ?_
          refine lv_dup2_11 hx hb dX4_draw_92 rfl rfl ?_
          refine ziald (v := (g 5) x.toNatClampNeg) hx hb hK hP 5 0 mws_5 rfl (vp_in_le (zex_vp hok.n8 c_3) hok.n) (rfl) dX4_draw_93 ?_
          refine lv_iload_n hx hb dX4_draw_94 rfl (lv_at hl 2 rfl) ?_
          refine lv_iadd hx hb dX4_draw_95 ?_
          refine ziast (f2 := upd (g 5) x.toNatClampNeg (((g 5) x.toNatClampNeg) + d0)) hx hb hK hP hD hS 5 0 mws_5 rfl (vp_in_le (zex_vp hok.n8 c_3) hok.n) (rfl) dX4_draw_96 (fun H locs hP hD hS => ?_)
          have hP : va_P D vwCl (mws cI am (gR g 5 (upd (g 5) x.toNatClampNeg (((g 5) x.toNatClampNeg) + d0))) n k tb my lt 0) H := zP_re hP (mws_s5).symm
          have hD : va_D A (mws cI am (gR g 5 (upd (g 5) x.toNatClampNeg (((g 5) x.toNatClampNeg) + d0))) n k tb my lt 0) := zD_re hD (mws_s5).symm
          refine lv_aload_n hx hb dX4_draw_97 rfl (lv_at hl 0 rfl) ?_
          refine va_get (D := D) (ci := 4) (v := .ref (am 6)) (C := RX4) (T := TX4) (N := 23) hx hb hts iX4 hown hK hP 0 mws_0 rfl 8 (by decide) (hts (.fieldLink RX4 29 "CapitalReckonerModel" "promised" "[I") (by decide +kernel)) (fun _ h9 => h9) rfl dX4_draw_98 ?_
          refine lv_iload_n hx hb dX4_draw_101 rfl (lv_at hl 1 rfl) ?_
          refine lv_dup2_11 hx hb dX4_draw_102 rfl rfl ?_
          refine ziald (v := (g 6) x.toNatClampNeg) hx hb hK hP 6 0 mws_6 rfl (vp_in_le (zex_vp hok.n8 c_3) hok.n) (rfl) dX4_draw_103 ?_
          refine lv_iload_n hx hb dX4_draw_104 rfl (lv_at hl 2 rfl) ?_
          refine lv_isub hx hb dX4_draw_105 ?_
          refine ziast (f2 := upd (g 6) x.toNatClampNeg (((g 6) x.toNatClampNeg) - d0)) hx hb hK hP hD hS 6 0 mws_6 rfl (vp_in_le (zex_vp hok.n8 c_3) hok.n) (rfl) dX4_draw_106 (fun H locs hP hD hS => ?_)
          have hP : va_P D vwCl (mws cI am (gR (gR g 5 (upd (g 5) x.toNatClampNeg (((g 5) x.toNatClampNeg) + d0))) 6 (upd (g 6) x.toNatClampNeg (((g 6) x.toNatClampNeg) - d0))) n k tb my lt 0) H := zP_re hP (mws_s6).symm
          have hD : va_D A (mws cI am (gR (gR g 5 (upd (g 5) x.toNatClampNeg (((g 5) x.toNatClampNeg) + d0))) 6 (upd (g 6) x.toNatClampNeg (((g 6) x.toNatClampNeg) - d0))) n k tb my lt 0) := zD_re hD (mws_s6).symm
          refine lv_aload_n hx hb dX4_draw_107 rfl (lv_at hl 0 rfl) ?_
          refine va_get (D := D) (ci := 4) (v := .ref (am 5)) (C := RX4) (T := TX4) (N := 23) hx hb hts iX4 hown hK hP 0 mws_0 rfl 7 (by decide) (hts (.fieldLink RX4 26 "CapitalReckonerModel" "drawn" "[I") (by decide +kernel)) (fun _ h9 => h9) rfl dX4_draw_108 ?_
          refine lv_iload_n hx hb dX4_draw_111 rfl (lv_at hl 1 rfl) ?_
          refine ziald (v := (upd (g 5) x.toNatClampNeg (((g 5) x.toNatClampNeg) + d0)) x.toNatClampNeg) hx hb hK hP 5 0 mws_5 rfl (vp_in_le (zex_vp hok.n8 c_3) hok.n) (rfl) dX4_draw_112 ?_
          have hT : T_draw g n x d0 = 0 := by simp [T_draw, c_3, c_6, c_11, c_15]
          exact ziret (v := (upd (g 5) x.toNatClampNeg (((g 5) x.toNatClampNeg) + d0)) x.toNatClampNeg) hx hb hr hAe (fun _ => by first | rfl | simp [gR, upd]) (zP_re hP (by rw [hT]; first | done | rfl)) (zD_re hD (by rw [hT]; first | done | rfl)) hS dX4_draw_113
  · have c_3 := zb_eq c_3
    refine lv_iconst (v := 1) hx hb dX4_draw_9 (by decide) ?_
    refine lv_goto (tgt := 29) hx hb dX4_draw_10 (by decide) ?_
    refine va_put (D := D) (ci := 4) (v := .int 1) (ty := .int) (C := RX4) (T := TX4) (N := 23) hx hb hts iX4 tyX4 tyX4_ok nmX4 hown hK hP hD hS 0 mws_0 rfl 22 (by decide) (hts (.fieldLink RX4 68 "CapitalReckonerModel" "thrown" "I") (by decide +kernel)) (fun _ h9 => h9) rfl (by decide +kernel) rfl rfl (Nat.le_of_ble_eq_true rfl) dX4_draw_29 (fun H locs hP hD hS => ?_)
    have hP : va_P D vwCl (mws cI am g n k tb my lt 1) H := zP_re hP (mws_sth).symm
    have hD : va_D A (mws cI am g n k tb my lt 1) := zD_re hD (mws_sth).symm
    refine lv_aload_n hx hb dX4_draw_32 rfl (lv_at hl 0 rfl) ?_
    refine va_get (D := D) (ci := 4) (v := .int 1) (C := RX4) (T := TX4) (N := 23) hx hb hts iX4 hown hK hP 0 mws_0 rfl 22 (by decide) (hts (.fieldLink RX4 68 "CapitalReckonerModel" "thrown" "I") (by decide +kernel)) (fun _ h9 => h9) rfl dX4_draw_33 ?_
    refine lv_if_le (tgt := 41) hx hb dX4_draw_36 (by decide) (fun c_18 => absurd c_18 (by decide)) (fun c_18 => ?_)
    refine lv_iconst (v := 0) hx hb dX4_draw_39 (by decide) ?_
    have hT : T_draw g n x d0 = 1 := by simp [T_draw, c_3]
    exact ziret (v := 0) hx hb hr hAe (fun h => absurd (hT.symm.trans h) (by decide)) (zP_re hP (by rw [hT]; first | done | rfl)) (zD_re hD (by rw [hT]; first | done | rfl)) hS dX4_draw_40
set_option maxHeartbeats 4000000 in
set_option maxRecDepth 100000 in
theorem zX4_setClass (l : Launch) (D : va_G) (cI cL cE cP : ClassId) (am : Nat → Nat) (g : Nat → Nat → Int32) (n k : Nat) (tb my lt : Nat → Int32) (th : Int32) (hok : zOk g n k) (x k0 : Int32) (sz : Nat) : Met l yX4_setClass wsX4_setClass ({ frames := 2, cells := 0, slots := 0, locals := 43 }) (zPw D cI cL cE cP (mws cI am g n k tb my lt th) sz [.ref (am 0), .int x, .int k0]) (zQi D (mws cI am g n k tb my lt th) sz (fun r : Int32 => (T_setClass n x k0 = 0 → r = g 3 x.toNatClampNeg)) (mws cI am (if T_setClass n x k0 = 0 then gR g 3 (upd (g 3) x.toNatClampNeg k0) else g) n k tb my lt (T_setClass n x k0))) 0 0 (va_A (mws cI am g n k tb my lt th) sz) := by
  refine Met.ofW (cc := cX4_setClass) (maxL := 4) (ret := (some .int)) (by decide) rfl ?_
  intro p e s m args below meth c s₁ B hml hv
  obtain ⟨rfl, hsz, hE, hP, hD0⟩ := hv
  subst hsz
  obtain ⟨A, hAe⟩ : ∃ A, A = va_A (mws cI am g n k tb my lt th) s.heap.size := ⟨_, rfl⟩
  have hD : va_D A (mws cI am g n k tb my lt th) := by rw [hAe]; exact hD0.self
  have hA : ∀ q : Nat, s.heap.size ≤ q → A q := fun q h => by rw [hAe]; exact Or.inr h
  have hS : va_S A s.heap s.heap [] := va_S.rf
  have hx := B.exec
  have hb := B.bytes
  have hr := B.returns
  have hts := atoms_spec (ws := wsX4_setClass) B.pre
  have hown : s.vm.findClass RX4 = some m.cls := findClass_of_methodNamed B.named
  have hlocks := B.notSynchronized
  have hK := hE.1
  have iX4 : ∀ w ∈ wsX40, w ∈ wsX4_setClass := by decide +kernel
  have hl := lv_entry ([.ref (am 0), .int x, .int k0]) (n := 4) (Nat.le_of_ble_eq_true rfl)
  rw [lg_entry_eq]
  generalize (lg_sl ([.ref (am 0), .int x, .int k0]) ++ List.replicate (4 - (lg_sl ([.ref (am 0), .int x, .int k0])).length) Slot.unset).toArray = ls at hl ⊢
  have hl : lv_has ls 4 [(0, .ref (am 0)), (1, .int x), (2, .int k0)] := hl
  refine lv_aload_n hx hb dX4_setClass_0 rfl (lv_at hl 0 rfl) ?_
  refine lv_aload_n hx hb dX4_setClass_1 rfl (lv_at hl 0 rfl) ?_
  refine lv_iload_n hx hb dX4_setClass_2 rfl (lv_at hl 1 rfl) ?_
  refine vp_callSi (va_Run.run (va_runV (As := [.int x]) (rest := [.ref (am 0)]) ⟨hx, hb, hml, hown, hts⟩ (zX4_isExposure l D cI cL cE cP am g n k tb my lt th hok (x)) (cwV 1 hts gX4_setClass_X4_isExposure rfl rfl rfl (by decide +kernel) ⟨Nat.le_of_ble_eq_true rfl, Nat.le_of_ble_eq_true rfl⟩) ⟨zPr_blind, va_recv hK hP (ci := 4) (q0 := 0) rfl mws_0, zPr_mk hE hP⟩ rfl rfl hl.1 rfl (lv_room (Nat.le_of_ble_eq_true rfl)) dX4_setClass_3 ⟨Nat.le_of_ble_eq_true rfl, Nat.le_of_ble_eq_true rfl⟩)) (fun r_1 e_2 => ?_)
  obtain rfl := e_2
  refine lv_if_eq (tgt := 20) hx hb dX4_setClass_6 (by decide) (fun c_3 => ?_) (fun c_3 => ?_)
  · have c_3 := zb_eq c_3
    refine lv_iconst (v := 1) hx hb dX4_setClass_20 (by decide) ?_
    refine va_put (D := D) (ci := 4) (v := .int 1) (ty := .int) (C := RX4) (T := TX4) (N := 23) hx hb hts iX4 tyX4 tyX4_ok nmX4 hown hK hP hD hS 0 mws_0 rfl 22 (by decide) (hts (.fieldLink RX4 68 "CapitalReckonerModel" "thrown" "I") (by decide +kernel)) (fun _ h9 => h9) rfl (by decide +kernel) rfl rfl (Nat.le_of_ble_eq_true rfl) dX4_setClass_21 (fun H locs hP hD hS => ?_)
    have hP : va_P D vwCl (mws cI am g n k tb my lt 1) H := zP_re hP (mws_sth).symm
    have hD : va_D A (mws cI am g n k tb my lt 1) := zD_re hD (mws_sth).symm
    refine lv_aload_n hx hb dX4_setClass_24 rfl (lv_at hl 0 rfl) ?_
    refine va_get (D := D) (ci := 4) (v := .int 1) (C := RX4) (T := TX4) (N := 23) hx hb hts iX4 hown hK hP 0 mws_0 rfl 22 (by decide) (hts (.fieldLink RX4 68 "CapitalReckonerModel" "thrown" "I") (by decide +kernel)) (fun _ h9 => h9) rfl dX4_setClass_25 ?_
    refine lv_if_le (tgt := 33) hx hb dX4_setClass_28 (by decide) (fun c_4 => absurd c_4 (by decide)) (fun c_4 => ?_)
    refine lv_iconst (v := 0) hx hb dX4_setClass_31 (by decide) ?_
    have hT : T_setClass n x k0 = 1 := by simp [T_setClass, c_3]
    exact ziret (v := 0) hx hb hr hAe (fun h => absurd (hT.symm.trans h) (by decide)) (zP_re hP (by rw [hT]; first | done | rfl)) (zD_re hD (by rw [hT]; first | done | rfl)) hS dX4_setClass_32
  · have c_3 := zb_ne c_3
    refine lv_iload_n hx hb dX4_setClass_9 rfl (lv_at hl 2 rfl) ?_
    refine vp_callSi (va_Run.run (va_runS (As := [.int k0]) (rest := [.ref (am 0)]) ⟨hx, hb, hml, hown, hts⟩ (zX4_isFour l D cI cL cE cP (mws cI am g n k tb my lt th) k0) (va_cwS 1 hts gX4_setClass_X4_isFour rfl rfl rfl (by decide +kernel) ⟨Nat.le_of_ble_eq_true rfl, Nat.le_of_ble_eq_true rfl⟩) ⟨zPr_blind, zPr_mk hE hP⟩ rfl rfl hl.1 rfl (lv_room (Nat.le_of_ble_eq_true rfl)) dX4_setClass_10 ⟨Nat.le_of_ble_eq_true rfl, Nat.le_of_ble_eq_true rfl⟩)) (fun r_5 e_6 => ?_)
    obtain rfl := e_6
    refine lv_if_eq (tgt := 20) hx hb dX4_setClass_13 (by decide) (fun c_7 => ?_) (fun c_7 => ?_)
    · have c_7 := zb_eq c_7
      refine lv_iconst (v := 1) hx hb dX4_setClass_20 (by decide) ?_
      refine va_put (D := D) (ci := 4) (v := .int 1) (ty := .int) (C := RX4) (T := TX4) (N := 23) hx hb hts iX4 tyX4 tyX4_ok nmX4 hown hK hP hD hS 0 mws_0 rfl 22 (by decide) (hts (.fieldLink RX4 68 "CapitalReckonerModel" "thrown" "I") (by decide +kernel)) (fun _ h9 => h9) rfl (by decide +kernel) rfl rfl (Nat.le_of_ble_eq_true rfl) dX4_setClass_21 (fun H locs hP hD hS => ?_)
      have hP : va_P D vwCl (mws cI am g n k tb my lt 1) H := zP_re hP (mws_sth).symm
      have hD : va_D A (mws cI am g n k tb my lt 1) := zD_re hD (mws_sth).symm
      refine lv_aload_n hx hb dX4_setClass_24 rfl (lv_at hl 0 rfl) ?_
      refine va_get (D := D) (ci := 4) (v := .int 1) (C := RX4) (T := TX4) (N := 23) hx hb hts iX4 hown hK hP 0 mws_0 rfl 22 (by decide) (hts (.fieldLink RX4 68 "CapitalReckonerModel" "thrown" "I") (by decide +kernel)) (fun _ h9 => h9) rfl dX4_setClass_25 ?_
      refine lv_if_le (tgt := 33) hx hb dX4_setClass_28 (by decide) (fun c_8 => absurd c_8 (by decide)) (fun c_8 => ?_)
      refine lv_iconst (v := 0) hx hb dX4_setClass_31 (by decide) ?_
      have hT : T_setClass n x k0 = 1 := by simp [T_setClass, c_3, c_7]
      exact ziret (v := 0) hx hb hr hAe (fun h => absurd (hT.symm.trans h) (by decide)) (zP_re hP (by rw [hT]; first | done | rfl)) (zD_re hD (by rw [hT]; first | done | rfl)) hS dX4_setClass_32
    · have c_7 := zb_ne c_7
      refine lv_iconst (v := 0) hx hb dX4_setClass_16 (by decide) ?_
      refine lv_goto (tgt := 21) hx hb dX4_setClass_17 (by decide) ?_
      refine va_put (D := D) (ci := 4) (v := .int 0) (ty := .int) (C := RX4) (T := TX4) (N := 23) hx hb hts iX4 tyX4 tyX4_ok nmX4 hown hK hP hD hS 0 mws_0 rfl 22 (by decide) (hts (.fieldLink RX4 68 "CapitalReckonerModel" "thrown" "I") (by decide +kernel)) (fun _ h9 => h9) rfl (by decide +kernel) rfl rfl (Nat.le_of_ble_eq_true rfl) dX4_setClass_21 (fun H locs hP hD hS => ?_)
      have hP : va_P D vwCl (mws cI am g n k tb my lt 0) H := zP_re hP (mws_sth).symm
      have hD : va_D A (mws cI am g n k tb my lt 0) := zD_re hD (mws_sth).symm
      refine lv_aload_n hx hb dX4_setClass_24 rfl (lv_at hl 0 rfl) ?_
      refine va_get (D := D) (ci := 4) (v := .int 0) (C := RX4) (T := TX4) (N := 23) hx hb hts iX4 hown hK hP 0 mws_0 rfl 22 (by decide) (hts (.fieldLink RX4 68 "CapitalReckonerModel" "thrown" "I") (by decide +kernel)) (fun _ h9 => h9) rfl dX4_setClass_25 ?_
      refine lv_if_le (tgt := 33) hx hb dX4_setClass_28 (by decide) (fun c_9 => ?_) (fun c_9 => absurd c_9 (by decide))
      refine lv_aload_n hx hb dX4_setClass_33 rfl (lv_at hl 0 rfl) ?_
      refine va_get (D := D) (ci := 4) (v := .ref (am 3)) (C := RX4) (T := TX4) (N := 23) hx hb hts iX4 hown hK hP 0 mws_0 rfl 5 (by decide) (hts (.fieldLink RX4 20 "CapitalReckonerModel" "kind" "[I") (by decide +kernel)) (fun _ h9 => h9) rfl dX4_setClass_34 ?_
      refine lv_iload_n hx hb dX4_setClass_37 rfl (lv_at hl 1 rfl) ?_
      refine ziald (v := (g 3) x.toNatClampNeg) hx hb hK hP 3 0 mws_3 rfl (vp_in_le (zex_vp hok.n8 c_3) hok.n) (rfl) dX4_setClass_38 ?_
      refine lv_istore_n (lv' := [(3, .int ((g 3) x.toNatClampNeg)), (0, .ref (am 0)), (1, .int x), (2, .int k0)]) hx hb dX4_setClass_39 rfl hl (by decide) rfl (fun ls hl => ?_)
      refine lv_aload_n hx hb dX4_setClass_40 rfl (lv_at hl 1 rfl) ?_
      refine va_get (D := D) (ci := 4) (v := .ref (am 3)) (C := RX4) (T := TX4) (N := 23) hx hb hts iX4 hown hK hP 0 mws_0 rfl 5 (by decide) (hts (.fieldLink RX4 20 "CapitalReckonerModel" "kind" "[I") (by decide +kernel)) (fun _ h9 => h9) rfl dX4_setClass_41 ?_
      refine lv_iload_n hx hb dX4_setClass_44 rfl (lv_at hl 2 rfl) ?_
      refine lv_iload_n hx hb dX4_setClass_45 rfl (lv_at hl 3 rfl) ?_
      refine ziast (f2 := upd (g 3) x.toNatClampNeg k0) hx hb hK hP hD hS 3 0 mws_3 rfl (vp_in_le (zex_vp hok.n8 c_3) hok.n) (rfl) dX4_setClass_46 (fun H locs hP hD hS => ?_)
      have hP : va_P D vwCl (mws cI am (gR g 3 (upd (g 3) x.toNatClampNeg k0)) n k tb my lt 0) H := zP_re hP (mws_s3).symm
      have hD : va_D A (mws cI am (gR g 3 (upd (g 3) x.toNatClampNeg k0)) n k tb my lt 0) := zD_re hD (mws_s3).symm
      refine lv_iload_n hx hb dX4_setClass_47 rfl (lv_at hl 0 rfl) ?_
      have hT : T_setClass n x k0 = 0 := by simp [T_setClass, c_3, c_7]
      exact ziret (v := (g 3) x.toNatClampNeg) hx hb hr hAe (fun _ => rfl) (zP_re hP (by rw [hT]; first | done | rfl)) (zD_re hD (by rw [hT]; first | done | rfl)) hS dX4_setClass_48
set_option maxHeartbeats 4000000 in
set_option maxRecDepth 100000 in
theorem zX4_guarantee (l : Launch) (D : va_G) (cI cL cE cP : ClassId) (am : Nat → Nat) (g : Nat → Nat → Int32) (n k : Nat) (tb my lt : Nat → Int32) (th : Int32) (hok : zOk g n k) (x k0 s0 : Int32) (sz : Nat) : Met l yX4_guarantee wsX4_guarantee ({ frames := 2, cells := 0, slots := 0, locals := 43 }) (zPw D cI cL cE cP (mws cI am g n k tb my lt th) sz [.ref (am 0), .int x, .int k0, .int s0]) (zQi D (mws cI am g n k tb my lt th) sz (fun r : Int32 => (T_guarantee n x k0 s0 = 0 → r = g 10 x.toNatClampNeg)) (mws cI am (if T_guarantee n x k0 s0 = 0 then gR (gR g 9 (upd (g 9) x.toNatClampNeg k0)) 10 (upd (g 10) x.toNatClampNeg s0) else g) n k tb my lt (T_guarantee n x k0 s0))) 0 0 (va_A (mws cI am g n k tb my lt th) sz) := by
  refine Met.ofW (cc := cX4_guarantee) (maxL := 5) (ret := (some .int)) (by decide) rfl ?_
  intro p e s m args below meth c s₁ B hml hv
  obtain ⟨rfl, hsz, hE, hP, hD0⟩ := hv
  subst hsz
  obtain ⟨A, hAe⟩ : ∃ A, A = va_A (mws cI am g n k tb my lt th) s.heap.size := ⟨_, rfl⟩
  have hD : va_D A (mws cI am g n k tb my lt th) := by rw [hAe]; exact hD0.self
  have hA : ∀ q : Nat, s.heap.size ≤ q → A q := fun q h => by rw [hAe]; exact Or.inr h
  have hS : va_S A s.heap s.heap [] := va_S.rf
  have hx := B.exec
  have hb := B.bytes
  have hr := B.returns
  have hts := atoms_spec (ws := wsX4_guarantee) B.pre
  have hown : s.vm.findClass RX4 = some m.cls := findClass_of_methodNamed B.named
  have hlocks := B.notSynchronized
  have hK := hE.1
  have iX4 : ∀ w ∈ wsX40, w ∈ wsX4_guarantee := by decide +kernel
  have hl := lv_entry ([.ref (am 0), .int x, .int k0, .int s0]) (n := 5) (Nat.le_of_ble_eq_true rfl)
  rw [lg_entry_eq]
  generalize (lg_sl ([.ref (am 0), .int x, .int k0, .int s0]) ++ List.replicate (5 - (lg_sl ([.ref (am 0), .int x, .int k0, .int s0])).length) Slot.unset).toArray = ls at hl ⊢
  have hl : lv_has ls 5 [(0, .ref (am 0)), (1, .int x), (2, .int k0), (3, .int s0)] := hl
  refine lv_aload_n hx hb dX4_guarantee_0 rfl (lv_at hl 0 rfl) ?_
  refine lv_aload_n hx hb dX4_guarantee_1 rfl (lv_at hl 0 rfl) ?_
  refine lv_iload_n hx hb dX4_guarantee_2 rfl (lv_at hl 1 rfl) ?_
  refine vp_callSi (va_Run.run (va_runV (As := [.int x]) (rest := [.ref (am 0)]) ⟨hx, hb, hml, hown, hts⟩ (zX4_isExposure l D cI cL cE cP am g n k tb my lt th hok (x)) (cwV 1 hts gX4_guarantee_X4_isExposure rfl rfl rfl (by decide +kernel) ⟨Nat.le_of_ble_eq_true rfl, Nat.le_of_ble_eq_true rfl⟩) ⟨zPr_blind, va_recv hK hP (ci := 4) (q0 := 0) rfl mws_0, zPr_mk hE hP⟩ rfl rfl hl.1 rfl (lv_room (Nat.le_of_ble_eq_true rfl)) dX4_guarantee_3 ⟨Nat.le_of_ble_eq_true rfl, Nat.le_of_ble_eq_true rfl⟩)) (fun r_1 e_2 => ?_)
  obtain rfl := e_2
  refine lv_if_eq (tgt := 16) hx hb dX4_guarantee_6 (by decide) (fun c_3 => ?_) (fun c_3 => ?_)
  · have c_3 := zb_eq c_3
    refine lv_iconst (v := 1) hx hb dX4_guarantee_16 (by decide) ?_
    refine lv_goto (tgt := 32) hx hb dX4_guarantee_17 (by decide) ?_
    refine va_put (D := D) (ci := 4) (v := .int 1) (ty := .int) (C := RX4) (T := TX4) (N := 23) hx hb hts iX4 tyX4 tyX4_ok nmX4 hown hK hP hD hS 0 mws_0 rfl 22 (by decide) (hts (.fieldLink RX4 68 "CapitalReckonerModel" "thrown" "I") (by decide +kernel)) (fun _ h9 => h9) rfl (by decide +kernel) rfl rfl (Nat.le_of_ble_eq_true rfl) dX4_guarantee_32 (fun H locs hP hD hS => ?_)
    have hP : va_P D vwCl (mws cI am g n k tb my lt 1) H := zP_re hP (mws_sth).symm
    have hD : va_D A (mws cI am g n k tb my lt 1) := zD_re hD (mws_sth).symm
    refine lv_aload_n hx hb dX4_guarantee_35 rfl (lv_at hl 0 rfl) ?_
    refine va_get (D := D) (ci := 4) (v := .int 1) (C := RX4) (T := TX4) (N := 23) hx hb hts iX4 hown hK hP 0 mws_0 rfl 22 (by decide) (hts (.fieldLink RX4 68 "CapitalReckonerModel" "thrown" "I") (by decide +kernel)) (fun _ h9 => h9) rfl dX4_guarantee_36 ?_
    refine lv_if_le (tgt := 44) hx hb dX4_guarantee_39 (by decide) (fun c_4 => absurd c_4 (by decide)) (fun c_4 => ?_)
    refine lv_iconst (v := 0) hx hb dX4_guarantee_42 (by decide) ?_
    have hT : T_guarantee n x k0 s0 = 1 := by simp [T_guarantee, c_3]
    exact ziret (v := 0) hx hb hr hAe (fun h => absurd (hT.symm.trans h) (by decide)) (zP_re hP (by rw [hT]; first | done | rfl)) (zD_re hD (by rw [hT]; first | done | rfl)) hS dX4_guarantee_43
  · have c_3 := zb_ne c_3
    refine lv_iload_n hx hb dX4_guarantee_9 rfl (lv_at hl 2 rfl) ?_
    refine vp_callSi (va_Run.run (va_runS (As := [.int k0]) (rest := [.ref (am 0)]) ⟨hx, hb, hml, hown, hts⟩ (zX4_isFour l D cI cL cE cP (mws cI am g n k tb my lt th) k0) (va_cwS 1 hts gX4_guarantee_X4_isFour rfl rfl rfl (by decide +kernel) ⟨Nat.le_of_ble_eq_true rfl, Nat.le_of_ble_eq_true rfl⟩) ⟨zPr_blind, zPr_mk hE hP⟩ rfl rfl hl.1 rfl (lv_room (Nat.le_of_ble_eq_true rfl)) dX4_guarantee_10 ⟨Nat.le_of_ble_eq_true rfl, Nat.le_of_ble_eq_true rfl⟩)) (fun r_5 e_6 => ?_)
    obtain rfl := e_6
    refine lv_if_ne (tgt := 20) hx hb dX4_guarantee_13 (by decide) (fun c_7 => ?_) (fun c_7 => ?_)
    · have c_7 := zb_ne c_7
      refine lv_iload_n hx hb dX4_guarantee_20 rfl (lv_at hl 3 rfl) ?_
      refine vp_callSi (va_Run.run (va_runS (As := [.int s0]) (rest := [.ref (am 0)]) ⟨hx, hb, hml, hown, hts⟩ (zX4_isSum l D cI cL cE cP (mws cI am g n k tb my lt th) s0) (va_cwS 1 hts gX4_guarantee_X4_isSum rfl rfl rfl (by decide +kernel) ⟨Nat.le_of_ble_eq_true rfl, Nat.le_of_ble_eq_true rfl⟩) ⟨zPr_blind, zPr_mk hE hP⟩ rfl rfl hl.1 rfl (lv_room (Nat.le_of_ble_eq_true rfl)) dX4_guarantee_21 ⟨Nat.le_of_ble_eq_true rfl, Nat.le_of_ble_eq_true rfl⟩)) (fun r_8 e_9 => ?_)
      obtain rfl := e_9
      refine lv_if_eq (tgt := 31) hx hb dX4_guarantee_24 (by decide) (fun c_10 => ?_) (fun c_10 => ?_)
      · have c_10 := zb_eq c_10
        refine lv_iconst (v := 2) hx hb dX4_guarantee_31 (by decide) ?_
        refine va_put (D := D) (ci := 4) (v := .int 2) (ty := .int) (C := RX4) (T := TX4) (N := 23) hx hb hts iX4 tyX4 tyX4_ok nmX4 hown hK hP hD hS 0 mws_0 rfl 22 (by decide) (hts (.fieldLink RX4 68 "CapitalReckonerModel" "thrown" "I") (by decide +kernel)) (fun _ h9 => h9) rfl (by decide +kernel) rfl rfl (Nat.le_of_ble_eq_true rfl) dX4_guarantee_32 (fun H locs hP hD hS => ?_)
        have hP : va_P D vwCl (mws cI am g n k tb my lt 2) H := zP_re hP (mws_sth).symm
        have hD : va_D A (mws cI am g n k tb my lt 2) := zD_re hD (mws_sth).symm
        refine lv_aload_n hx hb dX4_guarantee_35 rfl (lv_at hl 0 rfl) ?_
        refine va_get (D := D) (ci := 4) (v := .int 2) (C := RX4) (T := TX4) (N := 23) hx hb hts iX4 hown hK hP 0 mws_0 rfl 22 (by decide) (hts (.fieldLink RX4 68 "CapitalReckonerModel" "thrown" "I") (by decide +kernel)) (fun _ h9 => h9) rfl dX4_guarantee_36 ?_
        refine lv_if_le (tgt := 44) hx hb dX4_guarantee_39 (by decide) (fun c_11 => absurd c_11 (by decide)) (fun c_11 => ?_)
        refine lv_iconst (v := 0) hx hb dX4_guarantee_42 (by decide) ?_
        have hT : T_guarantee n x k0 s0 = 2 := by simp [T_guarantee, c_3, c_7, c_10]
        exact ziret (v := 0) hx hb hr hAe (fun h => absurd (hT.symm.trans h) (by decide)) (zP_re hP (by rw [hT]; first | done | rfl)) (zD_re hD (by rw [hT]; first | done | rfl)) hS dX4_guarantee_43
      · have c_10 := zb_ne c_10
        refine lv_iconst (v := 0) hx hb dX4_guarantee_27 (by decide) ?_
        refine lv_goto (tgt := 32) hx hb dX4_guarantee_28 (by decide) ?_
        refine va_put (D := D) (ci := 4) (v := .int 0) (ty := .int) (C := RX4) (T := TX4) (N := 23) hx hb hts iX4 tyX4 tyX4_ok nmX4 hown hK hP hD hS 0 mws_0 rfl 22 (by decide) (hts (.fieldLink RX4 68 "CapitalReckonerModel" "thrown" "I") (by decide +kernel)) (fun _ h9 => h9) rfl (by decide +kernel) rfl rfl (Nat.le_of_ble_eq_true rfl) dX4_guarantee_32 (fun H locs hP hD hS => ?_)
        have hP : va_P D vwCl (mws cI am g n k tb my lt 0) H := zP_re hP (mws_sth).symm
        have hD : va_D A (mws cI am g n k tb my lt 0) := zD_re hD (mws_sth).symm
        refine lv_aload_n hx hb dX4_guarantee_35 rfl (lv_at hl 0 rfl) ?_
        refine va_get (D := D) (ci := 4) (v := .int 0) (C := RX4) (T := TX4) (N := 23) hx hb hts iX4 hown hK hP 0 mws_0 rfl 22 (by decide) (hts (.fieldLink RX4 68 "CapitalReckonerModel" "thrown" "I") (by decide +kernel)) (fun _ h9 => h9) rfl dX4_guarantee_36 ?_
        refine lv_if_le (tgt := 44) hx hb dX4_guarantee_39 (by decide) (fun c_12 => ?_) (fun c_12 => absurd c_12 (by decide))
        refine lv_aload_n hx hb dX4_guarantee_44 rfl (lv_at hl 0 rfl) ?_
        refine va_get (D := D) (ci := 4) (v := .ref (am 10)) (C := RX4) (T := TX4) (N := 23) hx hb hts iX4 hown hK hP 0 mws_0 rfl 12 (by decide) (hts (.fieldLink RX4 41 "CapitalReckonerModel" "sure" "[I") (by decide +kernel)) (fun _ h9 => h9) rfl dX4_guarantee_45 ?_
        refine lv_iload_n hx hb dX4_guarantee_48 rfl (lv_at hl 1 rfl) ?_
        refine ziald (v := (g 10) x.toNatClampNeg) hx hb hK hP 10 0 mws_10 rfl (vp_in_le (zex_vp hok.n8 c_3) hok.n) (rfl) dX4_guarantee_49 ?_
        refine lv_istore (lv' := [(4, .int ((g 10) x.toNatClampNeg)), (0, .ref (am 0)), (1, .int x), (2, .int k0), (3, .int s0)]) hx hb dX4_guarantee_50 hl (by decide) rfl (fun ls hl => ?_)
        refine lv_aload_n hx hb dX4_guarantee_52 rfl (lv_at hl 1 rfl) ?_
        refine va_get (D := D) (ci := 4) (v := .ref (am 9)) (C := RX4) (T := TX4) (N := 23) hx hb hts iX4 hown hK hP 0 mws_0 rfl 11 (by decide) (hts (.fieldLink RX4 38 "CapitalReckonerModel" "better" "[I") (by decide +kernel)) (fun _ h9 => h9) rfl dX4_guarantee_53 ?_
        refine lv_iload_n hx hb dX4_guarantee_56 rfl (lv_at hl 2 rfl) ?_
        refine lv_iload_n hx hb dX4_guarantee_57 rfl (lv_at hl 3 rfl) ?_
        refine ziast (f2 := upd (g 9) x.toNatClampNeg k0) hx hb hK hP hD hS 9 0 mws_9 rfl (vp_in_le (zex_vp hok.n8 c_3) hok.n) (rfl) dX4_guarantee_58 (fun H locs hP hD hS => ?_)
        have hP : va_P D vwCl (mws cI am (gR g 9 (upd (g 9) x.toNatClampNeg k0)) n k tb my lt 0) H := zP_re hP (mws_s9).symm
        have hD : va_D A (mws cI am (gR g 9 (upd (g 9) x.toNatClampNeg k0)) n k tb my lt 0) := zD_re hD (mws_s9).symm
        refine lv_aload_n hx hb dX4_guarantee_59 rfl (lv_at hl 1 rfl) ?_
        refine va_get (D := D) (ci := 4) (v := .ref (am 10)) (C := RX4) (T := TX4) (N := 23) hx hb hts iX4 hown hK hP 0 mws_0 rfl 12 (by decide) (hts (.fieldLink RX4 41 "CapitalReckonerModel" "sure" "[I") (by decide +kernel)) (fun _ h9 => h9) rfl dX4_guarantee_60 ?_
        refine lv_iload_n hx hb dX4_guarantee_63 rfl (lv_at hl 2 rfl) ?_
        refine lv_iload_n hx hb dX4_guarantee_64 rfl (lv_at hl 4 rfl) ?_
        refine ziast (f2 := upd (g 10) x.toNatClampNeg s0) hx hb hK hP hD hS 10 0 mws_10 rfl (vp_in_le (zex_vp hok.n8 c_3) hok.n) (rfl) dX4_guarantee_65 (fun H locs hP hD hS => ?_)
        have hP : va_P D vwCl (mws cI am (gR (gR g 9 (upd (g 9) x.toNatClampNeg k0)) 10 (upd (g 10) x.toNatClampNeg s0)) n k tb my lt 0) H := zP_re hP (mws_s10).symm
        have hD : va_D A (mws cI am (gR (gR g 9 (upd (g 9) x.toNatClampNeg k0)) 10 (upd (g 10) x.toNatClampNeg s0)) n k tb my lt 0) := zD_re hD (mws_s10).symm
        refine lv_iload hx hb dX4_guarantee_66 (lv_at hl 0 rfl) ?_
        have hT : T_guarantee n x k0 s0 = 0 := by simp [T_guarantee, c_3, c_7, c_10]
        exact ziret (v := (g 10) x.toNatClampNeg) hx hb hr hAe (fun _ => rfl) (zP_re hP (by rw [hT]; first | done | rfl)) (zD_re hD (by rw [hT]; first | done | rfl)) hS dX4_guarantee_68
    · have c_7 := zb_eq c_7
      refine lv_iconst (v := 1) hx hb dX4_guarantee_16 (by decide) ?_
      refine lv_goto (tgt := 32) hx hb dX4_guarantee_17 (by decide) ?_
      refine va_put (D := D) (ci := 4) (v := .int 1) (ty := .int) (C := RX4) (T := TX4) (N := 23) hx hb hts iX4 tyX4 tyX4_ok nmX4 hown hK hP hD hS 0 mws_0 rfl 22 (by decide) (hts (.fieldLink RX4 68 "CapitalReckonerModel" "thrown" "I") (by decide +kernel)) (fun _ h9 => h9) rfl (by decide +kernel) rfl rfl (Nat.le_of_ble_eq_true rfl) dX4_guarantee_32 (fun H locs hP hD hS => ?_)
      have hP : va_P D vwCl (mws cI am g n k tb my lt 1) H := zP_re hP (mws_sth).symm
      have hD : va_D A (mws cI am g n k tb my lt 1) := zD_re hD (mws_sth).symm
      refine lv_aload_n hx hb dX4_guarantee_35 rfl (lv_at hl 0 rfl) ?_
      refine va_get (D := D) (ci := 4) (v := .int 1) (C := RX4) (T := TX4) (N := 23) hx hb hts iX4 hown hK hP 0 mws_0 rfl 22 (by decide) (hts (.fieldLink RX4 68 "CapitalReckonerModel" "thrown" "I") (by decide +kernel)) (fun _ h9 => h9) rfl dX4_guarantee_36 ?_
      refine lv_if_le (tgt := 44) hx hb dX4_guarantee_39 (by decide) (fun c_13 => absurd c_13 (by decide)) (fun c_13 => ?_)
      refine lv_iconst (v := 0) hx hb dX4_guarantee_42 (by decide) ?_
      have hT : T_guarantee n x k0 s0 = 1 := by simp [T_guarantee, c_3, c_7]
      exact ziret (v := 0) hx hb hr hAe (fun h => absurd (hT.symm.trans h) (by decide)) (zP_re hP (by rw [hT]; first | done | rfl)) (zD_re hD (by rw [hT]; first | done | rfl)) hS dX4_guarantee_43
set_option maxHeartbeats 4000000 in
set_option maxRecDepth 100000 in
theorem zX4_amount (l : Launch) (D : va_G) (cI cL cE cP : ClassId) (am : Nat → Nat) (g : Nat → Nat → Int32) (n k : Nat) (tb my lt : Nat → Int32) (th : Int32) (hok : zOk g n k) (x : Int32) (sz : Nat) : Met l yX4_amount wsX4_amount ({ frames := 2, cells := 0, slots := 0, locals := 43 }) (zPw D cI cL cE cP (mws cI am g n k tb my lt th) sz [.ref (am 0), .int x]) (zQi D (mws cI am g n k tb my lt th) sz (fun r : Int32 => (T_amount n x = 0 → r = amt g x.toNatClampNeg)) (mws cI am g n k tb my lt (T_amount n x))) 0 0 (va_A (mws cI am g n k tb my lt th) sz) := by
  refine Met.ofW (cc := cX4_amount) (maxL := 2) (ret := (some .int)) (by decide) rfl ?_
  intro p e s m args below meth c s₁ B hml hv
  obtain ⟨rfl, hsz, hE, hP, hD0⟩ := hv
  subst hsz
  obtain ⟨A, hAe⟩ : ∃ A, A = va_A (mws cI am g n k tb my lt th) s.heap.size := ⟨_, rfl⟩
  have hD : va_D A (mws cI am g n k tb my lt th) := by rw [hAe]; exact hD0.self
  have hA : ∀ q : Nat, s.heap.size ≤ q → A q := fun q h => by rw [hAe]; exact Or.inr h
  have hS : va_S A s.heap s.heap [] := va_S.rf
  have hx := B.exec
  have hb := B.bytes
  have hr := B.returns
  have hts := atoms_spec (ws := wsX4_amount) B.pre
  have hown : s.vm.findClass RX4 = some m.cls := findClass_of_methodNamed B.named
  have hlocks := B.notSynchronized
  have hK := hE.1
  have iX4 : ∀ w ∈ wsX40, w ∈ wsX4_amount := by decide +kernel
  have hl := lv_entry ([.ref (am 0), .int x]) (n := 2) (Nat.le_of_ble_eq_true rfl)
  rw [lg_entry_eq]
  generalize (lg_sl ([.ref (am 0), .int x]) ++ List.replicate (2 - (lg_sl ([.ref (am 0), .int x])).length) Slot.unset).toArray = ls at hl ⊢
  have hl : lv_has ls 2 [(0, .ref (am 0)), (1, .int x)] := hl
  refine lv_aload_n hx hb dX4_amount_0 rfl (lv_at hl 0 rfl) ?_
  refine lv_aload_n hx hb dX4_amount_1 rfl (lv_at hl 0 rfl) ?_
  refine lv_iload_n hx hb dX4_amount_2 rfl (lv_at hl 1 rfl) ?_
  refine vp_callSi (va_Run.run (va_runV (As := [.int x]) (rest := [.ref (am 0)]) ⟨hx, hb, hml, hown, hts⟩ (zX4_isExposure l D cI cL cE cP am g n k tb my lt th hok (x)) (cwV 1 hts gX4_amount_X4_isExposure rfl rfl rfl (by decide +kernel) ⟨Nat.le_of_ble_eq_true rfl, Nat.le_of_ble_eq_true rfl⟩) ⟨zPr_blind, va_recv hK hP (ci := 4) (q0 := 0) rfl mws_0, zPr_mk hE hP⟩ rfl rfl hl.1 rfl (lv_room (Nat.le_of_ble_eq_true rfl)) dX4_amount_3 ⟨Nat.le_of_ble_eq_true rfl, Nat.le_of_ble_eq_true rfl⟩)) (fun r_1 e_2 => ?_)
  obtain rfl := e_2
  refine lv_if_eq (tgt := 13) hx hb dX4_amount_6 (by decide) (fun c_3 => ?_) (fun c_3 => ?_)
  · have c_3 := zb_eq c_3
    refine lv_iconst (v := 1) hx hb dX4_amount_13 (by decide) ?_
    refine va_put (D := D) (ci := 4) (v := .int 1) (ty := .int) (C := RX4) (T := TX4) (N := 23) hx hb hts iX4 tyX4 tyX4_ok nmX4 hown hK hP hD hS 0 mws_0 rfl 22 (by decide) (hts (.fieldLink RX4 68 "CapitalReckonerModel" "thrown" "I") (by decide +kernel)) (fun _ h9 => h9) rfl (by decide +kernel) rfl rfl (Nat.le_of_ble_eq_true rfl) dX4_amount_14 (fun H locs hP hD hS => ?_)
    have hP : va_P D vwCl (mws cI am g n k tb my lt 1) H := zP_re hP (mws_sth).symm
    have hD : va_D A (mws cI am g n k tb my lt 1) := zD_re hD (mws_sth).symm
    refine lv_aload_n hx hb dX4_amount_17 rfl (lv_at hl 0 rfl) ?_
    refine va_get (D := D) (ci := 4) (v := .int 1) (C := RX4) (T := TX4) (N := 23) hx hb hts iX4 hown hK hP 0 mws_0 rfl 22 (by decide) (hts (.fieldLink RX4 68 "CapitalReckonerModel" "thrown" "I") (by decide +kernel)) (fun _ h9 => h9) rfl dX4_amount_18 ?_
    refine lv_if_le (tgt := 28) hx hb dX4_amount_21 (by decide) (fun c_4 => absurd c_4 (by decide)) (fun c_4 => ?_)
    refine lv_iconst (v := 0) hx hb dX4_amount_24 (by decide) ?_
    refine lv_goto (tgt := 33) hx hb dX4_amount_25 (by decide) ?_
    have hT : T_amount n x = 1 := by simp [T_amount, c_3]
    exact ziret (v := 0) hx hb hr hAe (fun h => absurd (hT.symm.trans h) (by decide)) (zP_re hP (by rw [hT]; first | done | rfl)) (zD_re hD (by rw [hT]; first | done | rfl)) hS dX4_amount_33
  · have c_3 := zb_ne c_3
    refine lv_iconst (v := 0) hx hb dX4_amount_9 (by decide) ?_
    refine lv_goto (tgt := 14) hx hb dX4_amount_10 (by decide) ?_
    refine va_put (D := D) (ci := 4) (v := .int 0) (ty := .int) (C := RX4) (T := TX4) (N := 23) hx hb hts iX4 tyX4 tyX4_ok nmX4 hown hK hP hD hS 0 mws_0 rfl 22 (by decide) (hts (.fieldLink RX4 68 "CapitalReckonerModel" "thrown" "I") (by decide +kernel)) (fun _ h9 => h9) rfl (by decide +kernel) rfl rfl (Nat.le_of_ble_eq_true rfl) dX4_amount_14 (fun H locs hP hD hS => ?_)
    have hP : va_P D vwCl (mws cI am g n k tb my lt 0) H := zP_re hP (mws_sth).symm
    have hD : va_D A (mws cI am g n k tb my lt 0) := zD_re hD (mws_sth).symm
    refine lv_aload_n hx hb dX4_amount_17 rfl (lv_at hl 0 rfl) ?_
    refine va_get (D := D) (ci := 4) (v := .int 0) (C := RX4) (T := TX4) (N := 23) hx hb hts iX4 hown hK hP 0 mws_0 rfl 22 (by decide) (hts (.fieldLink RX4 68 "CapitalReckonerModel" "thrown" "I") (by decide +kernel)) (fun _ h9 => h9) rfl dX4_amount_18 ?_
    refine lv_if_le (tgt := 28) hx hb dX4_amount_21 (by decide) (fun c_5 => ?_) (fun c_5 => absurd c_5 (by decide))
    refine lv_aload_n hx hb dX4_amount_28 rfl (lv_at hl 0 rfl) ?_
    refine lv_iload_n hx hb dX4_amount_29 rfl (lv_at hl 1 rfl) ?_
    refine vp_callSi (va_Run.run (va_runV (As := [.int x]) (rest := []) ⟨hx, hb, hml, hown, hts⟩ (zX4_amounts l D cI cL cE cP am g n k tb my lt 0 hok (x) (x.toNatClampNeg) (zex_lt hok.n8 c_3) (zex_eq hok.n8 c_3)) (cwV 1 hts gX4_amount_X4_amounts rfl rfl rfl (by decide +kernel) ⟨Nat.le_of_ble_eq_true rfl, Nat.le_of_ble_eq_true rfl⟩) ⟨zPr_blind, va_recv hK hP (ci := 4) (q0 := 0) rfl mws_0, zPr_mk hE hP⟩ rfl rfl hl.1 rfl (lv_room (Nat.le_of_ble_eq_true rfl)) dX4_amount_30 ⟨Nat.le_of_ble_eq_true rfl, Nat.le_of_ble_eq_true rfl⟩)) (fun r_6 e_7 => ?_)
    obtain rfl := e_7
    have hT : T_amount n x = 0 := by simp [T_amount, c_3]
    exact ziret (v := amt g x.toNatClampNeg) hx hb hr hAe (fun _ => rfl) (zP_re hP (by rw [hT]; first | done | rfl)) (zD_re hD (by rw [hT]; first | done | rfl)) hS dX4_amount_33
set_option maxHeartbeats 4000000 in
set_option maxRecDepth 100000 in
theorem zX4_setPiece (l : Launch) (D : va_G) (cI cL cE cP : ClassId) (am : Nat → Nat) (g : Nat → Nat → Int32) (n k : Nat) (tb my lt : Nat → Int32) (th : Int32) (hok : zOk g n k) (x m0 u0 : Int32) (sz : Nat) : Met l yX4_setPiece wsX4_setPiece ({ frames := 2, cells := 0, slots := 0, locals := 43 }) (zPw D cI cL cE cP (mws cI am g n k tb my lt th) sz [.ref (am 0), .int x, .int m0, .int u0]) (zQi D (mws cI am g n k tb my lt th) sz (fun r : Int32 => (T_setPiece k x m0 u0 = 0 → r = g 11 x.toNatClampNeg)) (mws cI am (if T_setPiece k x m0 u0 = 0 then gR (gR g 11 (upd (g 11) x.toNatClampNeg m0)) 15 (upd (g 15) x.toNatClampNeg u0) else g) n k tb my lt (T_setPiece k x m0 u0))) 0 0 (va_A (mws cI am g n k tb my lt th) sz) := by
  refine Met.ofW (cc := cX4_setPiece) (maxL := 5) (ret := (some .int)) (by decide) rfl ?_
  intro p e s m args below meth c s₁ B hml hv
  obtain ⟨rfl, hsz, hE, hP, hD0⟩ := hv
  subst hsz
  obtain ⟨A, hAe⟩ : ∃ A, A = va_A (mws cI am g n k tb my lt th) s.heap.size := ⟨_, rfl⟩
  have hD : va_D A (mws cI am g n k tb my lt th) := by rw [hAe]; exact hD0.self
  have hA : ∀ q : Nat, s.heap.size ≤ q → A q := fun q h => by rw [hAe]; exact Or.inr h
  have hS : va_S A s.heap s.heap [] := va_S.rf
  have hx := B.exec
  have hb := B.bytes
  have hr := B.returns
  have hts := atoms_spec (ws := wsX4_setPiece) B.pre
  have hown : s.vm.findClass RX4 = some m.cls := findClass_of_methodNamed B.named
  have hlocks := B.notSynchronized
  have hK := hE.1
  have iX4 : ∀ w ∈ wsX40, w ∈ wsX4_setPiece := by decide +kernel
  have hl := lv_entry ([.ref (am 0), .int x, .int m0, .int u0]) (n := 5) (Nat.le_of_ble_eq_true rfl)
  rw [lg_entry_eq]
  generalize (lg_sl ([.ref (am 0), .int x, .int m0, .int u0]) ++ List.replicate (5 - (lg_sl ([.ref (am 0), .int x, .int m0, .int u0])).length) Slot.unset).toArray = ls at hl ⊢
  have hl : lv_has ls 5 [(0, .ref (am 0)), (1, .int x), (2, .int m0), (3, .int u0)] := hl
  refine lv_aload_n hx hb dX4_setPiece_0 rfl (lv_at hl 0 rfl) ?_
  refine lv_aload_n hx hb dX4_setPiece_1 rfl (lv_at hl 0 rfl) ?_
  refine lv_iload_n hx hb dX4_setPiece_2 rfl (lv_at hl 1 rfl) ?_
  refine vp_callSi (va_Run.run (va_runV (As := [.int x]) (rest := [.ref (am 0)]) ⟨hx, hb, hml, hown, hts⟩ (zX4_isPiece l D cI cL cE cP am g n k tb my lt th hok (x)) (cwV 1 hts gX4_setPiece_X4_isPiece rfl rfl rfl (by decide +kernel) ⟨Nat.le_of_ble_eq_true rfl, Nat.le_of_ble_eq_true rfl⟩) ⟨zPr_blind, va_recv hK hP (ci := 4) (q0 := 0) rfl mws_0, zPr_mk hE hP⟩ rfl rfl hl.1 rfl (lv_room (Nat.le_of_ble_eq_true rfl)) dX4_setPiece_3 ⟨Nat.le_of_ble_eq_true rfl, Nat.le_of_ble_eq_true rfl⟩)) (fun r_1 e_2 => ?_)
  obtain rfl := e_2
  refine lv_if_ne (tgt := 13) hx hb dX4_setPiece_6 (by decide) (fun c_3 => ?_) (fun c_3 => ?_)
  · have c_3 := zb_ne c_3
    refine lv_iload_n hx hb dX4_setPiece_13 rfl (lv_at hl 2 rfl) ?_
    refine lv_iconst (v := 1) hx hb dX4_setPiece_14 (by decide) ?_
    refine lv_ldc (v := 10000000) hx hb hown (hts (.constant RX4 91 (10000000)) (by decide +kernel)) dX4_setPiece_15 ?_
    refine vp_callSi (va_Run.run (va_runS (As := [.int m0, .int 1, .int 10000000]) (rest := [.ref (am 0)]) ⟨hx, hb, hml, hown, hts⟩ (zX4_isIn l D cI cL cE cP (mws cI am g n k tb my lt th) m0 1 10000000) (va_cwS 3 hts gX4_setPiece_X4_isIn rfl rfl rfl (by decide +kernel) ⟨Nat.le_of_ble_eq_true rfl, Nat.le_of_ble_eq_true rfl⟩) ⟨zPr_blind, zPr_mk hE hP⟩ rfl rfl hl.1 rfl (lv_room (Nat.le_of_ble_eq_true rfl)) dX4_setPiece_17 ⟨Nat.le_of_ble_eq_true rfl, Nat.le_of_ble_eq_true rfl⟩)) (fun r_4 e_5 => ?_)
    obtain rfl := e_5
    refine lv_if_eq (tgt := 38) hx hb dX4_setPiece_20 (by decide) (fun c_6 => ?_) (fun c_6 => ?_)
    · have c_6 := zb_eq c_6
      refine lv_iconst (v := 2) hx hb dX4_setPiece_38 (by decide) ?_
      refine va_put (D := D) (ci := 4) (v := .int 2) (ty := .int) (C := RX4) (T := TX4) (N := 23) hx hb hts iX4 tyX4 tyX4_ok nmX4 hown hK hP hD hS 0 mws_0 rfl 22 (by decide) (hts (.fieldLink RX4 68 "CapitalReckonerModel" "thrown" "I") (by decide +kernel)) (fun _ h9 => h9) rfl (by decide +kernel) rfl rfl (Nat.le_of_ble_eq_true rfl) dX4_setPiece_39 (fun H locs hP hD hS => ?_)
      have hP : va_P D vwCl (mws cI am g n k tb my lt 2) H := zP_re hP (mws_sth).symm
      have hD : va_D A (mws cI am g n k tb my lt 2) := zD_re hD (mws_sth).symm
      refine lv_aload_n hx hb dX4_setPiece_42 rfl (lv_at hl 0 rfl) ?_
      refine va_get (D := D) (ci := 4) (v := .int 2) (C := RX4) (T := TX4) (N := 23) hx hb hts iX4 hown hK hP 0 mws_0 rfl 22 (by decide) (hts (.fieldLink RX4 68 "CapitalReckonerModel" "thrown" "I") (by decide +kernel)) (fun _ h9 => h9) rfl dX4_setPiece_43 ?_
      refine lv_if_le (tgt := 51) hx hb dX4_setPiece_46 (by decide) (fun c_7 => absurd c_7 (by decide)) (fun c_7 => ?_)
      refine lv_iconst (v := 0) hx hb dX4_setPiece_49 (by decide) ?_
      have hT : T_setPiece k x m0 u0 = 2 := by simp [T_setPiece, c_3, c_6]
      exact ziret (v := 0) hx hb hr hAe (fun h => absurd (hT.symm.trans h) (by decide)) (zP_re hP (by rw [hT]; first | done | rfl)) (zD_re hD (by rw [hT]; first | done | rfl)) hS dX4_setPiece_50
    · have c_6 := zb_ne c_6
      refine lv_iload_n hx hb dX4_setPiece_23 rfl (lv_at hl 3 rfl) ?_
      refine lv_iconst (v := 0) hx hb dX4_setPiece_24 (by decide) ?_
      refine lv_sipush (v := 255) hx hb dX4_setPiece_25 (by decide) ?_
      refine vp_callSi (va_Run.run (va_runS (As := [.int u0, .int 0, .int 255]) (rest := [.ref (am 0)]) ⟨hx, hb, hml, hown, hts⟩ (zX4_isIn l D cI cL cE cP (mws cI am g n k tb my lt th) u0 0 255) (va_cwS 3 hts gX4_setPiece_X4_isIn rfl rfl rfl (by decide +kernel) ⟨Nat.le_of_ble_eq_true rfl, Nat.le_of_ble_eq_true rfl⟩) ⟨zPr_blind, zPr_mk hE hP⟩ rfl rfl hl.1 rfl (lv_room (Nat.le_of_ble_eq_true rfl)) dX4_setPiece_28 ⟨Nat.le_of_ble_eq_true rfl, Nat.le_of_ble_eq_true rfl⟩)) (fun r_8 e_9 => ?_)
      obtain rfl := e_9
      refine lv_if_eq (tgt := 38) hx hb dX4_setPiece_31 (by decide) (fun c_10 => ?_) (fun c_10 => ?_)
      · have c_10 := zb_eq c_10
        refine lv_iconst (v := 2) hx hb dX4_setPiece_38 (by decide) ?_
        refine va_put (D := D) (ci := 4) (v := .int 2) (ty := .int) (C := RX4) (T := TX4) (N := 23) hx hb hts iX4 tyX4 tyX4_ok nmX4 hown hK hP hD hS 0 mws_0 rfl 22 (by decide) (hts (.fieldLink RX4 68 "CapitalReckonerModel" "thrown" "I") (by decide +kernel)) (fun _ h9 => h9) rfl (by decide +kernel) rfl rfl (Nat.le_of_ble_eq_true rfl) dX4_setPiece_39 (fun H locs hP hD hS => ?_)
        have hP : va_P D vwCl (mws cI am g n k tb my lt 2) H := zP_re hP (mws_sth).symm
        have hD : va_D A (mws cI am g n k tb my lt 2) := zD_re hD (mws_sth).symm
        refine lv_aload_n hx hb dX4_setPiece_42 rfl (lv_at hl 0 rfl) ?_
        refine va_get (D := D) (ci := 4) (v := .int 2) (C := RX4) (T := TX4) (N := 23) hx hb hts iX4 hown hK hP 0 mws_0 rfl 22 (by decide) (hts (.fieldLink RX4 68 "CapitalReckonerModel" "thrown" "I") (by decide +kernel)) (fun _ h9 => h9) rfl dX4_setPiece_43 ?_
        refine lv_if_le (tgt := 51) hx hb dX4_setPiece_46 (by decide) (fun c_11 => absurd c_11 (by decide)) (fun c_11 => ?_)
        refine lv_iconst (v := 0) hx hb dX4_setPiece_49 (by decide) ?_
        have hT : T_setPiece k x m0 u0 = 2 := by simp [T_setPiece, c_3, c_6, c_10]
        exact ziret (v := 0) hx hb hr hAe (fun h => absurd (hT.symm.trans h) (by decide)) (zP_re hP (by rw [hT]; first | done | rfl)) (zD_re hD (by rw [hT]; first | done | rfl)) hS dX4_setPiece_50
      · have c_10 := zb_ne c_10
        refine lv_iconst (v := 0) hx hb dX4_setPiece_34 (by decide) ?_
        refine lv_goto (tgt := 39) hx hb dX4_setPiece_35 (by decide) ?_
        refine va_put (D := D) (ci := 4) (v := .int 0) (ty := .int) (C := RX4) (T := TX4) (N := 23) hx hb hts iX4 tyX4 tyX4_ok nmX4 hown hK hP hD hS 0 mws_0 rfl 22 (by decide) (hts (.fieldLink RX4 68 "CapitalReckonerModel" "thrown" "I") (by decide +kernel)) (fun _ h9 => h9) rfl (by decide +kernel) rfl rfl (Nat.le_of_ble_eq_true rfl) dX4_setPiece_39 (fun H locs hP hD hS => ?_)
        have hP : va_P D vwCl (mws cI am g n k tb my lt 0) H := zP_re hP (mws_sth).symm
        have hD : va_D A (mws cI am g n k tb my lt 0) := zD_re hD (mws_sth).symm
        refine lv_aload_n hx hb dX4_setPiece_42 rfl (lv_at hl 0 rfl) ?_
        refine va_get (D := D) (ci := 4) (v := .int 0) (C := RX4) (T := TX4) (N := 23) hx hb hts iX4 hown hK hP 0 mws_0 rfl 22 (by decide) (hts (.fieldLink RX4 68 "CapitalReckonerModel" "thrown" "I") (by decide +kernel)) (fun _ h9 => h9) rfl dX4_setPiece_43 ?_
        refine lv_if_le (tgt := 51) hx hb dX4_setPiece_46 (by decide) (fun c_12 => ?_) (fun c_12 => absurd c_12 (by decide))
        refine lv_aload_n hx hb dX4_setPiece_51 rfl (lv_at hl 0 rfl) ?_
        refine va_get (D := D) (ci := 4) (v := .ref (am 11)) (C := RX4) (T := TX4) (N := 23) hx hb hts iX4 hown hK hP 0 mws_0 rfl 14 (by decide) (hts (.fieldLink RX4 44 "CapitalReckonerModel" "size" "[I") (by decide +kernel)) (fun _ h9 => h9) rfl dX4_setPiece_52 ?_
        refine lv_iload_n hx hb dX4_setPiece_55 rfl (lv_at hl 1 rfl) ?_
        refine ziald (v := (g 11) x.toNatClampNeg) hx hb hK hP 11 0 mws_11 rfl (vp_in_le (zex_vp hok.k8 c_3) hok.k) (rfl) dX4_setPiece_56 ?_
        refine lv_istore (lv' := [(4, .int ((g 11) x.toNatClampNeg)), (0, .ref (am 0)), (1, .int x), (2, .int m0), (3, .int u0)]) hx hb dX4_setPiece_57 hl (by decide) rfl (fun ls hl => ?_)
        refine lv_aload_n hx hb dX4_setPiece_59 rfl (lv_at hl 1 rfl) ?_
        refine va_get (D := D) (ci := 4) (v := .ref (am 11)) (C := RX4) (T := TX4) (N := 23) hx hb hts iX4 hown hK hP 0 mws_0 rfl 14 (by decide) (hts (.fieldLink RX4 44 "CapitalReckonerModel" "size" "[I") (by decide +kernel)) (fun _ h9 => h9) rfl dX4_setPiece_60 ?_
        refine lv_iload_n hx hb dX4_setPiece_63 rfl (lv_at hl 2 rfl) ?_
        refine lv_iload_n hx hb dX4_setPiece_64 rfl (lv_at hl 3 rfl) ?_
        refine ziast (f2 := upd (g 11) x.toNatClampNeg m0) hx hb hK hP hD hS 11 0 mws_11 rfl (vp_in_le (zex_vp hok.k8 c_3) hok.k) (rfl) dX4_setPiece_65 (fun H locs hP hD hS => ?_)
        have hP : va_P D vwCl (mws cI am (gR g 11 (upd (g 11) x.toNatClampNeg m0)) n k tb my lt 0) H := zP_re hP (mws_s11).symm
        have hD : va_D A (mws cI am (gR g 11 (upd (g 11) x.toNatClampNeg m0)) n k tb my lt 0) := zD_re hD (mws_s11).symm
        refine lv_aload_n hx hb dX4_setPiece_66 rfl (lv_at hl 1 rfl) ?_
        refine va_get (D := D) (ci := 4) (v := .ref (am 15)) (C := RX4) (T := TX4) (N := 23) hx hb hts iX4 hown hK hP 0 mws_0 rfl 18 (by decide) (hts (.fieldLink RX4 56 "CapitalReckonerModel" "uses" "[I") (by decide +kernel)) (fun _ h9 => h9) rfl dX4_setPiece_67 ?_
        refine lv_iload_n hx hb dX4_setPiece_70 rfl (lv_at hl 2 rfl) ?_
        refine lv_iload_n hx hb dX4_setPiece_71 rfl (lv_at hl 4 rfl) ?_
        refine ziast (f2 := upd (g 15) x.toNatClampNeg u0) hx hb hK hP hD hS 15 0 mws_15 rfl (vp_in_le (zex_vp hok.k8 c_3) hok.k) (rfl) dX4_setPiece_72 (fun H locs hP hD hS => ?_)
        have hP : va_P D vwCl (mws cI am (gR (gR g 11 (upd (g 11) x.toNatClampNeg m0)) 15 (upd (g 15) x.toNatClampNeg u0)) n k tb my lt 0) H := zP_re hP (mws_s15).symm
        have hD : va_D A (mws cI am (gR (gR g 11 (upd (g 11) x.toNatClampNeg m0)) 15 (upd (g 15) x.toNatClampNeg u0)) n k tb my lt 0) := zD_re hD (mws_s15).symm
        refine lv_iload hx hb dX4_setPiece_73 (lv_at hl 0 rfl) ?_
        have hT : T_setPiece k x m0 u0 = 0 := by simp [T_setPiece, c_3, c_6, c_10]
        exact ziret (v := (g 11) x.toNatClampNeg) hx hb hr hAe (fun _ => rfl) (zP_re hP (by rw [hT]; first | done | rfl)) (zD_re hD (by rw [hT]; first | done | rfl)) hS dX4_setPiece_75
  · have c_3 := zb_eq c_3
    refine lv_iconst (v := 1) hx hb dX4_setPiece_9 (by decide) ?_
    refine lv_goto (tgt := 39) hx hb dX4_setPiece_10 (by decide) ?_
    refine va_put (D := D) (ci := 4) (v := .int 1) (ty := .int) (C := RX4) (T := TX4) (N := 23) hx hb hts iX4 tyX4 tyX4_ok nmX4 hown hK hP hD hS 0 mws_0 rfl 22 (by decide) (hts (.fieldLink RX4 68 "CapitalReckonerModel" "thrown" "I") (by decide +kernel)) (fun _ h9 => h9) rfl (by decide +kernel) rfl rfl (Nat.le_of_ble_eq_true rfl) dX4_setPiece_39 (fun H locs hP hD hS => ?_)
    have hP : va_P D vwCl (mws cI am g n k tb my lt 1) H := zP_re hP (mws_sth).symm
    have hD : va_D A (mws cI am g n k tb my lt 1) := zD_re hD (mws_sth).symm
    refine lv_aload_n hx hb dX4_setPiece_42 rfl (lv_at hl 0 rfl) ?_
    refine va_get (D := D) (ci := 4) (v := .int 1) (C := RX4) (T := TX4) (N := 23) hx hb hts iX4 hown hK hP 0 mws_0 rfl 22 (by decide) (hts (.fieldLink RX4 68 "CapitalReckonerModel" "thrown" "I") (by decide +kernel)) (fun _ h9 => h9) rfl dX4_setPiece_43 ?_
    refine lv_if_le (tgt := 51) hx hb dX4_setPiece_46 (by decide) (fun c_13 => absurd c_13 (by decide)) (fun c_13 => ?_)
    refine lv_iconst (v := 0) hx hb dX4_setPiece_49 (by decide) ?_
    have hT : T_setPiece k x m0 u0 = 1 := by simp [T_setPiece, c_3]
    exact ziret (v := 0) hx hb hr hAe (fun h => absurd (hT.symm.trans h) (by decide)) (zP_re hP (by rw [hT]; first | done | rfl)) (zD_re hD (by rw [hT]; first | done | rfl)) hS dX4_setPiece_50
set_option maxHeartbeats 4000000 in
set_option maxRecDepth 100000 in
theorem zX4_value (l : Launch) (D : va_G) (cI cL cE cP : ClassId) (am : Nat → Nat) (g : Nat → Nat → Int32) (n k : Nat) (tb my lt : Nat → Int32) (th : Int32) (hok : zOk g n k) (y x : Int32) (sz : Nat) : Met l yX4_value wsX4_value ({ frames := 2, cells := 0, slots := 0, locals := 44 }) (zPw D cI cL cE cP (mws cI am g n k tb my lt th) sz [.ref (am 0), .int y, .int x]) (zQi D (mws cI am g n k tb my lt th) sz (fun r : Int32 => (T_value n k y x = 0 → r = vl g y.toNatClampNeg x.toNatClampNeg)) (mws cI am g n k tb my lt (T_value n k y x))) 0 0 (va_A (mws cI am g n k tb my lt th) sz) := by
  refine Met.ofW (cc := cX4_value) (maxL := 3) (ret := (some .int)) (by decide) rfl ?_
  intro p e s m args below meth c s₁ B hml hv
  obtain ⟨rfl, hsz, hE, hP, hD0⟩ := hv
  subst hsz
  obtain ⟨A, hAe⟩ : ∃ A, A = va_A (mws cI am g n k tb my lt th) s.heap.size := ⟨_, rfl⟩
  have hD : va_D A (mws cI am g n k tb my lt th) := by rw [hAe]; exact hD0.self
  have hA : ∀ q : Nat, s.heap.size ≤ q → A q := fun q h => by rw [hAe]; exact Or.inr h
  have hS : va_S A s.heap s.heap [] := va_S.rf
  have hx := B.exec
  have hb := B.bytes
  have hr := B.returns
  have hts := atoms_spec (ws := wsX4_value) B.pre
  have hown : s.vm.findClass RX4 = some m.cls := findClass_of_methodNamed B.named
  have hlocks := B.notSynchronized
  have hK := hE.1
  have iX4 : ∀ w ∈ wsX40, w ∈ wsX4_value := by decide +kernel
  have hl := lv_entry ([.ref (am 0), .int y, .int x]) (n := 3) (Nat.le_of_ble_eq_true rfl)
  rw [lg_entry_eq]
  generalize (lg_sl ([.ref (am 0), .int y, .int x]) ++ List.replicate (3 - (lg_sl ([.ref (am 0), .int y, .int x])).length) Slot.unset).toArray = ls at hl ⊢
  have hl : lv_has ls 3 [(0, .ref (am 0)), (1, .int y), (2, .int x)] := hl
  refine lv_aload_n hx hb dX4_value_0 rfl (lv_at hl 0 rfl) ?_
  refine lv_aload_n hx hb dX4_value_1 rfl (lv_at hl 0 rfl) ?_
  refine lv_iload_n hx hb dX4_value_2 rfl (lv_at hl 1 rfl) ?_
  refine vp_callSi (va_Run.run (va_runV (As := [.int y]) (rest := [.ref (am 0)]) ⟨hx, hb, hml, hown, hts⟩ (zX4_isPiece l D cI cL cE cP am g n k tb my lt th hok (y)) (cwV 1 hts gX4_value_X4_isPiece rfl rfl rfl (by decide +kernel) ⟨Nat.le_of_ble_eq_true rfl, Nat.le_of_ble_eq_true rfl⟩) ⟨zPr_blind, va_recv hK hP (ci := 4) (q0 := 0) rfl mws_0, zPr_mk hE hP⟩ rfl rfl hl.1 rfl (lv_room (Nat.le_of_ble_eq_true rfl)) dX4_value_3 ⟨Nat.le_of_ble_eq_true rfl, Nat.le_of_ble_eq_true rfl⟩)) (fun r_1 e_2 => ?_)
  obtain rfl := e_2
  refine lv_if_eq (tgt := 21) hx hb dX4_value_6 (by decide) (fun c_3 => ?_) (fun c_3 => ?_)
  · have c_3 := zb_eq c_3
    refine lv_iconst (v := 1) hx hb dX4_value_21 (by decide) ?_
    refine va_put (D := D) (ci := 4) (v := .int 1) (ty := .int) (C := RX4) (T := TX4) (N := 23) hx hb hts iX4 tyX4 tyX4_ok nmX4 hown hK hP hD hS 0 mws_0 rfl 22 (by decide) (hts (.fieldLink RX4 68 "CapitalReckonerModel" "thrown" "I") (by decide +kernel)) (fun _ h9 => h9) rfl (by decide +kernel) rfl rfl (Nat.le_of_ble_eq_true rfl) dX4_value_22 (fun H locs hP hD hS => ?_)
    have hP : va_P D vwCl (mws cI am g n k tb my lt 1) H := zP_re hP (mws_sth).symm
    have hD : va_D A (mws cI am g n k tb my lt 1) := zD_re hD (mws_sth).symm
    refine lv_aload_n hx hb dX4_value_25 rfl (lv_at hl 0 rfl) ?_
    refine va_get (D := D) (ci := 4) (v := .int 1) (C := RX4) (T := TX4) (N := 23) hx hb hts iX4 hown hK hP 0 mws_0 rfl 22 (by decide) (hts (.fieldLink RX4 68 "CapitalReckonerModel" "thrown" "I") (by decide +kernel)) (fun _ h9 => h9) rfl dX4_value_26 ?_
    refine lv_if_le (tgt := 36) hx hb dX4_value_29 (by decide) (fun c_4 => absurd c_4 (by decide)) (fun c_4 => ?_)
    refine lv_iconst (v := 0) hx hb dX4_value_32 (by decide) ?_
    refine lv_goto (tgt := 42) hx hb dX4_value_33 (by decide) ?_
    have hT : T_value n k y x = 1 := by simp [T_value, c_3]
    exact ziret (v := 0) hx hb hr hAe (fun h => absurd (hT.symm.trans h) (by decide)) (zP_re hP (by rw [hT]; first | done | rfl)) (zD_re hD (by rw [hT]; first | done | rfl)) hS dX4_value_42
  · have c_3 := zb_ne c_3
    refine lv_aload_n hx hb dX4_value_9 rfl (lv_at hl 0 rfl) ?_
    refine lv_iload_n hx hb dX4_value_10 rfl (lv_at hl 2 rfl) ?_
    refine vp_callSi (va_Run.run (va_runV (As := [.int x]) (rest := [.ref (am 0)]) ⟨hx, hb, hml, hown, hts⟩ (zX4_isExposure l D cI cL cE cP am g n k tb my lt th hok (x)) (cwV 1 hts gX4_value_X4_isExposure rfl rfl rfl (by decide +kernel) ⟨Nat.le_of_ble_eq_true rfl, Nat.le_of_ble_eq_true rfl⟩) ⟨zPr_blind, va_recv hK hP (ci := 4) (q0 := 0) rfl mws_0, zPr_mk hE hP⟩ rfl rfl hl.1 rfl (lv_room (Nat.le_of_ble_eq_true rfl)) dX4_value_11 ⟨Nat.le_of_ble_eq_true rfl, Nat.le_of_ble_eq_true rfl⟩)) (fun r_5 e_6 => ?_)
    obtain rfl := e_6
    refine lv_if_eq (tgt := 21) hx hb dX4_value_14 (by decide) (fun c_7 => ?_) (fun c_7 => ?_)
    · have c_7 := zb_eq c_7
      refine lv_iconst (v := 1) hx hb dX4_value_21 (by decide) ?_
      refine va_put (D := D) (ci := 4) (v := .int 1) (ty := .int) (C := RX4) (T := TX4) (N := 23) hx hb hts iX4 tyX4 tyX4_ok nmX4 hown hK hP hD hS 0 mws_0 rfl 22 (by decide) (hts (.fieldLink RX4 68 "CapitalReckonerModel" "thrown" "I") (by decide +kernel)) (fun _ h9 => h9) rfl (by decide +kernel) rfl rfl (Nat.le_of_ble_eq_true rfl) dX4_value_22 (fun H locs hP hD hS => ?_)
      have hP : va_P D vwCl (mws cI am g n k tb my lt 1) H := zP_re hP (mws_sth).symm
      have hD : va_D A (mws cI am g n k tb my lt 1) := zD_re hD (mws_sth).symm
      refine lv_aload_n hx hb dX4_value_25 rfl (lv_at hl 0 rfl) ?_
      refine va_get (D := D) (ci := 4) (v := .int 1) (C := RX4) (T := TX4) (N := 23) hx hb hts iX4 hown hK hP 0 mws_0 rfl 22 (by decide) (hts (.fieldLink RX4 68 "CapitalReckonerModel" "thrown" "I") (by decide +kernel)) (fun _ h9 => h9) rfl dX4_value_26 ?_
      refine lv_if_le (tgt := 36) hx hb dX4_value_29 (by decide) (fun c_8 => absurd c_8 (by decide)) (fun c_8 => ?_)
      refine lv_iconst (v := 0) hx hb dX4_value_32 (by decide) ?_
      refine lv_goto (tgt := 42) hx hb dX4_value_33 (by decide) ?_
      have hT : T_value n k y x = 1 := by simp [T_value, c_3, c_7]
      exact ziret (v := 0) hx hb hr hAe (fun h => absurd (hT.symm.trans h) (by decide)) (zP_re hP (by rw [hT]; first | done | rfl)) (zD_re hD (by rw [hT]; first | done | rfl)) hS dX4_value_42
    · have c_7 := zb_ne c_7
      refine lv_iconst (v := 0) hx hb dX4_value_17 (by decide) ?_
      refine lv_goto (tgt := 22) hx hb dX4_value_18 (by decide) ?_
      refine va_put (D := D) (ci := 4) (v := .int 0) (ty := .int) (C := RX4) (T := TX4) (N := 23) hx hb hts iX4 tyX4 tyX4_ok nmX4 hown hK hP hD hS 0 mws_0 rfl 22 (by decide) (hts (.fieldLink RX4 68 "CapitalReckonerModel" "thrown" "I") (by decide +kernel)) (fun _ h9 => h9) rfl (by decide +kernel) rfl rfl (Nat.le_of_ble_eq_true rfl) dX4_value_22 (fun H locs hP hD hS => ?_)
      have hP : va_P D vwCl (mws cI am g n k tb my lt 0) H := zP_re hP (mws_sth).symm
      have hD : va_D A (mws cI am g n k tb my lt 0) := zD_re hD (mws_sth).symm
      refine lv_aload_n hx hb dX4_value_25 rfl (lv_at hl 0 rfl) ?_
      refine va_get (D := D) (ci := 4) (v := .int 0) (C := RX4) (T := TX4) (N := 23) hx hb hts iX4 hown hK hP 0 mws_0 rfl 22 (by decide) (hts (.fieldLink RX4 68 "CapitalReckonerModel" "thrown" "I") (by decide +kernel)) (fun _ h9 => h9) rfl dX4_value_26 ?_
      refine lv_if_le (tgt := 36) hx hb dX4_value_29 (by decide) (fun c_9 => ?_) (fun c_9 => absurd c_9 (by decide))
      refine lv_aload_n hx hb dX4_value_36 rfl (lv_at hl 0 rfl) ?_
      refine lv_iload_n hx hb dX4_value_37 rfl (lv_at hl 1 rfl) ?_
      refine lv_iload_n hx hb dX4_value_38 rfl (lv_at hl 2 rfl) ?_
      refine vp_callSi (va_Run.run (va_runV (As := [.int y, .int x]) (rest := []) ⟨hx, hb, hml, hown, hts⟩ (zX4_valued l D cI cL cE cP am g n k tb my lt 0 hok (y) (y.toNatClampNeg) (zex_lt hok.k8 c_3) (zex_eq hok.k8 c_3) (x) (x.toNatClampNeg) (zex_lt hok.n8 c_7) (zex_eq hok.n8 c_7)) (cwV 2 hts gX4_value_X4_valued rfl rfl rfl (by decide +kernel) ⟨Nat.le_of_ble_eq_true rfl, Nat.le_of_ble_eq_true rfl⟩) ⟨zPr_blind, va_recv hK hP (ci := 4) (q0 := 0) rfl mws_0, zPr_mk hE hP⟩ rfl rfl hl.1 rfl (lv_room (Nat.le_of_ble_eq_true rfl)) dX4_value_39 ⟨Nat.le_of_ble_eq_true rfl, Nat.le_of_ble_eq_true rfl⟩)) (fun r_10 e_11 => ?_)
      obtain rfl := e_11
      have hT : T_value n k y x = 0 := by simp [T_value, c_3, c_7]
      exact ziret (v := vl g y.toNatClampNeg x.toNatClampNeg) hx hb hr hAe (fun _ => rfl) (zP_re hP (by rw [hT]; first | done | rfl)) (zD_re hD (by rw [hT]; first | done | rfl)) hS dX4_value_42
set_option maxHeartbeats 4000000 in
set_option maxRecDepth 100000 in
theorem zX4_exposures (l : Launch) (D : va_G) (cI cL cE cP : ClassId) (am : Nat → Nat) (g : Nat → Nat → Int32) (n k : Nat) (tb my lt : Nat → Int32) (th : Int32) (hok : zOk g n k) (sz : Nat) : Met l yX4_exposures wsX4_exposures ({ frames := 0, cells := 0, slots := 0, locals := 0 }) (zPw D cI cL cE cP (mws cI am g n k tb my lt th) sz [.ref (am 0)]) (zQi D (mws cI am g n k tb my lt th) sz (fun r : Int32 => r = nI n) (mws cI am g n k tb my lt 0)) 0 0 (va_A (mws cI am g n k tb my lt th) sz) := by
  refine Met.ofW (cc := cX4_exposures) (maxL := 1) (ret := (some .int)) (by decide) rfl ?_
  intro p e s m args below meth c s₁ B hml hv
  obtain ⟨rfl, hsz, hE, hP, hD0⟩ := hv
  subst hsz
  obtain ⟨A, hAe⟩ : ∃ A, A = va_A (mws cI am g n k tb my lt th) s.heap.size := ⟨_, rfl⟩
  have hD : va_D A (mws cI am g n k tb my lt th) := by rw [hAe]; exact hD0.self
  have hA : ∀ q : Nat, s.heap.size ≤ q → A q := fun q h => by rw [hAe]; exact Or.inr h
  have hS : va_S A s.heap s.heap [] := va_S.rf
  have hx := B.exec
  have hb := B.bytes
  have hr := B.returns
  have hts := atoms_spec (ws := wsX4_exposures) B.pre
  have hown : s.vm.findClass RX4 = some m.cls := findClass_of_methodNamed B.named
  have hlocks := B.notSynchronized
  have hK := hE.1
  have iX4 : ∀ w ∈ wsX40, w ∈ wsX4_exposures := by decide +kernel
  have hl := lv_entry ([.ref (am 0)]) (n := 1) (Nat.le_of_ble_eq_true rfl)
  rw [lg_entry_eq]
  generalize (lg_sl ([.ref (am 0)]) ++ List.replicate (1 - (lg_sl ([.ref (am 0)])).length) Slot.unset).toArray = ls at hl ⊢
  have hl : lv_has ls 1 [(0, .ref (am 0))] := hl
  refine lv_aload_n hx hb dX4_exposures_0 rfl (lv_at hl 0 rfl) ?_
  refine lv_iconst (v := 0) hx hb dX4_exposures_1 (by decide) ?_
  refine va_put (D := D) (ci := 4) (v := .int 0) (ty := .int) (C := RX4) (T := TX4) (N := 23) hx hb hts iX4 tyX4 tyX4_ok nmX4 hown hK hP hD hS 0 mws_0 rfl 22 (by decide) (hts (.fieldLink RX4 68 "CapitalReckonerModel" "thrown" "I") (by decide +kernel)) (fun _ h9 => h9) rfl (by decide +kernel) rfl rfl (Nat.le_of_ble_eq_true rfl) dX4_exposures_2 (fun H locs hP hD hS => ?_)
  have hP : va_P D vwCl (mws cI am g n k tb my lt 0) H := zP_re hP (mws_sth).symm
  have hD : va_D A (mws cI am g n k tb my lt 0) := zD_re hD (mws_sth).symm
  refine lv_aload_n hx hb dX4_exposures_5 rfl (lv_at hl 0 rfl) ?_
  refine va_get (D := D) (ci := 4) (v := .int (nI n)) (C := RX4) (T := TX4) (N := 23) hx hb hts iX4 hown hK hP 0 mws_0 rfl 4 (by decide) (hts (.fieldLink RX4 75 "CapitalReckonerModel" "exposures" "I") (by decide +kernel)) (fun _ h9 => h9) rfl dX4_exposures_6 ?_
  exact ziret (v := nI n) hx hb hr hAe (by first | rfl | (simp only []; done) | (simp only []; rfl) | (simp []; done)) (zP_re hP (rfl)) (zD_re hD (rfl)) hS dX4_exposures_9
set_option maxHeartbeats 4000000 in
set_option maxRecDepth 100000 in
theorem zX4_pieces (l : Launch) (D : va_G) (cI cL cE cP : ClassId) (am : Nat → Nat) (g : Nat → Nat → Int32) (n k : Nat) (tb my lt : Nat → Int32) (th : Int32) (hok : zOk g n k) (sz : Nat) : Met l yX4_pieces wsX4_pieces ({ frames := 0, cells := 0, slots := 0, locals := 0 }) (zPw D cI cL cE cP (mws cI am g n k tb my lt th) sz [.ref (am 0)]) (zQi D (mws cI am g n k tb my lt th) sz (fun r : Int32 => r = nI k) (mws cI am g n k tb my lt 0)) 0 0 (va_A (mws cI am g n k tb my lt th) sz) := by
  refine Met.ofW (cc := cX4_pieces) (maxL := 1) (ret := (some .int)) (by decide) rfl ?_
  intro p e s m args below meth c s₁ B hml hv
  obtain ⟨rfl, hsz, hE, hP, hD0⟩ := hv
  subst hsz
  obtain ⟨A, hAe⟩ : ∃ A, A = va_A (mws cI am g n k tb my lt th) s.heap.size := ⟨_, rfl⟩
  have hD : va_D A (mws cI am g n k tb my lt th) := by rw [hAe]; exact hD0.self
  have hA : ∀ q : Nat, s.heap.size ≤ q → A q := fun q h => by rw [hAe]; exact Or.inr h
  have hS : va_S A s.heap s.heap [] := va_S.rf
  have hx := B.exec
  have hb := B.bytes
  have hr := B.returns
  have hts := atoms_spec (ws := wsX4_pieces) B.pre
  have hown : s.vm.findClass RX4 = some m.cls := findClass_of_methodNamed B.named
  have hlocks := B.notSynchronized
  have hK := hE.1
  have iX4 : ∀ w ∈ wsX40, w ∈ wsX4_pieces := by decide +kernel
  have hl := lv_entry ([.ref (am 0)]) (n := 1) (Nat.le_of_ble_eq_true rfl)
  rw [lg_entry_eq]
  generalize (lg_sl ([.ref (am 0)]) ++ List.replicate (1 - (lg_sl ([.ref (am 0)])).length) Slot.unset).toArray = ls at hl ⊢
  have hl : lv_has ls 1 [(0, .ref (am 0))] := hl
  refine lv_aload_n hx hb dX4_pieces_0 rfl (lv_at hl 0 rfl) ?_
  refine lv_iconst (v := 0) hx hb dX4_pieces_1 (by decide) ?_
  refine va_put (D := D) (ci := 4) (v := .int 0) (ty := .int) (C := RX4) (T := TX4) (N := 23) hx hb hts iX4 tyX4 tyX4_ok nmX4 hown hK hP hD hS 0 mws_0 rfl 22 (by decide) (hts (.fieldLink RX4 68 "CapitalReckonerModel" "thrown" "I") (by decide +kernel)) (fun _ h9 => h9) rfl (by decide +kernel) rfl rfl (Nat.le_of_ble_eq_true rfl) dX4_pieces_2 (fun H locs hP hD hS => ?_)
  have hP : va_P D vwCl (mws cI am g n k tb my lt 0) H := zP_re hP (mws_sth).symm
  have hD : va_D A (mws cI am g n k tb my lt 0) := zD_re hD (mws_sth).symm
  refine lv_aload_n hx hb dX4_pieces_5 rfl (lv_at hl 0 rfl) ?_
  refine va_get (D := D) (ci := 4) (v := .int (nI k)) (C := RX4) (T := TX4) (N := 23) hx hb hts iX4 hown hK hP 0 mws_0 rfl 13 (by decide) (hts (.fieldLink RX4 78 "CapitalReckonerModel" "pieces" "I") (by decide +kernel)) (fun _ h9 => h9) rfl dX4_pieces_6 ?_
  exact ziret (v := nI k) hx hb hr hAe (by first | rfl | (simp only []; done) | (simp only []; rfl) | (simp []; done)) (zP_re hP (rfl)) (zD_re hD (rfl)) hS dX4_pieces_9
set_option maxHeartbeats 4000000 in
set_option maxRecDepth 100000 in
theorem zX4_thrown (l : Launch) (D : va_G) (cI cL cE cP : ClassId) (am : Nat → Nat) (g : Nat → Nat → Int32) (n k : Nat) (tb my lt : Nat → Int32) (th : Int32) (hok : zOk g n k) : Met l yX4_thrown wsX4_thrown ({ frames := 0, cells := 0, slots := 0, locals := 0 }) (zPr D cI cL cE cP (mws cI am g n k tb my lt th) [.ref (am 0)]) (vp_Si (fun r : Int32 => r = th)) 0 0 (fun _ => False) := by
  refine Met.ofW (cc := cX4_thrown) (maxL := 1) (ret := (some .int)) (by decide) rfl ?_
  intro p e s m args below meth c s₁ B hml hv
  obtain ⟨rfl, hE, hP⟩ := hv
  have hx := B.exec
  have hb := B.bytes
  have hr := B.returns
  have hts := atoms_spec (ws := wsX4_thrown) B.pre
  have hown : s.vm.findClass RX4 = some m.cls := findClass_of_methodNamed B.named
  have hlocks := B.notSynchronized
  have hK := hE.1
  have iX4 : ∀ w ∈ wsX40, w ∈ wsX4_thrown := by decide +kernel
  have hl := lv_entry ([.ref (am 0)]) (n := 1) (Nat.le_of_ble_eq_true rfl)
  rw [lg_entry_eq]
  generalize (lg_sl ([.ref (am 0)]) ++ List.replicate (1 - (lg_sl ([.ref (am 0)])).length) Slot.unset).toArray = ls at hl ⊢
  have hl : lv_has ls 1 [(0, .ref (am 0))] := hl
  refine lv_aload_n hx hb dX4_thrown_0 rfl (lv_at hl 0 rfl) ?_
  refine va_get (D := D) (ci := 4) (v := .int th) (C := RX4) (T := TX4) (N := 23) hx hb hts iX4 hown hK hP 0 mws_0 rfl 22 (by decide) (hts (.fieldLink RX4 68 "CapitalReckonerModel" "thrown" "I") (by decide +kernel)) (fun _ h9 => h9) rfl dX4_thrown_1 ?_
  exact W.iret (v := th) hx hb hr (fun t ht hW => ⟨_, rfl, (by first | rfl | (simp only []; done) | (simp only []; rfl) | (simp []; done)), ht⟩) (fun _ h => nomatch h) dX4_thrown_4
