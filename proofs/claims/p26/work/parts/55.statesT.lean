/-! two: its states and their keys -/
theorem woE_K2 {le : Nat → Int64} {k p : Nat} {y : Int32} {K : Int64} (hk : k ≤ 5) (hp : p < k) (hy : y = nI p) (h : le (2 ^ k - 1 - 2 ^ p) = K) : woE le k y = bwK K := by subst hy; exact woE_K hk hp h
theorem le_ret0 {p : Program} {l : Launch} {e : Env} {R : Room} {s : State} {m : MethodId} {args : Array Value} {below : List Frame} {meth : Method} {c : Code} {H : Heap} {locs : List Loc} {cells slots : Nat} {cc : ByteArray} {pc : Nat} {ls : Array Slot} {D : va_G} {A : Nat → Prop} (hx : p.tables.exec = Jvm.exec) (hb : c.code = cc) (hr : meth.sig.returnType = some .boolean) (hlocks : meth.locks = false) (hAe : A = va_A [] s.heap.size) (hS : va_S A s.heap H locs) (hdg : decode cc pc = .ok (.ireturn, 1)) :
    W p l e R s m args below meth c H locs cells slots (MQ below (va_Qi (fun (r : Int32) (_ : Unit) => r = 1) (fun _ t => zB D [] s.heap.size [] t) (va_A [] s.heap.size)) args s cells slots (va_A [] s.heap.size)) (F0 m pc ls [.int 1]) := by
  subst hAe
  exact W.zret hx hb hr rfl (fun t ht hW => ⟨⟨1, (), rfl, rfl, fun k q h => by simp at h, ⟨fun i j p q h => by simp at h, fun k q h => by simp at h⟩⟩, hS.F ht⟩) hS.2.2 hdg hlocks
def T1 : Nat → Nat → Int32 := gAE g0 0 3 0 1000 0 0 100
def T2 : Nat → Nat → Int32 := gAE T1 1 2 1 1000 500 1 200
def T3 : Nat → Nat → Int32 := gAP T2 0 500 20 0 100 3
def T4 : Nat → Nat → Int32 := gR (gR T3 9 (upd (T3 9) (0 : Int32).toNatClampNeg 1)) 10 (upd (T3 10) (0 : Int32).toNatClampNeg 300)
def T5 : Nat → Nat → Int32 := gAP T4 1 700 0 1 365 3
def T6 : Nat → Nat → Int32 := gR T5 3 (upd (T5 3) (1 : Int32).toNatClampNeg 3)
def T7 : Nat → Nat → Int32 := gR T6 2 (upd (T6 2) 0 30)
def T8 : Nat → Nat → Int32 := gAP T7 2 1 100 0 1 255
def T9 : Nat → Nat → Int32 := gR (gR T8 11 (upd (T8 11) (2 : Int32).toNatClampNeg 1)) 15 (upd (T8 15) (2 : Int32).toNatClampNeg 2)
def T10 : Nat → Nat → Int32 := gR (gR T9 11 (upd (T9 11) (2 : Int32).toNatClampNeg 5)) 15 (upd (T9 15) (2 : Int32).toNatClampNeg 252)
def T11 : Nat → Nat → Int32 := gR (gR T10 11 (upd (T10 11) (2 : Int32).toNatClampNeg 1)) 15 (upd (T10 15) (2 : Int32).toNatClampNeg 0)
def T12 : Nat → Nat → Int32 := gR T11 2 (upd (T11 2) 1 2400)
def T13 : Nat → Nat → Int32 := gR T12 2 (upd (T12 2) 1 2399)
def T14 : Nat → Nat → Int32 := gR T13 2 (upd (T13 2) 1 1999)
def T15 : Nat → Nat → Int32 := gR (gR T14 5 (upd (T14 5) (1 : Int32).toNatClampNeg (T14 5 (1 : Int32).toNatClampNeg + 300))) 6 (upd (T14 6) (1 : Int32).toNatClampNeg (T14 6 (1 : Int32).toNatClampNeg - 300))
def T16 : Nat → Nat → Int32 := gR (gR T15 0 (upd (T15 0) (1 : Int32).toNatClampNeg 100)) 1 (upd (T15 1) (1 : Int32).toNatClampNeg 50)
def T17 : Nat → Nat → Int32 := gR (gR T16 0 (upd (T16 0) (1 : Int32).toNatClampNeg 99)) 1 (upd (T16 1) (1 : Int32).toNatClampNeg 50)
def T18 : Nat → Nat → Int32 := gR (gR T17 9 (upd (T17 9) (0 : Int32).toNatClampNeg 3)) 10 (upd (T17 10) (0 : Int32).toNatClampNeg 50)
def T19 : Nat → Nat → Int32 := gR (gR T18 9 (upd (T18 9) (0 : Int32).toNatClampNeg 0)) 10 (upd (T18 10) (0 : Int32).toNatClampNeg 0)
def T20 : Nat → Nat → Int32 := gR (gR T19 0 (upd (T19 0) (3 : Int32).toNatClampNeg 400)) 1 (upd (T19 1) (3 : Int32).toNatClampNeg 0)
def T21 : Nat → Nat → Int32 := gR (gR T20 5 (upd (T20 5) (1 : Int32).toNatClampNeg (T20 5 (1 : Int32).toNatClampNeg + (-1300)))) 6 (upd (T20 6) (1 : Int32).toNatClampNeg (T20 6 (1 : Int32).toNatClampNeg - (-1300)))
def T22 : Nat → Nat → Int32 := gR (gR T21 5 (upd (T21 5) (1 : Int32).toNatClampNeg (T21 5 (1 : Int32).toNatClampNeg + 0))) 6 (upd (T21 6) (1 : Int32).toNatClampNeg (T21 6 (1 : Int32).toNatClampNeg - 0))
theorem kt_T_g0_0 : KT g0 0 0 0 1 [0] := KT_0 (by decide) (by decide +kernel) (by decide +kernel)
theorem hk_T_g0 : bkE (KE g0 0 0) 0 = lN 0 := KT_B kt_T_g0_0 (by decide) (by decide) (by decide +kernel)
theorem kt_T_T2_0 : KT T2 2 0 0 1 [0] := KT_0 (by decide) (by decide +kernel) (by decide +kernel)
set_option maxRecDepth 20000 in
theorem kt_T_T2_1 : KT T2 2 0 1 1 [1048576000] := KT_s (U := 0) (wl := [1000]) (by decide) (by decide) (by decide) kt_T_T2_0 ⟨by decide +kernel, by decide⟩ ⟨by decide +kernel, by decide +kernel⟩ (by decide +kernel) (by decide +kernel)
set_option maxRecDepth 20000 in
theorem kt_T_T2_2 : KT T2 2 0 2 1 [1677721600] := KT_s (U := 0) (wl := [600]) (by decide) (by decide) (by decide) kt_T_T2_1 ⟨by decide +kernel, by decide⟩ ⟨by decide +kernel, by decide +kernel⟩ (by decide +kernel) (by decide +kernel)
theorem hk_T_T2 : bkE (KE T2 2 0) 0 = lN 1677721600 := KT_B kt_T_T2_2 (by decide) (by decide) (by decide +kernel)
theorem kt_T_T3_0 : KT T3 2 1 0 2 [0, 524288] := KT_0 (by decide) (by decide +kernel) (by decide +kernel)
set_option maxRecDepth 20000 in
theorem kt_T_T3_1 : KT T3 2 1 1 2 [1048576000, 629145600] := KT_s (U := 1) (wl := [1000, 600]) (by decide) (by decide) (by decide) kt_T_T3_0 ⟨by decide +kernel, by decide⟩ ⟨by decide +kernel, by decide +kernel⟩ (by decide +kernel) (by decide +kernel)
set_option maxRecDepth 20000 in
theorem kt_T_T3_2 : KT T3 2 1 2 2 [1677721600, 1258291200] := KT_s (U := 1) (wl := [600, 508]) (by decide) (by decide) (by decide) kt_T_T3_1 ⟨by decide +kernel, by decide⟩ ⟨by decide +kernel, by decide +kernel⟩ (by decide +kernel) (by decide +kernel)
theorem hk_T_T3 : bkE (KE T3 2 1) 1 = lN 1258291200 := KT_B kt_T_T3_2 (by decide) (by decide) (by decide +kernel)
theorem hw_T_T3_0 : KE T3 2 1 (2 ^ 1 - 1 - 2 ^ 0) = lN 1677721600 := KT_K kt_T_T3_2 (by decide) (by decide +kernel)
theorem kt_T_T4_0 : KT T4 2 1 0 2 [0, 524288] := KT_0 (by decide) (by decide +kernel) (by decide +kernel)
set_option maxRecDepth 20000 in
theorem kt_T_T4_1 : KT T4 2 1 1 2 [796917760, 377487360] := KT_s (U := 1) (wl := [760, 360]) (by decide) (by decide) (by decide) kt_T_T4_0 ⟨by decide +kernel, by decide⟩ ⟨by decide +kernel, by decide +kernel⟩ (by decide +kernel) (by decide +kernel)
set_option maxRecDepth 20000 in
theorem kt_T_T4_2 : KT T4 2 1 2 2 [1426063360, 1006632960] := KT_s (U := 1) (wl := [600, 508]) (by decide) (by decide) (by decide) kt_T_T4_1 ⟨by decide +kernel, by decide⟩ ⟨by decide +kernel, by decide +kernel⟩ (by decide +kernel) (by decide +kernel)
theorem hk_T_T4 : bkE (KE T4 2 1) 1 = lN 1006632960 := KT_B kt_T_T4_2 (by decide) (by decide) (by decide +kernel)
theorem hw_T_T4_0 : KE T4 2 1 (2 ^ 1 - 1 - 2 ^ 0) = lN 1426063360 := KT_K kt_T_T4_2 (by decide) (by decide +kernel)
theorem kt_T_T5_0 : KT T5 2 2 0 4 [0, 524288, 32768, 557056] := KT_0 (by decide) (by decide +kernel) (by decide +kernel)
set_option maxRecDepth 20000 in
theorem kt_T_T5_1 : KT T5 2 2 1 4 [796917760, 377487360, 121634816, 0] := KT_s (U := 3) (wl := [760, 360, 116, 0]) (by decide) (by decide) (by decide) kt_T_T5_0 ⟨by decide +kernel, by decide⟩ ⟨by decide +kernel, by decide +kernel⟩ (by decide +kernel) (by decide +kernel)
set_option maxRecDepth 20000 in
theorem kt_T_T5_2 : KT T5 2 2 2 4 [1426063360, 1006632960, 750780416, 629145600] := KT_s (U := 3) (wl := [600, 508, 250, 158]) (by decide) (by decide) (by decide) kt_T_T5_1 ⟨by decide +kernel, by decide⟩ ⟨by decide +kernel, by decide +kernel⟩ (by decide +kernel) (by decide +kernel)
theorem hk_T_T5 : bkE (KE T5 2 2) 2 = lN 629145600 := KT_B kt_T_T5_2 (by decide) (by decide) (by decide +kernel)
theorem hw_T_T5_0 : KE T5 2 2 (2 ^ 2 - 1 - 2 ^ 0) = lN 750780416 := KT_K kt_T_T5_2 (by decide) (by decide +kernel)
theorem hw_T_T5_1 : KE T5 2 2 (2 ^ 2 - 1 - 2 ^ 1) = lN 1006632960 := KT_K kt_T_T5_2 (by decide) (by decide +kernel)
theorem kt_T_T6_0 : KT T6 2 2 0 4 [0, 524288, 32768, 557056] := KT_0 (by decide) (by decide +kernel) (by decide +kernel)
set_option maxRecDepth 20000 in
theorem kt_T_T6_1 : KT T6 2 2 1 4 [796917760, 377487360, 121634816, 0] := KT_s (U := 3) (wl := [760, 360, 116, 0]) (by decide) (by decide) (by decide) kt_T_T6_0 ⟨by decide +kernel, by decide⟩ ⟨by decide +kernel, by decide +kernel⟩ (by decide +kernel) (by decide +kernel)
set_option maxRecDepth 20000 in
theorem kt_T_T6_2 : KT T6 2 2 2 4 [2055208960, 1635778560, 1321209856, 901779456] := KT_s (U := 3) (wl := [1200, 1016, 500, 316]) (by decide) (by decide) (by decide) kt_T_T6_1 ⟨by decide +kernel, by decide⟩ ⟨by decide +kernel, by decide +kernel⟩ (by decide +kernel) (by decide +kernel)
theorem hk_T_T6 : bkE (KE T6 2 2) 2 = lN 901779456 := KT_B kt_T_T6_2 (by decide) (by decide) (by decide +kernel)
theorem kt_T_T7_0 : KT T7 2 2 0 4 [0, 524288, 32768, 557056] := KT_0 (by decide) (by decide +kernel) (by decide +kernel)
set_option maxRecDepth 20000 in
theorem kt_T_T7_1 : KT T7 2 2 1 4 [796917760, 377487360, 121634816, 0] := KT_s (U := 3) (wl := [760, 360, 116, 0]) (by decide) (by decide) (by decide) kt_T_T7_0 ⟨by decide +kernel, by decide⟩ ⟨by decide +kernel, by decide +kernel⟩ (by decide +kernel) (by decide +kernel)
set_option maxRecDepth 20000 in
theorem kt_T_T7_2 : KT T7 2 2 2 4 [2055208960, 1635778560, 1321209856, 901779456] := KT_s (U := 3) (wl := [1200, 1016, 500, 316]) (by decide) (by decide) (by decide) kt_T_T7_1 ⟨by decide +kernel, by decide⟩ ⟨by decide +kernel, by decide +kernel⟩ (by decide +kernel) (by decide +kernel)
theorem hk_T_T7 : bkE (KE T7 2 2) 2 = lN 901779456 := KT_B kt_T_T7_2 (by decide) (by decide) (by decide +kernel)
theorem kt_T_T8_0 : KT T8 2 3 0 8 [0, 524288, 32768, 557056, 2048, 526336, 34816, 559104] := KT_0 (by decide) (by decide +kernel) (by decide +kernel)
set_option maxRecDepth 20000 in
theorem kt_T_T8_1 : KT T8 2 3 1 8 [796917760, 377487360, 121634816, 0, 796917760, 377487360, 121634816, 0] := KT_s (U := 7) (wl := [760, 360, 116, 0, 760, 360, 116, 0]) (by decide) (by decide) (by decide) kt_T_T8_0 ⟨by decide +kernel, by decide⟩ ⟨by decide +kernel, by decide +kernel⟩ (by decide +kernel) (by decide +kernel)
set_option maxRecDepth 20000 in
theorem kt_T_T8_2 : KT T8 2 3 2 8 [2055208960, 1635778560, 1321209856, 901779456, 2055208960, 1635778560, 1321209856, 901779456] := KT_s (U := 7) (wl := [1200, 1016, 500, 316, 1200, 1016, 500, 316]) (by decide) (by decide) (by decide) kt_T_T8_1 ⟨by decide +kernel, by decide⟩ ⟨by decide +kernel, by decide +kernel⟩ (by decide +kernel) (by decide +kernel)
theorem hk_T_T8 : bkE (KE T8 2 3) 3 = lN 901779456 := KT_B kt_T_T8_2 (by decide) (by decide) (by decide +kernel)
theorem hw_T_T8_2 : KE T8 2 3 (2 ^ 3 - 1 - 2 ^ 2) = lN 901779456 := KT_K kt_T_T8_2 (by decide) (by decide +kernel)
theorem kt_T_T9_0 : KT T9 2 3 0 8 [0, 524288, 32768, 557056, 2048, 526336, 34816, 559104] := KT_0 (by decide) (by decide +kernel) (by decide +kernel)
set_option maxRecDepth 20000 in
theorem kt_T_T9_1 : KT T9 2 3 1 8 [796917760, 377487360, 121634816, 0, 796919808, 377489408, 121636864, 2048] := KT_s (U := 3) (wl := [760, 360, 116, 0, 760, 360, 116, 0]) (by decide) (by decide) (by decide) kt_T_T9_0 ⟨by decide +kernel, by decide⟩ ⟨by decide +kernel, by decide +kernel⟩ (by decide +kernel) (by decide +kernel)
set_option maxRecDepth 20000 in
theorem kt_T_T9_2 : KT T9 2 3 2 8 [2055208960, 1635778560, 1321209856, 901779456, 2055209216, 1635778816, 1321210112, 901779712] := KT_s (U := 7) (wl := [1200, 1016, 500, 316, 1200, 1016, 500, 316]) (by decide) (by decide) (by decide) kt_T_T9_1 ⟨by decide +kernel, by decide⟩ ⟨by decide +kernel, by decide +kernel⟩ (by decide +kernel) (by decide +kernel)
theorem hk_T_T9 : bkE (KE T9 2 3) 3 = lN 901779712 := KT_B kt_T_T9_2 (by decide) (by decide) (by decide +kernel)
theorem kt_T_T10_0 : KT T10 2 3 0 8 [0, 524288, 32768, 557056, 2048, 526336, 34816, 559104] := KT_0 (by decide) (by decide +kernel) (by decide +kernel)
set_option maxRecDepth 20000 in
theorem kt_T_T10_1 : KT T10 2 3 1 8 [796917760, 377487360, 121634816, 0, 796919808, 377489408, 121636864, 2048] := KT_s (U := 3) (wl := [760, 360, 116, 0, 760, 360, 116, 0]) (by decide) (by decide) (by decide) kt_T_T10_0 ⟨by decide +kernel, by decide⟩ ⟨by decide +kernel, by decide +kernel⟩ (by decide +kernel) (by decide +kernel)
set_option maxRecDepth 20000 in
theorem kt_T_T10_2 : KT T10 2 3 2 8 [2055208960, 1635778560, 1321209856, 901779456, 2055211008, 1635780608, 1321211904, 901781504] := KT_s (U := 3) (wl := [1200, 1016, 500, 316, 1200, 1016, 500, 316]) (by decide) (by decide) (by decide) kt_T_T10_1 ⟨by decide +kernel, by decide⟩ ⟨by decide +kernel, by decide +kernel⟩ (by decide +kernel) (by decide +kernel)
theorem hk_T_T10 : bkE (KE T10 2 3) 3 = lN 901781504 := KT_B kt_T_T10_2 (by decide) (by decide) (by decide +kernel)
theorem kt_T_T11_0 : KT T11 2 3 0 8 [0, 524288, 32768, 557056, 2048, 526336, 34816, 559104] := KT_0 (by decide) (by decide +kernel) (by decide +kernel)
set_option maxRecDepth 20000 in
theorem kt_T_T11_1 : KT T11 2 3 1 8 [796917760, 377487360, 121634816, 0, 796919808, 377489408, 121636864, 2048] := KT_s (U := 3) (wl := [760, 360, 116, 0, 760, 360, 116, 0]) (by decide) (by decide) (by decide) kt_T_T11_0 ⟨by decide +kernel, by decide⟩ ⟨by decide +kernel, by decide +kernel⟩ (by decide +kernel) (by decide +kernel)
set_option maxRecDepth 20000 in
theorem kt_T_T11_2 : KT T11 2 3 2 8 [2055208960, 1635778560, 1321209856, 901779456, 2055211008, 1635780608, 1321211904, 901781504] := KT_s (U := 3) (wl := [1200, 1016, 500, 316, 1200, 1016, 500, 316]) (by decide) (by decide) (by decide) kt_T_T11_1 ⟨by decide +kernel, by decide⟩ ⟨by decide +kernel, by decide +kernel⟩ (by decide +kernel) (by decide +kernel)
theorem hk_T_T11 : bkE (KE T11 2 3) 3 = lN 901781504 := KT_B kt_T_T11_2 (by decide) (by decide) (by decide +kernel)
theorem kt_T_T12_0 : KT T12 2 3 0 8 [0, 524288, 32768, 557056, 2048, 526336, 34816, 559104] := KT_0 (by decide) (by decide +kernel) (by decide +kernel)
set_option maxRecDepth 20000 in
theorem kt_T_T12_1 : KT T12 2 3 1 8 [796917760, 377487360, 121634816, 0, 796919808, 377489408, 121636864, 2048] := KT_s (U := 3) (wl := [760, 360, 116, 0, 760, 360, 116, 0]) (by decide) (by decide) (by decide) kt_T_T12_0 ⟨by decide +kernel, by decide⟩ ⟨by decide +kernel, by decide +kernel⟩ (by decide +kernel) (by decide +kernel)
set_option maxRecDepth 20000 in
theorem kt_T_T12_2 : KT T12 2 3 2 8 [2055208960, 1635778560, 1321209856, 901779456, 2055211008, 1635780608, 1321211904, 901781504] := KT_s (U := 3) (wl := [1200, 1016, 500, 316, 1200, 1016, 500, 316]) (by decide) (by decide) (by decide) kt_T_T12_1 ⟨by decide +kernel, by decide⟩ ⟨by decide +kernel, by decide +kernel⟩ (by decide +kernel) (by decide +kernel)
theorem hk_T_T12 : bkE (KE T12 2 3) 3 = lN 901781504 := KT_B kt_T_T12_2 (by decide) (by decide) (by decide +kernel)
theorem kt_T_T13_0 : KT T13 2 3 0 8 [0, 524288, 32768, 557056, 2048, 526336, 34816, 559104] := KT_0 (by decide) (by decide +kernel) (by decide +kernel)
set_option maxRecDepth 20000 in
theorem kt_T_T13_1 : KT T13 2 3 1 8 [796917760, 377487360, 121634816, 0, 796919808, 377489408, 121636864, 2048] := KT_s (U := 3) (wl := [760, 360, 116, 0, 760, 360, 116, 0]) (by decide) (by decide) (by decide) kt_T_T13_0 ⟨by decide +kernel, by decide⟩ ⟨by decide +kernel, by decide +kernel⟩ (by decide +kernel) (by decide +kernel)
set_option maxRecDepth 20000 in
theorem kt_T_T13_2 : KT T13 2 3 2 8 [2055208960, 1635778560, 1321209856, 901779456, 2055211008, 1635780608, 1321211904, 901781504] := KT_s (U := 3) (wl := [1200, 1016, 500, 316, 1200, 1016, 500, 316]) (by decide) (by decide) (by decide) kt_T_T13_1 ⟨by decide +kernel, by decide⟩ ⟨by decide +kernel, by decide +kernel⟩ (by decide +kernel) (by decide +kernel)
theorem hk_T_T13 : bkE (KE T13 2 3) 3 = lN 901781504 := KT_B kt_T_T13_2 (by decide) (by decide) (by decide +kernel)
theorem kt_T_T14_0 : KT T14 2 3 0 8 [0, 524288, 32768, 557056, 2048, 526336, 34816, 559104] := KT_0 (by decide) (by decide +kernel) (by decide +kernel)
set_option maxRecDepth 20000 in
theorem kt_T_T14_1 : KT T14 2 3 1 8 [796917760, 377487360, 121634816, 0, 796919808, 377489408, 121636864, 2048] := KT_s (U := 3) (wl := [760, 360, 116, 0, 760, 360, 116, 0]) (by decide) (by decide) (by decide) kt_T_T14_0 ⟨by decide +kernel, by decide⟩ ⟨by decide +kernel, by decide +kernel⟩ (by decide +kernel) (by decide +kernel)
set_option maxRecDepth 20000 in
theorem kt_T_T14_2 : KT T14 2 3 2 8 [2055208960, 1635778560, 1321209856, 901779456, 2055211008, 1635780608, 1321211904, 901781504] := KT_s (U := 3) (wl := [1200, 1016, 500, 316, 1200, 1016, 500, 316]) (by decide) (by decide) (by decide) kt_T_T14_1 ⟨by decide +kernel, by decide⟩ ⟨by decide +kernel, by decide +kernel⟩ (by decide +kernel) (by decide +kernel)
theorem hk_T_T14 : bkE (KE T14 2 3) 3 = lN 901781504 := KT_B kt_T_T14_2 (by decide) (by decide) (by decide +kernel)
theorem kt_T_T16_0 : KT T16 2 3 0 8 [0, 524288, 32768, 557056, 2048, 526336, 34816, 559104] := KT_0 (by decide) (by decide +kernel) (by decide +kernel)
set_option maxRecDepth 20000 in
theorem kt_T_T16_1 : KT T16 2 3 1 8 [1048576000, 629145600, 373293056, 0, 1048578048, 629147648, 373295104, 2048] := KT_s (U := 3) (wl := [1000, 600, 356, 0, 1000, 600, 356, 0]) (by decide) (by decide) (by decide) kt_T_T16_0 ⟨by decide +kernel, by decide⟩ ⟨by decide +kernel, by decide +kernel⟩ (by decide +kernel) (by decide +kernel)
set_option maxRecDepth 20000 in
theorem kt_T_T16_2 : KT T16 2 3 2 8 [2495610880, 2076180480, 1761611776, 1342181376, 2495612928, 2076182528, 1761613824, 1342183424] := KT_s (U := 3) (wl := [1380, 1196, 680, 496, 1380, 1196, 680, 496]) (by decide) (by decide) (by decide) kt_T_T16_1 ⟨by decide +kernel, by decide⟩ ⟨by decide +kernel, by decide +kernel⟩ (by decide +kernel) (by decide +kernel)
theorem hk_T_T16 : bkE (KE T16 2 3) 3 = lN 1342183424 := KT_B kt_T_T16_2 (by decide) (by decide) (by decide +kernel)
theorem kt_T_T17_0 : KT T17 2 3 0 8 [0, 524288, 32768, 557056, 2048, 526336, 34816, 559104] := KT_0 (by decide) (by decide +kernel) (by decide +kernel)
set_option maxRecDepth 20000 in
theorem kt_T_T17_1 : KT T17 2 3 1 8 [1045430272, 625999872, 370147328, 0, 1045432320, 626001920, 370149376, 2048] := KT_s (U := 3) (wl := [997, 597, 353, 0, 997, 597, 353, 0]) (by decide) (by decide) (by decide) kt_T_T17_0 ⟨by decide +kernel, by decide⟩ ⟨by decide +kernel, by decide +kernel⟩ (by decide +kernel) (by decide +kernel)
set_option maxRecDepth 20000 in
theorem kt_T_T17_2 : KT T17 2 3 2 8 [2492465152, 2073034752, 1758466048, 1339035648, 2492467200, 2073036800, 1758468096, 1339037696] := KT_s (U := 3) (wl := [1380, 1196, 680, 496, 1380, 1196, 680, 496]) (by decide) (by decide) (by decide) kt_T_T17_1 ⟨by decide +kernel, by decide⟩ ⟨by decide +kernel, by decide +kernel⟩ (by decide +kernel) (by decide +kernel)
theorem hk_T_T17 : bkE (KE T17 2 3) 3 = lN 1339037696 := KT_B kt_T_T17_2 (by decide) (by decide) (by decide +kernel)
theorem kt_T_T18_0 : KT T18 2 3 0 8 [0, 524288, 32768, 557056, 2048, 526336, 34816, 559104] := KT_0 (by decide) (by decide +kernel) (by decide +kernel)
set_option maxRecDepth 20000 in
theorem kt_T_T18_1 : KT T18 2 3 1 8 [1048576000, 629145600, 373293056, 0, 1048578048, 629147648, 373295104, 2048] := KT_s (U := 3) (wl := [1000, 600, 356, 0, 1000, 600, 356, 0]) (by decide) (by decide) (by decide) kt_T_T18_0 ⟨by decide +kernel, by decide⟩ ⟨by decide +kernel, by decide +kernel⟩ (by decide +kernel) (by decide +kernel)
set_option maxRecDepth 20000 in
theorem kt_T_T18_2 : KT T18 2 3 2 8 [2495610880, 2076180480, 1761611776, 1342181376, 2495612928, 2076182528, 1761613824, 1342183424] := KT_s (U := 3) (wl := [1380, 1196, 680, 496, 1380, 1196, 680, 496]) (by decide) (by decide) (by decide) kt_T_T18_1 ⟨by decide +kernel, by decide⟩ ⟨by decide +kernel, by decide +kernel⟩ (by decide +kernel) (by decide +kernel)
theorem hk_T_T18 : bkE (KE T18 2 3) 3 = lN 1342183424 := KT_B kt_T_T18_2 (by decide) (by decide) (by decide +kernel)
theorem kt_T_T19_0 : KT T19 2 3 0 8 [0, 524288, 32768, 557056, 2048, 526336, 34816, 559104] := KT_0 (by decide) (by decide +kernel) (by decide +kernel)
set_option maxRecDepth 20000 in
theorem kt_T_T19_1 : KT T19 2 3 1 8 [1048576000, 629145600, 373293056, 0, 1048578048, 629147648, 373295104, 2048] := KT_s (U := 3) (wl := [1000, 600, 356, 0, 1000, 600, 356, 0]) (by decide) (by decide) (by decide) kt_T_T19_0 ⟨by decide +kernel, by decide⟩ ⟨by decide +kernel, by decide +kernel⟩ (by decide +kernel) (by decide +kernel)
set_option maxRecDepth 20000 in
theorem kt_T_T19_2 : KT T19 2 3 2 8 [2495610880, 2076180480, 1761611776, 1342181376, 2495612928, 2076182528, 1761613824, 1342183424] := KT_s (U := 3) (wl := [1380, 1196, 680, 496, 1380, 1196, 680, 496]) (by decide) (by decide) (by decide) kt_T_T19_1 ⟨by decide +kernel, by decide⟩ ⟨by decide +kernel, by decide +kernel⟩ (by decide +kernel) (by decide +kernel)
theorem hk_T_T19 : bkE (KE T19 2 3) 3 = lN 1342183424 := KT_B kt_T_T19_2 (by decide) (by decide) (by decide +kernel)
theorem kt_T_T20_0 : KT T20 2 3 0 8 [0, 524288, 32768, 557056, 2048, 526336, 34816, 559104] := KT_0 (by decide) (by decide +kernel) (by decide +kernel)
set_option maxRecDepth 20000 in
theorem kt_T_T20_1 : KT T20 2 3 1 8 [4194304000, 2516582400, 1493172224, 0, 4194306048, 2516584448, 1493174272, 2048] := KT_s (U := 3) (wl := [4000, 2400, 1424, 0, 4000, 2400, 1424, 0]) (by decide) (by decide) (by decide) kt_T_T20_0 ⟨by decide +kernel, by decide⟩ ⟨by decide +kernel, by decide +kernel⟩ (by decide +kernel) (by decide +kernel)
set_option maxRecDepth 20000 in
theorem kt_T_T20_2 : KT T20 2 3 2 8 [9982443520, 8304721920, 7046434816, 5368713216, 9982445568, 8304723968, 7046436864, 5368715264] := KT_s (U := 3) (wl := [5520, 4784, 2720, 1984, 5520, 4784, 2720, 1984]) (by decide) (by decide) (by decide) kt_T_T20_1 ⟨by decide +kernel, by decide⟩ ⟨by decide +kernel, by decide +kernel⟩ (by decide +kernel) (by decide +kernel)
theorem hk_T_T20 : bkE (KE T20 2 3) 3 = lN 5368715264 := KT_B kt_T_T20_2 (by decide) (by decide) (by decide +kernel)
theorem kt_T_T22_0 : KT T22 2 3 0 8 [0, 524288, 32768, 557056, 2048, 526336, 34816, 559104] := KT_0 (by decide) (by decide +kernel) (by decide +kernel)
set_option maxRecDepth 20000 in
theorem kt_T_T22_1 : KT T22 2 3 1 8 [4194304000, 2516582400, 1493172224, 0, 4194306048, 2516584448, 1493174272, 2048] := KT_s (U := 3) (wl := [4000, 2400, 1424, 0, 4000, 2400, 1424, 0]) (by decide) (by decide) (by decide) kt_T_T22_0 ⟨by decide +kernel, by decide⟩ ⟨by decide +kernel, by decide +kernel⟩ (by decide +kernel) (by decide +kernel)
set_option maxRecDepth 20000 in
theorem kt_T_T22_2 : KT T22 2 3 2 8 [6710886400, 5033164800, 4009754624, 2516582400, 6710888448, 5033166848, 4009756672, 2516584448] := KT_s (U := 3) (wl := [2400, 1664, 0, 0, 2400, 1664, 0, 0]) (by decide) (by decide) (by decide) kt_T_T22_1 ⟨by decide +kernel, by decide⟩ ⟨by decide +kernel, by decide +kernel⟩ (by decide +kernel) (by decide +kernel)
theorem hk_T_T22 : bkE (KE T22 2 3) 3 = lN 2516584448 := KT_B kt_T_T22_2 (by decide) (by decide) (by decide +kernel)
