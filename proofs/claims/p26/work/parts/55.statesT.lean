/-! two: its states and their keys -/
theorem woE_K2 {le : Nat → Int64} {k p : Nat} {y : Int32} {K : Int64} (hk : k ≤ 5) (hp : p < k) (hy : y = nI p) (h : le (2 ^ k - 1 - 2 ^ p) = K) : woE le k y = bwK K := by subst hy; exact woE_K hk hp h
theorem le_ret0 {p : Program} {l : Launch} {e : Env} {R : Room} {s : State} {m : MethodId} {args : Array Value} {below : List Frame} {meth : Method} {c : Code} {H : Heap} {locs : List Loc} {cells slots : Nat} {cc : ByteArray} {pc : Nat} {ls : Array Slot} {D : va_G} {A : Nat → Prop} (hx : p.tables.exec = Jvm.exec) (hb : c.code = cc) (hr : meth.sig.returnType = some .boolean) (hlocks : meth.locks = false) (hAe : A = va_A [] s.heap.size) (hS : va_S A s.heap H locs) (hdg : decode cc pc = .ok (.ireturn, 1)) :
    W p l e R s m args below meth c H locs cells slots (MQ below (va_Qi (fun (r : Int32) (_ : Unit) => r = 1) (fun _ t => zB D [] s.heap.size [] t) (va_A [] s.heap.size)) args s cells slots (va_A [] s.heap.size)) (F0 m pc ls [.int 1]) := by
  subst hAe
  exact W.zret hx hb hr rfl (fun t ht hW => ⟨⟨1, (), rfl, rfl, fun k q h => by simp at h, ⟨fun i j p q h => by simp at h, fun k q h => by simp at h⟩⟩, hS.F ht⟩) hS.2.2 hdg hlocks
theorem goodIn_cc {big a : List Cond} {c : Cond} (hm : c ∈ big) (hg : goodWord c = true) (ha : GoodIn big a) : GoodIn big (c :: a) := fun w h => (List.mem_cons.mp h).elim (fun e => by subst e; exact ⟨hm, good_of_word hg⟩) (ha w)
theorem goodIn_tk {big ws : List Cond} {c : Cond} {j : Nat} (he : ws = List.take j ws ++ (c :: List.drop (j + 1) ws)) (h1 : GoodIn big (List.take j ws)) (hm : c ∈ big) (hg : goodWord c = true) (h2 : GoodIn big (List.drop (j + 1) ws)) : GoodIn big ws := by rw [he]; exact goodIn_app h1 (goodIn_cc hm hg h2)
def YT1 : Nat → Nat → Int32 := gAE g0 0 3 0 1000 0 0 100
def YT2 : Nat → Nat → Int32 := gAE YT1 1 2 1 1000 500 1 200
def YT3 : Nat → Nat → Int32 := gAP YT2 0 500 20 0 100 3
def YT4 : Nat → Nat → Int32 := gR (gR YT3 9 (upd (YT3 9) (0 : Int32).toNatClampNeg 1)) 10 (upd (YT3 10) (0 : Int32).toNatClampNeg 300)
def YT5 : Nat → Nat → Int32 := gAP YT4 1 700 0 1 365 3
def YT6 : Nat → Nat → Int32 := gR YT5 3 (upd (YT5 3) (1 : Int32).toNatClampNeg 3)
def YT7 : Nat → Nat → Int32 := gR YT6 2 (upd (YT6 2) 0 30)
def YT8 : Nat → Nat → Int32 := gAP YT7 2 1 100 0 1 255
def YT9 : Nat → Nat → Int32 := gR (gR YT8 11 (upd (YT8 11) (2 : Int32).toNatClampNeg 1)) 15 (upd (YT8 15) (2 : Int32).toNatClampNeg 2)
def YT10 : Nat → Nat → Int32 := gR (gR YT9 11 (upd (YT9 11) (2 : Int32).toNatClampNeg 5)) 15 (upd (YT9 15) (2 : Int32).toNatClampNeg 252)
def YT11 : Nat → Nat → Int32 := gR (gR YT10 11 (upd (YT10 11) (2 : Int32).toNatClampNeg 1)) 15 (upd (YT10 15) (2 : Int32).toNatClampNeg 0)
def YT12 : Nat → Nat → Int32 := gR YT11 2 (upd (YT11 2) 1 2400)
def YT13 : Nat → Nat → Int32 := gR YT12 2 (upd (YT12 2) 1 2399)
def YT14 : Nat → Nat → Int32 := gR YT13 2 (upd (YT13 2) 1 1999)
def YT15 : Nat → Nat → Int32 := gR (gR YT14 5 (upd (YT14 5) (1 : Int32).toNatClampNeg (YT14 5 (1 : Int32).toNatClampNeg + 300))) 6 (upd (YT14 6) (1 : Int32).toNatClampNeg (YT14 6 (1 : Int32).toNatClampNeg - 300))
def YT16 : Nat → Nat → Int32 := gR (gR YT15 0 (upd (YT15 0) (1 : Int32).toNatClampNeg 100)) 1 (upd (YT15 1) (1 : Int32).toNatClampNeg 50)
def YT17 : Nat → Nat → Int32 := gR (gR YT16 0 (upd (YT16 0) (1 : Int32).toNatClampNeg 99)) 1 (upd (YT16 1) (1 : Int32).toNatClampNeg 50)
def YT18 : Nat → Nat → Int32 := gR (gR YT17 9 (upd (YT17 9) (0 : Int32).toNatClampNeg 3)) 10 (upd (YT17 10) (0 : Int32).toNatClampNeg 50)
def YT19 : Nat → Nat → Int32 := gR (gR YT18 9 (upd (YT18 9) (0 : Int32).toNatClampNeg 0)) 10 (upd (YT18 10) (0 : Int32).toNatClampNeg 0)
def YT20 : Nat → Nat → Int32 := gR (gR YT19 0 (upd (YT19 0) (3 : Int32).toNatClampNeg 400)) 1 (upd (YT19 1) (3 : Int32).toNatClampNeg 0)
def YT21 : Nat → Nat → Int32 := gR (gR YT20 5 (upd (YT20 5) (1 : Int32).toNatClampNeg (YT20 5 (1 : Int32).toNatClampNeg + (-1300)))) 6 (upd (YT20 6) (1 : Int32).toNatClampNeg (YT20 6 (1 : Int32).toNatClampNeg - (-1300)))
def YT22 : Nat → Nat → Int32 := gR (gR YT21 5 (upd (YT21 5) (1 : Int32).toNatClampNeg (YT21 5 (1 : Int32).toNatClampNeg + 0))) 6 (upd (YT21 6) (1 : Int32).toNatClampNeg (YT21 6 (1 : Int32).toNatClampNeg - 0))
theorem kt_YT_g0_0 : KT g0 0 0 0 1 [0] := KT_0 (by decide) (by decide +kernel) (by decide +kernel)
theorem hk_YT_g0 : bkE (KE g0 0 0) 0 = lN 0 := KT_B kt_YT_g0_0 (by decide) (by decide) (by decide +kernel)
theorem kt_YT_YT2_0 : KT YT2 2 0 0 1 [0] := KT_0 (by decide) (by decide +kernel) (by decide +kernel)
set_option maxRecDepth 20000 in
theorem kt_YT_YT2_1 : KT YT2 2 0 1 1 [1048576000] := KT_s (U := 0) (wl := [1000]) (by decide) (by decide) (by decide) kt_YT_YT2_0 ⟨by decide +kernel, by decide⟩ ⟨by decide +kernel, by decide +kernel⟩ (by decide +kernel) (by decide +kernel)
set_option maxRecDepth 20000 in
theorem kt_YT_YT2_2 : KT YT2 2 0 2 1 [1677721600] := KT_s (U := 0) (wl := [600]) (by decide) (by decide) (by decide) kt_YT_YT2_1 ⟨by decide +kernel, by decide⟩ ⟨by decide +kernel, by decide +kernel⟩ (by decide +kernel) (by decide +kernel)
theorem hk_YT_YT2 : bkE (KE YT2 2 0) 0 = lN 1677721600 := KT_B kt_YT_YT2_2 (by decide) (by decide) (by decide +kernel)
theorem kt_YT_YT3_0 : KT YT3 2 1 0 2 [0, 524288] := KT_0 (by decide) (by decide +kernel) (by decide +kernel)
set_option maxRecDepth 20000 in
theorem kt_YT_YT3_1 : KT YT3 2 1 1 2 [1048576000, 629145600] := KT_s (U := 1) (wl := [1000, 600]) (by decide) (by decide) (by decide) kt_YT_YT3_0 ⟨by decide +kernel, by decide⟩ ⟨by decide +kernel, by decide +kernel⟩ (by decide +kernel) (by decide +kernel)
set_option maxRecDepth 20000 in
theorem kt_YT_YT3_2 : KT YT3 2 1 2 2 [1677721600, 1258291200] := KT_s (U := 1) (wl := [600, 508]) (by decide) (by decide) (by decide) kt_YT_YT3_1 ⟨by decide +kernel, by decide⟩ ⟨by decide +kernel, by decide +kernel⟩ (by decide +kernel) (by decide +kernel)
theorem hk_YT_YT3 : bkE (KE YT3 2 1) 1 = lN 1258291200 := KT_B kt_YT_YT3_2 (by decide) (by decide) (by decide +kernel)
theorem hw_YT_YT3_0 : KE YT3 2 1 (2 ^ 1 - 1 - 2 ^ 0) = lN 1677721600 := KT_K kt_YT_YT3_2 (by decide) (by decide +kernel)
theorem kt_YT_YT4_0 : KT YT4 2 1 0 2 [0, 524288] := KT_0 (by decide) (by decide +kernel) (by decide +kernel)
set_option maxRecDepth 20000 in
theorem kt_YT_YT4_1 : KT YT4 2 1 1 2 [796917760, 377487360] := KT_s (U := 1) (wl := [760, 360]) (by decide) (by decide) (by decide) kt_YT_YT4_0 ⟨by decide +kernel, by decide⟩ ⟨by decide +kernel, by decide +kernel⟩ (by decide +kernel) (by decide +kernel)
set_option maxRecDepth 20000 in
theorem kt_YT_YT4_2 : KT YT4 2 1 2 2 [1426063360, 1006632960] := KT_s (U := 1) (wl := [600, 508]) (by decide) (by decide) (by decide) kt_YT_YT4_1 ⟨by decide +kernel, by decide⟩ ⟨by decide +kernel, by decide +kernel⟩ (by decide +kernel) (by decide +kernel)
theorem hk_YT_YT4 : bkE (KE YT4 2 1) 1 = lN 1006632960 := KT_B kt_YT_YT4_2 (by decide) (by decide) (by decide +kernel)
theorem hw_YT_YT4_0 : KE YT4 2 1 (2 ^ 1 - 1 - 2 ^ 0) = lN 1426063360 := KT_K kt_YT_YT4_2 (by decide) (by decide +kernel)
theorem kt_YT_YT5_0 : KT YT5 2 2 0 4 [0, 524288, 32768, 557056] := KT_0 (by decide) (by decide +kernel) (by decide +kernel)
set_option maxRecDepth 20000 in
theorem kt_YT_YT5_1 : KT YT5 2 2 1 4 [796917760, 377487360, 121634816, 0] := KT_s (U := 3) (wl := [760, 360, 116, 0]) (by decide) (by decide) (by decide) kt_YT_YT5_0 ⟨by decide +kernel, by decide⟩ ⟨by decide +kernel, by decide +kernel⟩ (by decide +kernel) (by decide +kernel)
set_option maxRecDepth 20000 in
theorem kt_YT_YT5_2 : KT YT5 2 2 2 4 [1426063360, 1006632960, 750780416, 629145600] := KT_s (U := 3) (wl := [600, 508, 250, 158]) (by decide) (by decide) (by decide) kt_YT_YT5_1 ⟨by decide +kernel, by decide⟩ ⟨by decide +kernel, by decide +kernel⟩ (by decide +kernel) (by decide +kernel)
theorem hk_YT_YT5 : bkE (KE YT5 2 2) 2 = lN 629145600 := KT_B kt_YT_YT5_2 (by decide) (by decide) (by decide +kernel)
theorem hw_YT_YT5_0 : KE YT5 2 2 (2 ^ 2 - 1 - 2 ^ 0) = lN 750780416 := KT_K kt_YT_YT5_2 (by decide) (by decide +kernel)
theorem hw_YT_YT5_1 : KE YT5 2 2 (2 ^ 2 - 1 - 2 ^ 1) = lN 1006632960 := KT_K kt_YT_YT5_2 (by decide) (by decide +kernel)
theorem kt_YT_YT6_0 : KT YT6 2 2 0 4 [0, 524288, 32768, 557056] := KT_0 (by decide) (by decide +kernel) (by decide +kernel)
set_option maxRecDepth 20000 in
theorem kt_YT_YT6_1 : KT YT6 2 2 1 4 [796917760, 377487360, 121634816, 0] := KT_s (U := 3) (wl := [760, 360, 116, 0]) (by decide) (by decide) (by decide) kt_YT_YT6_0 ⟨by decide +kernel, by decide⟩ ⟨by decide +kernel, by decide +kernel⟩ (by decide +kernel) (by decide +kernel)
set_option maxRecDepth 20000 in
theorem kt_YT_YT6_2 : KT YT6 2 2 2 4 [2055208960, 1635778560, 1321209856, 901779456] := KT_s (U := 3) (wl := [1200, 1016, 500, 316]) (by decide) (by decide) (by decide) kt_YT_YT6_1 ⟨by decide +kernel, by decide⟩ ⟨by decide +kernel, by decide +kernel⟩ (by decide +kernel) (by decide +kernel)
theorem hk_YT_YT6 : bkE (KE YT6 2 2) 2 = lN 901779456 := KT_B kt_YT_YT6_2 (by decide) (by decide) (by decide +kernel)
theorem kt_YT_YT7_0 : KT YT7 2 2 0 4 [0, 524288, 32768, 557056] := KT_0 (by decide) (by decide +kernel) (by decide +kernel)
set_option maxRecDepth 20000 in
theorem kt_YT_YT7_1 : KT YT7 2 2 1 4 [796917760, 377487360, 121634816, 0] := KT_s (U := 3) (wl := [760, 360, 116, 0]) (by decide) (by decide) (by decide) kt_YT_YT7_0 ⟨by decide +kernel, by decide⟩ ⟨by decide +kernel, by decide +kernel⟩ (by decide +kernel) (by decide +kernel)
set_option maxRecDepth 20000 in
theorem kt_YT_YT7_2 : KT YT7 2 2 2 4 [2055208960, 1635778560, 1321209856, 901779456] := KT_s (U := 3) (wl := [1200, 1016, 500, 316]) (by decide) (by decide) (by decide) kt_YT_YT7_1 ⟨by decide +kernel, by decide⟩ ⟨by decide +kernel, by decide +kernel⟩ (by decide +kernel) (by decide +kernel)
theorem hk_YT_YT7 : bkE (KE YT7 2 2) 2 = lN 901779456 := KT_B kt_YT_YT7_2 (by decide) (by decide) (by decide +kernel)
theorem kt_YT_YT8_0 : KT YT8 2 3 0 8 [0, 524288, 32768, 557056, 2048, 526336, 34816, 559104] := KT_0 (by decide) (by decide +kernel) (by decide +kernel)
set_option maxRecDepth 20000 in
theorem kt_YT_YT8_1 : KT YT8 2 3 1 8 [796917760, 377487360, 121634816, 0, 796917760, 377487360, 121634816, 0] := KT_s (U := 7) (wl := [760, 360, 116, 0, 760, 360, 116, 0]) (by decide) (by decide) (by decide) kt_YT_YT8_0 ⟨by decide +kernel, by decide⟩ ⟨by decide +kernel, by decide +kernel⟩ (by decide +kernel) (by decide +kernel)
set_option maxRecDepth 20000 in
theorem kt_YT_YT8_2 : KT YT8 2 3 2 8 [2055208960, 1635778560, 1321209856, 901779456, 2055208960, 1635778560, 1321209856, 901779456] := KT_s (U := 7) (wl := [1200, 1016, 500, 316, 1200, 1016, 500, 316]) (by decide) (by decide) (by decide) kt_YT_YT8_1 ⟨by decide +kernel, by decide⟩ ⟨by decide +kernel, by decide +kernel⟩ (by decide +kernel) (by decide +kernel)
theorem hk_YT_YT8 : bkE (KE YT8 2 3) 3 = lN 901779456 := KT_B kt_YT_YT8_2 (by decide) (by decide) (by decide +kernel)
theorem hw_YT_YT8_2 : KE YT8 2 3 (2 ^ 3 - 1 - 2 ^ 2) = lN 901779456 := KT_K kt_YT_YT8_2 (by decide) (by decide +kernel)
theorem kt_YT_YT9_0 : KT YT9 2 3 0 8 [0, 524288, 32768, 557056, 2048, 526336, 34816, 559104] := KT_0 (by decide) (by decide +kernel) (by decide +kernel)
set_option maxRecDepth 20000 in
theorem kt_YT_YT9_1 : KT YT9 2 3 1 8 [796917760, 377487360, 121634816, 0, 796919808, 377489408, 121636864, 2048] := KT_s (U := 3) (wl := [760, 360, 116, 0, 760, 360, 116, 0]) (by decide) (by decide) (by decide) kt_YT_YT9_0 ⟨by decide +kernel, by decide⟩ ⟨by decide +kernel, by decide +kernel⟩ (by decide +kernel) (by decide +kernel)
set_option maxRecDepth 20000 in
theorem kt_YT_YT9_2 : KT YT9 2 3 2 8 [2055208960, 1635778560, 1321209856, 901779456, 2055209216, 1635778816, 1321210112, 901779712] := KT_s (U := 7) (wl := [1200, 1016, 500, 316, 1200, 1016, 500, 316]) (by decide) (by decide) (by decide) kt_YT_YT9_1 ⟨by decide +kernel, by decide⟩ ⟨by decide +kernel, by decide +kernel⟩ (by decide +kernel) (by decide +kernel)
theorem hk_YT_YT9 : bkE (KE YT9 2 3) 3 = lN 901779712 := KT_B kt_YT_YT9_2 (by decide) (by decide) (by decide +kernel)
theorem kt_YT_YT10_0 : KT YT10 2 3 0 8 [0, 524288, 32768, 557056, 2048, 526336, 34816, 559104] := KT_0 (by decide) (by decide +kernel) (by decide +kernel)
set_option maxRecDepth 20000 in
theorem kt_YT_YT10_1 : KT YT10 2 3 1 8 [796917760, 377487360, 121634816, 0, 796919808, 377489408, 121636864, 2048] := KT_s (U := 3) (wl := [760, 360, 116, 0, 760, 360, 116, 0]) (by decide) (by decide) (by decide) kt_YT_YT10_0 ⟨by decide +kernel, by decide⟩ ⟨by decide +kernel, by decide +kernel⟩ (by decide +kernel) (by decide +kernel)
set_option maxRecDepth 20000 in
theorem kt_YT_YT10_2 : KT YT10 2 3 2 8 [2055208960, 1635778560, 1321209856, 901779456, 2055211008, 1635780608, 1321211904, 901781504] := KT_s (U := 3) (wl := [1200, 1016, 500, 316, 1200, 1016, 500, 316]) (by decide) (by decide) (by decide) kt_YT_YT10_1 ⟨by decide +kernel, by decide⟩ ⟨by decide +kernel, by decide +kernel⟩ (by decide +kernel) (by decide +kernel)
theorem hk_YT_YT10 : bkE (KE YT10 2 3) 3 = lN 901781504 := KT_B kt_YT_YT10_2 (by decide) (by decide) (by decide +kernel)
theorem kt_YT_YT11_0 : KT YT11 2 3 0 8 [0, 524288, 32768, 557056, 2048, 526336, 34816, 559104] := KT_0 (by decide) (by decide +kernel) (by decide +kernel)
set_option maxRecDepth 20000 in
theorem kt_YT_YT11_1 : KT YT11 2 3 1 8 [796917760, 377487360, 121634816, 0, 796919808, 377489408, 121636864, 2048] := KT_s (U := 3) (wl := [760, 360, 116, 0, 760, 360, 116, 0]) (by decide) (by decide) (by decide) kt_YT_YT11_0 ⟨by decide +kernel, by decide⟩ ⟨by decide +kernel, by decide +kernel⟩ (by decide +kernel) (by decide +kernel)
set_option maxRecDepth 20000 in
theorem kt_YT_YT11_2 : KT YT11 2 3 2 8 [2055208960, 1635778560, 1321209856, 901779456, 2055211008, 1635780608, 1321211904, 901781504] := KT_s (U := 3) (wl := [1200, 1016, 500, 316, 1200, 1016, 500, 316]) (by decide) (by decide) (by decide) kt_YT_YT11_1 ⟨by decide +kernel, by decide⟩ ⟨by decide +kernel, by decide +kernel⟩ (by decide +kernel) (by decide +kernel)
theorem hk_YT_YT11 : bkE (KE YT11 2 3) 3 = lN 901781504 := KT_B kt_YT_YT11_2 (by decide) (by decide) (by decide +kernel)
theorem kt_YT_YT12_0 : KT YT12 2 3 0 8 [0, 524288, 32768, 557056, 2048, 526336, 34816, 559104] := KT_0 (by decide) (by decide +kernel) (by decide +kernel)
set_option maxRecDepth 20000 in
theorem kt_YT_YT12_1 : KT YT12 2 3 1 8 [796917760, 377487360, 121634816, 0, 796919808, 377489408, 121636864, 2048] := KT_s (U := 3) (wl := [760, 360, 116, 0, 760, 360, 116, 0]) (by decide) (by decide) (by decide) kt_YT_YT12_0 ⟨by decide +kernel, by decide⟩ ⟨by decide +kernel, by decide +kernel⟩ (by decide +kernel) (by decide +kernel)
set_option maxRecDepth 20000 in
theorem kt_YT_YT12_2 : KT YT12 2 3 2 8 [2055208960, 1635778560, 1321209856, 901779456, 2055211008, 1635780608, 1321211904, 901781504] := KT_s (U := 3) (wl := [1200, 1016, 500, 316, 1200, 1016, 500, 316]) (by decide) (by decide) (by decide) kt_YT_YT12_1 ⟨by decide +kernel, by decide⟩ ⟨by decide +kernel, by decide +kernel⟩ (by decide +kernel) (by decide +kernel)
theorem hk_YT_YT12 : bkE (KE YT12 2 3) 3 = lN 901781504 := KT_B kt_YT_YT12_2 (by decide) (by decide) (by decide +kernel)
theorem kt_YT_YT13_0 : KT YT13 2 3 0 8 [0, 524288, 32768, 557056, 2048, 526336, 34816, 559104] := KT_0 (by decide) (by decide +kernel) (by decide +kernel)
set_option maxRecDepth 20000 in
theorem kt_YT_YT13_1 : KT YT13 2 3 1 8 [796917760, 377487360, 121634816, 0, 796919808, 377489408, 121636864, 2048] := KT_s (U := 3) (wl := [760, 360, 116, 0, 760, 360, 116, 0]) (by decide) (by decide) (by decide) kt_YT_YT13_0 ⟨by decide +kernel, by decide⟩ ⟨by decide +kernel, by decide +kernel⟩ (by decide +kernel) (by decide +kernel)
set_option maxRecDepth 20000 in
theorem kt_YT_YT13_2 : KT YT13 2 3 2 8 [2055208960, 1635778560, 1321209856, 901779456, 2055211008, 1635780608, 1321211904, 901781504] := KT_s (U := 3) (wl := [1200, 1016, 500, 316, 1200, 1016, 500, 316]) (by decide) (by decide) (by decide) kt_YT_YT13_1 ⟨by decide +kernel, by decide⟩ ⟨by decide +kernel, by decide +kernel⟩ (by decide +kernel) (by decide +kernel)
theorem hk_YT_YT13 : bkE (KE YT13 2 3) 3 = lN 901781504 := KT_B kt_YT_YT13_2 (by decide) (by decide) (by decide +kernel)
theorem kt_YT_YT14_0 : KT YT14 2 3 0 8 [0, 524288, 32768, 557056, 2048, 526336, 34816, 559104] := KT_0 (by decide) (by decide +kernel) (by decide +kernel)
set_option maxRecDepth 20000 in
theorem kt_YT_YT14_1 : KT YT14 2 3 1 8 [796917760, 377487360, 121634816, 0, 796919808, 377489408, 121636864, 2048] := KT_s (U := 3) (wl := [760, 360, 116, 0, 760, 360, 116, 0]) (by decide) (by decide) (by decide) kt_YT_YT14_0 ⟨by decide +kernel, by decide⟩ ⟨by decide +kernel, by decide +kernel⟩ (by decide +kernel) (by decide +kernel)
set_option maxRecDepth 20000 in
theorem kt_YT_YT14_2 : KT YT14 2 3 2 8 [2055208960, 1635778560, 1321209856, 901779456, 2055211008, 1635780608, 1321211904, 901781504] := KT_s (U := 3) (wl := [1200, 1016, 500, 316, 1200, 1016, 500, 316]) (by decide) (by decide) (by decide) kt_YT_YT14_1 ⟨by decide +kernel, by decide⟩ ⟨by decide +kernel, by decide +kernel⟩ (by decide +kernel) (by decide +kernel)
theorem hk_YT_YT14 : bkE (KE YT14 2 3) 3 = lN 901781504 := KT_B kt_YT_YT14_2 (by decide) (by decide) (by decide +kernel)
theorem kt_YT_YT16_0 : KT YT16 2 3 0 8 [0, 524288, 32768, 557056, 2048, 526336, 34816, 559104] := KT_0 (by decide) (by decide +kernel) (by decide +kernel)
set_option maxRecDepth 20000 in
theorem kt_YT_YT16_1 : KT YT16 2 3 1 8 [1048576000, 629145600, 373293056, 0, 1048578048, 629147648, 373295104, 2048] := KT_s (U := 3) (wl := [1000, 600, 356, 0, 1000, 600, 356, 0]) (by decide) (by decide) (by decide) kt_YT_YT16_0 ⟨by decide +kernel, by decide⟩ ⟨by decide +kernel, by decide +kernel⟩ (by decide +kernel) (by decide +kernel)
set_option maxRecDepth 20000 in
theorem kt_YT_YT16_2 : KT YT16 2 3 2 8 [2495610880, 2076180480, 1761611776, 1342181376, 2495612928, 2076182528, 1761613824, 1342183424] := KT_s (U := 3) (wl := [1380, 1196, 680, 496, 1380, 1196, 680, 496]) (by decide) (by decide) (by decide) kt_YT_YT16_1 ⟨by decide +kernel, by decide⟩ ⟨by decide +kernel, by decide +kernel⟩ (by decide +kernel) (by decide +kernel)
theorem hk_YT_YT16 : bkE (KE YT16 2 3) 3 = lN 1342183424 := KT_B kt_YT_YT16_2 (by decide) (by decide) (by decide +kernel)
theorem kt_YT_YT17_0 : KT YT17 2 3 0 8 [0, 524288, 32768, 557056, 2048, 526336, 34816, 559104] := KT_0 (by decide) (by decide +kernel) (by decide +kernel)
set_option maxRecDepth 20000 in
theorem kt_YT_YT17_1 : KT YT17 2 3 1 8 [1045430272, 625999872, 370147328, 0, 1045432320, 626001920, 370149376, 2048] := KT_s (U := 3) (wl := [997, 597, 353, 0, 997, 597, 353, 0]) (by decide) (by decide) (by decide) kt_YT_YT17_0 ⟨by decide +kernel, by decide⟩ ⟨by decide +kernel, by decide +kernel⟩ (by decide +kernel) (by decide +kernel)
set_option maxRecDepth 20000 in
theorem kt_YT_YT17_2 : KT YT17 2 3 2 8 [2492465152, 2073034752, 1758466048, 1339035648, 2492467200, 2073036800, 1758468096, 1339037696] := KT_s (U := 3) (wl := [1380, 1196, 680, 496, 1380, 1196, 680, 496]) (by decide) (by decide) (by decide) kt_YT_YT17_1 ⟨by decide +kernel, by decide⟩ ⟨by decide +kernel, by decide +kernel⟩ (by decide +kernel) (by decide +kernel)
theorem hk_YT_YT17 : bkE (KE YT17 2 3) 3 = lN 1339037696 := KT_B kt_YT_YT17_2 (by decide) (by decide) (by decide +kernel)
theorem kt_YT_YT18_0 : KT YT18 2 3 0 8 [0, 524288, 32768, 557056, 2048, 526336, 34816, 559104] := KT_0 (by decide) (by decide +kernel) (by decide +kernel)
set_option maxRecDepth 20000 in
theorem kt_YT_YT18_1 : KT YT18 2 3 1 8 [1048576000, 629145600, 373293056, 0, 1048578048, 629147648, 373295104, 2048] := KT_s (U := 3) (wl := [1000, 600, 356, 0, 1000, 600, 356, 0]) (by decide) (by decide) (by decide) kt_YT_YT18_0 ⟨by decide +kernel, by decide⟩ ⟨by decide +kernel, by decide +kernel⟩ (by decide +kernel) (by decide +kernel)
set_option maxRecDepth 20000 in
theorem kt_YT_YT18_2 : KT YT18 2 3 2 8 [2495610880, 2076180480, 1761611776, 1342181376, 2495612928, 2076182528, 1761613824, 1342183424] := KT_s (U := 3) (wl := [1380, 1196, 680, 496, 1380, 1196, 680, 496]) (by decide) (by decide) (by decide) kt_YT_YT18_1 ⟨by decide +kernel, by decide⟩ ⟨by decide +kernel, by decide +kernel⟩ (by decide +kernel) (by decide +kernel)
theorem hk_YT_YT18 : bkE (KE YT18 2 3) 3 = lN 1342183424 := KT_B kt_YT_YT18_2 (by decide) (by decide) (by decide +kernel)
theorem kt_YT_YT19_0 : KT YT19 2 3 0 8 [0, 524288, 32768, 557056, 2048, 526336, 34816, 559104] := KT_0 (by decide) (by decide +kernel) (by decide +kernel)
set_option maxRecDepth 20000 in
theorem kt_YT_YT19_1 : KT YT19 2 3 1 8 [1048576000, 629145600, 373293056, 0, 1048578048, 629147648, 373295104, 2048] := KT_s (U := 3) (wl := [1000, 600, 356, 0, 1000, 600, 356, 0]) (by decide) (by decide) (by decide) kt_YT_YT19_0 ⟨by decide +kernel, by decide⟩ ⟨by decide +kernel, by decide +kernel⟩ (by decide +kernel) (by decide +kernel)
set_option maxRecDepth 20000 in
theorem kt_YT_YT19_2 : KT YT19 2 3 2 8 [2495610880, 2076180480, 1761611776, 1342181376, 2495612928, 2076182528, 1761613824, 1342183424] := KT_s (U := 3) (wl := [1380, 1196, 680, 496, 1380, 1196, 680, 496]) (by decide) (by decide) (by decide) kt_YT_YT19_1 ⟨by decide +kernel, by decide⟩ ⟨by decide +kernel, by decide +kernel⟩ (by decide +kernel) (by decide +kernel)
theorem hk_YT_YT19 : bkE (KE YT19 2 3) 3 = lN 1342183424 := KT_B kt_YT_YT19_2 (by decide) (by decide) (by decide +kernel)
theorem kt_YT_YT20_0 : KT YT20 2 3 0 8 [0, 524288, 32768, 557056, 2048, 526336, 34816, 559104] := KT_0 (by decide) (by decide +kernel) (by decide +kernel)
set_option maxRecDepth 20000 in
theorem kt_YT_YT20_1 : KT YT20 2 3 1 8 [4194304000, 2516582400, 1493172224, 0, 4194306048, 2516584448, 1493174272, 2048] := KT_s (U := 3) (wl := [4000, 2400, 1424, 0, 4000, 2400, 1424, 0]) (by decide) (by decide) (by decide) kt_YT_YT20_0 ⟨by decide +kernel, by decide⟩ ⟨by decide +kernel, by decide +kernel⟩ (by decide +kernel) (by decide +kernel)
set_option maxRecDepth 20000 in
theorem kt_YT_YT20_2 : KT YT20 2 3 2 8 [9982443520, 8304721920, 7046434816, 5368713216, 9982445568, 8304723968, 7046436864, 5368715264] := KT_s (U := 3) (wl := [5520, 4784, 2720, 1984, 5520, 4784, 2720, 1984]) (by decide) (by decide) (by decide) kt_YT_YT20_1 ⟨by decide +kernel, by decide⟩ ⟨by decide +kernel, by decide +kernel⟩ (by decide +kernel) (by decide +kernel)
theorem hk_YT_YT20 : bkE (KE YT20 2 3) 3 = lN 5368715264 := KT_B kt_YT_YT20_2 (by decide) (by decide) (by decide +kernel)
theorem kt_YT_YT22_0 : KT YT22 2 3 0 8 [0, 524288, 32768, 557056, 2048, 526336, 34816, 559104] := KT_0 (by decide) (by decide +kernel) (by decide +kernel)
set_option maxRecDepth 20000 in
theorem kt_YT_YT22_1 : KT YT22 2 3 1 8 [4194304000, 2516582400, 1493172224, 0, 4194306048, 2516584448, 1493174272, 2048] := KT_s (U := 3) (wl := [4000, 2400, 1424, 0, 4000, 2400, 1424, 0]) (by decide) (by decide) (by decide) kt_YT_YT22_0 ⟨by decide +kernel, by decide⟩ ⟨by decide +kernel, by decide +kernel⟩ (by decide +kernel) (by decide +kernel)
set_option maxRecDepth 20000 in
theorem kt_YT_YT22_2 : KT YT22 2 3 2 8 [6710886400, 5033164800, 4009754624, 2516582400, 6710888448, 5033166848, 4009756672, 2516584448] := KT_s (U := 3) (wl := [2400, 1664, 0, 0, 2400, 1664, 0, 0]) (by decide) (by decide) (by decide) kt_YT_YT22_1 ⟨by decide +kernel, by decide⟩ ⟨by decide +kernel, by decide +kernel⟩ (by decide +kernel) (by decide +kernel)
theorem hk_YT_YT22 : bkE (KE YT22 2 3) 3 = lN 2516584448 := KT_B kt_YT_YT22_2 (by decide) (by decide) (by decide +kernel)
